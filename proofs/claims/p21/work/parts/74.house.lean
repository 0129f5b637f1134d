/-! contracts: the calls of the class that leave tapes alone -/
theorem z_StubHouse_feed {l : Launch} {k : fxK} {S : fxS} {n : Int} {x : Int} (p0 : -2147483648 ≤ n ∧ n < 2147483648) (hk : ∀ (r : Int) (S' : fxS) , (fxfr [(0, 9), (1, 9999)] S S' ∧ (-2147483648 ≤ r ∧ r < 2147483648)) → k (some (.inl r)) S') : ∀ m : Nat, (∀ (j : Int) (S1 : fxS), (fxfr [(0, 9), (1, 9999)] S S1) → (1 ≤ n ∧ n ≤ 8) → (0 ≤ j ∧ j ≤ n) → (0 ≤ S1 0 0 9 ∧ S1 0 0 9 + n ≤ 256) → n + 1 - j ≤ (m : Int) → fZ l 85 k 31 [some (.inr (.inr (0, 0))), some (.inl n), some (.inr (.inl x)), none, some (.inl j)] [] S1) := by
  intro m
  induction m with
  | zero =>
    intro j S1 hf i0 i1 i2 hmu
    exfalso
    omega
  | succ m ih =>
    intro j S1 hf i0 i1 i2 hmu
    refine fxz_85 400 ?_
    refine And.intro (fun (h1 : (n ≤ j : Prop)) => ?_) (fun (h1 : (j < n : Prop)) => ?_)
    ·
      intro z2 (z2a : (0 : Int) ≤ z2) (z2b : z2 ≤ (256 : Int)) (z2c : z2 = S1 0 0 9)
      refine And.intro (show -2147483648 ≤ (z2 + n) ∧ (z2 + n) < 2147483648 by omega) ?_
      refine And.intro (show (0 : Int) ≤ (z2 + n) ∧ (z2 + n) ≤ (256 : Int) by omega) ?_
      have w3 : (fx_up S1 0 0 9 (z2 + n)) 0 0 9 = (z2 + n) := fx_up_at _ _ _ _ _
      intro z4 (z4a : (0 : Int) ≤ z4) (z4b : z4 ≤ (256 : Int)) (z4c : z4 = (fx_up S1 0 0 9 (z2 + n)) 0 0 9)
      exact hk z4 (fx_up S1 0 0 9 (z2 + n)) ⟨(fxfr_up hf rfl), by omega⟩
    ·
      intro z5 (z5a : (0 : Int) ≤ z5) (z5b : z5 ≤ (256 : Int)) (z5c : z5 = S1 0 0 9)
      refine And.intro (show -2147483648 ≤ (z5 + j) ∧ (z5 + j) < 2147483648 by omega) ?_
      refine And.intro (show -2147483648 ≤ ((8 : Int) * j) ∧ ((8 : Int) * j) < 2147483648 by omega) ?_
      intro z6
      intro z7 z7a z7b
      intro z8 z8a z8b
      refine And.intro (show 0 ≤ (z5 + j) ∧ (z5 + j) < 256 by omega) ?_
      intro z9 z9a z9b z9c
      have w10 : (fx_up S1 1 0 ((z5 + j)).toNat z9) 0 0 9 = S1 0 0 9 := rfl
      refine And.intro (by decide) (And.intro (show -2147483648 ≤ j + (1 : Int) ∧ j + (1 : Int) < 2147483648 by omega) ?_)
      exact ih (j + (1 : Int)) (fx_up S1 1 0 ((z5 + j)).toNat z9) (fxfr_up hf rfl) (by omega) (by omega) (by omega) (by omega)
theorem c_StubHouse_feed {l : Launch} {k : fxK} {S : fxS} {n : Int} {x : Int} (p0 : -2147483648 ≤ n ∧ n < 2147483648) (hk : ∀ (r : Int) (S' : fxS) , (fxfr [(0, 9), (1, 9999)] S S' ∧ (-2147483648 ≤ r ∧ r < 2147483648)) → k (some (.inl r)) S') : fC l 85 [.inr (.inr (0, 0)), .inl n, .inr (.inl x)] S k := by
  refine fxe_85 (Nat.le_of_ble_eq_true rfl) (fxz_85 400 ?_)
  refine And.intro (fun (h12 : (n < (1 : Int) : Prop)) => ?_) (fun (h12 : ((1 : Int) ≤ n : Prop)) => ?_)
  ·
    exact hk (-1 : Int) S ⟨fxfr_rfl, by omega⟩
  ·
    refine And.intro (fun (h13 : (n ≤ (8 : Int) : Prop)) => ?_) (fun (h13 : ((8 : Int) < n : Prop)) => ?_)
    ·
      intro z14 (z14a : (0 : Int) ≤ z14) (z14b : z14 ≤ (256 : Int)) (z14c : z14 = S 0 0 9)
      refine And.intro (show -2147483648 ≤ ((256 : Int) - z14) ∧ ((256 : Int) - z14) < 2147483648 by omega) ?_
      refine And.intro (fun (h15 : (n ≤ ((256 : Int) - z14) : Prop)) => ?_) (fun (h15 : (((256 : Int) - z14) < n : Prop)) => ?_)
      ·
        refine And.intro (by decide) ?_
        exact (z_StubHouse_feed p0 hk (n + 1 - (0 : Int)).toNat) (0 : Int) S fxfr_rfl (by omega) (by omega) (by omega) (by omega)
      ·
        exact hk (-3 : Int) S ⟨fxfr_rfl, by omega⟩
    ·
      exact hk (-1 : Int) S ⟨fxfr_rfl, by omega⟩
theorem z_StubHouse_fill {l : Launch} {k : fxK} {S : fxS} {n : Int} {v : Int} (p0 : -2147483648 ≤ n ∧ n < 2147483648) (p1 : -2147483648 ≤ v ∧ v < 2147483648) (hk : ∀ (r : Int) (S' : fxS) , (fxfr [(0, 9), (1, 9999)] S S' ∧ (-2147483648 ≤ r ∧ r < 2147483648)) → k (some (.inl r)) S') : ∀ m : Nat, (∀ (j : Int) (S1 : fxS), (fxfr [(0, 9), (1, 9999)] S S1) → (1 ≤ n ∧ n ≤ 256) → (0 ≤ j ∧ j ≤ n) → (0 ≤ S1 0 0 9 ∧ S1 0 0 9 + n ≤ 256) → n + 1 - j ≤ (m : Int) → fZ l 87 k 31 [some (.inr (.inr (0, 0))), some (.inl n), some (.inl v), some (.inl j)] [] S1) := by
  intro m
  induction m with
  | zero =>
    intro j S1 hf i0 i1 i2 hmu
    exfalso
    omega
  | succ m ih =>
    intro j S1 hf i0 i1 i2 hmu
    refine fxz_87 400 ?_
    refine And.intro (fun (h1 : (n ≤ j : Prop)) => ?_) (fun (h1 : (j < n : Prop)) => ?_)
    ·
      intro z2 (z2a : (0 : Int) ≤ z2) (z2b : z2 ≤ (256 : Int)) (z2c : z2 = S1 0 0 9)
      refine And.intro (show -2147483648 ≤ (z2 + n) ∧ (z2 + n) < 2147483648 by omega) ?_
      refine And.intro (show (0 : Int) ≤ (z2 + n) ∧ (z2 + n) ≤ (256 : Int) by omega) ?_
      have w3 : (fx_up S1 0 0 9 (z2 + n)) 0 0 9 = (z2 + n) := fx_up_at _ _ _ _ _
      intro z4 (z4a : (0 : Int) ≤ z4) (z4b : z4 ≤ (256 : Int)) (z4c : z4 = (fx_up S1 0 0 9 (z2 + n)) 0 0 9)
      exact hk z4 (fx_up S1 0 0 9 (z2 + n)) ⟨(fxfr_up hf rfl), by omega⟩
    ·
      intro z5 (z5a : (0 : Int) ≤ z5) (z5b : z5 ≤ (256 : Int)) (z5c : z5 = S1 0 0 9)
      refine And.intro (show -2147483648 ≤ (z5 + j) ∧ (z5 + j) < 2147483648 by omega) ?_
      intro z6 (z6a : -2147483648 ≤ z6) (z6b : z6 < 2147483648) (z6c : -2147483648 ≤ (v + j) ∧ (v + j) < 2147483648 → z6 = (v + j))
      intro z7 z7a z7b
      refine And.intro (show 0 ≤ (z5 + j) ∧ (z5 + j) < 256 by omega) ?_
      intro z8 z8a z8b z8c
      have w9 : (fx_up S1 1 0 ((z5 + j)).toNat z8) 0 0 9 = S1 0 0 9 := rfl
      refine And.intro (by decide) (And.intro (show -2147483648 ≤ j + (1 : Int) ∧ j + (1 : Int) < 2147483648 by omega) ?_)
      exact ih (j + (1 : Int)) (fx_up S1 1 0 ((z5 + j)).toNat z8) (fxfr_up hf rfl) (by omega) (by omega) (by omega) (by omega)
theorem c_StubHouse_fill {l : Launch} {k : fxK} {S : fxS} {n : Int} {v : Int} (p0 : -2147483648 ≤ n ∧ n < 2147483648) (p1 : -2147483648 ≤ v ∧ v < 2147483648) (hk : ∀ (r : Int) (S' : fxS) , (fxfr [(0, 9), (1, 9999)] S S' ∧ (-2147483648 ≤ r ∧ r < 2147483648)) → k (some (.inl r)) S') : fC l 87 [.inr (.inr (0, 0)), .inl n, .inl v] S k := by
  refine fxe_87 (Nat.le_of_ble_eq_true rfl) (fxz_87 400 ?_)
  refine And.intro (fun (h11 : (n < (1 : Int) : Prop)) => ?_) (fun (h11 : ((1 : Int) ≤ n : Prop)) => ?_)
  ·
    exact hk (-1 : Int) S ⟨fxfr_rfl, by omega⟩
  ·
    refine And.intro (fun (h12 : (n ≤ (256 : Int) : Prop)) => ?_) (fun (h12 : ((256 : Int) < n : Prop)) => ?_)
    ·
      intro z13 (z13a : (0 : Int) ≤ z13) (z13b : z13 ≤ (256 : Int)) (z13c : z13 = S 0 0 9)
      refine And.intro (show -2147483648 ≤ ((256 : Int) - z13) ∧ ((256 : Int) - z13) < 2147483648 by omega) ?_
      refine And.intro (fun (h14 : (n ≤ ((256 : Int) - z13) : Prop)) => ?_) (fun (h14 : (((256 : Int) - z13) < n : Prop)) => ?_)
      ·
        refine And.intro (by decide) ?_
        exact (z_StubHouse_fill p0 p1 hk (n + 1 - (0 : Int)).toNat) (0 : Int) S fxfr_rfl (by omega) (by omega) (by omega) (by omega)
      ·
        exact hk (-3 : Int) S ⟨fxfr_rfl, by omega⟩
    ·
      exact hk (-1 : Int) S ⟨fxfr_rfl, by omega⟩
theorem c_StubHouse_askedOfStub {l : Launch} {k : fxK} {S : fxS} {n : Int} (p0 : 0 ≤ n ∧ n < 60) (hk : ∀ (r : Int) (S' : fxS) , (fxfr [(24, 4), (25, 9999)] S S' ∧ (-2147483648 ≤ r ∧ r < 2147483648)) → k (some (.inl r)) S') : fC l 92 [.inr (.inr (0, 0)), .inl n] S k := by
  refine fxe_92 (Nat.le_of_ble_eq_true rfl) (fxz_92 400 ?_)
  refine And.intro (show 0 ≤ n ∧ n < 60 by omega) ?_
  intro z1 (z1a : (0 : Int) ≤ z1) (z1b : z1 ≤ (2 : Int)) (z1c : z1 = S 4 (n).toNat 7)
  refine And.intro (fun (h2 : (z1 ≠ (0 : Int) : Prop)) => ?_) (fun (h2 : (z1 = (0 : Int) : Prop)) => ?_)
  ·
    refine c_Changes_askRecall (n := n) (show 0 ≤ n ∧ n < 60 by omega) (fun (S3 : fxS) (f4 : fxfr [(24, 4), (25, 9999)] S S3) => ?_)
    exact hk (-4 : Int) S3 ⟨(fxfr_tr fxfr_rfl f4 rfl), by omega⟩
  ·
    exact hk (-5 : Int) S ⟨fxfr_rfl, by omega⟩
theorem c_StubHouse_write {l : Launch} {k : fxK} {S : fxS} {n : Int} {p : Int} (p0 : TreeL S) (p1 : LCt S) (p2 : -2147483648 ≤ n ∧ n < 2147483648) (p3 : -2147483648 ≤ p ∧ p < 2147483648) (hk : ∀ (r : Int) (S' : fxS) , (fxfr [(0, 9), (2, 3), (4, 4), (4, 5), (4, 6), (4, 7), (4, 11), (4, 12), (7, 9999), (8, 4), (9, 9999), (10, 9999), (11, 9999), (12, 9999), (13, 6), (13, 7), (13, 10), (15, 9999), (16, 9999), (17, 9999), (18, 9999), (19, 9999), (20, 0), (20, 1), (20, 3), (20, 4), (20, 5), (20, 6), (20, 7), (20, 11), (20, 12), (21, 9999), (22, 9999), (23, 9999), (24, 4), (25, 9999)] S S' ∧ (-2147483648 ≤ r ∧ r < 2147483648) ∧ (TreeL S') ∧ (LCt S')) → k (some (.inl r)) S') : fC l 102 [.inr (.inr (0, 0)), .inl n, .inl p] S k := by
  refine fxe_102 (Nat.le_of_ble_eq_true rfl) (fxz_102 400 ?_)
  intro z1 (z1a : (0 : Int) ≤ z1) (z1b : z1 ≤ (1 : Int)) (z1c : z1 = S 0 0 10)
  refine And.intro (fun (h2 : (z1 = (0 : Int) : Prop)) => ?_) (fun (h2 : (z1 ≠ (0 : Int) : Prop)) => ?_)
  ·
    refine c_Tree_isFile (n := n) (show -2147483648 ≤ n ∧ n < 2147483648 by omega) (fun (z3 : Int) (q4 : (z3 = 0 ∨ z3 = 1) ∧ (z3 = 1 → 0 ≤ n ∧ n < 60 ∧ S 4 (n).toNat 0 = 2)) => ?_)
    refine And.intro (fun (h5 : (z3 ≠ (0 : Int) : Prop)) => ?_) (fun (h5 : (z3 = (0 : Int) : Prop)) => ?_)
    ·
      refine And.intro (show 0 ≤ n ∧ n < 60 by omega) ?_
      refine And.intro (by decide) ?_
      refine And.intro (fun (h6 : (p < (0 : Int) : Prop)) => ?_) (fun (h6 : ((0 : Int) ≤ p : Prop)) => ?_)
      ·
        exact hk (-1 : Int) S ⟨fxfr_rfl, by omega, p0, p1⟩
      ·
        intro z7 (z7a : (0 : Int) ≤ z7) (z7b : z7 ≤ (1024 : Int)) (z7c : z7 = S 4 (n).toNat 4)
        refine And.intro (fun (h8 : (z7 < p : Prop)) => ?_) (fun (h8 : (p ≤ z7 : Prop)) => ?_)
        ·
          exact hk (-1 : Int) S ⟨fxfr_rfl, by omega, p0, p1⟩
        ·
          intro z9 (z9a : (0 : Int) ≤ z9) (z9b : z9 ≤ (256 : Int)) (z9c : z9 = S 0 0 9)
          refine And.intro (fun (h10 : (z9 ≠ (0 : Int) : Prop)) => ?_) (fun (h10 : (z9 = (0 : Int) : Prop)) => ?_)
          ·
            intro z11 (z11a : (0 : Int) ≤ z11) (z11b : z11 ≤ (256 : Int)) (z11c : z11 = S 0 0 9)
            refine And.intro (show -2147483648 ≤ (p + z11) ∧ (p + z11) < 2147483648 by omega) ?_
            refine And.intro (fun (h12 : ((p + z11) ≤ (1024 : Int) : Prop)) => ?_) (fun (h12 : ((1024 : Int) < (p + z11) : Prop)) => ?_)
            ·
              refine c_Node_isStub (i := (n).toNat)  (fun (z13 : Int) (q14 : z13 = 0 ∨ z13 = 1) => ?_)
              refine And.intro (fun (h15 : (z13 = (0 : Int) : Prop)) => ?_) (fun (h15 : (z13 ≠ (0 : Int) : Prop)) => ?_)
              ·
                intro z16 (z16a : (0 : Int) ≤ z16) (z16b : z16 ≤ (256 : Int)) (z16c : z16 = S 0 0 9)
                refine And.intro (show -2147483648 ≤ (p + z16) ∧ (p + z16) < 2147483648 by omega) ?_
                refine And.intro (show -2147483648 ≤ ((p + z16) - (1 : Int)) ∧ ((p + z16) - (1 : Int)) < 2147483648 by omega) ?_
                refine And.intro (show 0 ≤ ((p + z16) - (1 : Int)) ∧ 0 < (32 : Int) by omega) ?_
                refine And.intro (show 0 ≤ p ∧ 0 < (32 : Int) by omega) ?_
                refine And.intro (show -2147483648 ≤ ((((p + z16) - (1 : Int)) / (32 : Int)) - (p / (32 : Int))) ∧ ((((p + z16) - (1 : Int)) / (32 : Int)) - (p / (32 : Int))) < 2147483648 by omega) ?_
                refine And.intro (show -2147483648 ≤ (((((p + z16) - (1 : Int)) / (32 : Int)) - (p / (32 : Int))) + (1 : Int)) ∧ (((((p + z16) - (1 : Int)) / (32 : Int)) - (p / (32 : Int))) + (1 : Int)) < 2147483648 by omega) ?_
                refine And.intro (by decide) ?_
                refine And.intro (show 0 ≤ (0 : Int) ∧ (0 : Int) < 2 by omega) ?_
                intro z17 (z17a : (-2147483648 : Int) ≤ z17) (z17b : z17 ≤ (2147483647 : Int)) (z17c : z17 = S 11 0 ((0 : Int)).toNat)
                refine And.intro (show 0 ≤ (1 : Int) ∧ (1 : Int) < 2 by omega) ?_
                intro z18 (z18a : (-2147483648 : Int) ≤ z18) (z18b : z18 ≤ (2147483647 : Int)) (z18c : z18 = S 11 0 ((1 : Int)).toNat)
                intro z19 (z19a : -2147483648 ≤ z19) (z19b : z19 < 2147483648) (z19c : -2147483648 ≤ (z17 + z18) ∧ (z17 + z18) < 2147483648 → z19 = (z17 + z18))
                refine And.intro (fun (h20 : ((((((p + z16) - (1 : Int)) / (32 : Int)) - (p / (32 : Int))) + (1 : Int)) ≤ z19 : Prop)) => ?_) (fun (h20 : (z19 < (((((p + z16) - (1 : Int)) / (32 : Int)) - (p / (32 : Int))) + (1 : Int)) : Prop)) => ?_)
                ·
                  intro z21 (z21a : (0 : Int) ≤ z21) (z21b : z21 ≤ (256 : Int)) (z21c : z21 = S 0 0 9)
                  refine c_Changes_overwrite (n := n) (p := p) (e := z21) (show 0 ≤ n ∧ n < 60 by omega) (show 0 ≤ p ∧ p ≤ 1024 by omega) (show 1 ≤ z21 ∧ z21 ≤ 256 by omega) (show p + z21 ≤ 1024 by omega) p0 (fun (S22 : fxS) ⟨(f23 : fxfr [(2, 3), (4, 4), (4, 5), (4, 6), (4, 7), (4, 11), (4, 12), (7, 9999), (8, 4), (9, 9999), (10, 9999), (11, 9999), (12, 9999), (13, 6), (13, 7), (13, 10), (15, 9999), (16, 9999), (17, 9999), (18, 9999), (19, 9999), (20, 0), (20, 1), (20, 3), (20, 4), (20, 5), (20, 6), (20, 7), (20, 11), (20, 12), (21, 9999), (22, 9999), (23, 9999)] S S22), (g24 : TreeL S22)⟩ => ?_)
                  have w25 : S22 0 0 9 = S 0 0 9 := f23 0 0 9 rfl
                  have w26 : S22 0 0 10 = S 0 0 10 := f23 0 0 10 rfl
                  refine And.intro (show (0 : Int) ≤ (0 : Int) ∧ (0 : Int) ≤ (256 : Int) by omega) ?_
                  have w27 : (fx_up S22 0 0 9 (0 : Int)) 0 0 9 = (0 : Int) := fx_up_at _ _ _ _ _
                  have w28 : (fx_up S22 0 0 9 (0 : Int)) 0 0 10 = S22 0 0 10 := if_neg (fun q => absurd q.2.2 (by decide))
                  have g29 : TreeL (fx_up S22 0 0 9 (0 : Int)) := fx_pup TreeL_stab rfl g24
                  intro z30 (z30a : (0 : Int) ≤ z30) (z30b : z30 ≤ (1024 : Int)) (z30c : z30 = (fx_up S22 0 0 9 (0 : Int)) 4 (n).toNat 4)
                  exact hk z30 (fx_up S22 0 0 9 (0 : Int)) ⟨(fxfr_up (fxfr_tr fxfr_rfl f23 rfl) rfl), by omega, g29, by first | assumption | exact Tree_keep (by assumption) (by assumption) (by assumption) | exact LCt_of (by omega)⟩
                ·
                  exact hk (-3 : Int) S ⟨fxfr_rfl, by omega, p0, p1⟩
              ·
                refine c_StubHouse_askedOfStub (n := n) (show 0 ≤ n ∧ n < 60 by omega) (fun (z31 : Int) (S32 : fxS) ⟨(f33 : fxfr [(24, 4), (25, 9999)] S S32), (q34 : -2147483648 ≤ z31 ∧ z31 < 2147483648)⟩ => ?_)
                have w35 : S32 0 0 9 = S 0 0 9 := f33 0 0 9 rfl
                have w36 : S32 0 0 10 = S 0 0 10 := f33 0 0 10 rfl
                have g37 : TreeL S32 := fx_pfr TreeL_stab f33 rfl p0
                have g38 : LCt S32 := fx_pfr LCt_stab f33 rfl p1
                exact hk z31 S32 ⟨(fxfr_tr fxfr_rfl f33 rfl), by omega, g37, g38⟩
            ·
              exact hk (-3 : Int) S ⟨fxfr_rfl, by omega, p0, p1⟩
          ·
            exact hk (-1 : Int) S ⟨fxfr_rfl, by omega, p0, p1⟩
    ·
      exact hk (-1 : Int) S ⟨fxfr_rfl, by omega, p0, p1⟩
  ·
    exact hk (-8 : Int) S ⟨fxfr_rfl, by omega, p0, p1⟩
theorem c_StubHouse_cut {l : Launch} {k : fxK} {S : fxS} {n : Int} {z : Int} (p0 : TreeL S) (p1 : LCt S) (p2 : -2147483648 ≤ n ∧ n < 2147483648) (p3 : -2147483648 ≤ z ∧ z < 2147483648) (hk : ∀ (r : Int) (S' : fxS) , (fxfr [(2, 3), (4, 4), (4, 5), (4, 6), (4, 7), (4, 11), (4, 12), (7, 9999), (8, 4), (9, 9999), (10, 9999), (11, 9999), (12, 9999), (13, 6), (13, 7), (13, 10), (15, 9999), (16, 9999), (17, 9999), (18, 9999), (19, 9999), (20, 0), (20, 1), (20, 3), (20, 4), (20, 5), (20, 6), (20, 7), (20, 11), (20, 12), (21, 9999), (22, 9999), (23, 9999), (24, 4), (25, 9999)] S S' ∧ (-2147483648 ≤ r ∧ r < 2147483648) ∧ (TreeL S') ∧ (LCt S')) → k (some (.inl r)) S') : fC l 113 [.inr (.inr (0, 0)), .inl n, .inl z] S k := by
  refine fxe_113 (Nat.le_of_ble_eq_true rfl) (fxz_113 400 ?_)
  intro z1 (z1a : (0 : Int) ≤ z1) (z1b : z1 ≤ (1 : Int)) (z1c : z1 = S 0 0 10)
  refine And.intro (fun (h2 : (z1 = (0 : Int) : Prop)) => ?_) (fun (h2 : (z1 ≠ (0 : Int) : Prop)) => ?_)
  ·
    refine c_Tree_isFile (n := n) (show -2147483648 ≤ n ∧ n < 2147483648 by omega) (fun (z3 : Int) (q4 : (z3 = 0 ∨ z3 = 1) ∧ (z3 = 1 → 0 ≤ n ∧ n < 60 ∧ S 4 (n).toNat 0 = 2)) => ?_)
    refine And.intro (fun (h5 : (z3 ≠ (0 : Int) : Prop)) => ?_) (fun (h5 : (z3 = (0 : Int) : Prop)) => ?_)
    ·
      refine And.intro (show 0 ≤ n ∧ n < 60 by omega) ?_
      refine And.intro (by decide) ?_
      refine And.intro (fun (h6 : (z < (0 : Int) : Prop)) => ?_) (fun (h6 : ((0 : Int) ≤ z : Prop)) => ?_)
      ·
        exact hk (-1 : Int) S ⟨fxfr_rfl, by omega, p0, p1⟩
      ·
        intro z7 (z7a : (0 : Int) ≤ z7) (z7b : z7 ≤ (1024 : Int)) (z7c : z7 = S 4 (n).toNat 4)
        refine And.intro (fun (h8 : (z ≤ z7 : Prop)) => ?_) (fun (h8 : (z7 < z : Prop)) => ?_)
        ·
          refine And.intro (fun (h9 : (z ≤ (0 : Int) : Prop)) => ?_) (fun (h9 : ((0 : Int) < z : Prop)) => ?_)
          ·
            intro z10 (z10a : (0 : Int) ≤ z10) (z10b : z10 ≤ (1024 : Int)) (z10c : z10 = S 4 (n).toNat 4)
            refine And.intro (fun (h11 : (z10 ≤ z : Prop)) => ?_) (fun (h11 : (z < z10 : Prop)) => ?_)
            ·
              refine And.intro (by decide) ?_
              refine And.intro (fun _ => ?_) (fun h => absurd h (by decide))
              refine c_Changes_shorten (n := n) (z := z) (show 0 ≤ n ∧ n < 60 by omega) (show 0 ≤ z ∧ z ≤ 1024 by omega) p0 (fun (S12 : fxS) ⟨(f13 : fxfr [(2, 3), (4, 4), (4, 5), (4, 6), (4, 7), (4, 11), (4, 12), (7, 9999), (8, 4), (9, 9999), (10, 9999), (11, 9999), (12, 9999), (13, 6), (13, 7), (13, 10), (15, 9999), (16, 9999), (17, 9999), (18, 9999), (19, 9999), (20, 0), (20, 1), (20, 3), (20, 4), (20, 5), (20, 6), (20, 7), (20, 11), (20, 12), (21, 9999), (22, 9999), (23, 9999), (24, 4), (25, 9999)] S S12), (g14 : TreeL S12)⟩ => ?_)
              have w15 : S12 0 0 10 = S 0 0 10 := f13 0 0 10 rfl
              exact hk z S12 ⟨(fxfr_tr fxfr_rfl f13 rfl), by omega, g14, by first | assumption | exact Tree_keep (by assumption) (by assumption) (by assumption) | exact LCt_of (by omega)⟩
            ·
              refine And.intro (show 0 ≤ z ∧ 0 < (32 : Int) by omega) ?_
              refine And.intro (fun (h16 : ((z % (32 : Int)) = (0 : Int) : Prop)) => ?_) (fun (h16 : ((z % (32 : Int)) ≠ (0 : Int) : Prop)) => ?_)
              ·
                refine And.intro (by decide) ?_
                refine And.intro (fun _ => ?_) (fun h => absurd h (by decide))
                refine c_Changes_shorten (n := n) (z := z) (show 0 ≤ n ∧ n < 60 by omega) (show 0 ≤ z ∧ z ≤ 1024 by omega) p0 (fun (S17 : fxS) ⟨(f18 : fxfr [(2, 3), (4, 4), (4, 5), (4, 6), (4, 7), (4, 11), (4, 12), (7, 9999), (8, 4), (9, 9999), (10, 9999), (11, 9999), (12, 9999), (13, 6), (13, 7), (13, 10), (15, 9999), (16, 9999), (17, 9999), (18, 9999), (19, 9999), (20, 0), (20, 1), (20, 3), (20, 4), (20, 5), (20, 6), (20, 7), (20, 11), (20, 12), (21, 9999), (22, 9999), (23, 9999), (24, 4), (25, 9999)] S S17), (g19 : TreeL S17)⟩ => ?_)
                have w20 : S17 0 0 10 = S 0 0 10 := f18 0 0 10 rfl
                exact hk z S17 ⟨(fxfr_tr fxfr_rfl f18 rfl), by omega, g19, by first | assumption | exact Tree_keep (by assumption) (by assumption) (by assumption) | exact LCt_of (by omega)⟩
              ·
                refine And.intro (by decide) ?_
                refine And.intro (fun h => absurd h (by decide)) (fun _ => ?_)
                refine And.intro (show 0 ≤ (0 : Int) ∧ (0 : Int) < 2 by omega) ?_
                intro z21 (z21a : (-2147483648 : Int) ≤ z21) (z21b : z21 ≤ (2147483647 : Int)) (z21c : z21 = S 11 0 ((0 : Int)).toNat)
                refine And.intro (show 0 ≤ (1 : Int) ∧ (1 : Int) < 2 by omega) ?_
                intro z22 (z22a : (-2147483648 : Int) ≤ z22) (z22b : z22 ≤ (2147483647 : Int)) (z22c : z22 = S 11 0 ((1 : Int)).toNat)
                intro z23 (z23a : -2147483648 ≤ z23) (z23b : z23 < 2147483648) (z23c : -2147483648 ≤ (z21 + z22) ∧ (z21 + z22) < 2147483648 → z23 = (z21 + z22))
                refine And.intro (fun (h24 : (z23 ≠ (0 : Int) : Prop)) => ?_) (fun (h24 : (z23 = (0 : Int) : Prop)) => ?_)
                ·
                  refine c_Changes_shorten (n := n) (z := z) (show 0 ≤ n ∧ n < 60 by omega) (show 0 ≤ z ∧ z ≤ 1024 by omega) p0 (fun (S25 : fxS) ⟨(f26 : fxfr [(2, 3), (4, 4), (4, 5), (4, 6), (4, 7), (4, 11), (4, 12), (7, 9999), (8, 4), (9, 9999), (10, 9999), (11, 9999), (12, 9999), (13, 6), (13, 7), (13, 10), (15, 9999), (16, 9999), (17, 9999), (18, 9999), (19, 9999), (20, 0), (20, 1), (20, 3), (20, 4), (20, 5), (20, 6), (20, 7), (20, 11), (20, 12), (21, 9999), (22, 9999), (23, 9999), (24, 4), (25, 9999)] S S25), (g27 : TreeL S25)⟩ => ?_)
                  have w28 : S25 0 0 10 = S 0 0 10 := f26 0 0 10 rfl
                  exact hk z S25 ⟨(fxfr_tr fxfr_rfl f26 rfl), by omega, g27, by first | assumption | exact Tree_keep (by assumption) (by assumption) (by assumption) | exact LCt_of (by omega)⟩
                ·
                  exact hk (-3 : Int) S ⟨fxfr_rfl, by omega, p0, p1⟩
          ·
            refine c_Node_isStub (i := (n).toNat)  (fun (z29 : Int) (q30 : z29 = 0 ∨ z29 = 1) => ?_)
            refine And.intro (fun (h31 : (z29 = (0 : Int) : Prop)) => ?_) (fun (h31 : (z29 ≠ (0 : Int) : Prop)) => ?_)
            ·
              intro z32 (z32a : (0 : Int) ≤ z32) (z32b : z32 ≤ (1024 : Int)) (z32c : z32 = S 4 (n).toNat 4)
              refine And.intro (fun (h33 : (z32 ≤ z : Prop)) => ?_) (fun (h33 : (z < z32 : Prop)) => ?_)
              ·
                refine And.intro (by decide) ?_
                refine And.intro (fun _ => ?_) (fun h => absurd h (by decide))
                refine c_Changes_shorten (n := n) (z := z) (show 0 ≤ n ∧ n < 60 by omega) (show 0 ≤ z ∧ z ≤ 1024 by omega) p0 (fun (S34 : fxS) ⟨(f35 : fxfr [(2, 3), (4, 4), (4, 5), (4, 6), (4, 7), (4, 11), (4, 12), (7, 9999), (8, 4), (9, 9999), (10, 9999), (11, 9999), (12, 9999), (13, 6), (13, 7), (13, 10), (15, 9999), (16, 9999), (17, 9999), (18, 9999), (19, 9999), (20, 0), (20, 1), (20, 3), (20, 4), (20, 5), (20, 6), (20, 7), (20, 11), (20, 12), (21, 9999), (22, 9999), (23, 9999), (24, 4), (25, 9999)] S S34), (g36 : TreeL S34)⟩ => ?_)
                have w37 : S34 0 0 10 = S 0 0 10 := f35 0 0 10 rfl
                exact hk z S34 ⟨(fxfr_tr fxfr_rfl f35 rfl), by omega, g36, by first | assumption | exact Tree_keep (by assumption) (by assumption) (by assumption) | exact LCt_of (by omega)⟩
              ·
                refine And.intro (show 0 ≤ z ∧ 0 < (32 : Int) by omega) ?_
                refine And.intro (fun (h38 : ((z % (32 : Int)) = (0 : Int) : Prop)) => ?_) (fun (h38 : ((z % (32 : Int)) ≠ (0 : Int) : Prop)) => ?_)
                ·
                  refine And.intro (by decide) ?_
                  refine And.intro (fun _ => ?_) (fun h => absurd h (by decide))
                  refine c_Changes_shorten (n := n) (z := z) (show 0 ≤ n ∧ n < 60 by omega) (show 0 ≤ z ∧ z ≤ 1024 by omega) p0 (fun (S39 : fxS) ⟨(f40 : fxfr [(2, 3), (4, 4), (4, 5), (4, 6), (4, 7), (4, 11), (4, 12), (7, 9999), (8, 4), (9, 9999), (10, 9999), (11, 9999), (12, 9999), (13, 6), (13, 7), (13, 10), (15, 9999), (16, 9999), (17, 9999), (18, 9999), (19, 9999), (20, 0), (20, 1), (20, 3), (20, 4), (20, 5), (20, 6), (20, 7), (20, 11), (20, 12), (21, 9999), (22, 9999), (23, 9999), (24, 4), (25, 9999)] S S39), (g41 : TreeL S39)⟩ => ?_)
                  have w42 : S39 0 0 10 = S 0 0 10 := f40 0 0 10 rfl
                  exact hk z S39 ⟨(fxfr_tr fxfr_rfl f40 rfl), by omega, g41, by first | assumption | exact Tree_keep (by assumption) (by assumption) (by assumption) | exact LCt_of (by omega)⟩
                ·
                  refine And.intro (by decide) ?_
                  refine And.intro (fun h => absurd h (by decide)) (fun _ => ?_)
                  refine And.intro (show 0 ≤ (0 : Int) ∧ (0 : Int) < 2 by omega) ?_
                  intro z43 (z43a : (-2147483648 : Int) ≤ z43) (z43b : z43 ≤ (2147483647 : Int)) (z43c : z43 = S 11 0 ((0 : Int)).toNat)
                  refine And.intro (show 0 ≤ (1 : Int) ∧ (1 : Int) < 2 by omega) ?_
                  intro z44 (z44a : (-2147483648 : Int) ≤ z44) (z44b : z44 ≤ (2147483647 : Int)) (z44c : z44 = S 11 0 ((1 : Int)).toNat)
                  intro z45 (z45a : -2147483648 ≤ z45) (z45b : z45 < 2147483648) (z45c : -2147483648 ≤ (z43 + z44) ∧ (z43 + z44) < 2147483648 → z45 = (z43 + z44))
                  refine And.intro (fun (h46 : (z45 ≠ (0 : Int) : Prop)) => ?_) (fun (h46 : (z45 = (0 : Int) : Prop)) => ?_)
                  ·
                    refine c_Changes_shorten (n := n) (z := z) (show 0 ≤ n ∧ n < 60 by omega) (show 0 ≤ z ∧ z ≤ 1024 by omega) p0 (fun (S47 : fxS) ⟨(f48 : fxfr [(2, 3), (4, 4), (4, 5), (4, 6), (4, 7), (4, 11), (4, 12), (7, 9999), (8, 4), (9, 9999), (10, 9999), (11, 9999), (12, 9999), (13, 6), (13, 7), (13, 10), (15, 9999), (16, 9999), (17, 9999), (18, 9999), (19, 9999), (20, 0), (20, 1), (20, 3), (20, 4), (20, 5), (20, 6), (20, 7), (20, 11), (20, 12), (21, 9999), (22, 9999), (23, 9999), (24, 4), (25, 9999)] S S47), (g49 : TreeL S47)⟩ => ?_)
                    have w50 : S47 0 0 10 = S 0 0 10 := f48 0 0 10 rfl
                    exact hk z S47 ⟨(fxfr_tr fxfr_rfl f48 rfl), by omega, g49, by first | assumption | exact Tree_keep (by assumption) (by assumption) (by assumption) | exact LCt_of (by omega)⟩
                  ·
                    exact hk (-3 : Int) S ⟨fxfr_rfl, by omega, p0, p1⟩
            ·
              refine c_StubHouse_askedOfStub (n := n) (show 0 ≤ n ∧ n < 60 by omega) (fun (z51 : Int) (S52 : fxS) ⟨(f53 : fxfr [(24, 4), (25, 9999)] S S52), (q54 : -2147483648 ≤ z51 ∧ z51 < 2147483648)⟩ => ?_)
              have w55 : S52 0 0 10 = S 0 0 10 := f53 0 0 10 rfl
              have g56 : TreeL S52 := fx_pfr TreeL_stab f53 rfl p0
              have g57 : LCt S52 := fx_pfr LCt_stab f53 rfl p1
              exact hk z51 S52 ⟨(fxfr_tr fxfr_rfl f53 rfl), by omega, g56, g57⟩
        ·
          exact hk (-1 : Int) S ⟨fxfr_rfl, by omega, p0, p1⟩
    ·
      exact hk (-1 : Int) S ⟨fxfr_rfl, by omega, p0, p1⟩
  ·
    exact hk (-8 : Int) S ⟨fxfr_rfl, by omega, p0, p1⟩
theorem c_StubHouse_read {l : Launch} {k : fxK} {S : fxS} {n : Int} {p : Int} (p0 : -2147483648 ≤ n ∧ n < 2147483648) (p1 : -2147483648 ≤ p ∧ p < 2147483648) (hk : ∀ (r : Int) (S' : fxS) , (fxfr [(4, 6), (24, 4), (25, 9999)] S S' ∧ (-2147483648 ≤ r ∧ r < 2147483648)) → k (some (.inl r)) S') : fC l 116 [.inr (.inr (0, 0)), .inl n, .inl p] S k := by
  refine fxe_116 (Nat.le_of_ble_eq_true rfl) (fxz_116 400 ?_)
  intro z1 (z1a : (0 : Int) ≤ z1) (z1b : z1 ≤ (1 : Int)) (z1c : z1 = S 0 0 10)
  refine And.intro (fun (h2 : (z1 = (0 : Int) : Prop)) => ?_) (fun (h2 : (z1 ≠ (0 : Int) : Prop)) => ?_)
  ·
    refine c_Tree_isFile (n := n) (show -2147483648 ≤ n ∧ n < 2147483648 by omega) (fun (z3 : Int) (q4 : (z3 = 0 ∨ z3 = 1) ∧ (z3 = 1 → 0 ≤ n ∧ n < 60 ∧ S 4 (n).toNat 0 = 2)) => ?_)
    refine And.intro (fun (h5 : (z3 ≠ (0 : Int) : Prop)) => ?_) (fun (h5 : (z3 = (0 : Int) : Prop)) => ?_)
    ·
      refine And.intro (show 0 ≤ n ∧ n < 60 by omega) ?_
      refine And.intro (by decide) ?_
      refine And.intro (fun (h6 : (p < (0 : Int) : Prop)) => ?_) (fun (h6 : ((0 : Int) ≤ p : Prop)) => ?_)
      ·
        exact hk (-1 : Int) S ⟨fxfr_rfl, by omega⟩
      ·
        intro z7 (z7a : (0 : Int) ≤ z7) (z7b : z7 ≤ (1024 : Int)) (z7c : z7 = S 4 (n).toNat 4)
        refine And.intro (fun (h8 : (p < z7 : Prop)) => ?_) (fun (h8 : (z7 ≤ p : Prop)) => ?_)
        ·
          refine c_Node_isStub (i := (n).toNat)  (fun (z9 : Int) (q10 : z9 = 0 ∨ z9 = 1) => ?_)
          refine And.intro (fun (h11 : (z9 = (0 : Int) : Prop)) => ?_) (fun (h11 : (z9 ≠ (0 : Int) : Prop)) => ?_)
          ·
            intro z12 (z12a : (-2147483648 : Int) ≤ z12) (z12b : z12 ≤ (2147483647 : Int)) (z12c : z12 = S 2 0 1)
            refine And.intro (show (-2147483648 : Int) ≤ z12 ∧ z12 ≤ (2147483647 : Int) by omega) ?_
            refine And.intro (show 0 ≤ p ∧ 0 < (32 : Int) by omega) ?_
            refine And.intro (show 0 ≤ (p / (32 : Int)) ∧ (p / (32 : Int)) < 32 by omega) ?_
            intro z13 (z13a : (-1 : Int) ≤ z13) (z13b : z13 ≤ (207 : Int)) (z13c : z13 = (fx_up S 4 (n).toNat 6 z12) 7 (n).toNat ((p / (32 : Int))).toNat)
            refine And.intro (show 0 ≤ p ∧ 0 < (32 : Int) by omega) ?_
            refine c_Stores_byteAt (b := z13) (j := (p % (32 : Int))) (show 0 ≤ (p % (32 : Int)) ∧ (p % (32 : Int)) < 32 by omega) (show -2147483648 ≤ z13 ∧ z13 < 2147483648 by omega) (fun (z14 : Int) (q15 : 0 ≤ z14 ∧ z14 ≤ 255) => ?_)
            exact hk z14 (fx_up S 4 (n).toNat 6 z12) ⟨(fxfr_up fxfr_rfl rfl), by omega⟩
          ·
            refine c_StubHouse_askedOfStub (n := n) (show 0 ≤ n ∧ n < 60 by omega) (fun (z16 : Int) (S17 : fxS) ⟨(f18 : fxfr [(24, 4), (25, 9999)] S S17), (q19 : -2147483648 ≤ z16 ∧ z16 < 2147483648)⟩ => ?_)
            exact hk z16 S17 ⟨(fxfr_tr fxfr_rfl f18 rfl), by omega⟩
        ·
          exact hk (-1 : Int) S ⟨fxfr_rfl, by omega⟩
    ·
      exact hk (-1 : Int) S ⟨fxfr_rfl, by omega⟩
  ·
    exact hk (-8 : Int) S ⟨fxfr_rfl, by omega⟩
theorem c_StubHouse_howItIs {l : Launch} {k : fxK} {S : fxS} {i : Nat}  (hk : ∀ (r : Int) , (-2147483648 ≤ r ∧ r < 2147483648) → k (some (.inl r)) S) : fC l 119 [.inr (.inr (0, 0)), .inr (.inr (4, i))] S k := by
  refine fxe_119 (Nat.le_of_ble_eq_true rfl) (fxz_119 400 ?_)
  intro z1 (z1a : (0 : Int) ≤ z1) (z1b : z1 ≤ (1024 : Int)) (z1c : z1 = S 4 i 4)
  refine And.intro (fun (h2 : (z1 ≠ (0 : Int) : Prop)) => ?_) (fun (h2 : (z1 = (0 : Int) : Prop)) => ?_)
  ·
    refine c_Node_isStub (i := i)  (fun (z3 : Int) (q4 : z3 = 0 ∨ z3 = 1) => ?_)
    refine And.intro (fun (h5 : (z3 = (0 : Int) : Prop)) => ?_) (fun (h5 : (z3 ≠ (0 : Int) : Prop)) => ?_)
    ·
      refine c_Tree_hasItsCopies (j := i)  (fun (z6 : Int) (q7 : z6 = 0 ∨ z6 = 1) => ?_)
      refine And.intro (fun (h8 : (z6 = (0 : Int) : Prop)) => ?_) (fun (h8 : (z6 ≠ (0 : Int) : Prop)) => ?_)
      ·
        exact hk (1 : Int) (by omega)
      ·
        exact hk (2 : Int) (by omega)
    ·
      intro z9 (z9a : (0 : Int) ≤ z9) (z9b : z9 ≤ (2 : Int)) (z9c : z9 = S 4 i 7)
      refine And.intro (fun (h10 : (z9 ≠ (0 : Int) : Prop)) => ?_) (fun (h10 : (z9 = (0 : Int) : Prop)) => ?_)
      ·
        exact hk (3 : Int) (by omega)
      ·
        exact hk (4 : Int) (by omega)
  ·
    exact hk (0 : Int) (by omega)
theorem c_StubHouse_aboutFile {l : Launch} {k : fxK} {S : fxS} {i : Nat} {w : Int} (p0 : -2147483648 ≤ w ∧ w < 2147483648) (hk : ∀ (r : Int) , (-2147483648 ≤ r ∧ r < 2147483648) → k (some (.inl r)) S) : fC l 120 [.inr (.inr (0, 0)), .inr (.inr (4, i)), .inl w] S k := by
  refine fxe_120 (Nat.le_of_ble_eq_true rfl) (fxz_120 400 ?_)
  refine And.intro (fun (h1 : w = (3 : Int)) => ?_) (fun (h1 : w ≠ (3 : Int)) => ?_)
  ·
    intro z2 (z2a : (-2147483648 : Int) ≤ z2) (z2b : z2 ≤ (2147483647 : Int)) (z2c : z2 = S 4 i 3)
    exact hk z2 (by omega)
  refine And.intro (fun (h3 : w = (4 : Int)) => ?_) (fun (h3 : w ≠ (4 : Int)) => ?_)
  ·
    intro z4 (z4a : (0 : Int) ≤ z4) (z4b : z4 ≤ (1024 : Int)) (z4c : z4 = S 4 i 4)
    exact hk z4 (by omega)
  refine And.intro (fun (h5 : w = (5 : Int)) => ?_) (fun (h5 : w ≠ (5 : Int)) => ?_)
  ·
    intro z6 (z6a : (-2147483648 : Int) ≤ z6) (z6b : z6 ≤ (2147483647 : Int)) (z6c : z6 = S 4 i 5)
    exact hk z6 (by omega)
  refine And.intro (fun (h7 : w = (6 : Int)) => ?_) (fun (h7 : w ≠ (6 : Int)) => ?_)
  ·
    intro z8 (z8a : (-2147483648 : Int) ≤ z8) (z8b : z8 ≤ (2147483647 : Int)) (z8c : z8 = S 4 i 6)
    exact hk z8 (by omega)
  refine And.intro (fun (h9 : w = (7 : Int)) => ?_) (fun (h9 : w ≠ (7 : Int)) => ?_)
  ·
    intro z10 (z10a : (0 : Int) ≤ z10) (z10b : z10 ≤ (2 : Int)) (z10c : z10 = S 4 i 7)
    exact hk z10 (by omega)
  refine And.intro (fun (h11 : w = (8 : Int)) => ?_) (fun (h11 : w ≠ (8 : Int)) => ?_)
  ·
    intro z12 (z12a : (-2147483648 : Int) ≤ z12) (z12b : z12 ≤ (2147483647 : Int)) (z12c : z12 = S 4 i 11)
    exact hk z12 (by omega)
  refine And.intro (fun (h13 : w = (9 : Int)) => ?_) (fun (h13 : w ≠ (9 : Int)) => ?_)
  ·
    intro z14 (z14a : (-2147483648 : Int) ≤ z14) (z14b : z14 ≤ (2147483647 : Int)) (z14c : z14 = S 4 i 12)
    exact hk z14 (by omega)
  refine c_StubHouse_howItIs (i := i)  (fun (z15 : Int) (q16 : -2147483648 ≤ z15 ∧ z15 < 2147483648) => ?_)
  exact hk z15 (by omega)
theorem c_StubHouse_about {l : Launch} {k : fxK} {S : fxS} {n : Int} {w : Int} (p0 : -2147483648 ≤ n ∧ n < 2147483648) (p1 : -2147483648 ≤ w ∧ w < 2147483648) (hk : ∀ (r : Int) , (-2147483648 ≤ r ∧ r < 2147483648) → k (some (.inl r)) S) : fC l 121 [.inr (.inr (0, 0)), .inl n, .inl w] S k := by
  refine fxe_121 (Nat.le_of_ble_eq_true rfl) (fxz_121 400 ?_)
  intro z1 (z1a : (0 : Int) ≤ z1) (z1b : z1 ≤ (1 : Int)) (z1c : z1 = S 0 0 10)
  refine And.intro (fun (h2 : (z1 = (0 : Int) : Prop)) => ?_) (fun (h2 : (z1 ≠ (0 : Int) : Prop)) => ?_)
  ·
    refine And.intro (fun (h3 : (n < (0 : Int) : Prop)) => ?_) (fun (h3 : ((0 : Int) ≤ n : Prop)) => ?_)
    ·
      exact hk (-1 : Int) (by omega)
    ·
      refine And.intro (fun (h4 : ((60 : Int) ≤ n : Prop)) => ?_) (fun (h4 : (n < (60 : Int) : Prop)) => ?_)
      ·
        exact hk (-1 : Int) (by omega)
      ·
        refine And.intro (fun (h5 : (w < (0 : Int) : Prop)) => ?_) (fun (h5 : ((0 : Int) ≤ w : Prop)) => ?_)
        ·
          exact hk (-1 : Int) (by omega)
        ·
          refine And.intro (fun (h6 : (w ≤ (10 : Int) : Prop)) => ?_) (fun (h6 : ((10 : Int) < w : Prop)) => ?_)
          ·
            refine And.intro (show 0 ≤ n ∧ n < 60 by omega) ?_
            refine And.intro (by decide) ?_
            refine And.intro (fun (h7 : (w ≠ (0 : Int) : Prop)) => ?_) (fun (h7 : (w = (0 : Int) : Prop)) => ?_)
            ·
              intro z8 (z8a : (0 : Int) ≤ z8) (z8b : z8 ≤ (2 : Int)) (z8c : z8 = S 4 (n).toNat 0)
              refine And.intro (fun (h9 : (z8 ≠ (0 : Int) : Prop)) => ?_) (fun (h9 : (z8 = (0 : Int) : Prop)) => ?_)
              ·
                refine And.intro (fun (h10 : (w ≠ (1 : Int) : Prop)) => ?_) (fun (h10 : (w = (1 : Int) : Prop)) => ?_)
                ·
                  refine And.intro (fun (h11 : (w ≠ (2 : Int) : Prop)) => ?_) (fun (h11 : (w = (2 : Int) : Prop)) => ?_)
                  ·
                    intro z12 (z12a : (0 : Int) ≤ z12) (z12b : z12 ≤ (2 : Int)) (z12c : z12 = S 4 (n).toNat 0)
                    refine And.intro (fun (h13 : (z12 ≠ (2 : Int) : Prop)) => ?_) (fun (h13 : (z12 = (2 : Int) : Prop)) => ?_)
                    ·
                      exact hk (-1 : Int) (by omega)
                    ·
                      refine c_StubHouse_aboutFile (i := (n).toNat) (w := w) (show -2147483648 ≤ w ∧ w < 2147483648 by omega) (fun (z14 : Int) (q15 : -2147483648 ≤ z14 ∧ z14 < 2147483648) => ?_)
                      exact hk z14 (by omega)
                  ·
                    refine c_Tree_depthOf (n := n) (show 0 ≤ n ∧ n < 60 by omega) (fun (z16 : Int) (q17 : 0 ≤ z16 ∧ z16 ≤ 60 ∧ z16 = (depF (fun m => S 4 m 1) 60 n : Int)) => ?_)
                    exact hk z16 (by omega)
                ·
                  refine And.intro (fun (h18 : (n ≠ (0 : Int) : Prop)) => ?_) (fun (h18 : (n = (0 : Int) : Prop)) => ?_)
                  ·
                    intro z19 (z19a : (0 : Int) ≤ z19) (z19b : z19 ≤ (59 : Int)) (z19c : z19 = S 4 (n).toNat 1)
                    exact hk z19 (by omega)
                  ·
                    exact hk (-2 : Int) (by omega)
              ·
                exact hk (-1 : Int) (by omega)
            ·
              intro z20 (z20a : (0 : Int) ≤ z20) (z20b : z20 ≤ (2 : Int)) (z20c : z20 = S 4 (n).toNat 0)
              exact hk z20 (by omega)
          ·
            exact hk (-1 : Int) (by omega)
  ·
    exact hk (-8 : Int) (by omega)
theorem c_StubHouse_name {l : Launch} {k : fxK} {S : fxS} {n : Int} (p0 : -2147483648 ≤ n ∧ n < 2147483648) (hk : ∀ (r : Int) , k (some (.inr (.inl r))) S) : fC l 125 [.inr (.inr (0, 0)), .inl n] S k := by
  refine fxe_125 (Nat.le_of_ble_eq_true rfl) (fxz_125 400 ?_)
  intro z1 (z1a : (0 : Int) ≤ z1) (z1b : z1 ≤ (1 : Int)) (z1c : z1 = S 0 0 10)
  refine And.intro (fun (h2 : (z1 ≠ (0 : Int) : Prop)) => ?_) (fun (h2 : (z1 = (0 : Int) : Prop)) => ?_)
  ·
    exact hk (0 : Int)
  ·
    refine And.intro (fun (h3 : (n = (0 : Int) : Prop)) => ?_) (fun (h3 : (n ≠ (0 : Int) : Prop)) => ?_)
    ·
      exact hk (0 : Int)
    ·
      refine c_Tree_isThere (n := n) (show -2147483648 ≤ n ∧ n < 2147483648 by omega) (fun (z4 : Int) (q5 : (z4 = 0 ∨ z4 = 1) ∧ (z4 = 1 → 0 ≤ n ∧ n < 60 ∧ S 4 (n).toNat 0 ≠ 0)) => ?_)
      refine And.intro (fun (h6 : (z4 ≠ (0 : Int) : Prop)) => ?_) (fun (h6 : (z4 = (0 : Int) : Prop)) => ?_)
      ·
        refine And.intro (show 0 ≤ n ∧ n < 60 by omega) ?_
        intro z7
        exact hk z7
      ·
        exact hk (0 : Int)
theorem c_StubHouse_block {l : Launch} {k : fxK} {S : fxS} {n : Int} {j : Int} (p0 : -2147483648 ≤ n ∧ n < 2147483648) (p1 : -2147483648 ≤ j ∧ j < 2147483648) (hk : ∀ (r : Int) , (-2147483648 ≤ r ∧ r < 2147483648) → k (some (.inl r)) S) : fC l 127 [.inr (.inr (0, 0)), .inl n, .inl j] S k := by
  refine fxe_127 (Nat.le_of_ble_eq_true rfl) (fxz_127 400 ?_)
  intro z1 (z1a : (0 : Int) ≤ z1) (z1b : z1 ≤ (1 : Int)) (z1c : z1 = S 0 0 10)
  refine And.intro (fun (h2 : (z1 = (0 : Int) : Prop)) => ?_) (fun (h2 : (z1 ≠ (0 : Int) : Prop)) => ?_)
  ·
    refine c_Tree_isFile (n := n) (show -2147483648 ≤ n ∧ n < 2147483648 by omega) (fun (z3 : Int) (q4 : (z3 = 0 ∨ z3 = 1) ∧ (z3 = 1 → 0 ≤ n ∧ n < 60 ∧ S 4 (n).toNat 0 = 2)) => ?_)
    refine And.intro (fun (h5 : (z3 ≠ (0 : Int) : Prop)) => ?_) (fun (h5 : (z3 = (0 : Int) : Prop)) => ?_)
    ·
      refine And.intro (show 0 ≤ n ∧ n < 60 by omega) ?_
      refine And.intro (by decide) ?_
      refine And.intro (fun (h6 : (j < (0 : Int) : Prop)) => ?_) (fun (h6 : ((0 : Int) ≤ j : Prop)) => ?_)
      ·
        exact hk (-1 : Int) (by omega)
      ·
        refine c_Node_blocks (i := (n).toNat)  (fun (z7 : Int) (q8 : 0 ≤ z7 ∧ z7 ≤ 32 ∧ S 4 (n).toNat 4 ≤ 32 * z7 ∧ 32 * z7 < S 4 (n).toNat 4 + 32) => ?_)
        refine And.intro (fun (h9 : (j < z7 : Prop)) => ?_) (fun (h9 : (z7 ≤ j : Prop)) => ?_)
        ·
          refine c_Node_isStub (i := (n).toNat)  (fun (z10 : Int) (q11 : z10 = 0 ∨ z10 = 1) => ?_)
          refine And.intro (fun (h12 : (z10 = (0 : Int) : Prop)) => ?_) (fun (h12 : (z10 ≠ (0 : Int) : Prop)) => ?_)
          ·
            refine And.intro (show 0 ≤ j ∧ j < 32 by omega) ?_
            intro z13 (z13a : (-1 : Int) ≤ z13) (z13b : z13 ≤ (207 : Int)) (z13c : z13 = S 7 (n).toNat (j).toNat)
            refine And.intro (by decide) ?_
            refine And.intro (fun (h14 : ((48 : Int) ≤ z13 : Prop)) => ?_) (fun (h14 : (z13 < (48 : Int) : Prop)) => ?_)
            ·
              refine And.intro (show -2147483648 ≤ ((1000 : Int) + z13) ∧ ((1000 : Int) + z13) < 2147483648 by omega) ?_
              refine And.intro (show -2147483648 ≤ (((1000 : Int) + z13) - (48 : Int)) ∧ (((1000 : Int) + z13) - (48 : Int)) < 2147483648 by omega) ?_
              exact hk (((1000 : Int) + z13) - (48 : Int)) (by omega)
            ·
              exact hk z13 (by omega)
          ·
            exact hk (-2 : Int) (by omega)
        ·
          exact hk (-1 : Int) (by omega)
    ·
      exact hk (-1 : Int) (by omega)
  ·
    exact hk (-8 : Int) (by omega)
theorem c_StubHouse_copy {l : Launch} {k : fxK} {S : fxS} {n : Int} {j : Int} {w : Int} (p0 : -2147483648 ≤ n ∧ n < 2147483648) (p1 : -2147483648 ≤ j ∧ j < 2147483648) (p2 : -2147483648 ≤ w ∧ w < 2147483648) (hk : ∀ (r : Int) , (-2147483648 ≤ r ∧ r < 2147483648) → k (some (.inl r)) S) : fC l 129 [.inr (.inr (0, 0)), .inl n, .inl j, .inl w] S k := by
  refine fxe_129 (Nat.le_of_ble_eq_true rfl) (fxz_129 400 ?_)
  intro z1 (z1a : (0 : Int) ≤ z1) (z1b : z1 ≤ (1 : Int)) (z1c : z1 = S 0 0 10)
  refine And.intro (fun (h2 : (z1 = (0 : Int) : Prop)) => ?_) (fun (h2 : (z1 ≠ (0 : Int) : Prop)) => ?_)
  ·
    refine c_Tree_isFile (n := n) (show -2147483648 ≤ n ∧ n < 2147483648 by omega) (fun (z3 : Int) (q4 : (z3 = 0 ∨ z3 = 1) ∧ (z3 = 1 → 0 ≤ n ∧ n < 60 ∧ S 4 (n).toNat 0 = 2)) => ?_)
    refine And.intro (fun (h5 : (z3 = (0 : Int) : Prop)) => ?_) (fun (h5 : (z3 ≠ (0 : Int) : Prop)) => ?_)
    ·
      exact hk (-1 : Int) (by omega)
    ·
      refine And.intro (fun (h6 : (j < (0 : Int) : Prop)) => ?_) (fun (h6 : ((0 : Int) ≤ j : Prop)) => ?_)
      ·
        exact hk (-1 : Int) (by omega)
      ·
        refine And.intro (fun (h7 : ((2 : Int) ≤ j : Prop)) => ?_) (fun (h7 : (j < (2 : Int) : Prop)) => ?_)
        ·
          exact hk (-1 : Int) (by omega)
        ·
          refine And.intro (fun (h8 : (w < (0 : Int) : Prop)) => ?_) (fun (h8 : ((0 : Int) ≤ w : Prop)) => ?_)
          ·
            exact hk (-1 : Int) (by omega)
          ·
            refine And.intro (fun (h9 : (w ≤ (1 : Int) : Prop)) => ?_) (fun (h9 : ((1 : Int) < w : Prop)) => ?_)
            ·
              refine And.intro (show 0 ≤ n ∧ n < 60 by omega) ?_
              refine And.intro (by decide) ?_
              intro z10 (z10a : (0 : Int) ≤ z10) (z10b : z10 ≤ (2 : Int)) (z10c : z10 = S 4 (n).toNat 7)
              refine And.intro (fun (h11 : (j < z10 : Prop)) => ?_) (fun (h11 : (z10 ≤ j : Prop)) => ?_)
              ·
                refine And.intro (fun (h12 : (w ≠ (0 : Int) : Prop)) => ?_) (fun (h12 : (w = (0 : Int) : Prop)) => ?_)
                ·
                  refine And.intro (show 0 ≤ j ∧ j < 2 by omega) ?_
                  intro z13 (z13a : (0 : Int) ≤ z13) (z13b : z13 ≤ (6000 : Int)) (z13c : z13 = S 6 (n).toNat (j).toNat)
                  exact hk z13 (by omega)
                ·
                  refine And.intro (show 0 ≤ j ∧ j < 2 by omega) ?_
                  intro z14 (z14a : (0 : Int) ≤ z14) (z14b : z14 ≤ (5 : Int)) (z14c : z14 = S 5 (n).toNat (j).toNat)
                  exact hk z14 (by omega)
              ·
                exact hk (-2 : Int) (by omega)
            ·
              exact hk (-1 : Int) (by omega)
  ·
    exact hk (-8 : Int) (by omega)
theorem c_StubHouse_copies {l : Launch} {k : fxK} {S : fxS} {n : Int} (p0 : -2147483648 ≤ n ∧ n < 2147483648) (hk : ∀ (r : Int) (S' : fxS) , (fxfr [(2, 4)] S S' ∧ (-2147483648 ≤ r ∧ r < 2147483648)) → k (some (.inl r)) S') : fC l 133 [.inr (.inr (0, 0)), .inl n] S k := by
  refine fxe_133 (Nat.le_of_ble_eq_true rfl) (fxz_133 400 ?_)
  refine And.intro (fun (h1 : (n < (1 : Int) : Prop)) => ?_) (fun (h1 : ((1 : Int) ≤ n : Prop)) => ?_)
  ·
    exact hk (-1 : Int) S ⟨fxfr_rfl, by omega⟩
  ·
    refine And.intro (fun (h2 : (n ≤ (2 : Int) : Prop)) => ?_) (fun (h2 : ((2 : Int) < n : Prop)) => ?_)
    ·
      intro z3 (z3a : (1 : Int) ≤ z3) (z3b : z3 ≤ (2 : Int)) (z3c : z3 = S 2 0 4)
      refine And.intro (by decide) ?_
      refine And.intro (show (1 : Int) ≤ n ∧ n ≤ (2 : Int) by omega) ?_
      exact hk z3 (fx_up S 2 0 4 n) ⟨(fxfr_up fxfr_rfl rfl), by omega⟩
    ·
      exact hk (-1 : Int) S ⟨fxfr_rfl, by omega⟩
theorem c_StubHouse_sync {l : Launch} {k : fxK} {S : fxS}  (p0 : TreeL S) (p1 : LCt S) (hk : ∀ (r : Int) (S' : fxS) , (fxfr [(8, 4), (10, 9999), (11, 9999), (13, 6), (13, 7), (19, 9999)] S S' ∧ (-2147483648 ≤ r ∧ r < 2147483648) ∧ (TreeL S') ∧ (LCt S')) → k (some (.inl r)) S') : fC l 135 [.inr (.inr (0, 0))] S k := by
  refine fxe_135 (Nat.le_of_ble_eq_true rfl) (fxz_135 400 ?_)
  intro z1 (z1a : (0 : Int) ≤ z1) (z1b : z1 ≤ (1 : Int)) (z1c : z1 = S 0 0 10)
  have wt : WTS S := TreeL_wt (by assumption)
  refine And.intro (fun (h2 : (z1 = (0 : Int) : Prop)) => ?_) (fun (h2 : (z1 ≠ (0 : Int) : Prop)) => ?_)
  ·
    refine c_Log_keepAll  wt (fun (z3 : Int) (S4 : fxS) ⟨(f5 : fxfr [(8, 4), (10, 9999), (11, 9999), (13, 6), (13, 7), (19, 9999)] S S4), (q6 : -2147483648 ≤ z3 ∧ z3 < 2147483648 ∧ (S4 13 0 6 = 0)), (g7 : TreeL S4)⟩ => ?_)
    have w8 : S4 0 0 10 = S 0 0 10 := f5 0 0 10 rfl
    have g9 : WTS S4 := fx_pfr WTS_stab f5 rfl wt
    exact hk z3 S4 ⟨(fxfr_tr fxfr_rfl f5 rfl), by omega, g7, by first | assumption | exact Tree_keep (by assumption) (by assumption) (by assumption) | exact LCt_of (by omega)⟩
  ·
    exact hk (-8 : Int) S ⟨fxfr_rfl, by omega, p0, p1⟩
theorem c_begin38 {l : Launch} {k : fxK} {S : fxS} {w : Int} {t : Int} {p : Int} (p0 : 0 ≤ w ∧ w ≤ 5) (p1 : 0 ≤ p ∧ p ≤ 7100) (p2 : -2147483648 ≤ t ∧ t < 2147483648) (hk : ∀ (S' : fxS) , (fxfr [(38, 2), (38, 3), (38, 4)] S S') → k none S') : fC l 142 [.inr (.inr (38, 0)), .inl w, .inl t, .inl p] S k := by
  refine fxe_142 (Nat.le_of_ble_eq_true rfl) (fxz_142 400 ?_)
  refine And.intro (show (0 : Int) ≤ w ∧ w ≤ (5 : Int) by omega) ?_
  refine And.intro (show (-2147483648 : Int) ≤ t ∧ t ≤ (2147483647 : Int) by omega) ?_
  refine And.intro (show (0 : Int) ≤ p ∧ p ≤ (7100 : Int) by omega) ?_
  exact hk (fx_up (fx_up (fx_up S 38 0 2 w) 38 0 3 t) 38 0 4 p) (fxfr_up (fxfr_up (fxfr_up fxfr_rfl rfl) rfl) rfl)
theorem c_begin40 {l : Launch} {k : fxK} {S : fxS} {w : Int} {t : Int} {p : Int} (p0 : 0 ≤ w ∧ w ≤ 5) (p1 : 0 ≤ p ∧ p ≤ 7100) (p2 : -2147483648 ≤ t ∧ t < 2147483648) (hk : ∀ (S' : fxS) , (fxfr [(40, 2), (40, 3), (40, 4)] S S' ∧ (S' 40 0 2 = w)) → k none S') : fC l 142 [.inr (.inr (40, 0)), .inl w, .inl t, .inl p] S k := by
  refine fxe_142 (Nat.le_of_ble_eq_true rfl) (fxz_142 400 ?_)
  refine And.intro (show (0 : Int) ≤ w ∧ w ≤ (5 : Int) by omega) ?_
  have w1 : (fx_up S 40 0 2 w) 40 0 2 = w := fx_up_at _ _ _ _ _
  refine And.intro (show (-2147483648 : Int) ≤ t ∧ t ≤ (2147483647 : Int) by omega) ?_
  have w2 : (fx_up (fx_up S 40 0 2 w) 40 0 3 t) 40 0 2 = (fx_up S 40 0 2 w) 40 0 2 := if_neg (fun q => absurd q.2.2 (by decide))
  refine And.intro (show (0 : Int) ≤ p ∧ p ≤ (7100 : Int) by omega) ?_
  have w3 : (fx_up (fx_up (fx_up S 40 0 2 w) 40 0 3 t) 40 0 4 p) 40 0 2 = (fx_up (fx_up S 40 0 2 w) 40 0 3 t) 40 0 2 := if_neg (fun q => absurd q.2.2 (by decide))
  exact hk (fx_up (fx_up (fx_up S 40 0 2 w) 40 0 3 t) 40 0 4 p) ⟨(fxfr_up (fxfr_up (fxfr_up fxfr_rfl rfl) rfl) rfl), by omega⟩
theorem c_takeOff38 {l : Launch} {k : fxK} {S : fxS}   (hk : ∀ (S' : fxS) , (fxfr [(38, 0), (38, 1), (38, 2), (38, 3), (38, 4)] S S') → k none S') : fC l 143 [.inr (.inr (38, 0))] S k := by
  refine fxe_143 (Nat.le_of_ble_eq_true rfl) (fxz_143 400 ?_)
  refine And.intro (show (-1 : Int) ≤ (-1 : Int) ∧ (-1 : Int) ≤ (5 : Int) by omega) ?_
  refine c_begin38 (w := (0 : Int)) (t := (0 : Int)) (p := (0 : Int)) (show 0 ≤ (0 : Int) ∧ (0 : Int) ≤ 5 by omega) (show 0 ≤ (0 : Int) ∧ (0 : Int) ≤ 7100 by omega) (show -2147483648 ≤ (0 : Int) ∧ (0 : Int) < 2147483648 by omega) (fun S1 f2 => ?_)
  replace f2 : fxfr [(38, 2), (38, 3), (38, 4)] (fx_up S 38 0 0 (-1 : Int)) S1 := f2
  refine And.intro (show (0 : Int) ≤ (0 : Int) ∧ (0 : Int) ≤ (7100 : Int) by omega) ?_
  exact hk (fx_up S1 38 0 1 (0 : Int)) (fxfr_up (fxfr_tr (fxfr_up fxfr_rfl rfl) f2 rfl) rfl)
theorem c_takeOff40 {l : Launch} {k : fxK} {S : fxS}   (hk : ∀ (S' : fxS) , (fxfr [(40, 0), (40, 1), (40, 2), (40, 3), (40, 4)] S S' ∧ (S' 40 0 2 = 0)) → k none S') : fC l 143 [.inr (.inr (40, 0))] S k := by
  refine fxe_143 (Nat.le_of_ble_eq_true rfl) (fxz_143 400 ?_)
  refine And.intro (show (-1 : Int) ≤ (-1 : Int) ∧ (-1 : Int) ≤ (5 : Int) by omega) ?_
  have w1 : (fx_up S 40 0 0 (-1 : Int)) 40 0 2 = S 40 0 2 := if_neg (fun q => absurd q.2.2 (by decide))
  refine c_begin40 (w := (0 : Int)) (t := (0 : Int)) (p := (0 : Int)) (show 0 ≤ (0 : Int) ∧ (0 : Int) ≤ 5 by omega) (show 0 ≤ (0 : Int) ∧ (0 : Int) ≤ 7100 by omega) (show -2147483648 ≤ (0 : Int) ∧ (0 : Int) < 2147483648 by omega) (fun S2 ⟨f3, q4⟩ => ?_)
  replace f3 : fxfr [(40, 2), (40, 3), (40, 4)] (fx_up S 40 0 0 (-1 : Int)) S2 := f3
  replace q4 : S2 40 0 2 = (0 : Int) := q4
  refine And.intro (show (0 : Int) ≤ (0 : Int) ∧ (0 : Int) ≤ (7100 : Int) by omega) ?_
  have w5 : (fx_up S2 40 0 1 (0 : Int)) 40 0 2 = S2 40 0 2 := if_neg (fun q => absurd q.2.2 (by decide))
  exact hk (fx_up S2 40 0 1 (0 : Int)) ⟨(fxfr_up (fxfr_tr (fxfr_up fxfr_rfl rfl) f3 rfl) rfl), by omega⟩
theorem c_Reader_stop {l : Launch} {k : fxK} {S : fxS}   (hk : ∀ (S' : fxS) , (fxfr [(38, 0), (38, 1), (38, 2), (38, 3), (38, 4), (38, 7), (38, 12), (38, 15)] S S') → k none S') : fC l 144 [.inr (.inr (38, 0))] S k := by
  refine fxe_144 (Nat.le_of_ble_eq_true rfl) (fxz_144 400 ?_)
  refine c_takeOff38   (fun (S1 : fxS) (f2 : fxfr [(38, 0), (38, 1), (38, 2), (38, 3), (38, 4)] S S1) => ?_)
  refine And.intro (show (-1 : Int) ≤ (-1 : Int) ∧ (-1 : Int) ≤ (5 : Int) by omega) ?_
  refine And.intro (show (-1 : Int) ≤ (-1 : Int) ∧ (-1 : Int) ≤ (5 : Int) by omega) ?_
  refine And.intro (show (0 : Int) ≤ (0 : Int) ∧ (0 : Int) ≤ (1089 : Int) by omega) ?_
  exact hk (fx_up (fx_up (fx_up S1 38 0 7 (-1 : Int)) 38 0 12 (-1 : Int)) 38 0 15 (0 : Int)) (fxfr_up (fxfr_up (fxfr_up (fxfr_tr fxfr_rfl f2 rfl) rfl) rfl) rfl)
theorem c_Writer_stop {l : Launch} {k : fxK} {S : fxS}   (hk : ∀ (S' : fxS) , (fxfr [(40, 0), (40, 1), (40, 2), (40, 3), (40, 4), (40, 10)] S S' ∧ (S' 40 0 2 = 0)) → k none S') : fC l 145 [.inr (.inr (40, 0))] S k := by
  refine fxe_145 (Nat.le_of_ble_eq_true rfl) (fxz_145 400 ?_)
  refine c_takeOff40   (fun (S1 : fxS) ⟨(f2 : fxfr [(40, 0), (40, 1), (40, 2), (40, 3), (40, 4)] S S1), (q3 : S1 40 0 2 = 0)⟩ => ?_)
  refine And.intro (show (0 : Int) ≤ (0 : Int) ∧ (0 : Int) ≤ (20 : Int) by omega) ?_
  have w4 : (fx_up S1 40 0 10 (0 : Int)) 40 0 2 = S1 40 0 2 := if_neg (fun q => absurd q.2.2 (by decide))
  exact hk (fx_up S1 40 0 10 (0 : Int)) ⟨(fxfr_up (fxfr_tr fxfr_rfl f2 rfl) rfl), by omega⟩
theorem c_Migrator_stop {l : Launch} {k : fxK} {S : fxS}   (hk : ∀ (S' : fxS) , (fxfr [(44, 6), (44, 7)] S S') → k none S') : fC l 146 [.inr (.inr (44, 0))] S k := by
  refine fxe_146 (Nat.le_of_ble_eq_true rfl) (fxz_146 400 ?_)
  refine And.intro (show (0 : Int) ≤ (0 : Int) ∧ (0 : Int) ≤ (1 : Int) by omega) ?_
  refine And.intro (show (0 : Int) ≤ (0 : Int) ∧ (0 : Int) ≤ (1 : Int) by omega) ?_
  exact hk (fx_up (fx_up S 44 0 6 (0 : Int)) 44 0 7 (0 : Int)) (fxfr_up (fxfr_up fxfr_rfl rfl) rfl)
theorem c_StubHouse_stopAll {l : Launch} {k : fxK} {S : fxS}   (hk : ∀ (S' : fxS) , (fxfr [(24, 4), (38, 0), (38, 1), (38, 2), (38, 3), (38, 4), (38, 7), (38, 12), (38, 15), (40, 0), (40, 1), (40, 2), (40, 3), (40, 4), (40, 10), (44, 6), (44, 7)] S S' ∧ (S' 40 0 2 = 0)) → k none S') : fC l 147 [.inr (.inr (0, 0))] S k := by
  refine fxe_147 (Nat.le_of_ble_eq_true rfl) (fxz_147 400 ?_)
  refine c_Reader_stop   (fun (S1 : fxS) (f2 : fxfr [(38, 0), (38, 1), (38, 2), (38, 3), (38, 4), (38, 7), (38, 12), (38, 15)] S S1) => ?_)
  have w3 : S1 40 0 2 = S 40 0 2 := f2 40 0 2 rfl
  refine c_Writer_stop   (fun (S4 : fxS) ⟨(f5 : fxfr [(40, 0), (40, 1), (40, 2), (40, 3), (40, 4), (40, 10)] S1 S4), (q6 : S4 40 0 2 = 0)⟩ => ?_)
  refine c_Migrator_stop   (fun (S7 : fxS) (f8 : fxfr [(44, 6), (44, 7)] S4 S7) => ?_)
  have w9 : S7 40 0 2 = S4 40 0 2 := f8 40 0 2 rfl
  refine And.intro (show (0 : Int) ≤ (0 : Int) ∧ (0 : Int) ≤ (60 : Int) by omega) ?_
  have w10 : (fx_up S7 24 0 4 (0 : Int)) 40 0 2 = S7 40 0 2 := rfl
  exact hk (fx_up S7 24 0 4 (0 : Int)) ⟨(fxfr_up (fxfr_tr (fxfr_tr (fxfr_tr fxfr_rfl f2 rfl) f5 rfl) f8 rfl) rfl), by omega⟩
theorem c_StubHouse_crash {l : Launch} {k : fxK} {S : fxS} {n : Int} (p0 : ((S 40 0 2 = 4 ∨ S 40 0 2 = 5) → 0 ≤ S 40 0 0 ∧ (S 40 0 13 = 2 → 0 ≤ S 40 0 14))) (p1 : TreeL S) (p2 : LCt S) (p3 : -2147483648 ≤ n ∧ n < 2147483648) (hk : ∀ (r : Int) (S' : fxS) , (fxfr [(4, 0), (4, 1), (4, 3), (4, 4), (4, 5), (4, 6), (4, 7), (4, 11), (4, 12), (5, 9999), (6, 9999), (7, 9999), (8, 4), (10, 9999), (11, 9999), (12, 9999), (13, 6), (13, 7), (13, 10), (18, 9999), (19, 9999), (24, 4), (38, 0), (38, 1), (38, 2), (38, 3), (38, 4), (38, 7), (38, 12), (38, 15), (40, 0), (40, 1), (40, 2), (40, 3), (40, 4), (40, 10), (44, 6), (44, 7)] S S' ∧ (-2147483648 ≤ r ∧ r < 2147483648 ∧ (((S' 40 0 2 = 4 ∨ S' 40 0 2 = 5) → 0 ≤ S' 40 0 0 ∧ (S' 40 0 13 = 2 → 0 ≤ S' 40 0 14)))) ∧ (TreeL S') ∧ (LCt S')) → k (some (.inl r)) S') : fC l 148 [.inr (.inr (0, 0)), .inl n] S k := by
  refine fxe_148 (Nat.le_of_ble_eq_true rfl) (fxz_148 400 ?_)
  intro z1 (z1a : (0 : Int) ≤ z1) (z1b : z1 ≤ (1 : Int)) (z1c : z1 = S 0 0 10)
  refine And.intro (fun (h2 : (z1 = (0 : Int) : Prop)) => ?_) (fun (h2 : (z1 ≠ (0 : Int) : Prop)) => ?_)
  ·
    refine And.intro (fun (h3 : ((0 : Int) ≤ n : Prop)) => ?_) (fun (h3 : (n < (0 : Int) : Prop)) => ?_)
    ·
      refine c_Log_undoBehind (n := n) p1 (show -2147483648 ≤ n ∧ n < 2147483648 by omega) (fun (z4 : Int) (S5 : fxS) ⟨(f6 : fxfr [(4, 0), (4, 1), (4, 3), (4, 4), (4, 5), (4, 6), (4, 7), (4, 11), (4, 12), (5, 9999), (6, 9999), (7, 9999), (8, 4), (10, 9999), (11, 9999), (12, 9999), (13, 6), (13, 7), (13, 10), (18, 9999), (19, 9999)] S S5), (q7 : -2147483648 ≤ z4 ∧ z4 < 2147483648), (g8 : TreeL S5)⟩ => ?_)
      have w9 : S5 40 0 0 = S 40 0 0 := f6 40 0 0 rfl
      have w10 : S5 40 0 2 = S 40 0 2 := f6 40 0 2 rfl
      have w11 : S5 40 0 13 = S 40 0 13 := f6 40 0 13 rfl
      have w12 : S5 40 0 14 = S 40 0 14 := f6 40 0 14 rfl
      have w13 : S5 0 0 10 = S 0 0 10 := f6 0 0 10 rfl
      refine And.intro (by decide) ?_
      refine c_StubHouse_stopAll   (fun (S14 : fxS) ⟨(f15 : fxfr [(24, 4), (38, 0), (38, 1), (38, 2), (38, 3), (38, 4), (38, 7), (38, 12), (38, 15), (40, 0), (40, 1), (40, 2), (40, 3), (40, 4), (40, 10), (44, 6), (44, 7)] S5 S14), (q16 : S14 40 0 2 = 0)⟩ => ?_)
      have w17 : S14 40 0 13 = S5 40 0 13 := f15 40 0 13 rfl
      have w18 : S14 40 0 14 = S5 40 0 14 := f15 40 0 14 rfl
      have w19 : S14 0 0 10 = S5 0 0 10 := f15 0 0 10 rfl
      have g20 : TreeL S14 := fx_pfr TreeL_stab f15 rfl g8
      exact hk z4 S14 ⟨(fxfr_tr (fxfr_tr fxfr_rfl f6 rfl) f15 rfl), by omega, g20, by first | assumption | exact Tree_keep (by assumption) (by assumption) (by assumption) | exact LCt_of (by omega)⟩
    ·
      exact hk (-1 : Int) S ⟨fxfr_rfl, by omega, p1, p2⟩
  ·
    exact hk (-8 : Int) S ⟨fxfr_rfl, by omega, p1, p2⟩
theorem c_StubHouse_lose {l : Launch} {k : fxK} {S : fxS}  (p0 : ((S 40 0 2 = 4 ∨ S 40 0 2 = 5) → 0 ≤ S 40 0 0 ∧ (S 40 0 13 = 2 → 0 ≤ S 40 0 14))) (p1 : TreeL S) (p2 : LCt S) (hk : ∀ (r : Int) (S' : fxS) , (fxfr [(0, 10), (4, 0), (4, 1), (4, 3), (4, 4), (4, 5), (4, 6), (4, 7), (4, 11), (4, 12), (7, 9999), (8, 4), (10, 9999), (11, 9999), (12, 9999), (13, 6), (13, 7), (13, 10), (24, 4), (38, 0), (38, 1), (38, 2), (38, 3), (38, 4), (38, 7), (38, 12), (38, 15), (40, 0), (40, 1), (40, 2), (40, 3), (40, 4), (40, 10), (44, 6), (44, 7)] S S' ∧ (-2147483648 ≤ r ∧ r < 2147483648 ∧ (((S' 40 0 2 = 4 ∨ S' 40 0 2 = 5) → 0 ≤ S' 40 0 0 ∧ (S' 40 0 13 = 2 → 0 ≤ S' 40 0 14)))) ∧ (TreeL S') ∧ (LCt S')) → k (some (.inl r)) S') : fC l 154 [.inr (.inr (0, 0))] S k := by
  refine fxe_154 (Nat.le_of_ble_eq_true rfl) (fxz_154 400 ?_)
  intro z1 (z1a : (0 : Int) ≤ z1) (z1b : z1 ≤ (1 : Int)) (z1c : z1 = S 0 0 10)
  refine And.intro (fun (h2 : (z1 = (0 : Int) : Prop)) => ?_) (fun (h2 : (z1 ≠ (0 : Int) : Prop)) => ?_)
  ·
    refine c_Tree_count (n := (2 : Int)) (show -2147483648 ≤ (2 : Int) ∧ (2 : Int) < 2147483648 by omega) (fun (z3 : Int) (q4 : 0 ≤ z3 ∧ z3 ≤ 60) => ?_)
    refine And.intro (by decide) ?_
    refine c_Tree_clear   (fun (S5 : fxS) ⟨(f6 : fxfr [(4, 0), (4, 1), (4, 3), (4, 4), (4, 5), (4, 6), (4, 7), (4, 11), (4, 12), (7, 9999)] S S5), (g7 : CLR 60 S S5)⟩ => ?_)
    have w8 : S5 40 0 0 = S 40 0 0 := f6 40 0 0 rfl
    have w9 : S5 40 0 2 = S 40 0 2 := f6 40 0 2 rfl
    have w10 : S5 40 0 13 = S 40 0 13 := f6 40 0 13 rfl
    have w11 : S5 40 0 14 = S 40 0 14 := f6 40 0 14 rfl
    have w12 : S5 13 0 6 = S 13 0 6 := f6 13 0 6 rfl
    have w13 : S5 0 0 10 = S 0 0 10 := f6 0 0 10 rfl
    have g14 : LCt S5 := fx_pfr LCt_stab f6 rfl p2
    have wt : WTS S5 := CLR_wt (S := S) (j := 60) (by assumption) (by omega) (TreeL_wt (by assumption))
    refine c_Log_clear   (fun (S15 : fxS) ⟨(f16 : fxfr [(13, 6), (13, 7), (13, 10)] S5 S15), (q17 : S15 13 0 6 = 0)⟩ => ?_)
    have w18 : S15 40 0 0 = S5 40 0 0 := f16 40 0 0 rfl
    have w19 : S15 40 0 2 = S5 40 0 2 := f16 40 0 2 rfl
    have w20 : S15 40 0 13 = S5 40 0 13 := f16 40 0 13 rfl
    have w21 : S15 40 0 14 = S5 40 0 14 := f16 40 0 14 rfl
    have w22 : S15 0 0 10 = S5 0 0 10 := f16 0 0 10 rfl
    have g23 : CLR 60 S S15 := fx_pfr CLR_stab f16 rfl g7
    have g24 : WTS S15 := fx_pfr WTS_stab f16 rfl wt
    have tl : TreeL S15 := Tree_0 q17 (by assumption)
    refine c_Stores_freeAll   (fun (S25 : fxS) (f26 : fxfr [(8, 4), (10, 9999), (11, 9999), (12, 9999)] S15 S25) => ?_)
    have w27 : S25 40 0 0 = S15 40 0 0 := f26 40 0 0 rfl
    have w28 : S25 40 0 2 = S15 40 0 2 := f26 40 0 2 rfl
    have w29 : S25 40 0 13 = S15 40 0 13 := f26 40 0 13 rfl
    have w30 : S25 40 0 14 = S15 40 0 14 := f26 40 0 14 rfl
    have w31 : S25 13 0 6 = S15 13 0 6 := f26 13 0 6 rfl
    have w32 : S25 0 0 10 = S15 0 0 10 := f26 0 0 10 rfl
    have g33 : CLR 60 S S25 := fx_pfr CLR_stab f26 rfl g23
    have g34 : WTS S25 := fx_pfr WTS_stab f26 rfl g24
    have g35 : TreeL S25 := fx_pfr TreeL_stab f26 rfl tl
    refine c_StubHouse_stopAll   (fun (S36 : fxS) ⟨(f37 : fxfr [(24, 4), (38, 0), (38, 1), (38, 2), (38, 3), (38, 4), (38, 7), (38, 12), (38, 15), (40, 0), (40, 1), (40, 2), (40, 3), (40, 4), (40, 10), (44, 6), (44, 7)] S25 S36), (q38 : S36 40 0 2 = 0)⟩ => ?_)
    have w39 : S36 40 0 13 = S25 40 0 13 := f37 40 0 13 rfl
    have w40 : S36 40 0 14 = S25 40 0 14 := f37 40 0 14 rfl
    have w41 : S36 13 0 6 = S25 13 0 6 := f37 13 0 6 rfl
    have w42 : S36 0 0 10 = S25 0 0 10 := f37 0 0 10 rfl
    have g43 : CLR 60 S S36 := fx_pfr CLR_stab f37 rfl g33
    have g44 : WTS S36 := fx_pfr WTS_stab f37 rfl g34
    have g45 : TreeL S36 := fx_pfr TreeL_stab f37 rfl g35
    refine And.intro (show (0 : Int) ≤ (1 : Int) ∧ (1 : Int) ≤ (1 : Int) by omega) ?_
    have w46 : (fx_up S36 0 0 10 (1 : Int)) 40 0 0 = S36 40 0 0 := rfl
    have w47 : (fx_up S36 0 0 10 (1 : Int)) 40 0 2 = S36 40 0 2 := rfl
    have w48 : (fx_up S36 0 0 10 (1 : Int)) 40 0 13 = S36 40 0 13 := rfl
    have w49 : (fx_up S36 0 0 10 (1 : Int)) 40 0 14 = S36 40 0 14 := rfl
    have w50 : (fx_up S36 0 0 10 (1 : Int)) 13 0 6 = S36 13 0 6 := rfl
    have w51 : (fx_up S36 0 0 10 (1 : Int)) 0 0 10 = (1 : Int) := fx_up_at _ _ _ _ _
    have g52 : CLR 60 S (fx_up S36 0 0 10 (1 : Int)) := fx_pup CLR_stab rfl g43
    have g53 : WTS (fx_up S36 0 0 10 (1 : Int)) := fx_pup WTS_stab rfl g44
    have g54 : TreeL (fx_up S36 0 0 10 (1 : Int)) := fx_pup TreeL_stab rfl g45
    exact hk z3 (fx_up S36 0 0 10 (1 : Int)) ⟨(fxfr_up (fxfr_tr (fxfr_tr (fxfr_tr (fxfr_tr fxfr_rfl f6 rfl) f16 rfl) f26 rfl) f37 rfl) rfl), by omega, g54, by first | assumption | exact LCt_0 (by omega) | exact LCt_of (by omega)⟩
  ·
    exact hk (-8 : Int) S ⟨fxfr_rfl, by omega, p1, p2⟩
theorem c_Migrator_modeOf {l : Launch} {k : fxK} {S : fxS} {s : Int} {q : Int} (p0 : 0 ≤ s ∧ s ≤ 1) (p1 : 0 ≤ q ∧ q ≤ 1) (hk : ∀ (r : Int) , (r = 0 ∨ r = 1) → k (some (.inl r)) S) : fC l 245 [.inr (.inr (44, 0)), .inl s, .inl q] S k := by
  refine fxe_245 (Nat.le_of_ble_eq_true rfl) (fxz_245 400 ?_)
  refine And.intro (show 0 ≤ s ∧ s < 2 by omega) ?_
  intro z1 (z1a : (-2147483648 : Int) ≤ z1) (z1b : z1 ≤ (2147483647 : Int)) (z1c : z1 = S 12 0 (s).toNat)
  refine And.intro (show 0 ≤ s ∧ s < 2 by omega) ?_
  intro z2 (z2a : (0 : Int) ≤ z2) (z2b : z2 ≤ (160 : Int)) (z2c : z2 = S 45 0 (s).toNat)
  refine And.intro (fun (h3 : (z1 ≤ z2 : Prop)) => ?_) (fun (h3 : (z2 < z1 : Prop)) => ?_)
  ·
    refine And.intro (fun (h4 : (q = (0 : Int) : Prop)) => ?_) (fun (h4 : (q ≠ (0 : Int) : Prop)) => ?_)
    ·
      refine And.intro (show 0 ≤ (0 : Int) ∧ (0 : Int) ≤ 1 by omega) ?_
      exact hk (0 : Int) (by omega)
    ·
      refine And.intro (show 0 ≤ s ∧ s < 2 by omega) ?_
      intro z5 (z5a : (-2147483648 : Int) ≤ z5) (z5b : z5 ≤ (2147483647 : Int)) (z5c : z5 = S 12 0 (s).toNat)
      refine And.intro (show 0 ≤ s ∧ s < 2 by omega) ?_
      intro z6 (z6a : (0 : Int) ≤ z6) (z6b : z6 ≤ (160 : Int)) (z6c : z6 = S 46 0 (s).toNat)
      refine And.intro (fun (h7 : (z5 ≤ z6 : Prop)) => ?_) (fun (h7 : (z6 < z5 : Prop)) => ?_)
      ·
        refine And.intro (show 0 ≤ (0 : Int) ∧ (0 : Int) ≤ 1 by omega) ?_
        exact hk (0 : Int) (by omega)
      ·
        refine And.intro (show 0 ≤ (1 : Int) ∧ (1 : Int) ≤ 1 by omega) ?_
        exact hk (1 : Int) (by omega)
  ·
    refine And.intro (show 0 ≤ (1 : Int) ∧ (1 : Int) ≤ 1 by omega) ?_
    exact hk (1 : Int) (by omega)
theorem c_StubHouse_toldOfStores {l : Launch} {k : fxK} {S : fxS} {w : Int} (p0 : -2147483648 ≤ w ∧ w < 2147483648) (hk : ∀ (r : Int) , (-2147483648 ≤ r ∧ r < 2147483648) → k (some (.inl r)) S) : fC l 296 [.inr (.inr (0, 0)), .inl w] S k := by
  refine fxe_296 (Nat.le_of_ble_eq_true rfl) (fxz_296 400 ?_)
  refine And.intro (fun (h1 : w = (1 : Int)) => ?_) (fun (h1 : w ≠ (1 : Int)) => ?_)
  ·
    refine And.intro (show 0 ≤ (0 : Int) ∧ (0 : Int) < 2 by omega) ?_
    intro z2 (z2a : (-2147483648 : Int) ≤ z2) (z2b : z2 ≤ (2147483647 : Int)) (z2c : z2 = S 12 0 ((0 : Int)).toNat)
    exact hk z2 (by omega)
  refine And.intro (fun (h3 : w = (2 : Int)) => ?_) (fun (h3 : w ≠ (2 : Int)) => ?_)
  ·
    refine And.intro (show 0 ≤ (1 : Int) ∧ (1 : Int) < 2 by omega) ?_
    intro z4 (z4a : (-2147483648 : Int) ≤ z4) (z4b : z4 ≤ (2147483647 : Int)) (z4c : z4 = S 12 0 ((1 : Int)).toNat)
    exact hk z4 (by omega)
  refine And.intro (fun (h5 : w = (3 : Int)) => ?_) (fun (h5 : w ≠ (3 : Int)) => ?_)
  ·
    intro z6 (z6a : (-2147483648 : Int) ≤ z6) (z6b : z6 ≤ (2147483647 : Int)) (z6c : z6 = S 8 0 4)
    exact hk z6 (by omega)
  refine And.intro (fun (h7 : w = (4 : Int)) => ?_) (fun (h7 : w ≠ (4 : Int)) => ?_)
  ·
    refine And.intro (show 0 ≤ (0 : Int) ∧ (0 : Int) < 2 by omega) ?_
    intro z8 (z8a : (-2147483648 : Int) ≤ z8) (z8b : z8 ≤ (2147483647 : Int)) (z8c : z8 = S 11 0 ((0 : Int)).toNat)
    exact hk z8 (by omega)
  refine And.intro (show 0 ≤ (1 : Int) ∧ (1 : Int) < 2 by omega) ?_
  intro z9 (z9a : (-2147483648 : Int) ≤ z9) (z9b : z9 ≤ (2147483647 : Int)) (z9c : z9 = S 11 0 ((1 : Int)).toNat)
  exact hk z9 (by omega)
theorem c_StubHouse_told {l : Launch} {k : fxK} {S : fxS} {w : Int} (p0 : -2147483648 ≤ w ∧ w < 2147483648) (hk : ∀ (r : Int) , (-2147483648 ≤ r ∧ r < 2147483648) → k (some (.inl r)) S) : fC l 297 [.inr (.inr (0, 0)), .inl w] S k := by
  refine fxe_297 (Nat.le_of_ble_eq_true rfl) (fxz_297 400 ?_)
  refine And.intro (fun (h1 : (w < (1 : Int) : Prop)) => ?_) (fun (h1 : ((1 : Int) ≤ w : Prop)) => ?_)
  ·
    refine And.intro (fun (h2 : w = (0 : Int)) => ?_) (fun (h2 : w ≠ (0 : Int)) => ?_)
    ·
      intro z3 (z3a : (-2147483648 : Int) ≤ z3) (z3b : z3 ≤ (2147483647 : Int)) (z3c : z3 = S 2 0 1)
      exact hk z3 (by omega)
    refine And.intro (fun (h4 : w = (1 : Int)) => ?_) (fun (h4 : w ≠ (1 : Int)) => ?_)
    ·
      exact hk (-1 : Int) (by omega)
    refine And.intro (fun (h5 : w = (2 : Int)) => ?_) (fun (h5 : w ≠ (2 : Int)) => ?_)
    ·
      exact hk (-1 : Int) (by omega)
    refine And.intro (fun (h6 : w = (3 : Int)) => ?_) (fun (h6 : w ≠ (3 : Int)) => ?_)
    ·
      exact hk (-1 : Int) (by omega)
    refine And.intro (fun (h7 : w = (4 : Int)) => ?_) (fun (h7 : w ≠ (4 : Int)) => ?_)
    ·
      exact hk (-1 : Int) (by omega)
    refine And.intro (fun (h8 : w = (5 : Int)) => ?_) (fun (h8 : w ≠ (5 : Int)) => ?_)
    ·
      exact hk (-1 : Int) (by omega)
    refine And.intro (fun (h9 : w = (6 : Int)) => ?_) (fun (h9 : w ≠ (6 : Int)) => ?_)
    ·
      intro z10 (z10a : (0 : Int) ≤ z10) (z10b : z10 ≤ (60 : Int)) (z10c : z10 = S 24 0 4)
      exact hk z10 (by omega)
    refine And.intro (fun (h11 : w = (7 : Int)) => ?_) (fun (h11 : w ≠ (7 : Int)) => ?_)
    ·
      intro z12 (z12a : (0 : Int) ≤ z12) (z12b : z12 ≤ (20 : Int)) (z12c : z12 = S 40 0 10)
      exact hk z12 (by omega)
    refine And.intro (fun (h13 : w = (8 : Int)) => ?_) (fun (h13 : w ≠ (8 : Int)) => ?_)
    ·
      intro z14 (z14a : (0 : Int) ≤ z14) (z14b : z14 ≤ (40 : Int)) (z14c : z14 = S 13 0 10)
      exact hk z14 (by omega)
    refine And.intro (fun (h15 : w = (9 : Int)) => ?_) (fun (h15 : w ≠ (9 : Int)) => ?_)
    ·
      intro z16 (z16a : (0 : Int) ≤ z16) (z16b : z16 ≤ (200 : Int)) (z16c : z16 = S 13 0 6)
      exact hk z16 (by omega)
    refine And.intro (fun (h17 : w = (10 : Int)) => ?_) (fun (h17 : w ≠ (10 : Int)) => ?_)
    ·
      intro z18 (z18a : (-2147483648 : Int) ≤ z18) (z18b : z18 ≤ (2147483647 : Int)) (z18c : z18 = S 13 0 7)
      exact hk z18 (by omega)
    refine And.intro (fun (h19 : w = (11 : Int)) => ?_) (fun (h19 : w ≠ (11 : Int)) => ?_)
    ·
      intro z20 (z20a : (0 : Int) ≤ z20) (z20b : z20 ≤ (1 : Int)) (z20c : z20 = S 44 0 6)
      refine And.intro (fun (h21 : (z20 = (0 : Int) : Prop)) => ?_) (fun (h21 : (z20 ≠ (0 : Int) : Prop)) => ?_)
      ·
        exact hk (0 : Int) (by omega)
      ·
        exact hk (1 : Int) (by omega)
    refine And.intro (fun (h22 : w = (12 : Int)) => ?_) (fun (h22 : w ≠ (12 : Int)) => ?_)
    ·
      intro z23 (z23a : (0 : Int) ≤ z23) (z23b : z23 ≤ (1 : Int)) (z23c : z23 = S 44 0 7)
      refine And.intro (fun (h24 : (z23 = (0 : Int) : Prop)) => ?_) (fun (h24 : (z23 ≠ (0 : Int) : Prop)) => ?_)
      ·
        exact hk (0 : Int) (by omega)
      ·
        exact hk (1 : Int) (by omega)
    refine And.intro (fun (h25 : w = (13 : Int)) => ?_) (fun (h25 : w ≠ (13 : Int)) => ?_)
    ·
      intro z26 (z26a : (-1 : Int) ≤ z26) (z26b : z26 ≤ (5 : Int)) (z26c : z26 = S 38 0 12)
      refine And.intro (fun (h27 : ((0 : Int) ≤ z26 : Prop)) => ?_) (fun (h27 : (z26 < (0 : Int) : Prop)) => ?_)
      ·
        intro z28 (z28a : (-1 : Int) ≤ z28) (z28b : z28 ≤ (5 : Int)) (z28c : z28 = S 38 0 12)
        exact hk z28 (by omega)
      ·
        exact hk (-2 : Int) (by omega)
    refine And.intro (fun (h29 : w = (14 : Int)) => ?_) (fun (h29 : w ≠ (14 : Int)) => ?_)
    ·
      intro z30 (z30a : (0 : Int) ≤ z30) (z30b : z30 ≤ (1 : Int)) (z30c : z30 = S 0 0 10)
      refine And.intro (fun (h31 : (z30 = (0 : Int) : Prop)) => ?_) (fun (h31 : (z30 ≠ (0 : Int) : Prop)) => ?_)
      ·
        exact hk (0 : Int) (by omega)
      ·
        exact hk (1 : Int) (by omega)
    refine And.intro (fun (h32 : w = (15 : Int)) => ?_) (fun (h32 : w ≠ (15 : Int)) => ?_)
    ·
      intro z33 (z33a : (0 : Int) ≤ z33) (z33b : z33 ≤ (256 : Int)) (z33c : z33 = S 0 0 9)
      exact hk z33 (by omega)
    refine And.intro (fun (h34 : w = (16 : Int)) => ?_) (fun (h34 : w ≠ (16 : Int)) => ?_)
    ·
      intro z35 (z35a : (-2147483648 : Int) ≤ z35) (z35b : z35 ≤ (2147483647 : Int)) (z35c : z35 = S 2 0 2)
      exact hk z35 (by omega)
    refine And.intro (fun (h36 : w = (17 : Int)) => ?_) (fun (h36 : w ≠ (17 : Int)) => ?_)
    ·
      intro z37 (z37a : (-2147483648 : Int) ≤ z37) (z37b : z37 ≤ (2147483647 : Int)) (z37c : z37 = S 26 0 2)
      exact hk z37 (by omega)
    refine And.intro (fun (h38 : w = (18 : Int)) => ?_) (fun (h38 : w ≠ (18 : Int)) => ?_)
    ·
      intro z39 (z39a : (0 : Int) ≤ z39) (z39b : z39 ≤ (1 : Int)) (z39c : z39 = S 0 0 10)
      refine And.intro (fun (h40 : (z39 = (0 : Int) : Prop)) => ?_) (fun (h40 : (z39 ≠ (0 : Int) : Prop)) => ?_)
      ·
        refine c_Tree_count (n := (2 : Int)) (show -2147483648 ≤ (2 : Int) ∧ (2 : Int) < 2147483648 by omega) (fun (z41 : Int) (q42 : 0 ≤ z41 ∧ z41 ≤ 60) => ?_)
        refine c_Tree_count (n := (1 : Int)) (show -2147483648 ≤ (1 : Int) ∧ (1 : Int) < 2147483648 by omega) (fun (z43 : Int) (q44 : 0 ≤ z43 ∧ z43 ≤ 60) => ?_)
        refine And.intro (show -2147483648 ≤ (z41 + z43) ∧ (z41 + z43) < 2147483648 by omega) ?_
        exact hk (z41 + z43) (by omega)
      ·
        exact hk (0 : Int) (by omega)
    refine And.intro (fun (h45 : w = (19 : Int)) => ?_) (fun (h45 : w ≠ (19 : Int)) => ?_)
    ·
      intro z46 (z46a : (-2147483648 : Int) ≤ z46) (z46b : z46 ≤ (2147483647 : Int)) (z46c : z46 = S 2 0 3)
      exact hk z46 (by omega)
    exact hk (-1 : Int) (by omega)
  ·
    refine And.intro (fun (h47 : ((5 : Int) < w : Prop)) => ?_) (fun (h47 : (w ≤ (5 : Int) : Prop)) => ?_)
    ·
      refine And.intro (fun (h48 : w = (0 : Int)) => ?_) (fun (h48 : w ≠ (0 : Int)) => ?_)
      ·
        intro z49 (z49a : (-2147483648 : Int) ≤ z49) (z49b : z49 ≤ (2147483647 : Int)) (z49c : z49 = S 2 0 1)
        exact hk z49 (by omega)
      refine And.intro (fun (h50 : w = (1 : Int)) => ?_) (fun (h50 : w ≠ (1 : Int)) => ?_)
      ·
        exact hk (-1 : Int) (by omega)
      refine And.intro (fun (h51 : w = (2 : Int)) => ?_) (fun (h51 : w ≠ (2 : Int)) => ?_)
      ·
        exact hk (-1 : Int) (by omega)
      refine And.intro (fun (h52 : w = (3 : Int)) => ?_) (fun (h52 : w ≠ (3 : Int)) => ?_)
      ·
        exact hk (-1 : Int) (by omega)
      refine And.intro (fun (h53 : w = (4 : Int)) => ?_) (fun (h53 : w ≠ (4 : Int)) => ?_)
      ·
        exact hk (-1 : Int) (by omega)
      refine And.intro (fun (h54 : w = (5 : Int)) => ?_) (fun (h54 : w ≠ (5 : Int)) => ?_)
      ·
        exact hk (-1 : Int) (by omega)
      refine And.intro (fun (h55 : w = (6 : Int)) => ?_) (fun (h55 : w ≠ (6 : Int)) => ?_)
      ·
        intro z56 (z56a : (0 : Int) ≤ z56) (z56b : z56 ≤ (60 : Int)) (z56c : z56 = S 24 0 4)
        exact hk z56 (by omega)
      refine And.intro (fun (h57 : w = (7 : Int)) => ?_) (fun (h57 : w ≠ (7 : Int)) => ?_)
      ·
        intro z58 (z58a : (0 : Int) ≤ z58) (z58b : z58 ≤ (20 : Int)) (z58c : z58 = S 40 0 10)
        exact hk z58 (by omega)
      refine And.intro (fun (h59 : w = (8 : Int)) => ?_) (fun (h59 : w ≠ (8 : Int)) => ?_)
      ·
        intro z60 (z60a : (0 : Int) ≤ z60) (z60b : z60 ≤ (40 : Int)) (z60c : z60 = S 13 0 10)
        exact hk z60 (by omega)
      refine And.intro (fun (h61 : w = (9 : Int)) => ?_) (fun (h61 : w ≠ (9 : Int)) => ?_)
      ·
        intro z62 (z62a : (0 : Int) ≤ z62) (z62b : z62 ≤ (200 : Int)) (z62c : z62 = S 13 0 6)
        exact hk z62 (by omega)
      refine And.intro (fun (h63 : w = (10 : Int)) => ?_) (fun (h63 : w ≠ (10 : Int)) => ?_)
      ·
        intro z64 (z64a : (-2147483648 : Int) ≤ z64) (z64b : z64 ≤ (2147483647 : Int)) (z64c : z64 = S 13 0 7)
        exact hk z64 (by omega)
      refine And.intro (fun (h65 : w = (11 : Int)) => ?_) (fun (h65 : w ≠ (11 : Int)) => ?_)
      ·
        intro z66 (z66a : (0 : Int) ≤ z66) (z66b : z66 ≤ (1 : Int)) (z66c : z66 = S 44 0 6)
        refine And.intro (fun (h67 : (z66 = (0 : Int) : Prop)) => ?_) (fun (h67 : (z66 ≠ (0 : Int) : Prop)) => ?_)
        ·
          exact hk (0 : Int) (by omega)
        ·
          exact hk (1 : Int) (by omega)
      refine And.intro (fun (h68 : w = (12 : Int)) => ?_) (fun (h68 : w ≠ (12 : Int)) => ?_)
      ·
        intro z69 (z69a : (0 : Int) ≤ z69) (z69b : z69 ≤ (1 : Int)) (z69c : z69 = S 44 0 7)
        refine And.intro (fun (h70 : (z69 = (0 : Int) : Prop)) => ?_) (fun (h70 : (z69 ≠ (0 : Int) : Prop)) => ?_)
        ·
          exact hk (0 : Int) (by omega)
        ·
          exact hk (1 : Int) (by omega)
      refine And.intro (fun (h71 : w = (13 : Int)) => ?_) (fun (h71 : w ≠ (13 : Int)) => ?_)
      ·
        intro z72 (z72a : (-1 : Int) ≤ z72) (z72b : z72 ≤ (5 : Int)) (z72c : z72 = S 38 0 12)
        refine And.intro (fun (h73 : ((0 : Int) ≤ z72 : Prop)) => ?_) (fun (h73 : (z72 < (0 : Int) : Prop)) => ?_)
        ·
          intro z74 (z74a : (-1 : Int) ≤ z74) (z74b : z74 ≤ (5 : Int)) (z74c : z74 = S 38 0 12)
          exact hk z74 (by omega)
        ·
          exact hk (-2 : Int) (by omega)
      refine And.intro (fun (h75 : w = (14 : Int)) => ?_) (fun (h75 : w ≠ (14 : Int)) => ?_)
      ·
        intro z76 (z76a : (0 : Int) ≤ z76) (z76b : z76 ≤ (1 : Int)) (z76c : z76 = S 0 0 10)
        refine And.intro (fun (h77 : (z76 = (0 : Int) : Prop)) => ?_) (fun (h77 : (z76 ≠ (0 : Int) : Prop)) => ?_)
        ·
          exact hk (0 : Int) (by omega)
        ·
          exact hk (1 : Int) (by omega)
      refine And.intro (fun (h78 : w = (15 : Int)) => ?_) (fun (h78 : w ≠ (15 : Int)) => ?_)
      ·
        intro z79 (z79a : (0 : Int) ≤ z79) (z79b : z79 ≤ (256 : Int)) (z79c : z79 = S 0 0 9)
        exact hk z79 (by omega)
      refine And.intro (fun (h80 : w = (16 : Int)) => ?_) (fun (h80 : w ≠ (16 : Int)) => ?_)
      ·
        intro z81 (z81a : (-2147483648 : Int) ≤ z81) (z81b : z81 ≤ (2147483647 : Int)) (z81c : z81 = S 2 0 2)
        exact hk z81 (by omega)
      refine And.intro (fun (h82 : w = (17 : Int)) => ?_) (fun (h82 : w ≠ (17 : Int)) => ?_)
      ·
        intro z83 (z83a : (-2147483648 : Int) ≤ z83) (z83b : z83 ≤ (2147483647 : Int)) (z83c : z83 = S 26 0 2)
        exact hk z83 (by omega)
      refine And.intro (fun (h84 : w = (18 : Int)) => ?_) (fun (h84 : w ≠ (18 : Int)) => ?_)
      ·
        intro z85 (z85a : (0 : Int) ≤ z85) (z85b : z85 ≤ (1 : Int)) (z85c : z85 = S 0 0 10)
        refine And.intro (fun (h86 : (z85 = (0 : Int) : Prop)) => ?_) (fun (h86 : (z85 ≠ (0 : Int) : Prop)) => ?_)
        ·
          refine c_Tree_count (n := (2 : Int)) (show -2147483648 ≤ (2 : Int) ∧ (2 : Int) < 2147483648 by omega) (fun (z87 : Int) (q88 : 0 ≤ z87 ∧ z87 ≤ 60) => ?_)
          refine c_Tree_count (n := (1 : Int)) (show -2147483648 ≤ (1 : Int) ∧ (1 : Int) < 2147483648 by omega) (fun (z89 : Int) (q90 : 0 ≤ z89 ∧ z89 ≤ 60) => ?_)
          refine And.intro (show -2147483648 ≤ (z87 + z89) ∧ (z87 + z89) < 2147483648 by omega) ?_
          exact hk (z87 + z89) (by omega)
        ·
          exact hk (0 : Int) (by omega)
      refine And.intro (fun (h91 : w = (19 : Int)) => ?_) (fun (h91 : w ≠ (19 : Int)) => ?_)
      ·
        intro z92 (z92a : (-2147483648 : Int) ≤ z92) (z92b : z92 ≤ (2147483647 : Int)) (z92c : z92 = S 2 0 3)
        exact hk z92 (by omega)
      exact hk (-1 : Int) (by omega)
    ·
      intro z93 (z93a : (0 : Int) ≤ z93) (z93b : z93 ≤ (1 : Int)) (z93c : z93 = S 0 0 10)
      refine And.intro (fun (h94 : (z93 = (0 : Int) : Prop)) => ?_) (fun (h94 : (z93 ≠ (0 : Int) : Prop)) => ?_)
      ·
        refine c_StubHouse_toldOfStores (w := w) (show -2147483648 ≤ w ∧ w < 2147483648 by omega) (fun (z95 : Int) (q96 : -2147483648 ≤ z95 ∧ z95 < 2147483648) => ?_)
        exact hk z95 (by omega)
      ·
        exact hk (0 : Int) (by omega)
theorem c_StubHouse_drive {l : Launch} {k : fxK} {S : fxS} {d : Int} {w : Int} (p0 : -2147483648 ≤ d ∧ d < 2147483648) (p1 : -2147483648 ≤ w ∧ w < 2147483648) (hk : ∀ (r : Int) , (-2147483648 ≤ r ∧ r < 2147483648) → k (some (.inl r)) S) : fC l 294 [.inr (.inr (0, 0)), .inl d, .inl w] S k := by
  refine fxe_294 (Nat.le_of_ble_eq_true rfl) (fxz_294 400 ?_)
  refine And.intro (fun (h1 : (d < (0 : Int) : Prop)) => ?_) (fun (h1 : ((0 : Int) ≤ d : Prop)) => ?_)
  ·
    exact hk (-1 : Int) (by omega)
  ·
    refine And.intro (fun (h2 : (d ≤ (1 : Int) : Prop)) => ?_) (fun (h2 : ((1 : Int) < d : Prop)) => ?_)
    ·
      refine And.intro (fun (h3 : (d ≠ (0 : Int) : Prop)) => ?_) (fun (h3 : (d = (0 : Int) : Prop)) => ?_)
      ·
        refine And.intro (by decide) ?_
        refine And.intro (fun (h4 : w = (0 : Int)) => ?_) (fun (h4 : w ≠ (0 : Int)) => ?_)
        ·
          intro z5 (z5a : (-1 : Int) ≤ z5) (z5b : z5 ≤ (5 : Int)) (z5c : z5 = S 38 0 0)
          refine And.intro (fun (h6 : ((0 : Int) ≤ z5 : Prop)) => ?_) (fun (h6 : (z5 < (0 : Int) : Prop)) => ?_)
          ·
            intro z7 (z7a : (-1 : Int) ≤ z7) (z7b : z7 ≤ (5 : Int)) (z7c : z7 = S 38 0 0)
            exact hk z7 (by omega)
          ·
            exact hk (-2 : Int) (by omega)
        refine And.intro (fun (h8 : w = (1 : Int)) => ?_) (fun (h8 : w ≠ (1 : Int)) => ?_)
        ·
          intro z9 (z9a : (0 : Int) ≤ z9) (z9b : z9 ≤ (7100 : Int)) (z9c : z9 = S 38 0 1)
          exact hk z9 (by omega)
        refine And.intro (fun (h10 : w = (2 : Int)) => ?_) (fun (h10 : w ≠ (2 : Int)) => ?_)
        ·
          intro z11 (z11a : (0 : Int) ≤ z11) (z11b : z11 ≤ (5 : Int)) (z11c : z11 = S 38 0 2)
          exact hk z11 (by omega)
        refine And.intro (fun (h12 : w = (3 : Int)) => ?_) (fun (h12 : w ≠ (3 : Int)) => ?_)
        ·
          intro z13 (z13a : (-2147483648 : Int) ≤ z13) (z13b : z13 ≤ (2147483647 : Int)) (z13c : z13 = S 38 0 3)
          exact hk z13 (by omega)
        exact hk (-1 : Int) (by omega)
      ·
        refine And.intro (by decide) ?_
        refine And.intro (fun (h14 : w = (0 : Int)) => ?_) (fun (h14 : w ≠ (0 : Int)) => ?_)
        ·
          intro z15 (z15a : (-1 : Int) ≤ z15) (z15b : z15 ≤ (5 : Int)) (z15c : z15 = S 40 0 0)
          refine And.intro (fun (h16 : ((0 : Int) ≤ z15 : Prop)) => ?_) (fun (h16 : (z15 < (0 : Int) : Prop)) => ?_)
          ·
            intro z17 (z17a : (-1 : Int) ≤ z17) (z17b : z17 ≤ (5 : Int)) (z17c : z17 = S 40 0 0)
            exact hk z17 (by omega)
          ·
            exact hk (-2 : Int) (by omega)
        refine And.intro (fun (h18 : w = (1 : Int)) => ?_) (fun (h18 : w ≠ (1 : Int)) => ?_)
        ·
          intro z19 (z19a : (0 : Int) ≤ z19) (z19b : z19 ≤ (7100 : Int)) (z19c : z19 = S 40 0 1)
          exact hk z19 (by omega)
        refine And.intro (fun (h20 : w = (2 : Int)) => ?_) (fun (h20 : w ≠ (2 : Int)) => ?_)
        ·
          intro z21 (z21a : (0 : Int) ≤ z21) (z21b : z21 ≤ (5 : Int)) (z21c : z21 = S 40 0 2)
          exact hk z21 (by omega)
        refine And.intro (fun (h22 : w = (3 : Int)) => ?_) (fun (h22 : w ≠ (3 : Int)) => ?_)
        ·
          intro z23 (z23a : (-2147483648 : Int) ≤ z23) (z23b : z23 ≤ (2147483647 : Int)) (z23c : z23 = S 40 0 3)
          exact hk z23 (by omega)
        exact hk (-1 : Int) (by omega)
    ·
      exact hk (-1 : Int) (by omega)
