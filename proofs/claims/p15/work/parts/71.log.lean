/-! contracts: log, stores, nodes of the class -/
theorem z_Stores_freeHeld {l : Launch} {k : fxK} {S : fxS}   (hk : ∀ (S' : fxS) , (fxfr [(8, 4), (10, 9999), (11, 9999)] S S') → k none S') : ∀ m : Nat, (∀ (b : Int) (S1 : fxS), (fxfr [(8, 4), (10, 9999), (11, 9999)] S S1) → (0 ≤ b ∧ b ≤ 208) → 209 - b ≤ (m : Int) → fZ l 5 k 2 [some (.inr (.inr (8, 0))), some (.inl b)] [] S1) := by
  intro m
  induction m with
  | zero =>
    intro b S1 hf i0 hmu
    exfalso
    omega
  | succ m ih =>
    intro b S1 hf i0 hmu
    refine fxz_5 400 ?_
    refine And.intro (fun (h1 : ((208 : Int) ≤ b : Prop)) => ?_) (fun (h1 : (b < (208 : Int) : Prop)) => ?_)
    ·
      exact hk S1 hf
    ·
      intro z2 (z2a : (-2147483648 : Int) ≤ z2) (z2b : z2 ≤ (2147483647 : Int)) (z2c : z2 = S1 8 0 4)
      refine And.intro (fun (h3 : (z2 ≤ (0 : Int) : Prop)) => ?_) (fun (h3 : ((0 : Int) < z2 : Prop)) => ?_)
      ·
        exact hk S1 hf
      ·
        refine And.intro (show 0 ≤ b ∧ b < 208 by omega) ?_
        intro z4 (z4a : (0 : Int) ≤ z4) (z4b : z4 ≤ (2 : Int)) (z4c : z4 = S1 10 0 (b).toNat)
        refine And.intro (fun (h5 : (z4 ≠ (2 : Int) : Prop)) => ?_) (fun (h5 : (z4 = (2 : Int) : Prop)) => ?_)
        ·
          refine And.intro (by decide) (And.intro (show -2147483648 ≤ b + (1 : Int) ∧ b + (1 : Int) < 2147483648 by omega) ?_)
          exact ih (b + (1 : Int)) S1 hf (by omega) (by omega)
        ·
          refine And.intro (show 0 ≤ b ∧ b < 208 by omega) ?_
          refine And.intro (show (0 : Int) ≤ (0 : Int) ∧ (0 : Int) ≤ (2 : Int) by omega) ?_
          refine And.intro (fun (h7 : ((48 : Int) ≤ b : Prop)) => ?_) (fun (h7 : (b < (48 : Int) : Prop)) => ?_)
          ·
            refine And.intro (show 0 ≤ (1 : Int) ∧ (1 : Int) < 2 by omega) ?_
            intro z8 (z8a : (-2147483648 : Int) ≤ z8) (z8b : z8 ≤ (2147483647 : Int)) (z8c : z8 = (fx_up S1 10 0 (b).toNat (0 : Int)) 11 0 ((1 : Int)).toNat)
            intro z9 (z9a : -2147483648 ≤ z9) (z9b : z9 < 2147483648) (z9c : -2147483648 ≤ (z8 + (1 : Int)) ∧ (z8 + (1 : Int)) < 2147483648 → z9 = (z8 + (1 : Int)))
            refine And.intro (show 0 ≤ (1 : Int) ∧ (1 : Int) < 2 by omega) ?_
            refine And.intro (show (-2147483648 : Int) ≤ z9 ∧ z9 ≤ (2147483647 : Int) by omega) ?_
            intro z10 (z10a : (-2147483648 : Int) ≤ z10) (z10b : z10 ≤ (2147483647 : Int)) (z10c : z10 = (fx_up (fx_up S1 10 0 (b).toNat (0 : Int)) 11 0 ((1 : Int)).toNat z9) 8 0 4)
            intro z11 (z11a : -2147483648 ≤ z11) (z11b : z11 < 2147483648) (z11c : -2147483648 ≤ (z10 - (1 : Int)) ∧ (z10 - (1 : Int)) < 2147483648 → z11 = (z10 - (1 : Int)))
            refine And.intro (show (-2147483648 : Int) ≤ z11 ∧ z11 ≤ (2147483647 : Int) by omega) ?_
            refine And.intro (by decide) (And.intro (show -2147483648 ≤ b + (1 : Int) ∧ b + (1 : Int) < 2147483648 by omega) ?_)
            exact ih (b + (1 : Int)) (fx_up (fx_up (fx_up S1 10 0 (b).toNat (0 : Int)) 11 0 ((1 : Int)).toNat z9) 8 0 4 z11) (fxfr_up (fxfr_up (fxfr_up hf rfl) rfl) rfl) (by omega) (by omega)
          ·
            refine And.intro (show 0 ≤ (0 : Int) ∧ (0 : Int) < 2 by omega) ?_
            intro z13 (z13a : (-2147483648 : Int) ≤ z13) (z13b : z13 ≤ (2147483647 : Int)) (z13c : z13 = (fx_up S1 10 0 (b).toNat (0 : Int)) 11 0 ((0 : Int)).toNat)
            intro z14 (z14a : -2147483648 ≤ z14) (z14b : z14 < 2147483648) (z14c : -2147483648 ≤ (z13 + (1 : Int)) ∧ (z13 + (1 : Int)) < 2147483648 → z14 = (z13 + (1 : Int)))
            refine And.intro (show 0 ≤ (0 : Int) ∧ (0 : Int) < 2 by omega) ?_
            refine And.intro (show (-2147483648 : Int) ≤ z14 ∧ z14 ≤ (2147483647 : Int) by omega) ?_
            intro z15 (z15a : (-2147483648 : Int) ≤ z15) (z15b : z15 ≤ (2147483647 : Int)) (z15c : z15 = (fx_up (fx_up S1 10 0 (b).toNat (0 : Int)) 11 0 ((0 : Int)).toNat z14) 8 0 4)
            intro z16 (z16a : -2147483648 ≤ z16) (z16b : z16 < 2147483648) (z16c : -2147483648 ≤ (z15 - (1 : Int)) ∧ (z15 - (1 : Int)) < 2147483648 → z16 = (z15 - (1 : Int)))
            refine And.intro (show (-2147483648 : Int) ≤ z16 ∧ z16 ≤ (2147483647 : Int) by omega) ?_
            refine And.intro (by decide) (And.intro (show -2147483648 ≤ b + (1 : Int) ∧ b + (1 : Int) < 2147483648 by omega) ?_)
            exact ih (b + (1 : Int)) (fx_up (fx_up (fx_up S1 10 0 (b).toNat (0 : Int)) 11 0 ((0 : Int)).toNat z14) 8 0 4 z16) (fxfr_up (fxfr_up (fxfr_up hf rfl) rfl) rfl) (by omega) (by omega)
theorem c_Stores_freeHeld {l : Launch} {k : fxK} {S : fxS}   (hk : ∀ (S' : fxS) , (fxfr [(8, 4), (10, 9999), (11, 9999)] S S') → k none S') : fC l 5 [.inr (.inr (8, 0))] S k := by
  refine fxe_5 (Nat.le_of_ble_eq_true rfl) (fxz_5 400 ?_)
  refine And.intro (by decide) ?_
  exact (z_Stores_freeHeld  hk (209 - (0 : Int)).toNat) (0 : Int) S fxfr_rfl (by omega) (by omega)
theorem z_Log_keepAll {l : Launch} {k : fxK} {S : fxS}   (hk : ∀ (r : Int) (S' : fxS) , (fxfr [(8, 4), (10, 9999), (11, 9999), (13, 6), (13, 7), (19, 9999)] S S' ∧ (-2147483648 ≤ r ∧ r < 2147483648 ∧ (S' 13 0 6 = 0))) → k (some (.inl r)) S') : ∀ m : Nat, (∀ (kp j : Int) (S1 : fxS), (fxfr [(8, 4), (10, 9999), (11, 9999), (13, 6), (13, 7), (19, 9999)] S S1) → (0 ≤ j ∧ j ≤ 40) → (S1 13 0 6 = 0) → (0 ≤ kp ∧ kp ≤ 200) → 41 - j ≤ (m : Int) → fZ l 6 k 17 [some (.inr (.inr (13, 0))), some (.inl kp), some (.inl j)] [] S1) := by
  intro m
  induction m with
  | zero =>
    intro kp j S1 hf i0 i1 i2 hmu
    exfalso
    omega
  | succ m ih =>
    intro kp j S1 hf i0 i1 i2 hmu
    refine fxz_6 400 ?_
    intro z1 (z1a : (0 : Int) ≤ z1) (z1b : z1 ≤ (40 : Int)) (z1c : z1 = S1 13 0 10)
    refine And.intro (fun (h2 : (z1 ≤ j : Prop)) => ?_) (fun (h2 : (j < z1 : Prop)) => ?_)
    ·
      refine c_Stores_freeHeld   (fun (S3 : fxS) (f4 : fxfr [(8, 4), (10, 9999), (11, 9999)] S1 S3) => ?_)
      have w5 : S3 13 0 6 = S1 13 0 6 := f4 13 0 6 rfl
      exact hk kp S3 ⟨(fxfr_tr hf f4 rfl), by omega⟩
    ·
      refine And.intro (show 0 ≤ j ∧ j < 40 by omega) ?_
      refine And.intro (show (0 : Int) ≤ (1 : Int) ∧ (1 : Int) ≤ (1 : Int) by omega) ?_
      have w6 : (fx_up S1 19 0 (j).toNat (1 : Int)) 13 0 6 = S1 13 0 6 := rfl
      refine And.intro (by decide) (And.intro (show -2147483648 ≤ j + (1 : Int) ∧ j + (1 : Int) < 2147483648 by omega) ?_)
      exact ih kp (j + (1 : Int)) (fx_up S1 19 0 (j).toNat (1 : Int)) (fxfr_up hf rfl) (by omega) (by omega) (by omega) (by omega)
theorem c_Log_keepAll {l : Launch} {k : fxK} {S : fxS}   (hk : ∀ (r : Int) (S' : fxS) , (fxfr [(8, 4), (10, 9999), (11, 9999), (13, 6), (13, 7), (19, 9999)] S S' ∧ (-2147483648 ≤ r ∧ r < 2147483648 ∧ (S' 13 0 6 = 0))) → k (some (.inl r)) S') : fC l 6 [.inr (.inr (13, 0))] S k := by
  refine fxe_6 (Nat.le_of_ble_eq_true rfl) (fxz_6 400 ?_)
  intro z8 (z8a : (0 : Int) ≤ z8) (z8b : z8 ≤ (200 : Int)) (z8c : z8 = S 13 0 6)
  refine And.intro (by decide) ?_
  refine And.intro (show (0 : Int) ≤ (0 : Int) ∧ (0 : Int) ≤ (200 : Int) by omega) ?_
  have w9 : (fx_up S 13 0 6 (0 : Int)) 13 0 6 = (0 : Int) := fx_up_at _ _ _ _ _
  refine And.intro (show (-2147483648 : Int) ≤ (0 : Int) ∧ (0 : Int) ≤ (2147483647 : Int) by omega) ?_
  have w10 : (fx_up (fx_up S 13 0 6 (0 : Int)) 13 0 7 (0 : Int)) 13 0 6 = (fx_up S 13 0 6 (0 : Int)) 13 0 6 := if_neg (fun q => absurd q.2.2 (by decide))
  refine And.intro (by decide) ?_
  exact (z_Log_keepAll  hk (41 - (0 : Int)).toNat) z8 (0 : Int) (fx_up (fx_up S 13 0 6 (0 : Int)) 13 0 7 (0 : Int)) (fxfr_up (fxfr_up fxfr_rfl rfl) rfl) (by omega) (by omega) (by omega) (by omega)
theorem c_Node_become20 {l : Launch} {k : fxK} {S : fxS} {i : Nat} {j : Nat}  (hk : ∀ (S' : fxS) , (fxfr [(20, 0), (20, 1), (20, 3), (20, 4), (20, 5), (20, 6), (20, 7), (20, 11), (20, 12), (21, 9999), (22, 9999), (23, 9999)] S S') → k none S') : fC l 7 [.inr (.inr (20, i)), .inr (.inr (4, j))] S k := by
  refine fxe_7 (Nat.le_of_ble_eq_true rfl) (fxz_7 400 ?_)
  intro z1 (z1a : (0 : Int) ≤ z1) (z1b : z1 ≤ (2 : Int)) (z1c : z1 = S 4 j 0)
  refine And.intro (show (0 : Int) ≤ z1 ∧ z1 ≤ (2 : Int) by omega) ?_
  intro z2 (z2a : (0 : Int) ≤ z2) (z2b : z2 ≤ (59 : Int)) (z2c : z2 = (fx_up S 20 i 0 z1) 4 j 1)
  refine And.intro (show (0 : Int) ≤ z2 ∧ z2 ≤ (59 : Int) by omega) ?_
  intro z3
  intro z4 (z4a : (-2147483648 : Int) ≤ z4) (z4b : z4 ≤ (2147483647 : Int)) (z4c : z4 = (fx_up (fx_up S 20 i 0 z1) 20 i 1 z2) 4 j 3)
  refine And.intro (show (-2147483648 : Int) ≤ z4 ∧ z4 ≤ (2147483647 : Int) by omega) ?_
  intro z5 (z5a : (0 : Int) ≤ z5) (z5b : z5 ≤ (1024 : Int)) (z5c : z5 = (fx_up (fx_up (fx_up S 20 i 0 z1) 20 i 1 z2) 20 i 3 z4) 4 j 4)
  refine And.intro (show (0 : Int) ≤ z5 ∧ z5 ≤ (1024 : Int) by omega) ?_
  intro z6 (z6a : (-2147483648 : Int) ≤ z6) (z6b : z6 ≤ (2147483647 : Int)) (z6c : z6 = (fx_up (fx_up (fx_up (fx_up S 20 i 0 z1) 20 i 1 z2) 20 i 3 z4) 20 i 4 z5) 4 j 5)
  refine And.intro (show (-2147483648 : Int) ≤ z6 ∧ z6 ≤ (2147483647 : Int) by omega) ?_
  intro z7 (z7a : (-2147483648 : Int) ≤ z7) (z7b : z7 ≤ (2147483647 : Int)) (z7c : z7 = (fx_up (fx_up (fx_up (fx_up (fx_up S 20 i 0 z1) 20 i 1 z2) 20 i 3 z4) 20 i 4 z5) 20 i 5 z6) 4 j 6)
  refine And.intro (show (-2147483648 : Int) ≤ z7 ∧ z7 ≤ (2147483647 : Int) by omega) ?_
  intro z8 (z8a : (0 : Int) ≤ z8) (z8b : z8 ≤ (2 : Int)) (z8c : z8 = (fx_up (fx_up (fx_up (fx_up (fx_up (fx_up S 20 i 0 z1) 20 i 1 z2) 20 i 3 z4) 20 i 4 z5) 20 i 5 z6) 20 i 6 z7) 4 j 7)
  refine And.intro (show (0 : Int) ≤ z8 ∧ z8 ≤ (2 : Int) by omega) ?_
  refine And.intro (show ((0 : Int) ≤ (0 : Int) ∧ (5 : Int) ≤ (5 : Int) : Prop) by omega) (And.intro (show (0 ≤ (0 : Int) ∧ 0 ≤ (0 : Int)) ∧ (0 ≤ (2 : Int) ∧ (0 : Int) + (2 : Int) ≤ (2 : Int) ∧ (0 : Int) + (2 : Int) ≤ (2 : Int)) by omega) ?_)
  refine And.intro (show ((0 : Int) ≤ (0 : Int) ∧ (6000 : Int) ≤ (6000 : Int) : Prop) by omega) (And.intro (show (0 ≤ (0 : Int) ∧ 0 ≤ (0 : Int)) ∧ (0 ≤ (2 : Int) ∧ (0 : Int) + (2 : Int) ≤ (2 : Int) ∧ (0 : Int) + (2 : Int) ≤ (2 : Int)) by omega) ?_)
  refine And.intro (show ((-1 : Int) ≤ (-1 : Int) ∧ (207 : Int) ≤ (207 : Int) : Prop) by omega) (And.intro (show (0 ≤ (0 : Int) ∧ 0 ≤ (0 : Int)) ∧ (0 ≤ (32 : Int) ∧ (0 : Int) + (32 : Int) ≤ (32 : Int) ∧ (0 : Int) + (32 : Int) ≤ (32 : Int)) by omega) ?_)
  intro z9 (z9a : (-2147483648 : Int) ≤ z9) (z9b : z9 ≤ (2147483647 : Int)) (z9c : z9 = (fx_cpy (fx_cpy (fx_cpy (fx_up (fx_up (fx_up (fx_up (fx_up (fx_up (fx_up S 20 i 0 z1) 20 i 1 z2) 20 i 3 z4) 20 i 4 z5) 20 i 5 z6) 20 i 6 z7) 20 i 7 z8) 21 i (0 : Int) (2 : Int) 5 j (0 : Int)) 22 i (0 : Int) (2 : Int) 6 j (0 : Int)) 23 i (0 : Int) (32 : Int) 7 j (0 : Int)) 4 j 11)
  refine And.intro (show (-2147483648 : Int) ≤ z9 ∧ z9 ≤ (2147483647 : Int) by omega) ?_
  intro z10 (z10a : (-2147483648 : Int) ≤ z10) (z10b : z10 ≤ (2147483647 : Int)) (z10c : z10 = (fx_up (fx_cpy (fx_cpy (fx_cpy (fx_up (fx_up (fx_up (fx_up (fx_up (fx_up (fx_up S 20 i 0 z1) 20 i 1 z2) 20 i 3 z4) 20 i 4 z5) 20 i 5 z6) 20 i 6 z7) 20 i 7 z8) 21 i (0 : Int) (2 : Int) 5 j (0 : Int)) 22 i (0 : Int) (2 : Int) 6 j (0 : Int)) 23 i (0 : Int) (32 : Int) 7 j (0 : Int)) 20 i 11 z9) 4 j 12)
  refine And.intro (show (-2147483648 : Int) ≤ z10 ∧ z10 ≤ (2147483647 : Int) by omega) ?_
  exact hk (fx_up (fx_up (fx_cpy (fx_cpy (fx_cpy (fx_up (fx_up (fx_up (fx_up (fx_up (fx_up (fx_up S 20 i 0 z1) 20 i 1 z2) 20 i 3 z4) 20 i 4 z5) 20 i 5 z6) 20 i 6 z7) 20 i 7 z8) 21 i (0 : Int) (2 : Int) 5 j (0 : Int)) 22 i (0 : Int) (2 : Int) 6 j (0 : Int)) 23 i (0 : Int) (32 : Int) 7 j (0 : Int)) 20 i 11 z9) 20 i 12 z10) (fxfr_up (fxfr_up (fxfr_cpy (fxfr_cpy (fxfr_cpy (fxfr_up (fxfr_up (fxfr_up (fxfr_up (fxfr_up (fxfr_up (fxfr_up fxfr_rfl rfl) rfl) rfl) rfl) rfl) rfl) rfl) (fun _ => rfl)) (fun _ => rfl)) (fun _ => rfl)) rfl) rfl)
theorem c_Node_become4 {l : Launch} {k : fxK} {S : fxS} {i : Nat} {j : Nat}  (hk : ∀ (S' : fxS) , (fxfr [(4, 0), (4, 1), (4, 3), (4, 4), (4, 5), (4, 6), (4, 7), (4, 11), (4, 12), (5, 9999), (6, 9999), (7, 9999)] S S') → k none S') : fC l 7 [.inr (.inr (4, i)), .inr (.inr (20, j))] S k := by
  refine fxe_7 (Nat.le_of_ble_eq_true rfl) (fxz_7 400 ?_)
  intro z1 (z1a : (0 : Int) ≤ z1) (z1b : z1 ≤ (2 : Int)) (z1c : z1 = S 20 j 0)
  refine And.intro (show (0 : Int) ≤ z1 ∧ z1 ≤ (2 : Int) by omega) ?_
  intro z2 (z2a : (0 : Int) ≤ z2) (z2b : z2 ≤ (59 : Int)) (z2c : z2 = (fx_up S 4 i 0 z1) 20 j 1)
  refine And.intro (show (0 : Int) ≤ z2 ∧ z2 ≤ (59 : Int) by omega) ?_
  intro z3
  intro z4 (z4a : (-2147483648 : Int) ≤ z4) (z4b : z4 ≤ (2147483647 : Int)) (z4c : z4 = (fx_up (fx_up S 4 i 0 z1) 4 i 1 z2) 20 j 3)
  refine And.intro (show (-2147483648 : Int) ≤ z4 ∧ z4 ≤ (2147483647 : Int) by omega) ?_
  intro z5 (z5a : (0 : Int) ≤ z5) (z5b : z5 ≤ (1024 : Int)) (z5c : z5 = (fx_up (fx_up (fx_up S 4 i 0 z1) 4 i 1 z2) 4 i 3 z4) 20 j 4)
  refine And.intro (show (0 : Int) ≤ z5 ∧ z5 ≤ (1024 : Int) by omega) ?_
  intro z6 (z6a : (-2147483648 : Int) ≤ z6) (z6b : z6 ≤ (2147483647 : Int)) (z6c : z6 = (fx_up (fx_up (fx_up (fx_up S 4 i 0 z1) 4 i 1 z2) 4 i 3 z4) 4 i 4 z5) 20 j 5)
  refine And.intro (show (-2147483648 : Int) ≤ z6 ∧ z6 ≤ (2147483647 : Int) by omega) ?_
  intro z7 (z7a : (-2147483648 : Int) ≤ z7) (z7b : z7 ≤ (2147483647 : Int)) (z7c : z7 = (fx_up (fx_up (fx_up (fx_up (fx_up S 4 i 0 z1) 4 i 1 z2) 4 i 3 z4) 4 i 4 z5) 4 i 5 z6) 20 j 6)
  refine And.intro (show (-2147483648 : Int) ≤ z7 ∧ z7 ≤ (2147483647 : Int) by omega) ?_
  intro z8 (z8a : (0 : Int) ≤ z8) (z8b : z8 ≤ (2 : Int)) (z8c : z8 = (fx_up (fx_up (fx_up (fx_up (fx_up (fx_up S 4 i 0 z1) 4 i 1 z2) 4 i 3 z4) 4 i 4 z5) 4 i 5 z6) 4 i 6 z7) 20 j 7)
  refine And.intro (show (0 : Int) ≤ z8 ∧ z8 ≤ (2 : Int) by omega) ?_
  refine And.intro (show ((0 : Int) ≤ (0 : Int) ∧ (5 : Int) ≤ (5 : Int) : Prop) by omega) (And.intro (show (0 ≤ (0 : Int) ∧ 0 ≤ (0 : Int)) ∧ (0 ≤ (2 : Int) ∧ (0 : Int) + (2 : Int) ≤ (2 : Int) ∧ (0 : Int) + (2 : Int) ≤ (2 : Int)) by omega) ?_)
  refine And.intro (show ((0 : Int) ≤ (0 : Int) ∧ (6000 : Int) ≤ (6000 : Int) : Prop) by omega) (And.intro (show (0 ≤ (0 : Int) ∧ 0 ≤ (0 : Int)) ∧ (0 ≤ (2 : Int) ∧ (0 : Int) + (2 : Int) ≤ (2 : Int) ∧ (0 : Int) + (2 : Int) ≤ (2 : Int)) by omega) ?_)
  refine And.intro (show ((-1 : Int) ≤ (-1 : Int) ∧ (207 : Int) ≤ (207 : Int) : Prop) by omega) (And.intro (show (0 ≤ (0 : Int) ∧ 0 ≤ (0 : Int)) ∧ (0 ≤ (32 : Int) ∧ (0 : Int) + (32 : Int) ≤ (32 : Int) ∧ (0 : Int) + (32 : Int) ≤ (32 : Int)) by omega) ?_)
  intro z9 (z9a : (-2147483648 : Int) ≤ z9) (z9b : z9 ≤ (2147483647 : Int)) (z9c : z9 = (fx_cpy (fx_cpy (fx_cpy (fx_up (fx_up (fx_up (fx_up (fx_up (fx_up (fx_up S 4 i 0 z1) 4 i 1 z2) 4 i 3 z4) 4 i 4 z5) 4 i 5 z6) 4 i 6 z7) 4 i 7 z8) 5 i (0 : Int) (2 : Int) 21 j (0 : Int)) 6 i (0 : Int) (2 : Int) 22 j (0 : Int)) 7 i (0 : Int) (32 : Int) 23 j (0 : Int)) 20 j 11)
  refine And.intro (show (-2147483648 : Int) ≤ z9 ∧ z9 ≤ (2147483647 : Int) by omega) ?_
  intro z10 (z10a : (-2147483648 : Int) ≤ z10) (z10b : z10 ≤ (2147483647 : Int)) (z10c : z10 = (fx_up (fx_cpy (fx_cpy (fx_cpy (fx_up (fx_up (fx_up (fx_up (fx_up (fx_up (fx_up S 4 i 0 z1) 4 i 1 z2) 4 i 3 z4) 4 i 4 z5) 4 i 5 z6) 4 i 6 z7) 4 i 7 z8) 5 i (0 : Int) (2 : Int) 21 j (0 : Int)) 6 i (0 : Int) (2 : Int) 22 j (0 : Int)) 7 i (0 : Int) (32 : Int) 23 j (0 : Int)) 4 i 11 z9) 20 j 12)
  refine And.intro (show (-2147483648 : Int) ≤ z10 ∧ z10 ≤ (2147483647 : Int) by omega) ?_
  exact hk (fx_up (fx_up (fx_cpy (fx_cpy (fx_cpy (fx_up (fx_up (fx_up (fx_up (fx_up (fx_up (fx_up S 4 i 0 z1) 4 i 1 z2) 4 i 3 z4) 4 i 4 z5) 4 i 5 z6) 4 i 6 z7) 4 i 7 z8) 5 i (0 : Int) (2 : Int) 21 j (0 : Int)) 6 i (0 : Int) (2 : Int) 22 j (0 : Int)) 7 i (0 : Int) (32 : Int) 23 j (0 : Int)) 4 i 11 z9) 4 i 12 z10) (fxfr_up (fxfr_up (fxfr_cpy (fxfr_cpy (fxfr_cpy (fxfr_up (fxfr_up (fxfr_up (fxfr_up (fxfr_up (fxfr_up (fxfr_up fxfr_rfl rfl) rfl) rfl) rfl) rfl) rfl) rfl) (fun _ => rfl)) (fun _ => rfl)) (fun _ => rfl)) rfl) rfl)
theorem z_Log_deletePlace {l : Launch} {k : fxK} {S : fxS} {d : Int} (p0 : -2147483648 ≤ d ∧ d < 2147483648) (hk : ∀ (r : Int) , (0 ≤ r ∧ r ≤ S 13 0 10 ∧ r ≤ 40) → k (some (.inl r)) S) : ∀ m : Nat, (∀ (a : Int), (0 ≤ a ∧ a ≤ 40 ∧ (a = 0 ∨ a ≤ S 13 0 10)) → 41 - a ≤ (m : Int) → fZ l 8 k 2 [some (.inr (.inr (13, 0))), some (.inl d), some (.inl a)] [] S) := by
  intro m
  induction m with
  | zero =>
    intro a  i0 hmu
    exfalso
    omega
  | succ m ih =>
    intro a  i0 hmu
    refine fxz_8 400 ?_
    intro z1 (z1a : (0 : Int) ≤ z1) (z1b : z1 ≤ (40 : Int)) (z1c : z1 = S 13 0 10)
    refine And.intro (fun (h2 : (z1 ≤ a : Prop)) => ?_) (fun (h2 : (a < z1 : Prop)) => ?_)
    ·
      exact hk a (by omega)
    ·
      refine And.intro (show 0 ≤ a ∧ a < 40 by omega) ?_
      intro z3 (z3a : (-2147483648 : Int) ≤ z3) (z3b : z3 ≤ (2147483647 : Int)) (z3c : z3 = S 18 0 (a).toNat)
      refine And.intro (fun (h4 : (d ≤ z3 : Prop)) => ?_) (fun (h4 : (z3 < d : Prop)) => ?_)
      ·
        exact hk a (by omega)
      ·
        refine And.intro (by decide) (And.intro (show -2147483648 ≤ a + (1 : Int) ∧ a + (1 : Int) < 2147483648 by omega) ?_)
        exact ih (a + (1 : Int))  (by omega) (by omega)
theorem c_Log_deletePlace {l : Launch} {k : fxK} {S : fxS} {d : Int} (p0 : -2147483648 ≤ d ∧ d < 2147483648) (hk : ∀ (r : Int) , (0 ≤ r ∧ r ≤ S 13 0 10 ∧ r ≤ 40) → k (some (.inl r)) S) : fC l 8 [.inr (.inr (13, 0)), .inl d] S k := by
  refine fxe_8 (Nat.le_of_ble_eq_true rfl) (fxz_8 400 ?_)
  refine And.intro (by decide) ?_
  exact (z_Log_deletePlace p0 hk (41 - (0 : Int)).toNat) (0 : Int)  (by omega) (by omega)
theorem z_Log_noteDelete {l : Launch} {k : fxK} {S : fxS} {d : Int} (p0 : -2147483648 ≤ d ∧ d < 2147483648) (hk : ∀ (S' : fxS) , (fxfr [(13, 10), (18, 9999), (19, 9999)] S S') → k none S') : ∀ m : Nat, (∀ (t j : Int) (S1 : fxS), (fxfr [(13, 10), (18, 9999), (19, 9999)] S S1) → (0 ≤ t ∧ t ≤ j ∧ j ≤ 39) → (0 ≤ S1 13 0 10 ∧ S1 13 0 10 ≤ 39) → j+1 ≤ (m : Int) → fZ l 9 k 21 [some (.inr (.inr (13, 0))), some (.inl d), some (.inl t), some (.inl j)] [] S1) := by
  intro m
  induction m with
  | zero =>
    intro t j S1 hf i0 i1 hmu
    exfalso
    omega
  | succ m ih =>
    intro t j S1 hf i0 i1 hmu
    refine fxz_9 400 ?_
    refine And.intro (fun (h1 : (j ≤ t : Prop)) => ?_) (fun (h1 : (t < j : Prop)) => ?_)
    ·
      refine And.intro (show 0 ≤ t ∧ t < 40 by omega) ?_
      refine And.intro (show (-2147483648 : Int) ≤ d ∧ d ≤ (2147483647 : Int) by omega) ?_
      have w2 : (fx_up S1 18 0 (t).toNat d) 13 0 10 = S1 13 0 10 := rfl
      refine And.intro (show 0 ≤ t ∧ t < 40 by omega) ?_
      refine And.intro (show (0 : Int) ≤ (0 : Int) ∧ (0 : Int) ≤ (1 : Int) by omega) ?_
      have w3 : (fx_up (fx_up S1 18 0 (t).toNat d) 19 0 (t).toNat (0 : Int)) 13 0 10 = (fx_up S1 18 0 (t).toNat d) 13 0 10 := rfl
      intro z4 (z4a : (0 : Int) ≤ z4) (z4b : z4 ≤ (40 : Int)) (z4c : z4 = (fx_up (fx_up S1 18 0 (t).toNat d) 19 0 (t).toNat (0 : Int)) 13 0 10)
      refine And.intro (show -2147483648 ≤ (z4 + (1 : Int)) ∧ (z4 + (1 : Int)) < 2147483648 by omega) ?_
      refine And.intro (show (0 : Int) ≤ (z4 + (1 : Int)) ∧ (z4 + (1 : Int)) ≤ (40 : Int) by omega) ?_
      have w5 : (fx_up (fx_up (fx_up S1 18 0 (t).toNat d) 19 0 (t).toNat (0 : Int)) 13 0 10 (z4 + (1 : Int))) 13 0 10 = (z4 + (1 : Int)) := fx_up_at _ _ _ _ _
      exact hk (fx_up (fx_up (fx_up S1 18 0 (t).toNat d) 19 0 (t).toNat (0 : Int)) 13 0 10 (z4 + (1 : Int))) (fxfr_up (fxfr_up (fxfr_up hf rfl) rfl) rfl)
    ·
      refine And.intro (show -2147483648 ≤ (j - (1 : Int)) ∧ (j - (1 : Int)) < 2147483648 by omega) ?_
      refine And.intro (show 0 ≤ (j - (1 : Int)) ∧ (j - (1 : Int)) < 40 by omega) ?_
      intro z6 (z6a : (-2147483648 : Int) ≤ z6) (z6b : z6 ≤ (2147483647 : Int)) (z6c : z6 = S1 18 0 ((j - (1 : Int))).toNat)
      refine And.intro (show 0 ≤ j ∧ j < 40 by omega) ?_
      refine And.intro (show (-2147483648 : Int) ≤ z6 ∧ z6 ≤ (2147483647 : Int) by omega) ?_
      have w7 : (fx_up S1 18 0 (j).toNat z6) 13 0 10 = S1 13 0 10 := rfl
      refine And.intro (show -2147483648 ≤ (j - (1 : Int)) ∧ (j - (1 : Int)) < 2147483648 by omega) ?_
      refine And.intro (show 0 ≤ (j - (1 : Int)) ∧ (j - (1 : Int)) < 40 by omega) ?_
      intro z8 (z8a : (0 : Int) ≤ z8) (z8b : z8 ≤ (1 : Int)) (z8c : z8 = (fx_up S1 18 0 (j).toNat z6) 19 0 ((j - (1 : Int))).toNat)
      refine And.intro (show 0 ≤ j ∧ j < 40 by omega) ?_
      refine And.intro (show (0 : Int) ≤ z8 ∧ z8 ≤ (1 : Int) by omega) ?_
      have w9 : (fx_up (fx_up S1 18 0 (j).toNat z6) 19 0 (j).toNat z8) 13 0 10 = (fx_up S1 18 0 (j).toNat z6) 13 0 10 := rfl
      refine And.intro (by decide) (And.intro (show -2147483648 ≤ j + (-1 : Int) ∧ j + (-1 : Int) < 2147483648 by omega) ?_)
      exact ih t (j + (-1 : Int)) (fx_up (fx_up S1 18 0 (j).toNat z6) 19 0 (j).toNat z8) (fxfr_up (fxfr_up hf rfl) rfl) (by omega) (by omega) (by omega)
theorem c_Log_noteDelete {l : Launch} {k : fxK} {S : fxS} {d : Int} (p0 : -2147483648 ≤ d ∧ d < 2147483648) (hk : ∀ (S' : fxS) , (fxfr [(13, 10), (18, 9999), (19, 9999)] S S') → k none S') : fC l 9 [.inr (.inr (13, 0)), .inl d] S k := by
  refine fxe_9 (Nat.le_of_ble_eq_true rfl) (fxz_9 400 ?_)
  intro z11 (z11a : (0 : Int) ≤ z11) (z11b : z11 ≤ (40 : Int)) (z11c : z11 = S 13 0 10)
  refine And.intro (fun (h12 : (z11 < (40 : Int) : Prop)) => ?_) (fun (h12 : ((40 : Int) ≤ z11 : Prop)) => ?_)
  ·
    refine c_Log_deletePlace (d := d) (show -2147483648 ≤ d ∧ d < 2147483648 by omega) (fun (z13 : Int) (q14 : 0 ≤ z13 ∧ z13 ≤ S 13 0 10 ∧ z13 ≤ 40) => ?_)
    refine And.intro (by decide) ?_
    intro z15 (z15a : (0 : Int) ≤ z15) (z15b : z15 ≤ (40 : Int)) (z15c : z15 = S 13 0 10)
    refine And.intro (by decide) ?_
    exact (z_Log_noteDelete p0 hk (z15+1).toNat) z13 z15 S fxfr_rfl (by omega) (by omega) (by omega)
  ·
    exact hk S fxfr_rfl
theorem z_Log_forgetDelete {l : Launch} {k : fxK} {S : fxS} {d : Int} (p0 : -2147483648 ≤ d ∧ d < 2147483648) (hk : ∀ (S' : fxS) , (fxfr [(13, 10), (18, 9999), (19, 9999)] S S') → k none S') : ∀ m : Nat, (∀ (j : Int) (S1 : fxS), (fxfr [(13, 10), (18, 9999), (19, 9999)] S S1) → (0 ≤ j ∧ j ≤ 39) → (1 ≤ S1 13 0 10 ∧ S1 13 0 10 ≤ 40) → 41-j ≤ (m : Int) → fZ l 10 k 27 [some (.inr (.inr (13, 0))), none, none, some (.inl j)] [] S1) := by
  intro m
  induction m with
  | zero =>
    intro j S1 hf i0 i1 hmu
    exfalso
    omega
  | succ m ih =>
    intro j S1 hf i0 i1 hmu
    refine fxz_10 400 ?_
    refine And.intro (show -2147483648 ≤ (j + (1 : Int)) ∧ (j + (1 : Int)) < 2147483648 by omega) ?_
    intro z1 (z1a : (0 : Int) ≤ z1) (z1b : z1 ≤ (40 : Int)) (z1c : z1 = S1 13 0 10)
    refine And.intro (fun (h2 : (z1 ≤ (j + (1 : Int)) : Prop)) => ?_) (fun (h2 : ((j + (1 : Int)) < z1 : Prop)) => ?_)
    ·
      intro z3 (z3a : (0 : Int) ≤ z3) (z3b : z3 ≤ (40 : Int)) (z3c : z3 = S1 13 0 10)
      refine And.intro (show -2147483648 ≤ (z3 - (1 : Int)) ∧ (z3 - (1 : Int)) < 2147483648 by omega) ?_
      refine And.intro (show (0 : Int) ≤ (z3 - (1 : Int)) ∧ (z3 - (1 : Int)) ≤ (40 : Int) by omega) ?_
      have w4 : (fx_up S1 13 0 10 (z3 - (1 : Int))) 13 0 10 = (z3 - (1 : Int)) := fx_up_at _ _ _ _ _
      exact hk (fx_up S1 13 0 10 (z3 - (1 : Int))) (fxfr_up hf rfl)
    ·
      refine And.intro (show -2147483648 ≤ (j + (1 : Int)) ∧ (j + (1 : Int)) < 2147483648 by omega) ?_
      refine And.intro (show 0 ≤ (j + (1 : Int)) ∧ (j + (1 : Int)) < 40 by omega) ?_
      intro z5 (z5a : (-2147483648 : Int) ≤ z5) (z5b : z5 ≤ (2147483647 : Int)) (z5c : z5 = S1 18 0 ((j + (1 : Int))).toNat)
      refine And.intro (show 0 ≤ j ∧ j < 40 by omega) ?_
      refine And.intro (show (-2147483648 : Int) ≤ z5 ∧ z5 ≤ (2147483647 : Int) by omega) ?_
      have w6 : (fx_up S1 18 0 (j).toNat z5) 13 0 10 = S1 13 0 10 := rfl
      refine And.intro (show -2147483648 ≤ (j + (1 : Int)) ∧ (j + (1 : Int)) < 2147483648 by omega) ?_
      refine And.intro (show 0 ≤ (j + (1 : Int)) ∧ (j + (1 : Int)) < 40 by omega) ?_
      intro z7 (z7a : (0 : Int) ≤ z7) (z7b : z7 ≤ (1 : Int)) (z7c : z7 = (fx_up S1 18 0 (j).toNat z5) 19 0 ((j + (1 : Int))).toNat)
      refine And.intro (show 0 ≤ j ∧ j < 40 by omega) ?_
      refine And.intro (show (0 : Int) ≤ z7 ∧ z7 ≤ (1 : Int) by omega) ?_
      have w8 : (fx_up (fx_up S1 18 0 (j).toNat z5) 19 0 (j).toNat z7) 13 0 10 = (fx_up S1 18 0 (j).toNat z5) 13 0 10 := rfl
      refine And.intro (by decide) (And.intro (show -2147483648 ≤ j + (1 : Int) ∧ j + (1 : Int) < 2147483648 by omega) ?_)
      exact ih (j + (1 : Int)) (fx_up (fx_up S1 18 0 (j).toNat z5) 19 0 (j).toNat z7) (fxfr_up (fxfr_up hf rfl) rfl) (by omega) (by omega) (by omega)
theorem c_Log_forgetDelete {l : Launch} {k : fxK} {S : fxS} {d : Int} (p0 : -2147483648 ≤ d ∧ d < 2147483648) (hk : ∀ (S' : fxS) , (fxfr [(13, 10), (18, 9999), (19, 9999)] S S') → k none S') : fC l 10 [.inr (.inr (13, 0)), .inl d] S k := by
  refine fxe_10 (Nat.le_of_ble_eq_true rfl) (fxz_10 400 ?_)
  refine c_Log_deletePlace (d := d) (show -2147483648 ≤ d ∧ d < 2147483648 by omega) (fun (z10 : Int) (q11 : 0 ≤ z10 ∧ z10 ≤ S 13 0 10 ∧ z10 ≤ 40) => ?_)
  refine And.intro (by decide) ?_
  intro z12 (z12a : (0 : Int) ≤ z12) (z12b : z12 ≤ (40 : Int)) (z12c : z12 = S 13 0 10)
  refine And.intro (fun (h13 : (z12 ≤ z10 : Prop)) => ?_) (fun (h13 : (z10 < z12 : Prop)) => ?_)
  ·
    exact hk S fxfr_rfl
  ·
    refine And.intro (show 0 ≤ z10 ∧ z10 < 40 by omega) ?_
    intro z14 (z14a : (-2147483648 : Int) ≤ z14) (z14b : z14 ≤ (2147483647 : Int)) (z14c : z14 = S 18 0 (z10).toNat)
    refine And.intro (fun (h15 : (z14 = d : Prop)) => ?_) (fun (h15 : (z14 ≠ d : Prop)) => ?_)
    ·
      refine And.intro (by decide) ?_
      exact (z_Log_forgetDelete p0 hk (41-z10).toNat) z10 S fxfr_rfl (by omega) (by omega) (by omega)
    ·
      exact hk S fxfr_rfl
theorem c_Log_add {l : Launch} {k : fxK} {S : fxS} {n : Int} {e : Int} {d : Int} (p0 : -1 ≤ n ∧ n < 60) (p1 : -2147483648 ≤ e ∧ e < 2147483648) (p2 : -2147483648 ≤ d ∧ d < 2147483648) (hk : ∀ (S' : fxS) , (fxfr [(8, 4), (10, 9999), (11, 9999), (13, 6), (13, 7), (13, 10), (15, 9999), (16, 9999), (17, 9999), (18, 9999), (19, 9999), (20, 0), (20, 1), (20, 3), (20, 4), (20, 5), (20, 6), (20, 7), (20, 11), (20, 12), (21, 9999), (22, 9999), (23, 9999)] S S') → k none S') : fC l 11 [.inr (.inr (13, 0)), .inl n, .inl e, .inl d] S k := by
  refine fxe_11 (Nat.le_of_ble_eq_true rfl) (fxz_11 400 ?_)
  intro z1 (z1a : (0 : Int) ≤ z1) (z1b : z1 ≤ (200 : Int)) (z1c : z1 = S 13 0 6)
  refine And.intro (fun (h2 : (z1 < (200 : Int) : Prop)) => ?_) (fun (h2 : ((200 : Int) ≤ z1 : Prop)) => ?_)
  ·
    refine And.intro (fun (h3 : (n < (0 : Int) : Prop)) => ?_) (fun (h3 : ((0 : Int) ≤ n : Prop)) => ?_)
    ·
      intro z4 (z4a : (0 : Int) ≤ z4) (z4b : z4 ≤ (200 : Int)) (z4c : z4 = S 13 0 6)
      refine And.intro (show 0 ≤ z4 ∧ z4 < 200 by omega) ?_
      refine And.intro (show (-1 : Int) ≤ n ∧ n ≤ (59 : Int) by omega) ?_
      have w5 : (fx_up S 15 0 (z4).toNat n) 13 0 6 = S 13 0 6 := rfl
      intro z6 (z6a : (0 : Int) ≤ z6) (z6b : z6 ≤ (200 : Int)) (z6c : z6 = (fx_up S 15 0 (z4).toNat n) 13 0 6)
      refine And.intro (show 0 ≤ z6 ∧ z6 < 200 by omega) ?_
      refine And.intro (show (-2147483648 : Int) ≤ e ∧ e ≤ (2147483647 : Int) by omega) ?_
      have w7 : (fx_up (fx_up S 15 0 (z4).toNat n) 16 0 (z6).toNat e) 13 0 6 = (fx_up S 15 0 (z4).toNat n) 13 0 6 := rfl
      intro z8 (z8a : (0 : Int) ≤ z8) (z8b : z8 ≤ (200 : Int)) (z8c : z8 = (fx_up (fx_up S 15 0 (z4).toNat n) 16 0 (z6).toNat e) 13 0 6)
      refine And.intro (show 0 ≤ z8 ∧ z8 < 200 by omega) ?_
      refine And.intro (show (-2147483648 : Int) ≤ d ∧ d ≤ (2147483647 : Int) by omega) ?_
      have w9 : (fx_up (fx_up (fx_up S 15 0 (z4).toNat n) 16 0 (z6).toNat e) 17 0 (z8).toNat d) 13 0 6 = (fx_up (fx_up S 15 0 (z4).toNat n) 16 0 (z6).toNat e) 13 0 6 := rfl
      intro z10 (z10a : (0 : Int) ≤ z10) (z10b : z10 ≤ (200 : Int)) (z10c : z10 = (fx_up (fx_up (fx_up S 15 0 (z4).toNat n) 16 0 (z6).toNat e) 17 0 (z8).toNat d) 13 0 6)
      refine And.intro (show -2147483648 ≤ (z10 + (1 : Int)) ∧ (z10 + (1 : Int)) < 2147483648 by omega) ?_
      refine And.intro (show (0 : Int) ≤ (z10 + (1 : Int)) ∧ (z10 + (1 : Int)) ≤ (200 : Int) by omega) ?_
      have w11 : (fx_up (fx_up (fx_up (fx_up S 15 0 (z4).toNat n) 16 0 (z6).toNat e) 17 0 (z8).toNat d) 13 0 6 (z10 + (1 : Int))) 13 0 6 = (z10 + (1 : Int)) := fx_up_at _ _ _ _ _
      intro z12 (z12a : (-2147483648 : Int) ≤ z12) (z12b : z12 ≤ (2147483647 : Int)) (z12c : z12 = (fx_up (fx_up (fx_up (fx_up S 15 0 (z4).toNat n) 16 0 (z6).toNat e) 17 0 (z8).toNat d) 13 0 6 (z10 + (1 : Int))) 13 0 7)
      intro z13 (z13a : -2147483648 ≤ z13) (z13b : z13 < 2147483648) (z13c : -2147483648 ≤ (z12 + e) ∧ (z12 + e) < 2147483648 → z13 = (z12 + e))
      refine And.intro (show (-2147483648 : Int) ≤ z13 ∧ z13 ≤ (2147483647 : Int) by omega) ?_
      have w14 : (fx_up (fx_up (fx_up (fx_up (fx_up S 15 0 (z4).toNat n) 16 0 (z6).toNat e) 17 0 (z8).toNat d) 13 0 6 (z10 + (1 : Int))) 13 0 7 z13) 13 0 6 = (fx_up (fx_up (fx_up (fx_up S 15 0 (z4).toNat n) 16 0 (z6).toNat e) 17 0 (z8).toNat d) 13 0 6 (z10 + (1 : Int))) 13 0 6 := if_neg (fun q => absurd q.2.2 (by decide))
      refine And.intro (fun (h15 : (d ≤ (0 : Int) : Prop)) => ?_) (fun (h15 : ((0 : Int) < d : Prop)) => ?_)
      ·
        refine And.intro (fun (h16 : ((0 : Int) ≤ d : Prop)) => ?_) (fun (h16 : (d < (0 : Int) : Prop)) => ?_)
        ·
          exact hk (fx_up (fx_up (fx_up (fx_up (fx_up S 15 0 (z4).toNat n) 16 0 (z6).toNat e) 17 0 (z8).toNat d) 13 0 6 (z10 + (1 : Int))) 13 0 7 z13) (fxfr_up (fxfr_up (fxfr_up (fxfr_up (fxfr_up fxfr_rfl rfl) rfl) rfl) rfl) rfl)
        ·
          intro z17 z17a z17b z17c
          refine c_Log_forgetDelete (d := z17) (show -2147483648 ≤ z17 ∧ z17 < 2147483648 by omega) (fun (S18 : fxS) (f19 : fxfr [(13, 10), (18, 9999), (19, 9999)] (fx_up (fx_up (fx_up (fx_up (fx_up S 15 0 (z4).toNat n) 16 0 (z6).toNat e) 17 0 (z8).toNat d) 13 0 6 (z10 + (1 : Int))) 13 0 7 z13) S18) => ?_)
          have w20 : S18 13 0 6 = (fx_up (fx_up (fx_up (fx_up (fx_up S 15 0 (z4).toNat n) 16 0 (z6).toNat e) 17 0 (z8).toNat d) 13 0 6 (z10 + (1 : Int))) 13 0 7 z13) 13 0 6 := f19 13 0 6 rfl
          exact hk S18 (fxfr_tr (fxfr_up (fxfr_up (fxfr_up (fxfr_up (fxfr_up fxfr_rfl rfl) rfl) rfl) rfl) rfl) f19 rfl)
      ·
        refine c_Log_noteDelete (d := d) (show -2147483648 ≤ d ∧ d < 2147483648 by omega) (fun (S21 : fxS) (f22 : fxfr [(13, 10), (18, 9999), (19, 9999)] (fx_up (fx_up (fx_up (fx_up (fx_up S 15 0 (z4).toNat n) 16 0 (z6).toNat e) 17 0 (z8).toNat d) 13 0 6 (z10 + (1 : Int))) 13 0 7 z13) S21) => ?_)
        have w23 : S21 13 0 6 = (fx_up (fx_up (fx_up (fx_up (fx_up S 15 0 (z4).toNat n) 16 0 (z6).toNat e) 17 0 (z8).toNat d) 13 0 6 (z10 + (1 : Int))) 13 0 7 z13) 13 0 6 := f22 13 0 6 rfl
        refine And.intro (fun (h24 : ((0 : Int) ≤ d : Prop)) => ?_) (fun (h24 : (d < (0 : Int) : Prop)) => ?_)
        ·
          exact hk S21 (fxfr_tr (fxfr_up (fxfr_up (fxfr_up (fxfr_up (fxfr_up fxfr_rfl rfl) rfl) rfl) rfl) rfl) f22 rfl)
        ·
          intro z25 z25a z25b z25c
          refine c_Log_forgetDelete (d := z25) (show -2147483648 ≤ z25 ∧ z25 < 2147483648 by omega) (fun (S26 : fxS) (f27 : fxfr [(13, 10), (18, 9999), (19, 9999)] S21 S26) => ?_)
          have w28 : S26 13 0 6 = S21 13 0 6 := f27 13 0 6 rfl
          exact hk S26 (fxfr_tr (fxfr_tr (fxfr_up (fxfr_up (fxfr_up (fxfr_up (fxfr_up fxfr_rfl rfl) rfl) rfl) rfl) rfl) f22 rfl) f27 rfl)
    ·
      intro z29 (z29a : (0 : Int) ≤ z29) (z29b : z29 ≤ (200 : Int)) (z29c : z29 = S 13 0 6)
      refine And.intro (show 0 ≤ z29 ∧ z29 < 200 by omega) ?_
      refine And.intro (show 0 ≤ n ∧ n < 60 by omega) ?_
      refine c_Node_become20 (i := (z29).toNat) (j := (n).toNat)  (fun (S30 : fxS) (f31 : fxfr [(20, 0), (20, 1), (20, 3), (20, 4), (20, 5), (20, 6), (20, 7), (20, 11), (20, 12), (21, 9999), (22, 9999), (23, 9999)] S S30) => ?_)
      have w32 : S30 13 0 6 = S 13 0 6 := f31 13 0 6 rfl
      intro z33 (z33a : (0 : Int) ≤ z33) (z33b : z33 ≤ (200 : Int)) (z33c : z33 = S30 13 0 6)
      refine And.intro (show 0 ≤ z33 ∧ z33 < 200 by omega) ?_
      refine And.intro (show (-1 : Int) ≤ n ∧ n ≤ (59 : Int) by omega) ?_
      have w34 : (fx_up S30 15 0 (z33).toNat n) 13 0 6 = S30 13 0 6 := rfl
      intro z35 (z35a : (0 : Int) ≤ z35) (z35b : z35 ≤ (200 : Int)) (z35c : z35 = (fx_up S30 15 0 (z33).toNat n) 13 0 6)
      refine And.intro (show 0 ≤ z35 ∧ z35 < 200 by omega) ?_
      refine And.intro (show (-2147483648 : Int) ≤ e ∧ e ≤ (2147483647 : Int) by omega) ?_
      have w36 : (fx_up (fx_up S30 15 0 (z33).toNat n) 16 0 (z35).toNat e) 13 0 6 = (fx_up S30 15 0 (z33).toNat n) 13 0 6 := rfl
      intro z37 (z37a : (0 : Int) ≤ z37) (z37b : z37 ≤ (200 : Int)) (z37c : z37 = (fx_up (fx_up S30 15 0 (z33).toNat n) 16 0 (z35).toNat e) 13 0 6)
      refine And.intro (show 0 ≤ z37 ∧ z37 < 200 by omega) ?_
      refine And.intro (show (-2147483648 : Int) ≤ d ∧ d ≤ (2147483647 : Int) by omega) ?_
      have w38 : (fx_up (fx_up (fx_up S30 15 0 (z33).toNat n) 16 0 (z35).toNat e) 17 0 (z37).toNat d) 13 0 6 = (fx_up (fx_up S30 15 0 (z33).toNat n) 16 0 (z35).toNat e) 13 0 6 := rfl
      intro z39 (z39a : (0 : Int) ≤ z39) (z39b : z39 ≤ (200 : Int)) (z39c : z39 = (fx_up (fx_up (fx_up S30 15 0 (z33).toNat n) 16 0 (z35).toNat e) 17 0 (z37).toNat d) 13 0 6)
      refine And.intro (show -2147483648 ≤ (z39 + (1 : Int)) ∧ (z39 + (1 : Int)) < 2147483648 by omega) ?_
      refine And.intro (show (0 : Int) ≤ (z39 + (1 : Int)) ∧ (z39 + (1 : Int)) ≤ (200 : Int) by omega) ?_
      have w40 : (fx_up (fx_up (fx_up (fx_up S30 15 0 (z33).toNat n) 16 0 (z35).toNat e) 17 0 (z37).toNat d) 13 0 6 (z39 + (1 : Int))) 13 0 6 = (z39 + (1 : Int)) := fx_up_at _ _ _ _ _
      intro z41 (z41a : (-2147483648 : Int) ≤ z41) (z41b : z41 ≤ (2147483647 : Int)) (z41c : z41 = (fx_up (fx_up (fx_up (fx_up S30 15 0 (z33).toNat n) 16 0 (z35).toNat e) 17 0 (z37).toNat d) 13 0 6 (z39 + (1 : Int))) 13 0 7)
      intro z42 (z42a : -2147483648 ≤ z42) (z42b : z42 < 2147483648) (z42c : -2147483648 ≤ (z41 + e) ∧ (z41 + e) < 2147483648 → z42 = (z41 + e))
      refine And.intro (show (-2147483648 : Int) ≤ z42 ∧ z42 ≤ (2147483647 : Int) by omega) ?_
      have w43 : (fx_up (fx_up (fx_up (fx_up (fx_up S30 15 0 (z33).toNat n) 16 0 (z35).toNat e) 17 0 (z37).toNat d) 13 0 6 (z39 + (1 : Int))) 13 0 7 z42) 13 0 6 = (fx_up (fx_up (fx_up (fx_up S30 15 0 (z33).toNat n) 16 0 (z35).toNat e) 17 0 (z37).toNat d) 13 0 6 (z39 + (1 : Int))) 13 0 6 := if_neg (fun q => absurd q.2.2 (by decide))
      refine And.intro (fun (h44 : (d ≤ (0 : Int) : Prop)) => ?_) (fun (h44 : ((0 : Int) < d : Prop)) => ?_)
      ·
        refine And.intro (fun (h45 : ((0 : Int) ≤ d : Prop)) => ?_) (fun (h45 : (d < (0 : Int) : Prop)) => ?_)
        ·
          exact hk (fx_up (fx_up (fx_up (fx_up (fx_up S30 15 0 (z33).toNat n) 16 0 (z35).toNat e) 17 0 (z37).toNat d) 13 0 6 (z39 + (1 : Int))) 13 0 7 z42) (fxfr_up (fxfr_up (fxfr_up (fxfr_up (fxfr_up (fxfr_tr fxfr_rfl f31 rfl) rfl) rfl) rfl) rfl) rfl)
        ·
          intro z46 z46a z46b z46c
          refine c_Log_forgetDelete (d := z46) (show -2147483648 ≤ z46 ∧ z46 < 2147483648 by omega) (fun (S47 : fxS) (f48 : fxfr [(13, 10), (18, 9999), (19, 9999)] (fx_up (fx_up (fx_up (fx_up (fx_up S30 15 0 (z33).toNat n) 16 0 (z35).toNat e) 17 0 (z37).toNat d) 13 0 6 (z39 + (1 : Int))) 13 0 7 z42) S47) => ?_)
          have w49 : S47 13 0 6 = (fx_up (fx_up (fx_up (fx_up (fx_up S30 15 0 (z33).toNat n) 16 0 (z35).toNat e) 17 0 (z37).toNat d) 13 0 6 (z39 + (1 : Int))) 13 0 7 z42) 13 0 6 := f48 13 0 6 rfl
          exact hk S47 (fxfr_tr (fxfr_up (fxfr_up (fxfr_up (fxfr_up (fxfr_up (fxfr_tr fxfr_rfl f31 rfl) rfl) rfl) rfl) rfl) rfl) f48 rfl)
      ·
        refine c_Log_noteDelete (d := d) (show -2147483648 ≤ d ∧ d < 2147483648 by omega) (fun (S50 : fxS) (f51 : fxfr [(13, 10), (18, 9999), (19, 9999)] (fx_up (fx_up (fx_up (fx_up (fx_up S30 15 0 (z33).toNat n) 16 0 (z35).toNat e) 17 0 (z37).toNat d) 13 0 6 (z39 + (1 : Int))) 13 0 7 z42) S50) => ?_)
        have w52 : S50 13 0 6 = (fx_up (fx_up (fx_up (fx_up (fx_up S30 15 0 (z33).toNat n) 16 0 (z35).toNat e) 17 0 (z37).toNat d) 13 0 6 (z39 + (1 : Int))) 13 0 7 z42) 13 0 6 := f51 13 0 6 rfl
        refine And.intro (fun (h53 : ((0 : Int) ≤ d : Prop)) => ?_) (fun (h53 : (d < (0 : Int) : Prop)) => ?_)
        ·
          exact hk S50 (fxfr_tr (fxfr_up (fxfr_up (fxfr_up (fxfr_up (fxfr_up (fxfr_tr fxfr_rfl f31 rfl) rfl) rfl) rfl) rfl) rfl) f51 rfl)
        ·
          intro z54 z54a z54b z54c
          refine c_Log_forgetDelete (d := z54) (show -2147483648 ≤ z54 ∧ z54 < 2147483648 by omega) (fun (S55 : fxS) (f56 : fxfr [(13, 10), (18, 9999), (19, 9999)] S50 S55) => ?_)
          have w57 : S55 13 0 6 = S50 13 0 6 := f56 13 0 6 rfl
          exact hk S55 (fxfr_tr (fxfr_tr (fxfr_up (fxfr_up (fxfr_up (fxfr_up (fxfr_up (fxfr_tr fxfr_rfl f31 rfl) rfl) rfl) rfl) rfl) rfl) f51 rfl) f56 rfl)
  ·
    refine c_Log_keepAll   (fun (z58 : Int) (S59 : fxS) ⟨(f60 : fxfr [(8, 4), (10, 9999), (11, 9999), (13, 6), (13, 7), (19, 9999)] S S59), (q61 : -2147483648 ≤ z58 ∧ z58 < 2147483648 ∧ (S59 13 0 6 = 0))⟩ => ?_)
    refine And.intro (fun (h62 : (n < (0 : Int) : Prop)) => ?_) (fun (h62 : ((0 : Int) ≤ n : Prop)) => ?_)
    ·
      intro z63 (z63a : (0 : Int) ≤ z63) (z63b : z63 ≤ (200 : Int)) (z63c : z63 = S59 13 0 6)
      refine And.intro (show 0 ≤ z63 ∧ z63 < 200 by omega) ?_
      refine And.intro (show (-1 : Int) ≤ n ∧ n ≤ (59 : Int) by omega) ?_
      have w64 : (fx_up S59 15 0 (z63).toNat n) 13 0 6 = S59 13 0 6 := rfl
      intro z65 (z65a : (0 : Int) ≤ z65) (z65b : z65 ≤ (200 : Int)) (z65c : z65 = (fx_up S59 15 0 (z63).toNat n) 13 0 6)
      refine And.intro (show 0 ≤ z65 ∧ z65 < 200 by omega) ?_
      refine And.intro (show (-2147483648 : Int) ≤ e ∧ e ≤ (2147483647 : Int) by omega) ?_
      have w66 : (fx_up (fx_up S59 15 0 (z63).toNat n) 16 0 (z65).toNat e) 13 0 6 = (fx_up S59 15 0 (z63).toNat n) 13 0 6 := rfl
      intro z67 (z67a : (0 : Int) ≤ z67) (z67b : z67 ≤ (200 : Int)) (z67c : z67 = (fx_up (fx_up S59 15 0 (z63).toNat n) 16 0 (z65).toNat e) 13 0 6)
      refine And.intro (show 0 ≤ z67 ∧ z67 < 200 by omega) ?_
      refine And.intro (show (-2147483648 : Int) ≤ d ∧ d ≤ (2147483647 : Int) by omega) ?_
      have w68 : (fx_up (fx_up (fx_up S59 15 0 (z63).toNat n) 16 0 (z65).toNat e) 17 0 (z67).toNat d) 13 0 6 = (fx_up (fx_up S59 15 0 (z63).toNat n) 16 0 (z65).toNat e) 13 0 6 := rfl
      intro z69 (z69a : (0 : Int) ≤ z69) (z69b : z69 ≤ (200 : Int)) (z69c : z69 = (fx_up (fx_up (fx_up S59 15 0 (z63).toNat n) 16 0 (z65).toNat e) 17 0 (z67).toNat d) 13 0 6)
      refine And.intro (show -2147483648 ≤ (z69 + (1 : Int)) ∧ (z69 + (1 : Int)) < 2147483648 by omega) ?_
      refine And.intro (show (0 : Int) ≤ (z69 + (1 : Int)) ∧ (z69 + (1 : Int)) ≤ (200 : Int) by omega) ?_
      have w70 : (fx_up (fx_up (fx_up (fx_up S59 15 0 (z63).toNat n) 16 0 (z65).toNat e) 17 0 (z67).toNat d) 13 0 6 (z69 + (1 : Int))) 13 0 6 = (z69 + (1 : Int)) := fx_up_at _ _ _ _ _
      intro z71 (z71a : (-2147483648 : Int) ≤ z71) (z71b : z71 ≤ (2147483647 : Int)) (z71c : z71 = (fx_up (fx_up (fx_up (fx_up S59 15 0 (z63).toNat n) 16 0 (z65).toNat e) 17 0 (z67).toNat d) 13 0 6 (z69 + (1 : Int))) 13 0 7)
      intro z72 (z72a : -2147483648 ≤ z72) (z72b : z72 < 2147483648) (z72c : -2147483648 ≤ (z71 + e) ∧ (z71 + e) < 2147483648 → z72 = (z71 + e))
      refine And.intro (show (-2147483648 : Int) ≤ z72 ∧ z72 ≤ (2147483647 : Int) by omega) ?_
      have w73 : (fx_up (fx_up (fx_up (fx_up (fx_up S59 15 0 (z63).toNat n) 16 0 (z65).toNat e) 17 0 (z67).toNat d) 13 0 6 (z69 + (1 : Int))) 13 0 7 z72) 13 0 6 = (fx_up (fx_up (fx_up (fx_up S59 15 0 (z63).toNat n) 16 0 (z65).toNat e) 17 0 (z67).toNat d) 13 0 6 (z69 + (1 : Int))) 13 0 6 := if_neg (fun q => absurd q.2.2 (by decide))
      refine And.intro (fun (h74 : (d ≤ (0 : Int) : Prop)) => ?_) (fun (h74 : ((0 : Int) < d : Prop)) => ?_)
      ·
        refine And.intro (fun (h75 : ((0 : Int) ≤ d : Prop)) => ?_) (fun (h75 : (d < (0 : Int) : Prop)) => ?_)
        ·
          exact hk (fx_up (fx_up (fx_up (fx_up (fx_up S59 15 0 (z63).toNat n) 16 0 (z65).toNat e) 17 0 (z67).toNat d) 13 0 6 (z69 + (1 : Int))) 13 0 7 z72) (fxfr_up (fxfr_up (fxfr_up (fxfr_up (fxfr_up (fxfr_tr fxfr_rfl f60 rfl) rfl) rfl) rfl) rfl) rfl)
        ·
          intro z76 z76a z76b z76c
          refine c_Log_forgetDelete (d := z76) (show -2147483648 ≤ z76 ∧ z76 < 2147483648 by omega) (fun (S77 : fxS) (f78 : fxfr [(13, 10), (18, 9999), (19, 9999)] (fx_up (fx_up (fx_up (fx_up (fx_up S59 15 0 (z63).toNat n) 16 0 (z65).toNat e) 17 0 (z67).toNat d) 13 0 6 (z69 + (1 : Int))) 13 0 7 z72) S77) => ?_)
          have w79 : S77 13 0 6 = (fx_up (fx_up (fx_up (fx_up (fx_up S59 15 0 (z63).toNat n) 16 0 (z65).toNat e) 17 0 (z67).toNat d) 13 0 6 (z69 + (1 : Int))) 13 0 7 z72) 13 0 6 := f78 13 0 6 rfl
          exact hk S77 (fxfr_tr (fxfr_up (fxfr_up (fxfr_up (fxfr_up (fxfr_up (fxfr_tr fxfr_rfl f60 rfl) rfl) rfl) rfl) rfl) rfl) f78 rfl)
      ·
        refine c_Log_noteDelete (d := d) (show -2147483648 ≤ d ∧ d < 2147483648 by omega) (fun (S80 : fxS) (f81 : fxfr [(13, 10), (18, 9999), (19, 9999)] (fx_up (fx_up (fx_up (fx_up (fx_up S59 15 0 (z63).toNat n) 16 0 (z65).toNat e) 17 0 (z67).toNat d) 13 0 6 (z69 + (1 : Int))) 13 0 7 z72) S80) => ?_)
        have w82 : S80 13 0 6 = (fx_up (fx_up (fx_up (fx_up (fx_up S59 15 0 (z63).toNat n) 16 0 (z65).toNat e) 17 0 (z67).toNat d) 13 0 6 (z69 + (1 : Int))) 13 0 7 z72) 13 0 6 := f81 13 0 6 rfl
        refine And.intro (fun (h83 : ((0 : Int) ≤ d : Prop)) => ?_) (fun (h83 : (d < (0 : Int) : Prop)) => ?_)
        ·
          exact hk S80 (fxfr_tr (fxfr_up (fxfr_up (fxfr_up (fxfr_up (fxfr_up (fxfr_tr fxfr_rfl f60 rfl) rfl) rfl) rfl) rfl) rfl) f81 rfl)
        ·
          intro z84 z84a z84b z84c
          refine c_Log_forgetDelete (d := z84) (show -2147483648 ≤ z84 ∧ z84 < 2147483648 by omega) (fun (S85 : fxS) (f86 : fxfr [(13, 10), (18, 9999), (19, 9999)] S80 S85) => ?_)
          have w87 : S85 13 0 6 = S80 13 0 6 := f86 13 0 6 rfl
          exact hk S85 (fxfr_tr (fxfr_tr (fxfr_up (fxfr_up (fxfr_up (fxfr_up (fxfr_up (fxfr_tr fxfr_rfl f60 rfl) rfl) rfl) rfl) rfl) rfl) f81 rfl) f86 rfl)
    ·
      intro z88 (z88a : (0 : Int) ≤ z88) (z88b : z88 ≤ (200 : Int)) (z88c : z88 = S59 13 0 6)
      refine And.intro (show 0 ≤ z88 ∧ z88 < 200 by omega) ?_
      refine And.intro (show 0 ≤ n ∧ n < 60 by omega) ?_
      refine c_Node_become20 (i := (z88).toNat) (j := (n).toNat)  (fun (S89 : fxS) (f90 : fxfr [(20, 0), (20, 1), (20, 3), (20, 4), (20, 5), (20, 6), (20, 7), (20, 11), (20, 12), (21, 9999), (22, 9999), (23, 9999)] S59 S89) => ?_)
      have w91 : S89 13 0 6 = S59 13 0 6 := f90 13 0 6 rfl
      intro z92 (z92a : (0 : Int) ≤ z92) (z92b : z92 ≤ (200 : Int)) (z92c : z92 = S89 13 0 6)
      refine And.intro (show 0 ≤ z92 ∧ z92 < 200 by omega) ?_
      refine And.intro (show (-1 : Int) ≤ n ∧ n ≤ (59 : Int) by omega) ?_
      have w93 : (fx_up S89 15 0 (z92).toNat n) 13 0 6 = S89 13 0 6 := rfl
      intro z94 (z94a : (0 : Int) ≤ z94) (z94b : z94 ≤ (200 : Int)) (z94c : z94 = (fx_up S89 15 0 (z92).toNat n) 13 0 6)
      refine And.intro (show 0 ≤ z94 ∧ z94 < 200 by omega) ?_
      refine And.intro (show (-2147483648 : Int) ≤ e ∧ e ≤ (2147483647 : Int) by omega) ?_
      have w95 : (fx_up (fx_up S89 15 0 (z92).toNat n) 16 0 (z94).toNat e) 13 0 6 = (fx_up S89 15 0 (z92).toNat n) 13 0 6 := rfl
      intro z96 (z96a : (0 : Int) ≤ z96) (z96b : z96 ≤ (200 : Int)) (z96c : z96 = (fx_up (fx_up S89 15 0 (z92).toNat n) 16 0 (z94).toNat e) 13 0 6)
      refine And.intro (show 0 ≤ z96 ∧ z96 < 200 by omega) ?_
      refine And.intro (show (-2147483648 : Int) ≤ d ∧ d ≤ (2147483647 : Int) by omega) ?_
      have w97 : (fx_up (fx_up (fx_up S89 15 0 (z92).toNat n) 16 0 (z94).toNat e) 17 0 (z96).toNat d) 13 0 6 = (fx_up (fx_up S89 15 0 (z92).toNat n) 16 0 (z94).toNat e) 13 0 6 := rfl
      intro z98 (z98a : (0 : Int) ≤ z98) (z98b : z98 ≤ (200 : Int)) (z98c : z98 = (fx_up (fx_up (fx_up S89 15 0 (z92).toNat n) 16 0 (z94).toNat e) 17 0 (z96).toNat d) 13 0 6)
      refine And.intro (show -2147483648 ≤ (z98 + (1 : Int)) ∧ (z98 + (1 : Int)) < 2147483648 by omega) ?_
      refine And.intro (show (0 : Int) ≤ (z98 + (1 : Int)) ∧ (z98 + (1 : Int)) ≤ (200 : Int) by omega) ?_
      have w99 : (fx_up (fx_up (fx_up (fx_up S89 15 0 (z92).toNat n) 16 0 (z94).toNat e) 17 0 (z96).toNat d) 13 0 6 (z98 + (1 : Int))) 13 0 6 = (z98 + (1 : Int)) := fx_up_at _ _ _ _ _
      intro z100 (z100a : (-2147483648 : Int) ≤ z100) (z100b : z100 ≤ (2147483647 : Int)) (z100c : z100 = (fx_up (fx_up (fx_up (fx_up S89 15 0 (z92).toNat n) 16 0 (z94).toNat e) 17 0 (z96).toNat d) 13 0 6 (z98 + (1 : Int))) 13 0 7)
      intro z101 (z101a : -2147483648 ≤ z101) (z101b : z101 < 2147483648) (z101c : -2147483648 ≤ (z100 + e) ∧ (z100 + e) < 2147483648 → z101 = (z100 + e))
      refine And.intro (show (-2147483648 : Int) ≤ z101 ∧ z101 ≤ (2147483647 : Int) by omega) ?_
      have w102 : (fx_up (fx_up (fx_up (fx_up (fx_up S89 15 0 (z92).toNat n) 16 0 (z94).toNat e) 17 0 (z96).toNat d) 13 0 6 (z98 + (1 : Int))) 13 0 7 z101) 13 0 6 = (fx_up (fx_up (fx_up (fx_up S89 15 0 (z92).toNat n) 16 0 (z94).toNat e) 17 0 (z96).toNat d) 13 0 6 (z98 + (1 : Int))) 13 0 6 := if_neg (fun q => absurd q.2.2 (by decide))
      refine And.intro (fun (h103 : (d ≤ (0 : Int) : Prop)) => ?_) (fun (h103 : ((0 : Int) < d : Prop)) => ?_)
      ·
        refine And.intro (fun (h104 : ((0 : Int) ≤ d : Prop)) => ?_) (fun (h104 : (d < (0 : Int) : Prop)) => ?_)
        ·
          exact hk (fx_up (fx_up (fx_up (fx_up (fx_up S89 15 0 (z92).toNat n) 16 0 (z94).toNat e) 17 0 (z96).toNat d) 13 0 6 (z98 + (1 : Int))) 13 0 7 z101) (fxfr_up (fxfr_up (fxfr_up (fxfr_up (fxfr_up (fxfr_tr (fxfr_tr fxfr_rfl f60 rfl) f90 rfl) rfl) rfl) rfl) rfl) rfl)
        ·
          intro z105 z105a z105b z105c
          refine c_Log_forgetDelete (d := z105) (show -2147483648 ≤ z105 ∧ z105 < 2147483648 by omega) (fun (S106 : fxS) (f107 : fxfr [(13, 10), (18, 9999), (19, 9999)] (fx_up (fx_up (fx_up (fx_up (fx_up S89 15 0 (z92).toNat n) 16 0 (z94).toNat e) 17 0 (z96).toNat d) 13 0 6 (z98 + (1 : Int))) 13 0 7 z101) S106) => ?_)
          have w108 : S106 13 0 6 = (fx_up (fx_up (fx_up (fx_up (fx_up S89 15 0 (z92).toNat n) 16 0 (z94).toNat e) 17 0 (z96).toNat d) 13 0 6 (z98 + (1 : Int))) 13 0 7 z101) 13 0 6 := f107 13 0 6 rfl
          exact hk S106 (fxfr_tr (fxfr_up (fxfr_up (fxfr_up (fxfr_up (fxfr_up (fxfr_tr (fxfr_tr fxfr_rfl f60 rfl) f90 rfl) rfl) rfl) rfl) rfl) rfl) f107 rfl)
      ·
        refine c_Log_noteDelete (d := d) (show -2147483648 ≤ d ∧ d < 2147483648 by omega) (fun (S109 : fxS) (f110 : fxfr [(13, 10), (18, 9999), (19, 9999)] (fx_up (fx_up (fx_up (fx_up (fx_up S89 15 0 (z92).toNat n) 16 0 (z94).toNat e) 17 0 (z96).toNat d) 13 0 6 (z98 + (1 : Int))) 13 0 7 z101) S109) => ?_)
        have w111 : S109 13 0 6 = (fx_up (fx_up (fx_up (fx_up (fx_up S89 15 0 (z92).toNat n) 16 0 (z94).toNat e) 17 0 (z96).toNat d) 13 0 6 (z98 + (1 : Int))) 13 0 7 z101) 13 0 6 := f110 13 0 6 rfl
        refine And.intro (fun (h112 : ((0 : Int) ≤ d : Prop)) => ?_) (fun (h112 : (d < (0 : Int) : Prop)) => ?_)
        ·
          exact hk S109 (fxfr_tr (fxfr_up (fxfr_up (fxfr_up (fxfr_up (fxfr_up (fxfr_tr (fxfr_tr fxfr_rfl f60 rfl) f90 rfl) rfl) rfl) rfl) rfl) rfl) f110 rfl)
        ·
          intro z113 z113a z113b z113c
          refine c_Log_forgetDelete (d := z113) (show -2147483648 ≤ z113 ∧ z113 < 2147483648 by omega) (fun (S114 : fxS) (f115 : fxfr [(13, 10), (18, 9999), (19, 9999)] S109 S114) => ?_)
          have w116 : S114 13 0 6 = S109 13 0 6 := f115 13 0 6 rfl
          exact hk S114 (fxfr_tr (fxfr_tr (fxfr_up (fxfr_up (fxfr_up (fxfr_up (fxfr_up (fxfr_tr (fxfr_tr fxfr_rfl f60 rfl) f90 rfl) rfl) rfl) rfl) rfl) rfl) f110 rfl) f115 rfl)
theorem z_fill7 {l : Launch} {k : fxK} {S : fxS} {i : Nat} {v : Int} (p0 : -1 ≤ v ∧ v ≤ 207) (hk : ∀ (S' : fxS) , (fxfr [(7, 9999)] S S') → k none S') : ∀ m : Nat, (∀ (j e : Int) (S1 : fxS), (fxfr [(7, 9999)] S S1) → (0 ≤ j ∧ j ≤ 32) → (e = 32) → 33-j ≤ (m : Int) → fZ l 12 k 5 [some (.inr (.inr (7, i))), some (.inl v), some (.inl j), some (.inl e)] [] S1) := by
  intro m
  induction m with
  | zero =>
    intro j e S1 hf i0 i1 hmu
    exfalso
    omega
  | succ m ih =>
    intro j e S1 hf i0 i1 hmu
    refine fxz_12 400 ?_
    refine And.intro (fun (h1 : (e ≤ j : Prop)) => ?_) (fun (h1 : (j < e : Prop)) => ?_)
    ·
      exact hk S1 hf
    ·
      refine And.intro (show 0 ≤ j ∧ j < 32 by omega) ?_
      refine And.intro (show (-1 : Int) ≤ v ∧ v ≤ (207 : Int) by omega) ?_
      refine And.intro (by decide) (And.intro (show -2147483648 ≤ j + (1 : Int) ∧ j + (1 : Int) < 2147483648 by omega) ?_)
      exact ih (j + (1 : Int)) e (fx_up S1 7 i (j).toNat v) (fxfr_up hf rfl) (by omega) (by omega) (by omega)
theorem c_fill7 {l : Launch} {k : fxK} {S : fxS} {i : Nat} {v : Int} (p0 : -1 ≤ v ∧ v ≤ 207) (hk : ∀ (S' : fxS) , (fxfr [(7, 9999)] S S') → k none S') : fC l 12 [.inr (.inr (7, i)), .inl v] S k := by
  refine fxe_12 (Nat.le_of_ble_eq_true rfl) (fxz_12 400 ?_)
  refine And.intro (by decide) ?_
  refine And.intro (by decide) ?_
  exact (z_fill7 p0 hk (33-(0 : Int)).toNat) (0 : Int) (32 : Int) S fxfr_rfl (by omega) (by omega) (by omega)
theorem z_fill10 {l : Launch} {k : fxK} {S : fxS} {i : Nat} {v : Int} (p0 : 0 ≤ v ∧ v ≤ 2) (hk : ∀ (S' : fxS) , (fxfr [(10, 9999)] S S') → k none S') : ∀ m : Nat, (∀ (j e : Int) (S1 : fxS), (fxfr [(10, 9999)] S S1) → (0 ≤ j ∧ j ≤ 208) → (e = 208) → 209-j ≤ (m : Int) → fZ l 12 k 5 [some (.inr (.inr (10, i))), some (.inl v), some (.inl j), some (.inl e)] [] S1) := by
  intro m
  induction m with
  | zero =>
    intro j e S1 hf i0 i1 hmu
    exfalso
    omega
  | succ m ih =>
    intro j e S1 hf i0 i1 hmu
    refine fxz_12 400 ?_
    refine And.intro (fun (h1 : (e ≤ j : Prop)) => ?_) (fun (h1 : (j < e : Prop)) => ?_)
    ·
      exact hk S1 hf
    ·
      refine And.intro (show 0 ≤ j ∧ j < 208 by omega) ?_
      refine And.intro (show (0 : Int) ≤ v ∧ v ≤ (2 : Int) by omega) ?_
      refine And.intro (by decide) (And.intro (show -2147483648 ≤ j + (1 : Int) ∧ j + (1 : Int) < 2147483648 by omega) ?_)
      exact ih (j + (1 : Int)) e (fx_up S1 10 i (j).toNat v) (fxfr_up hf rfl) (by omega) (by omega) (by omega)
theorem c_fill10 {l : Launch} {k : fxK} {S : fxS} {i : Nat} {v : Int} (p0 : 0 ≤ v ∧ v ≤ 2) (hk : ∀ (S' : fxS) , (fxfr [(10, 9999)] S S') → k none S') : fC l 12 [.inr (.inr (10, i)), .inl v] S k := by
  refine fxe_12 (Nat.le_of_ble_eq_true rfl) (fxz_12 400 ?_)
  refine And.intro (by decide) ?_
  refine And.intro (by decide) ?_
  exact (z_fill10 p0 hk (209-(0 : Int)).toNat) (0 : Int) (208 : Int) S fxfr_rfl (by omega) (by omega) (by omega)
theorem c_Node_clear {l : Launch} {k : fxK} {S : fxS} {i : Nat}  (hk : ∀ (S' : fxS) , (fxfr [(4, 0), (4, 1), (4, 3), (4, 4), (4, 5), (4, 6), (4, 7), (4, 11), (4, 12), (7, 9999)] S S') → k none S') : fC l 13 [.inr (.inr (4, i))] S k := by
  refine fxe_13 (Nat.le_of_ble_eq_true rfl) (fxz_13 400 ?_)
  refine And.intro (show (0 : Int) ≤ (0 : Int) ∧ (0 : Int) ≤ (2 : Int) by omega) ?_
  refine And.intro (show (0 : Int) ≤ (0 : Int) ∧ (0 : Int) ≤ (59 : Int) by omega) ?_
  refine And.intro (show (-2147483648 : Int) ≤ (0 : Int) ∧ (0 : Int) ≤ (2147483647 : Int) by omega) ?_
  refine And.intro (show (0 : Int) ≤ (0 : Int) ∧ (0 : Int) ≤ (1024 : Int) by omega) ?_
  refine And.intro (show (-2147483648 : Int) ≤ (0 : Int) ∧ (0 : Int) ≤ (2147483647 : Int) by omega) ?_
  refine And.intro (show (-2147483648 : Int) ≤ (0 : Int) ∧ (0 : Int) ≤ (2147483647 : Int) by omega) ?_
  refine And.intro (show (0 : Int) ≤ (0 : Int) ∧ (0 : Int) ≤ (2 : Int) by omega) ?_
  refine c_fill7 (i := i) (v := (-1 : Int)) (show -1 ≤ (-1 : Int) ∧ (-1 : Int) ≤ 207 by omega) (fun (S1 : fxS) (f2 : fxfr [(7, 9999)] (fx_up (fx_up (fx_up (fx_up (fx_up (fx_up (fx_up S 4 i 0 (0 : Int)) 4 i 1 (0 : Int)) 4 i 3 (0 : Int)) 4 i 4 (0 : Int)) 4 i 5 (0 : Int)) 4 i 6 (0 : Int)) 4 i 7 (0 : Int)) S1) => ?_)
  refine And.intro (show (-2147483648 : Int) ≤ (0 : Int) ∧ (0 : Int) ≤ (2147483647 : Int) by omega) ?_
  refine And.intro (show (-2147483648 : Int) ≤ (0 : Int) ∧ (0 : Int) ≤ (2147483647 : Int) by omega) ?_
  exact hk (fx_up (fx_up S1 4 i 11 (0 : Int)) 4 i 12 (0 : Int)) (fxfr_up (fxfr_up (fxfr_tr (fxfr_up (fxfr_up (fxfr_up (fxfr_up (fxfr_up (fxfr_up (fxfr_up fxfr_rfl rfl) rfl) rfl) rfl) rfl) rfl) rfl) f2 rfl) rfl) rfl)
theorem c_Tree_settle {l : Launch} {k : fxK} {S : fxS} {n : Int} {o : Int} {x : Int} {q : Int} (p0 : 1 ≤ n ∧ n < 60) (p1 : 0 ≤ o ∧ o < 60) (p2 : 1 ≤ q ∧ q ≤ 2) (hk : ∀ (S' : fxS) , (fxfr [(4, 0), (4, 1), (4, 3), (4, 4), (4, 5), (4, 6), (4, 7), (4, 11), (4, 12), (7, 9999)] S S') → k none S') : fC l 14 [.inr (.inr (2, 0)), .inl n, .inl o, .inr (.inl x), .inl q] S k := by
  refine fxe_14 (Nat.le_of_ble_eq_true rfl) (fxz_14 400 ?_)
  refine And.intro (show 0 ≤ n ∧ n < 60 by omega) ?_
  refine And.intro (by decide) ?_
  refine c_Node_clear (i := (n).toNat)  (fun (S1 : fxS) (f2 : fxfr [(4, 0), (4, 1), (4, 3), (4, 4), (4, 5), (4, 6), (4, 7), (4, 11), (4, 12), (7, 9999)] S S1) => ?_)
  refine And.intro (show (0 : Int) ≤ q ∧ q ≤ (2 : Int) by omega) ?_
  refine And.intro (show (0 : Int) ≤ o ∧ o ≤ (59 : Int) by omega) ?_
  intro z3 (z3a : (-2147483648 : Int) ≤ z3) (z3b : z3 ≤ (2147483647 : Int)) (z3c : z3 = (fx_up (fx_up S1 4 (n).toNat 0 q) 4 (n).toNat 1 o) 2 0 1)
  refine And.intro (show (-2147483648 : Int) ≤ z3 ∧ z3 ≤ (2147483647 : Int) by omega) ?_
  exact hk (fx_up (fx_up (fx_up S1 4 (n).toNat 0 q) 4 (n).toNat 1 o) 4 (n).toNat 6 z3) (fxfr_up (fxfr_up (fxfr_up (fxfr_tr fxfr_rfl f2 rfl) rfl) rfl) rfl)
theorem c_Changes_create {l : Launch} {k : fxK} {S : fxS} {o : Int} {x : Int} {q : Int} (p0 : 0 ≤ o ∧ o < 60) (p1 : 0 ≤ q ∧ q ≤ 1) (hk : ∀ (r : Int) (S' : fxS) , (fxfr [(2, 2), (2, 3), (4, 0), (4, 1), (4, 3), (4, 4), (4, 5), (4, 6), (4, 7), (4, 11), (4, 12), (7, 9999), (8, 4), (10, 9999), (11, 9999), (13, 6), (13, 7), (13, 10), (15, 9999), (16, 9999), (17, 9999), (18, 9999), (19, 9999), (20, 0), (20, 1), (20, 3), (20, 4), (20, 5), (20, 6), (20, 7), (20, 11), (20, 12), (21, 9999), (22, 9999), (23, 9999)] S S' ∧ (-2147483648 ≤ r ∧ r < 2147483648)) → k (some (.inl r)) S') : fC l 15 [.inr (.inr (24, 0)), .inl o, .inr (.inl x), .inl q] S k := by
  refine fxe_15 (Nat.le_of_ble_eq_true rfl) (fxz_15 400 ?_)
  refine c_Tree_leastAbsent   (fun (z1 : Int) (q2 : -1 ≤ z1 ∧ z1 < 60 ∧ z1 ≠ 0) => ?_)
  refine And.intro (by decide) ?_
  refine And.intro (fun (h3 : ((0 : Int) ≤ z1 : Prop)) => ?_) (fun (h3 : (z1 < (0 : Int) : Prop)) => ?_)
  ·
    refine c_Log_add (n := z1) (e := (16 : Int)) (d := (0 : Int)) (show -1 ≤ z1 ∧ z1 < 60 by omega) (show -2147483648 ≤ (16 : Int) ∧ (16 : Int) < 2147483648 by omega) (show -2147483648 ≤ (0 : Int) ∧ (0 : Int) < 2147483648 by omega) (fun (S4 : fxS) (f5 : fxfr [(8, 4), (10, 9999), (11, 9999), (13, 6), (13, 7), (13, 10), (15, 9999), (16, 9999), (17, 9999), (18, 9999), (19, 9999), (20, 0), (20, 1), (20, 3), (20, 4), (20, 5), (20, 6), (20, 7), (20, 11), (20, 12), (21, 9999), (22, 9999), (23, 9999)] S S4) => ?_)
    refine And.intro (fun (h6 : (q = (0 : Int) : Prop)) => ?_) (fun (h6 : (q ≠ (0 : Int) : Prop)) => ?_)
    ·
      refine c_Tree_settle (n := z1) (o := o) (x := x) (q := (2 : Int)) (show 1 ≤ z1 ∧ z1 < 60 by omega) (show 0 ≤ o ∧ o < 60 by omega) (show 1 ≤ (2 : Int) ∧ (2 : Int) ≤ 2 by omega) (fun (S7 : fxS) (f8 : fxfr [(4, 0), (4, 1), (4, 3), (4, 4), (4, 5), (4, 6), (4, 7), (4, 11), (4, 12), (7, 9999)] S4 S7) => ?_)
      refine And.intro (fun (h9 : (q ≠ (0 : Int) : Prop)) => ?_) (fun (h9 : (q = (0 : Int) : Prop)) => ?_)
      ·
        exact hk z1 S7 ⟨(fxfr_tr (fxfr_tr fxfr_rfl f5 rfl) f8 rfl), by omega⟩
      ·
        refine And.intro (show 0 ≤ z1 ∧ z1 < 60 by omega) ?_
        intro z10 (z10a : (-2147483648 : Int) ≤ z10) (z10b : z10 ≤ (2147483647 : Int)) (z10c : z10 = S7 2 0 2)
        intro z11 (z11a : -2147483648 ≤ z11) (z11b : z11 < 2147483648) (z11c : -2147483648 ≤ (z10 + (1 : Int)) ∧ (z10 + (1 : Int)) < 2147483648 → z11 = (z10 + (1 : Int)))
        refine And.intro (show (-2147483648 : Int) ≤ z11 ∧ z11 ≤ (2147483647 : Int) by omega) ?_
        refine And.intro (show (-2147483648 : Int) ≤ z10 ∧ z10 ≤ (2147483647 : Int) by omega) ?_
        refine And.intro (show 0 ≤ z1 ∧ z1 < 60 by omega) ?_
        intro z12 (z12a : (-2147483648 : Int) ≤ z12) (z12b : z12 ≤ (2147483647 : Int)) (z12c : z12 = (fx_up (fx_up S7 2 0 2 z11) 4 (z1).toNat 3 z10) 2 0 3)
        intro z13 (z13a : -2147483648 ≤ z13) (z13b : z13 < 2147483648) (z13c : -2147483648 ≤ (z12 + (1 : Int)) ∧ (z12 + (1 : Int)) < 2147483648 → z13 = (z12 + (1 : Int)))
        refine And.intro (show (-2147483648 : Int) ≤ z13 ∧ z13 ≤ (2147483647 : Int) by omega) ?_
        refine And.intro (show (-2147483648 : Int) ≤ z12 ∧ z12 ≤ (2147483647 : Int) by omega) ?_
        exact hk z1 (fx_up (fx_up (fx_up (fx_up S7 2 0 2 z11) 4 (z1).toNat 3 z10) 2 0 3 z13) 4 (z1).toNat 5 z12) ⟨(fxfr_up (fxfr_up (fxfr_up (fxfr_up (fxfr_tr (fxfr_tr fxfr_rfl f5 rfl) f8 rfl) rfl) rfl) rfl) rfl), by omega⟩
    ·
      refine c_Tree_settle (n := z1) (o := o) (x := x) (q := (1 : Int)) (show 1 ≤ z1 ∧ z1 < 60 by omega) (show 0 ≤ o ∧ o < 60 by omega) (show 1 ≤ (1 : Int) ∧ (1 : Int) ≤ 2 by omega) (fun (S14 : fxS) (f15 : fxfr [(4, 0), (4, 1), (4, 3), (4, 4), (4, 5), (4, 6), (4, 7), (4, 11), (4, 12), (7, 9999)] S4 S14) => ?_)
      refine And.intro (fun (h16 : (q ≠ (0 : Int) : Prop)) => ?_) (fun (h16 : (q = (0 : Int) : Prop)) => ?_)
      ·
        exact hk z1 S14 ⟨(fxfr_tr (fxfr_tr fxfr_rfl f5 rfl) f15 rfl), by omega⟩
      ·
        refine And.intro (show 0 ≤ z1 ∧ z1 < 60 by omega) ?_
        intro z17 (z17a : (-2147483648 : Int) ≤ z17) (z17b : z17 ≤ (2147483647 : Int)) (z17c : z17 = S14 2 0 2)
        intro z18 (z18a : -2147483648 ≤ z18) (z18b : z18 < 2147483648) (z18c : -2147483648 ≤ (z17 + (1 : Int)) ∧ (z17 + (1 : Int)) < 2147483648 → z18 = (z17 + (1 : Int)))
        refine And.intro (show (-2147483648 : Int) ≤ z18 ∧ z18 ≤ (2147483647 : Int) by omega) ?_
        refine And.intro (show (-2147483648 : Int) ≤ z17 ∧ z17 ≤ (2147483647 : Int) by omega) ?_
        refine And.intro (show 0 ≤ z1 ∧ z1 < 60 by omega) ?_
        intro z19 (z19a : (-2147483648 : Int) ≤ z19) (z19b : z19 ≤ (2147483647 : Int)) (z19c : z19 = (fx_up (fx_up S14 2 0 2 z18) 4 (z1).toNat 3 z17) 2 0 3)
        intro z20 (z20a : -2147483648 ≤ z20) (z20b : z20 < 2147483648) (z20c : -2147483648 ≤ (z19 + (1 : Int)) ∧ (z19 + (1 : Int)) < 2147483648 → z20 = (z19 + (1 : Int)))
        refine And.intro (show (-2147483648 : Int) ≤ z20 ∧ z20 ≤ (2147483647 : Int) by omega) ?_
        refine And.intro (show (-2147483648 : Int) ≤ z19 ∧ z19 ≤ (2147483647 : Int) by omega) ?_
        exact hk z1 (fx_up (fx_up (fx_up (fx_up S14 2 0 2 z18) 4 (z1).toNat 3 z17) 2 0 3 z20) 4 (z1).toNat 5 z19) ⟨(fxfr_up (fxfr_up (fxfr_up (fxfr_up (fxfr_tr (fxfr_tr fxfr_rfl f5 rfl) f15 rfl) rfl) rfl) rfl) rfl), by omega⟩
  ·
    exact hk (-3 : Int) S ⟨fxfr_rfl, by omega⟩
theorem c_StubHouse_make {l : Launch} {k : fxK} {S : fxS} {o : Int} {x : Int} {q : Int} (p0 : 0 ≤ q ∧ q ≤ 1) (p1 : -2147483648 ≤ o ∧ o < 2147483648) (hk : ∀ (r : Int) (S' : fxS) , (fxfr [(2, 2), (2, 3), (4, 0), (4, 1), (4, 3), (4, 4), (4, 5), (4, 6), (4, 7), (4, 11), (4, 12), (7, 9999), (8, 4), (10, 9999), (11, 9999), (13, 6), (13, 7), (13, 10), (15, 9999), (16, 9999), (17, 9999), (18, 9999), (19, 9999), (20, 0), (20, 1), (20, 3), (20, 4), (20, 5), (20, 6), (20, 7), (20, 11), (20, 12), (21, 9999), (22, 9999), (23, 9999)] S S' ∧ (-2147483648 ≤ r ∧ r < 2147483648)) → k (some (.inl r)) S') : fC l 16 [.inr (.inr (0, 0)), .inl o, .inr (.inl x), .inl q] S k := by
  refine fxe_16 (Nat.le_of_ble_eq_true rfl) (fxz_16 400 ?_)
  intro z1 (z1a : (0 : Int) ≤ z1) (z1b : z1 ≤ (1 : Int)) (z1c : z1 = S 0 0 10)
  refine And.intro (fun (h2 : (z1 = (0 : Int) : Prop)) => ?_) (fun (h2 : (z1 ≠ (0 : Int) : Prop)) => ?_)
  ·
    refine c_Tree_isDirectory (n := o) (show -2147483648 ≤ o ∧ o < 2147483648 by omega) (fun (z3 : Int) (q4 : (z3 = 0 ∨ z3 = 1) ∧ (z3 = 1 → 0 ≤ o ∧ o < 60)) => ?_)
    refine And.intro (fun (h5 : (z3 = (0 : Int) : Prop)) => ?_) (fun (h5 : (z3 ≠ (0 : Int) : Prop)) => ?_)
    ·
      exact hk (-1 : Int) S ⟨fxfr_rfl, by omega⟩
    ·
      intro z6 (z6a : 0 ≤ z6) (z6b : z6 ≤ 1)
      refine And.intro (fun (h7 : (z6 ≠ (0 : Int) : Prop)) => ?_) (fun (h7 : (z6 = (0 : Int) : Prop)) => ?_)
      ·
        refine c_Tree_seek (n := o) (x := x) (show -2147483648 ≤ o ∧ o < 2147483648 by omega) (fun (z8 : Int) (q9 : -1 ≤ z8 ∧ z8 < 60 ∧ z8 ≠ 0) => ?_)
        refine And.intro (fun (h10 : (z8 < (0 : Int) : Prop)) => ?_) (fun (h10 : ((0 : Int) ≤ z8 : Prop)) => ?_)
        ·
          refine c_Tree_leastAbsent   (fun (z11 : Int) (q12 : -1 ≤ z11 ∧ z11 < 60 ∧ z11 ≠ 0) => ?_)
          refine And.intro (fun (h13 : (z11 < (0 : Int) : Prop)) => ?_) (fun (h13 : ((0 : Int) ≤ z11 : Prop)) => ?_)
          ·
            exact hk (-3 : Int) S ⟨fxfr_rfl, by omega⟩
          ·
            refine c_Tree_depthOf (n := o) (show 0 ≤ o ∧ o < 60 by omega) (fun (z14 : Int) (q15 : 0 ≤ z14 ∧ z14 ≤ 60 ∧ z14 = (depF (fun m => S 4 m 1) 60 o : Int)) => ?_)
            refine And.intro (fun (h16 : (z14 < (5 : Int) : Prop)) => ?_) (fun (h16 : ((5 : Int) ≤ z14 : Prop)) => ?_)
            ·
              refine c_Changes_create (o := o) (x := x) (q := q) (show 0 ≤ o ∧ o < 60 by omega) (show 0 ≤ q ∧ q ≤ 1 by omega) (fun (z17 : Int) (S18 : fxS) ⟨(f19 : fxfr [(2, 2), (2, 3), (4, 0), (4, 1), (4, 3), (4, 4), (4, 5), (4, 6), (4, 7), (4, 11), (4, 12), (7, 9999), (8, 4), (10, 9999), (11, 9999), (13, 6), (13, 7), (13, 10), (15, 9999), (16, 9999), (17, 9999), (18, 9999), (19, 9999), (20, 0), (20, 1), (20, 3), (20, 4), (20, 5), (20, 6), (20, 7), (20, 11), (20, 12), (21, 9999), (22, 9999), (23, 9999)] S S18), (q20 : -2147483648 ≤ z17 ∧ z17 < 2147483648)⟩ => ?_)
              exact hk z17 S18 ⟨(fxfr_tr fxfr_rfl f19 rfl), by omega⟩
            ·
              exact hk (-3 : Int) S ⟨fxfr_rfl, by omega⟩
        ·
          exact hk (-7 : Int) S ⟨fxfr_rfl, by omega⟩
      ·
        exact hk (-1 : Int) S ⟨fxfr_rfl, by omega⟩
  ·
    exact hk (-8 : Int) S ⟨fxfr_rfl, by omega⟩
theorem c_StubHouse_find {l : Launch} {k : fxK} {S : fxS} {o : Int} {x : Int} (p0 : -2147483648 ≤ o ∧ o < 2147483648) (hk : ∀ (r : Int) , (-2147483648 ≤ r ∧ r < 2147483648) → k (some (.inl r)) S) : fC l 31 [.inr (.inr (0, 0)), .inl o, .inr (.inl x)] S k := by
  refine fxe_31 (Nat.le_of_ble_eq_true rfl) (fxz_31 400 ?_)
  intro z1 (z1a : (0 : Int) ≤ z1) (z1b : z1 ≤ (1 : Int)) (z1c : z1 = S 0 0 10)
  refine And.intro (fun (h2 : (z1 = (0 : Int) : Prop)) => ?_) (fun (h2 : (z1 ≠ (0 : Int) : Prop)) => ?_)
  ·
    refine c_Tree_isDirectory (n := o) (show -2147483648 ≤ o ∧ o < 2147483648 by omega) (fun (z3 : Int) (q4 : (z3 = 0 ∨ z3 = 1) ∧ (z3 = 1 → 0 ≤ o ∧ o < 60)) => ?_)
    refine And.intro (fun (h5 : (z3 ≠ (0 : Int) : Prop)) => ?_) (fun (h5 : (z3 = (0 : Int) : Prop)) => ?_)
    ·
      refine c_Tree_seek (n := o) (x := x) (show -2147483648 ≤ o ∧ o < 2147483648 by omega) (fun (z6 : Int) (q7 : -1 ≤ z6 ∧ z6 < 60 ∧ z6 ≠ 0) => ?_)
      refine And.intro (by decide) ?_
      refine And.intro (fun (h8 : ((0 : Int) ≤ z6 : Prop)) => ?_) (fun (h8 : (z6 < (0 : Int) : Prop)) => ?_)
      ·
        exact hk z6 (by omega)
      ·
        exact hk (-2 : Int) (by omega)
    ·
      exact hk (-1 : Int) (by omega)
  ·
    exact hk (-8 : Int) (by omega)
