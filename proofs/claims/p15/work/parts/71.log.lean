/-! contracts: log, stores, nodes of the class -/
theorem z_Stores_freeHeld {l : Launch} {k : fxK} {S : fxS}   (hk : ∀ (S' : fxS) , (fxfr [(8, 4), (10, 9999), (11, 9999)] S S') → k none S') : ∀ m : Nat, (∀ (b : Int) (S1 : fxS), (fxfr [(8, 4), (10, 9999), (11, 9999)] S S1) → (0 ≤ b ∧ b ≤ 208) → 209 - b ≤ (m : Int) → fZ l 5 k 2 [some (.inr (.inr (8, 0))), some (.inl b)] [] S1) := by
  intro m
  induction m with
  | zero =>
    intro b S1 hf i0 hmu
    exfalso
    omega
  | succ m ih =>
    intro b S1 hf i0 hmu
    refine fxz_5 400 ?_
    refine And.intro (fun (h1 : ((208 : Int) ≤ b : Prop)) => ?_) (fun (h1 : (b < (208 : Int) : Prop)) => ?_)
    ·
      exact hk S1 hf
    ·
      intro z2 (z2a : (-2147483648 : Int) ≤ z2) (z2b : z2 ≤ (2147483647 : Int)) (z2c : z2 = S1 8 0 4)
      refine And.intro (fun (h3 : (z2 ≤ (0 : Int) : Prop)) => ?_) (fun (h3 : ((0 : Int) < z2 : Prop)) => ?_)
      ·
        exact hk S1 hf
      ·
        refine And.intro (show 0 ≤ b ∧ b < 208 by omega) ?_
        intro z4 (z4a : (0 : Int) ≤ z4) (z4b : z4 ≤ (2 : Int)) (z4c : z4 = S1 10 0 (b).toNat)
        refine And.intro (fun (h5 : (z4 ≠ (2 : Int) : Prop)) => ?_) (fun (h5 : (z4 = (2 : Int) : Prop)) => ?_)
        ·
          refine And.intro (by decide) (And.intro (show -2147483648 ≤ b + (1 : Int) ∧ b + (1 : Int) < 2147483648 by omega) ?_)
          exact ih (b + (1 : Int)) S1 hf (by omega) (by omega)
        ·
          refine And.intro (show 0 ≤ b ∧ b < 208 by omega) ?_
          refine And.intro (show (0 : Int) ≤ (0 : Int) ∧ (0 : Int) ≤ (2 : Int) by omega) ?_
          refine And.intro (fun (h7 : ((48 : Int) ≤ b : Prop)) => ?_) (fun (h7 : (b < (48 : Int) : Prop)) => ?_)
          ·
            refine And.intro (show 0 ≤ (1 : Int) ∧ (1 : Int) < 2 by omega) ?_
            intro z8 (z8a : (-2147483648 : Int) ≤ z8) (z8b : z8 ≤ (2147483647 : Int)) (z8c : z8 = (fx_up S1 10 0 (b).toNat (0 : Int)) 11 0 ((1 : Int)).toNat)
            intro z9 (z9a : -2147483648 ≤ z9) (z9b : z9 < 2147483648) (z9c : -2147483648 ≤ (z8 + (1 : Int)) ∧ (z8 + (1 : Int)) < 2147483648 → z9 = (z8 + (1 : Int)))
            refine And.intro (show 0 ≤ (1 : Int) ∧ (1 : Int) < 2 by omega) ?_
            refine And.intro (show (-2147483648 : Int) ≤ z9 ∧ z9 ≤ (2147483647 : Int) by omega) ?_
            intro z10 (z10a : (-2147483648 : Int) ≤ z10) (z10b : z10 ≤ (2147483647 : Int)) (z10c : z10 = (fx_up (fx_up S1 10 0 (b).toNat (0 : Int)) 11 0 ((1 : Int)).toNat z9) 8 0 4)
            intro z11 (z11a : -2147483648 ≤ z11) (z11b : z11 < 2147483648) (z11c : -2147483648 ≤ (z10 - (1 : Int)) ∧ (z10 - (1 : Int)) < 2147483648 → z11 = (z10 - (1 : Int)))
            refine And.intro (show (-2147483648 : Int) ≤ z11 ∧ z11 ≤ (2147483647 : Int) by omega) ?_
            refine And.intro (by decide) (And.intro (show -2147483648 ≤ b + (1 : Int) ∧ b + (1 : Int) < 2147483648 by omega) ?_)
            exact ih (b + (1 : Int)) (fx_up (fx_up (fx_up S1 10 0 (b).toNat (0 : Int)) 11 0 ((1 : Int)).toNat z9) 8 0 4 z11) (fxfr_up (fxfr_up (fxfr_up hf rfl) rfl) rfl) (by omega) (by omega)
          ·
            refine And.intro (show 0 ≤ (0 : Int) ∧ (0 : Int) < 2 by omega) ?_
            intro z13 (z13a : (-2147483648 : Int) ≤ z13) (z13b : z13 ≤ (2147483647 : Int)) (z13c : z13 = (fx_up S1 10 0 (b).toNat (0 : Int)) 11 0 ((0 : Int)).toNat)
            intro z14 (z14a : -2147483648 ≤ z14) (z14b : z14 < 2147483648) (z14c : -2147483648 ≤ (z13 + (1 : Int)) ∧ (z13 + (1 : Int)) < 2147483648 → z14 = (z13 + (1 : Int)))
            refine And.intro (show 0 ≤ (0 : Int) ∧ (0 : Int) < 2 by omega) ?_
            refine And.intro (show (-2147483648 : Int) ≤ z14 ∧ z14 ≤ (2147483647 : Int) by omega) ?_
            intro z15 (z15a : (-2147483648 : Int) ≤ z15) (z15b : z15 ≤ (2147483647 : Int)) (z15c : z15 = (fx_up (fx_up S1 10 0 (b).toNat (0 : Int)) 11 0 ((0 : Int)).toNat z14) 8 0 4)
            intro z16 (z16a : -2147483648 ≤ z16) (z16b : z16 < 2147483648) (z16c : -2147483648 ≤ (z15 - (1 : Int)) ∧ (z15 - (1 : Int)) < 2147483648 → z16 = (z15 - (1 : Int)))
            refine And.intro (show (-2147483648 : Int) ≤ z16 ∧ z16 ≤ (2147483647 : Int) by omega) ?_
            refine And.intro (by decide) (And.intro (show -2147483648 ≤ b + (1 : Int) ∧ b + (1 : Int) < 2147483648 by omega) ?_)
            exact ih (b + (1 : Int)) (fx_up (fx_up (fx_up S1 10 0 (b).toNat (0 : Int)) 11 0 ((0 : Int)).toNat z14) 8 0 4 z16) (fxfr_up (fxfr_up (fxfr_up hf rfl) rfl) rfl) (by omega) (by omega)
theorem c_Stores_freeHeld {l : Launch} {k : fxK} {S : fxS}   (hk : ∀ (S' : fxS) , (fxfr [(8, 4), (10, 9999), (11, 9999)] S S') → k none S') : fC l 5 [.inr (.inr (8, 0))] S k := by
  refine fxe_5 (Nat.le_of_ble_eq_true rfl) (fxz_5 400 ?_)
  refine And.intro (by decide) ?_
  exact (z_Stores_freeHeld  hk (209 - (0 : Int)).toNat) (0 : Int) S fxfr_rfl (by omega) (by omega)
theorem z_Log_keepAll {l : Launch} {k : fxK} {S : fxS}   (hk : ∀ (r : Int) (S' : fxS) , (fxfr [(8, 4), (10, 9999), (11, 9999), (13, 6), (13, 7), (19, 9999)] S S' ∧ (-2147483648 ≤ r ∧ r < 2147483648 ∧ (S' 13 0 6 = 0))) → k (some (.inl r)) S') : ∀ m : Nat, (∀ (kp j : Int) (S1 : fxS), (fxfr [(8, 4), (10, 9999), (11, 9999), (13, 6), (13, 7), (19, 9999)] S S1) → (0 ≤ j ∧ j ≤ 40) → (S1 13 0 6 = 0) → (0 ≤ kp ∧ kp ≤ 200) → 41 - j ≤ (m : Int) → fZ l 6 k 17 [some (.inr (.inr (13, 0))), some (.inl kp), some (.inl j)] [] S1) := by
  intro m
  induction m with
  | zero =>
    intro kp j S1 hf i0 i1 i2 hmu
    exfalso
    omega
  | succ m ih =>
    intro kp j S1 hf i0 i1 i2 hmu
    refine fxz_6 400 ?_
    intro z1 (z1a : (0 : Int) ≤ z1) (z1b : z1 ≤ (40 : Int)) (z1c : z1 = S1 13 0 10)
    refine And.intro (fun (h2 : (z1 ≤ j : Prop)) => ?_) (fun (h2 : (j < z1 : Prop)) => ?_)
    ·
      refine c_Stores_freeHeld   (fun (S3 : fxS) (f4 : fxfr [(8, 4), (10, 9999), (11, 9999)] S1 S3) => ?_)
      have w5 : S3 13 0 6 = S1 13 0 6 := f4 13 0 6 rfl
      exact hk kp S3 ⟨(fxfr_tr hf f4 rfl), by omega⟩
    ·
      refine And.intro (show 0 ≤ j ∧ j < 40 by omega) ?_
      refine And.intro (show (0 : Int) ≤ (1 : Int) ∧ (1 : Int) ≤ (1 : Int) by omega) ?_
      have w6 : (fx_up S1 19 0 (j).toNat (1 : Int)) 13 0 6 = S1 13 0 6 := rfl
      refine And.intro (by decide) (And.intro (show -2147483648 ≤ j + (1 : Int) ∧ j + (1 : Int) < 2147483648 by omega) ?_)
      exact ih kp (j + (1 : Int)) (fx_up S1 19 0 (j).toNat (1 : Int)) (fxfr_up hf rfl) (by omega) (by omega) (by omega) (by omega)
theorem c_Log_keepAll {l : Launch} {k : fxK} {S : fxS}   (hk : ∀ (r : Int) (S' : fxS) , (fxfr [(8, 4), (10, 9999), (11, 9999), (13, 6), (13, 7), (19, 9999)] S S' ∧ (-2147483648 ≤ r ∧ r < 2147483648 ∧ (S' 13 0 6 = 0))) → k (some (.inl r)) S') : fC l 6 [.inr (.inr (13, 0))] S k := by
  refine fxe_6 (Nat.le_of_ble_eq_true rfl) (fxz_6 400 ?_)
  intro z8 (z8a : (0 : Int) ≤ z8) (z8b : z8 ≤ (200 : Int)) (z8c : z8 = S 13 0 6)
  refine And.intro (by decide) ?_
  refine And.intro (show (0 : Int) ≤ (0 : Int) ∧ (0 : Int) ≤ (200 : Int) by omega) ?_
  have w9 : (fx_up S 13 0 6 (0 : Int)) 13 0 6 = (0 : Int) := fx_up_at _ _ _ _ _
  refine And.intro (show (-2147483648 : Int) ≤ (0 : Int) ∧ (0 : Int) ≤ (2147483647 : Int) by omega) ?_
  have w10 : (fx_up (fx_up S 13 0 6 (0 : Int)) 13 0 7 (0 : Int)) 13 0 6 = (fx_up S 13 0 6 (0 : Int)) 13 0 6 := if_neg (fun q => absurd q.2.2 (by decide))
  refine And.intro (by decide) ?_
  exact (z_Log_keepAll  hk (41 - (0 : Int)).toNat) z8 (0 : Int) (fx_up (fx_up S 13 0 6 (0 : Int)) 13 0 7 (0 : Int)) (fxfr_up (fxfr_up fxfr_rfl rfl) rfl) (by omega) (by omega) (by omega) (by omega)
theorem c_Node_become20 {l : Launch} {k : fxK} {S : fxS} {i : Nat} {j : Nat}  (hk : ∀ (S' : fxS) , (fxfr [(20, 0), (20, 1), (20, 3), (20, 4), (20, 5), (20, 6), (20, 7), (20, 11), (20, 12), (21, 9999), (22, 9999), (23, 9999)] S S' ∧ (S' 20 i 0 = S 4 j 0 ∧ S' 20 i 1 = S 4 j 1)) → k none S') : fC l 7 [.inr (.inr (20, i)), .inr (.inr (4, j))] S k := by
  refine fxe_7 (Nat.le_of_ble_eq_true rfl) (fxz_7 400 ?_)
  intro z1 (z1a : (0 : Int) ≤ z1) (z1b : z1 ≤ (2 : Int)) (z1c : z1 = S 4 j 0)
  refine And.intro (show (0 : Int) ≤ z1 ∧ z1 ≤ (2 : Int) by omega) ?_
  have w2 : (fx_up S 20 i 0 z1) 20 i 0 = z1 := fx_up_at _ _ _ _ _
  have w3 : (fx_up S 20 i 0 z1) 20 i 1 = S 20 i 1 := if_neg (fun q => absurd q.2.2 (by decide))
  have w4 : (fx_up S 20 i 0 z1) 4 j 1 = S 4 j 1 := rfl
  intro z5 (z5a : (0 : Int) ≤ z5) (z5b : z5 ≤ (59 : Int)) (z5c : z5 = (fx_up S 20 i 0 z1) 4 j 1)
  refine And.intro (show (0 : Int) ≤ z5 ∧ z5 ≤ (59 : Int) by omega) ?_
  have w6 : (fx_up (fx_up S 20 i 0 z1) 20 i 1 z5) 20 i 0 = (fx_up S 20 i 0 z1) 20 i 0 := if_neg (fun q => absurd q.2.2 (by decide))
  have w7 : (fx_up (fx_up S 20 i 0 z1) 20 i 1 z5) 20 i 1 = z5 := fx_up_at _ _ _ _ _
  have w8 : (fx_up (fx_up S 20 i 0 z1) 20 i 1 z5) 4 j 1 = (fx_up S 20 i 0 z1) 4 j 1 := rfl
  intro z9
  intro z10 (z10a : (-2147483648 : Int) ≤ z10) (z10b : z10 ≤ (2147483647 : Int)) (z10c : z10 = (fx_up (fx_up S 20 i 0 z1) 20 i 1 z5) 4 j 3)
  refine And.intro (show (-2147483648 : Int) ≤ z10 ∧ z10 ≤ (2147483647 : Int) by omega) ?_
  have w11 : (fx_up (fx_up (fx_up S 20 i 0 z1) 20 i 1 z5) 20 i 3 z10) 20 i 0 = (fx_up (fx_up S 20 i 0 z1) 20 i 1 z5) 20 i 0 := if_neg (fun q => absurd q.2.2 (by decide))
  have w12 : (fx_up (fx_up (fx_up S 20 i 0 z1) 20 i 1 z5) 20 i 3 z10) 20 i 1 = (fx_up (fx_up S 20 i 0 z1) 20 i 1 z5) 20 i 1 := if_neg (fun q => absurd q.2.2 (by decide))
  have w13 : (fx_up (fx_up (fx_up S 20 i 0 z1) 20 i 1 z5) 20 i 3 z10) 4 j 1 = (fx_up (fx_up S 20 i 0 z1) 20 i 1 z5) 4 j 1 := rfl
  intro z14 (z14a : (0 : Int) ≤ z14) (z14b : z14 ≤ (1024 : Int)) (z14c : z14 = (fx_up (fx_up (fx_up S 20 i 0 z1) 20 i 1 z5) 20 i 3 z10) 4 j 4)
  refine And.intro (show (0 : Int) ≤ z14 ∧ z14 ≤ (1024 : Int) by omega) ?_
  have w15 : (fx_up (fx_up (fx_up (fx_up S 20 i 0 z1) 20 i 1 z5) 20 i 3 z10) 20 i 4 z14) 20 i 0 = (fx_up (fx_up (fx_up S 20 i 0 z1) 20 i 1 z5) 20 i 3 z10) 20 i 0 := if_neg (fun q => absurd q.2.2 (by decide))
  have w16 : (fx_up (fx_up (fx_up (fx_up S 20 i 0 z1) 20 i 1 z5) 20 i 3 z10) 20 i 4 z14) 20 i 1 = (fx_up (fx_up (fx_up S 20 i 0 z1) 20 i 1 z5) 20 i 3 z10) 20 i 1 := if_neg (fun q => absurd q.2.2 (by decide))
  have w17 : (fx_up (fx_up (fx_up (fx_up S 20 i 0 z1) 20 i 1 z5) 20 i 3 z10) 20 i 4 z14) 4 j 1 = (fx_up (fx_up (fx_up S 20 i 0 z1) 20 i 1 z5) 20 i 3 z10) 4 j 1 := rfl
  intro z18 (z18a : (-2147483648 : Int) ≤ z18) (z18b : z18 ≤ (2147483647 : Int)) (z18c : z18 = (fx_up (fx_up (fx_up (fx_up S 20 i 0 z1) 20 i 1 z5) 20 i 3 z10) 20 i 4 z14) 4 j 5)
  refine And.intro (show (-2147483648 : Int) ≤ z18 ∧ z18 ≤ (2147483647 : Int) by omega) ?_
  have w19 : (fx_up (fx_up (fx_up (fx_up (fx_up S 20 i 0 z1) 20 i 1 z5) 20 i 3 z10) 20 i 4 z14) 20 i 5 z18) 20 i 0 = (fx_up (fx_up (fx_up (fx_up S 20 i 0 z1) 20 i 1 z5) 20 i 3 z10) 20 i 4 z14) 20 i 0 := if_neg (fun q => absurd q.2.2 (by decide))
  have w20 : (fx_up (fx_up (fx_up (fx_up (fx_up S 20 i 0 z1) 20 i 1 z5) 20 i 3 z10) 20 i 4 z14) 20 i 5 z18) 20 i 1 = (fx_up (fx_up (fx_up (fx_up S 20 i 0 z1) 20 i 1 z5) 20 i 3 z10) 20 i 4 z14) 20 i 1 := if_neg (fun q => absurd q.2.2 (by decide))
  have w21 : (fx_up (fx_up (fx_up (fx_up (fx_up S 20 i 0 z1) 20 i 1 z5) 20 i 3 z10) 20 i 4 z14) 20 i 5 z18) 4 j 1 = (fx_up (fx_up (fx_up (fx_up S 20 i 0 z1) 20 i 1 z5) 20 i 3 z10) 20 i 4 z14) 4 j 1 := rfl
  intro z22 (z22a : (-2147483648 : Int) ≤ z22) (z22b : z22 ≤ (2147483647 : Int)) (z22c : z22 = (fx_up (fx_up (fx_up (fx_up (fx_up S 20 i 0 z1) 20 i 1 z5) 20 i 3 z10) 20 i 4 z14) 20 i 5 z18) 4 j 6)
  refine And.intro (show (-2147483648 : Int) ≤ z22 ∧ z22 ≤ (2147483647 : Int) by omega) ?_
  have w23 : (fx_up (fx_up (fx_up (fx_up (fx_up (fx_up S 20 i 0 z1) 20 i 1 z5) 20 i 3 z10) 20 i 4 z14) 20 i 5 z18) 20 i 6 z22) 20 i 0 = (fx_up (fx_up (fx_up (fx_up (fx_up S 20 i 0 z1) 20 i 1 z5) 20 i 3 z10) 20 i 4 z14) 20 i 5 z18) 20 i 0 := if_neg (fun q => absurd q.2.2 (by decide))
  have w24 : (fx_up (fx_up (fx_up (fx_up (fx_up (fx_up S 20 i 0 z1) 20 i 1 z5) 20 i 3 z10) 20 i 4 z14) 20 i 5 z18) 20 i 6 z22) 20 i 1 = (fx_up (fx_up (fx_up (fx_up (fx_up S 20 i 0 z1) 20 i 1 z5) 20 i 3 z10) 20 i 4 z14) 20 i 5 z18) 20 i 1 := if_neg (fun q => absurd q.2.2 (by decide))
  have w25 : (fx_up (fx_up (fx_up (fx_up (fx_up (fx_up S 20 i 0 z1) 20 i 1 z5) 20 i 3 z10) 20 i 4 z14) 20 i 5 z18) 20 i 6 z22) 4 j 1 = (fx_up (fx_up (fx_up (fx_up (fx_up S 20 i 0 z1) 20 i 1 z5) 20 i 3 z10) 20 i 4 z14) 20 i 5 z18) 4 j 1 := rfl
  intro z26 (z26a : (0 : Int) ≤ z26) (z26b : z26 ≤ (2 : Int)) (z26c : z26 = (fx_up (fx_up (fx_up (fx_up (fx_up (fx_up S 20 i 0 z1) 20 i 1 z5) 20 i 3 z10) 20 i 4 z14) 20 i 5 z18) 20 i 6 z22) 4 j 7)
  refine And.intro (show (0 : Int) ≤ z26 ∧ z26 ≤ (2 : Int) by omega) ?_
  have w27 : (fx_up (fx_up (fx_up (fx_up (fx_up (fx_up (fx_up S 20 i 0 z1) 20 i 1 z5) 20 i 3 z10) 20 i 4 z14) 20 i 5 z18) 20 i 6 z22) 20 i 7 z26) 20 i 0 = (fx_up (fx_up (fx_up (fx_up (fx_up (fx_up S 20 i 0 z1) 20 i 1 z5) 20 i 3 z10) 20 i 4 z14) 20 i 5 z18) 20 i 6 z22) 20 i 0 := if_neg (fun q => absurd q.2.2 (by decide))
  have w28 : (fx_up (fx_up (fx_up (fx_up (fx_up (fx_up (fx_up S 20 i 0 z1) 20 i 1 z5) 20 i 3 z10) 20 i 4 z14) 20 i 5 z18) 20 i 6 z22) 20 i 7 z26) 20 i 1 = (fx_up (fx_up (fx_up (fx_up (fx_up (fx_up S 20 i 0 z1) 20 i 1 z5) 20 i 3 z10) 20 i 4 z14) 20 i 5 z18) 20 i 6 z22) 20 i 1 := if_neg (fun q => absurd q.2.2 (by decide))
  have w29 : (fx_up (fx_up (fx_up (fx_up (fx_up (fx_up (fx_up S 20 i 0 z1) 20 i 1 z5) 20 i 3 z10) 20 i 4 z14) 20 i 5 z18) 20 i 6 z22) 20 i 7 z26) 4 j 1 = (fx_up (fx_up (fx_up (fx_up (fx_up (fx_up S 20 i 0 z1) 20 i 1 z5) 20 i 3 z10) 20 i 4 z14) 20 i 5 z18) 20 i 6 z22) 4 j 1 := rfl
  refine And.intro (show ((0 : Int) ≤ (0 : Int) ∧ (5 : Int) ≤ (5 : Int) : Prop) by omega) (And.intro (show (0 ≤ (0 : Int) ∧ 0 ≤ (0 : Int)) ∧ (0 ≤ (2 : Int) ∧ (0 : Int) + (2 : Int) ≤ (2 : Int) ∧ (0 : Int) + (2 : Int) ≤ (2 : Int)) by omega) ?_)
  have w30 : (fx_cpy (fx_up (fx_up (fx_up (fx_up (fx_up (fx_up (fx_up S 20 i 0 z1) 20 i 1 z5) 20 i 3 z10) 20 i 4 z14) 20 i 5 z18) 20 i 6 z22) 20 i 7 z26) 21 i (0 : Int) (2 : Int) 5 j (0 : Int)) 20 i 0 = (fx_up (fx_up (fx_up (fx_up (fx_up (fx_up (fx_up S 20 i 0 z1) 20 i 1 z5) 20 i 3 z10) 20 i 4 z14) 20 i 5 z18) 20 i 6 z22) 20 i 7 z26) 20 i 0 := rfl
  have w31 : (fx_cpy (fx_up (fx_up (fx_up (fx_up (fx_up (fx_up (fx_up S 20 i 0 z1) 20 i 1 z5) 20 i 3 z10) 20 i 4 z14) 20 i 5 z18) 20 i 6 z22) 20 i 7 z26) 21 i (0 : Int) (2 : Int) 5 j (0 : Int)) 20 i 1 = (fx_up (fx_up (fx_up (fx_up (fx_up (fx_up (fx_up S 20 i 0 z1) 20 i 1 z5) 20 i 3 z10) 20 i 4 z14) 20 i 5 z18) 20 i 6 z22) 20 i 7 z26) 20 i 1 := rfl
  have w32 : (fx_cpy (fx_up (fx_up (fx_up (fx_up (fx_up (fx_up (fx_up S 20 i 0 z1) 20 i 1 z5) 20 i 3 z10) 20 i 4 z14) 20 i 5 z18) 20 i 6 z22) 20 i 7 z26) 21 i (0 : Int) (2 : Int) 5 j (0 : Int)) 4 j 1 = (fx_up (fx_up (fx_up (fx_up (fx_up (fx_up (fx_up S 20 i 0 z1) 20 i 1 z5) 20 i 3 z10) 20 i 4 z14) 20 i 5 z18) 20 i 6 z22) 20 i 7 z26) 4 j 1 := rfl
  refine And.intro (show ((0 : Int) ≤ (0 : Int) ∧ (6000 : Int) ≤ (6000 : Int) : Prop) by omega) (And.intro (show (0 ≤ (0 : Int) ∧ 0 ≤ (0 : Int)) ∧ (0 ≤ (2 : Int) ∧ (0 : Int) + (2 : Int) ≤ (2 : Int) ∧ (0 : Int) + (2 : Int) ≤ (2 : Int)) by omega) ?_)
  have w33 : (fx_cpy (fx_cpy (fx_up (fx_up (fx_up (fx_up (fx_up (fx_up (fx_up S 20 i 0 z1) 20 i 1 z5) 20 i 3 z10) 20 i 4 z14) 20 i 5 z18) 20 i 6 z22) 20 i 7 z26) 21 i (0 : Int) (2 : Int) 5 j (0 : Int)) 22 i (0 : Int) (2 : Int) 6 j (0 : Int)) 20 i 0 = (fx_cpy (fx_up (fx_up (fx_up (fx_up (fx_up (fx_up (fx_up S 20 i 0 z1) 20 i 1 z5) 20 i 3 z10) 20 i 4 z14) 20 i 5 z18) 20 i 6 z22) 20 i 7 z26) 21 i (0 : Int) (2 : Int) 5 j (0 : Int)) 20 i 0 := rfl
  have w34 : (fx_cpy (fx_cpy (fx_up (fx_up (fx_up (fx_up (fx_up (fx_up (fx_up S 20 i 0 z1) 20 i 1 z5) 20 i 3 z10) 20 i 4 z14) 20 i 5 z18) 20 i 6 z22) 20 i 7 z26) 21 i (0 : Int) (2 : Int) 5 j (0 : Int)) 22 i (0 : Int) (2 : Int) 6 j (0 : Int)) 20 i 1 = (fx_cpy (fx_up (fx_up (fx_up (fx_up (fx_up (fx_up (fx_up S 20 i 0 z1) 20 i 1 z5) 20 i 3 z10) 20 i 4 z14) 20 i 5 z18) 20 i 6 z22) 20 i 7 z26) 21 i (0 : Int) (2 : Int) 5 j (0 : Int)) 20 i 1 := rfl
  have w35 : (fx_cpy (fx_cpy (fx_up (fx_up (fx_up (fx_up (fx_up (fx_up (fx_up S 20 i 0 z1) 20 i 1 z5) 20 i 3 z10) 20 i 4 z14) 20 i 5 z18) 20 i 6 z22) 20 i 7 z26) 21 i (0 : Int) (2 : Int) 5 j (0 : Int)) 22 i (0 : Int) (2 : Int) 6 j (0 : Int)) 4 j 1 = (fx_cpy (fx_up (fx_up (fx_up (fx_up (fx_up (fx_up (fx_up S 20 i 0 z1) 20 i 1 z5) 20 i 3 z10) 20 i 4 z14) 20 i 5 z18) 20 i 6 z22) 20 i 7 z26) 21 i (0 : Int) (2 : Int) 5 j (0 : Int)) 4 j 1 := rfl
  refine And.intro (show ((-1 : Int) ≤ (-1 : Int) ∧ (207 : Int) ≤ (207 : Int) : Prop) by omega) (And.intro (show (0 ≤ (0 : Int) ∧ 0 ≤ (0 : Int)) ∧ (0 ≤ (32 : Int) ∧ (0 : Int) + (32 : Int) ≤ (32 : Int) ∧ (0 : Int) + (32 : Int) ≤ (32 : Int)) by omega) ?_)
  have w36 : (fx_cpy (fx_cpy (fx_cpy (fx_up (fx_up (fx_up (fx_up (fx_up (fx_up (fx_up S 20 i 0 z1) 20 i 1 z5) 20 i 3 z10) 20 i 4 z14) 20 i 5 z18) 20 i 6 z22) 20 i 7 z26) 21 i (0 : Int) (2 : Int) 5 j (0 : Int)) 22 i (0 : Int) (2 : Int) 6 j (0 : Int)) 23 i (0 : Int) (32 : Int) 7 j (0 : Int)) 20 i 0 = (fx_cpy (fx_cpy (fx_up (fx_up (fx_up (fx_up (fx_up (fx_up (fx_up S 20 i 0 z1) 20 i 1 z5) 20 i 3 z10) 20 i 4 z14) 20 i 5 z18) 20 i 6 z22) 20 i 7 z26) 21 i (0 : Int) (2 : Int) 5 j (0 : Int)) 22 i (0 : Int) (2 : Int) 6 j (0 : Int)) 20 i 0 := rfl
  have w37 : (fx_cpy (fx_cpy (fx_cpy (fx_up (fx_up (fx_up (fx_up (fx_up (fx_up (fx_up S 20 i 0 z1) 20 i 1 z5) 20 i 3 z10) 20 i 4 z14) 20 i 5 z18) 20 i 6 z22) 20 i 7 z26) 21 i (0 : Int) (2 : Int) 5 j (0 : Int)) 22 i (0 : Int) (2 : Int) 6 j (0 : Int)) 23 i (0 : Int) (32 : Int) 7 j (0 : Int)) 20 i 1 = (fx_cpy (fx_cpy (fx_up (fx_up (fx_up (fx_up (fx_up (fx_up (fx_up S 20 i 0 z1) 20 i 1 z5) 20 i 3 z10) 20 i 4 z14) 20 i 5 z18) 20 i 6 z22) 20 i 7 z26) 21 i (0 : Int) (2 : Int) 5 j (0 : Int)) 22 i (0 : Int) (2 : Int) 6 j (0 : Int)) 20 i 1 := rfl
  have w38 : (fx_cpy (fx_cpy (fx_cpy (fx_up (fx_up (fx_up (fx_up (fx_up (fx_up (fx_up S 20 i 0 z1) 20 i 1 z5) 20 i 3 z10) 20 i 4 z14) 20 i 5 z18) 20 i 6 z22) 20 i 7 z26) 21 i (0 : Int) (2 : Int) 5 j (0 : Int)) 22 i (0 : Int) (2 : Int) 6 j (0 : Int)) 23 i (0 : Int) (32 : Int) 7 j (0 : Int)) 4 j 1 = (fx_cpy (fx_cpy (fx_up (fx_up (fx_up (fx_up (fx_up (fx_up (fx_up S 20 i 0 z1) 20 i 1 z5) 20 i 3 z10) 20 i 4 z14) 20 i 5 z18) 20 i 6 z22) 20 i 7 z26) 21 i (0 : Int) (2 : Int) 5 j (0 : Int)) 22 i (0 : Int) (2 : Int) 6 j (0 : Int)) 4 j 1 := rfl
  intro z39 (z39a : (-2147483648 : Int) ≤ z39) (z39b : z39 ≤ (2147483647 : Int)) (z39c : z39 = (fx_cpy (fx_cpy (fx_cpy (fx_up (fx_up (fx_up (fx_up (fx_up (fx_up (fx_up S 20 i 0 z1) 20 i 1 z5) 20 i 3 z10) 20 i 4 z14) 20 i 5 z18) 20 i 6 z22) 20 i 7 z26) 21 i (0 : Int) (2 : Int) 5 j (0 : Int)) 22 i (0 : Int) (2 : Int) 6 j (0 : Int)) 23 i (0 : Int) (32 : Int) 7 j (0 : Int)) 4 j 11)
  refine And.intro (show (-2147483648 : Int) ≤ z39 ∧ z39 ≤ (2147483647 : Int) by omega) ?_
  have w40 : (fx_up (fx_cpy (fx_cpy (fx_cpy (fx_up (fx_up (fx_up (fx_up (fx_up (fx_up (fx_up S 20 i 0 z1) 20 i 1 z5) 20 i 3 z10) 20 i 4 z14) 20 i 5 z18) 20 i 6 z22) 20 i 7 z26) 21 i (0 : Int) (2 : Int) 5 j (0 : Int)) 22 i (0 : Int) (2 : Int) 6 j (0 : Int)) 23 i (0 : Int) (32 : Int) 7 j (0 : Int)) 20 i 11 z39) 20 i 0 = (fx_cpy (fx_cpy (fx_cpy (fx_up (fx_up (fx_up (fx_up (fx_up (fx_up (fx_up S 20 i 0 z1) 20 i 1 z5) 20 i 3 z10) 20 i 4 z14) 20 i 5 z18) 20 i 6 z22) 20 i 7 z26) 21 i (0 : Int) (2 : Int) 5 j (0 : Int)) 22 i (0 : Int) (2 : Int) 6 j (0 : Int)) 23 i (0 : Int) (32 : Int) 7 j (0 : Int)) 20 i 0 := if_neg (fun q => absurd q.2.2 (by decide))
  have w41 : (fx_up (fx_cpy (fx_cpy (fx_cpy (fx_up (fx_up (fx_up (fx_up (fx_up (fx_up (fx_up S 20 i 0 z1) 20 i 1 z5) 20 i 3 z10) 20 i 4 z14) 20 i 5 z18) 20 i 6 z22) 20 i 7 z26) 21 i (0 : Int) (2 : Int) 5 j (0 : Int)) 22 i (0 : Int) (2 : Int) 6 j (0 : Int)) 23 i (0 : Int) (32 : Int) 7 j (0 : Int)) 20 i 11 z39) 20 i 1 = (fx_cpy (fx_cpy (fx_cpy (fx_up (fx_up (fx_up (fx_up (fx_up (fx_up (fx_up S 20 i 0 z1) 20 i 1 z5) 20 i 3 z10) 20 i 4 z14) 20 i 5 z18) 20 i 6 z22) 20 i 7 z26) 21 i (0 : Int) (2 : Int) 5 j (0 : Int)) 22 i (0 : Int) (2 : Int) 6 j (0 : Int)) 23 i (0 : Int) (32 : Int) 7 j (0 : Int)) 20 i 1 := if_neg (fun q => absurd q.2.2 (by decide))
  have w42 : (fx_up (fx_cpy (fx_cpy (fx_cpy (fx_up (fx_up (fx_up (fx_up (fx_up (fx_up (fx_up S 20 i 0 z1) 20 i 1 z5) 20 i 3 z10) 20 i 4 z14) 20 i 5 z18) 20 i 6 z22) 20 i 7 z26) 21 i (0 : Int) (2 : Int) 5 j (0 : Int)) 22 i (0 : Int) (2 : Int) 6 j (0 : Int)) 23 i (0 : Int) (32 : Int) 7 j (0 : Int)) 20 i 11 z39) 4 j 1 = (fx_cpy (fx_cpy (fx_cpy (fx_up (fx_up (fx_up (fx_up (fx_up (fx_up (fx_up S 20 i 0 z1) 20 i 1 z5) 20 i 3 z10) 20 i 4 z14) 20 i 5 z18) 20 i 6 z22) 20 i 7 z26) 21 i (0 : Int) (2 : Int) 5 j (0 : Int)) 22 i (0 : Int) (2 : Int) 6 j (0 : Int)) 23 i (0 : Int) (32 : Int) 7 j (0 : Int)) 4 j 1 := rfl
  intro z43 (z43a : (-2147483648 : Int) ≤ z43) (z43b : z43 ≤ (2147483647 : Int)) (z43c : z43 = (fx_up (fx_cpy (fx_cpy (fx_cpy (fx_up (fx_up (fx_up (fx_up (fx_up (fx_up (fx_up S 20 i 0 z1) 20 i 1 z5) 20 i 3 z10) 20 i 4 z14) 20 i 5 z18) 20 i 6 z22) 20 i 7 z26) 21 i (0 : Int) (2 : Int) 5 j (0 : Int)) 22 i (0 : Int) (2 : Int) 6 j (0 : Int)) 23 i (0 : Int) (32 : Int) 7 j (0 : Int)) 20 i 11 z39) 4 j 12)
  refine And.intro (show (-2147483648 : Int) ≤ z43 ∧ z43 ≤ (2147483647 : Int) by omega) ?_
  have w44 : (fx_up (fx_up (fx_cpy (fx_cpy (fx_cpy (fx_up (fx_up (fx_up (fx_up (fx_up (fx_up (fx_up S 20 i 0 z1) 20 i 1 z5) 20 i 3 z10) 20 i 4 z14) 20 i 5 z18) 20 i 6 z22) 20 i 7 z26) 21 i (0 : Int) (2 : Int) 5 j (0 : Int)) 22 i (0 : Int) (2 : Int) 6 j (0 : Int)) 23 i (0 : Int) (32 : Int) 7 j (0 : Int)) 20 i 11 z39) 20 i 12 z43) 20 i 0 = (fx_up (fx_cpy (fx_cpy (fx_cpy (fx_up (fx_up (fx_up (fx_up (fx_up (fx_up (fx_up S 20 i 0 z1) 20 i 1 z5) 20 i 3 z10) 20 i 4 z14) 20 i 5 z18) 20 i 6 z22) 20 i 7 z26) 21 i (0 : Int) (2 : Int) 5 j (0 : Int)) 22 i (0 : Int) (2 : Int) 6 j (0 : Int)) 23 i (0 : Int) (32 : Int) 7 j (0 : Int)) 20 i 11 z39) 20 i 0 := if_neg (fun q => absurd q.2.2 (by decide))
  have w45 : (fx_up (fx_up (fx_cpy (fx_cpy (fx_cpy (fx_up (fx_up (fx_up (fx_up (fx_up (fx_up (fx_up S 20 i 0 z1) 20 i 1 z5) 20 i 3 z10) 20 i 4 z14) 20 i 5 z18) 20 i 6 z22) 20 i 7 z26) 21 i (0 : Int) (2 : Int) 5 j (0 : Int)) 22 i (0 : Int) (2 : Int) 6 j (0 : Int)) 23 i (0 : Int) (32 : Int) 7 j (0 : Int)) 20 i 11 z39) 20 i 12 z43) 20 i 1 = (fx_up (fx_cpy (fx_cpy (fx_cpy (fx_up (fx_up (fx_up (fx_up (fx_up (fx_up (fx_up S 20 i 0 z1) 20 i 1 z5) 20 i 3 z10) 20 i 4 z14) 20 i 5 z18) 20 i 6 z22) 20 i 7 z26) 21 i (0 : Int) (2 : Int) 5 j (0 : Int)) 22 i (0 : Int) (2 : Int) 6 j (0 : Int)) 23 i (0 : Int) (32 : Int) 7 j (0 : Int)) 20 i 11 z39) 20 i 1 := if_neg (fun q => absurd q.2.2 (by decide))
  have w46 : (fx_up (fx_up (fx_cpy (fx_cpy (fx_cpy (fx_up (fx_up (fx_up (fx_up (fx_up (fx_up (fx_up S 20 i 0 z1) 20 i 1 z5) 20 i 3 z10) 20 i 4 z14) 20 i 5 z18) 20 i 6 z22) 20 i 7 z26) 21 i (0 : Int) (2 : Int) 5 j (0 : Int)) 22 i (0 : Int) (2 : Int) 6 j (0 : Int)) 23 i (0 : Int) (32 : Int) 7 j (0 : Int)) 20 i 11 z39) 20 i 12 z43) 4 j 1 = (fx_up (fx_cpy (fx_cpy (fx_cpy (fx_up (fx_up (fx_up (fx_up (fx_up (fx_up (fx_up S 20 i 0 z1) 20 i 1 z5) 20 i 3 z10) 20 i 4 z14) 20 i 5 z18) 20 i 6 z22) 20 i 7 z26) 21 i (0 : Int) (2 : Int) 5 j (0 : Int)) 22 i (0 : Int) (2 : Int) 6 j (0 : Int)) 23 i (0 : Int) (32 : Int) 7 j (0 : Int)) 20 i 11 z39) 4 j 1 := rfl
  exact hk (fx_up (fx_up (fx_cpy (fx_cpy (fx_cpy (fx_up (fx_up (fx_up (fx_up (fx_up (fx_up (fx_up S 20 i 0 z1) 20 i 1 z5) 20 i 3 z10) 20 i 4 z14) 20 i 5 z18) 20 i 6 z22) 20 i 7 z26) 21 i (0 : Int) (2 : Int) 5 j (0 : Int)) 22 i (0 : Int) (2 : Int) 6 j (0 : Int)) 23 i (0 : Int) (32 : Int) 7 j (0 : Int)) 20 i 11 z39) 20 i 12 z43) ⟨(fxfr_up (fxfr_up (fxfr_cpy (fxfr_cpy (fxfr_cpy (fxfr_up (fxfr_up (fxfr_up (fxfr_up (fxfr_up (fxfr_up (fxfr_up fxfr_rfl rfl) rfl) rfl) rfl) rfl) rfl) rfl) (fun _ => rfl)) (fun _ => rfl)) (fun _ => rfl)) rfl) rfl), by omega⟩
theorem c_Node_become4 {l : Launch} {k : fxK} {S : fxS} {i : Nat} {j : Nat}  (hk : ∀ (S' : fxS) , (fxfr [(4, 0), (4, 1), (4, 3), (4, 4), (4, 5), (4, 6), (4, 7), (4, 11), (4, 12), (5, 9999), (6, 9999), (7, 9999)] S S' ∧ (S' 4 i 0 = S 20 j 0 ∧ S' 4 i 1 = S 20 j 1)) → k none S') : fC l 7 [.inr (.inr (4, i)), .inr (.inr (20, j))] S k := by
  refine fxe_7 (Nat.le_of_ble_eq_true rfl) (fxz_7 400 ?_)
  intro z1 (z1a : (0 : Int) ≤ z1) (z1b : z1 ≤ (2 : Int)) (z1c : z1 = S 20 j 0)
  refine And.intro (show (0 : Int) ≤ z1 ∧ z1 ≤ (2 : Int) by omega) ?_
  have w2 : (fx_up S 4 i 0 z1) 4 i 0 = z1 := fx_up_at _ _ _ _ _
  have w3 : (fx_up S 4 i 0 z1) 4 i 1 = S 4 i 1 := if_neg (fun q => absurd q.2.2 (by decide))
  have w4 : (fx_up S 4 i 0 z1) 20 j 1 = S 20 j 1 := rfl
  intro z5 (z5a : (0 : Int) ≤ z5) (z5b : z5 ≤ (59 : Int)) (z5c : z5 = (fx_up S 4 i 0 z1) 20 j 1)
  refine And.intro (show (0 : Int) ≤ z5 ∧ z5 ≤ (59 : Int) by omega) ?_
  have w6 : (fx_up (fx_up S 4 i 0 z1) 4 i 1 z5) 4 i 0 = (fx_up S 4 i 0 z1) 4 i 0 := if_neg (fun q => absurd q.2.2 (by decide))
  have w7 : (fx_up (fx_up S 4 i 0 z1) 4 i 1 z5) 4 i 1 = z5 := fx_up_at _ _ _ _ _
  have w8 : (fx_up (fx_up S 4 i 0 z1) 4 i 1 z5) 20 j 1 = (fx_up S 4 i 0 z1) 20 j 1 := rfl
  intro z9
  intro z10 (z10a : (-2147483648 : Int) ≤ z10) (z10b : z10 ≤ (2147483647 : Int)) (z10c : z10 = (fx_up (fx_up S 4 i 0 z1) 4 i 1 z5) 20 j 3)
  refine And.intro (show (-2147483648 : Int) ≤ z10 ∧ z10 ≤ (2147483647 : Int) by omega) ?_
  have w11 : (fx_up (fx_up (fx_up S 4 i 0 z1) 4 i 1 z5) 4 i 3 z10) 4 i 0 = (fx_up (fx_up S 4 i 0 z1) 4 i 1 z5) 4 i 0 := if_neg (fun q => absurd q.2.2 (by decide))
  have w12 : (fx_up (fx_up (fx_up S 4 i 0 z1) 4 i 1 z5) 4 i 3 z10) 4 i 1 = (fx_up (fx_up S 4 i 0 z1) 4 i 1 z5) 4 i 1 := if_neg (fun q => absurd q.2.2 (by decide))
  have w13 : (fx_up (fx_up (fx_up S 4 i 0 z1) 4 i 1 z5) 4 i 3 z10) 20 j 1 = (fx_up (fx_up S 4 i 0 z1) 4 i 1 z5) 20 j 1 := rfl
  intro z14 (z14a : (0 : Int) ≤ z14) (z14b : z14 ≤ (1024 : Int)) (z14c : z14 = (fx_up (fx_up (fx_up S 4 i 0 z1) 4 i 1 z5) 4 i 3 z10) 20 j 4)
  refine And.intro (show (0 : Int) ≤ z14 ∧ z14 ≤ (1024 : Int) by omega) ?_
  have w15 : (fx_up (fx_up (fx_up (fx_up S 4 i 0 z1) 4 i 1 z5) 4 i 3 z10) 4 i 4 z14) 4 i 0 = (fx_up (fx_up (fx_up S 4 i 0 z1) 4 i 1 z5) 4 i 3 z10) 4 i 0 := if_neg (fun q => absurd q.2.2 (by decide))
  have w16 : (fx_up (fx_up (fx_up (fx_up S 4 i 0 z1) 4 i 1 z5) 4 i 3 z10) 4 i 4 z14) 4 i 1 = (fx_up (fx_up (fx_up S 4 i 0 z1) 4 i 1 z5) 4 i 3 z10) 4 i 1 := if_neg (fun q => absurd q.2.2 (by decide))
  have w17 : (fx_up (fx_up (fx_up (fx_up S 4 i 0 z1) 4 i 1 z5) 4 i 3 z10) 4 i 4 z14) 20 j 1 = (fx_up (fx_up (fx_up S 4 i 0 z1) 4 i 1 z5) 4 i 3 z10) 20 j 1 := rfl
  intro z18 (z18a : (-2147483648 : Int) ≤ z18) (z18b : z18 ≤ (2147483647 : Int)) (z18c : z18 = (fx_up (fx_up (fx_up (fx_up S 4 i 0 z1) 4 i 1 z5) 4 i 3 z10) 4 i 4 z14) 20 j 5)
  refine And.intro (show (-2147483648 : Int) ≤ z18 ∧ z18 ≤ (2147483647 : Int) by omega) ?_
  have w19 : (fx_up (fx_up (fx_up (fx_up (fx_up S 4 i 0 z1) 4 i 1 z5) 4 i 3 z10) 4 i 4 z14) 4 i 5 z18) 4 i 0 = (fx_up (fx_up (fx_up (fx_up S 4 i 0 z1) 4 i 1 z5) 4 i 3 z10) 4 i 4 z14) 4 i 0 := if_neg (fun q => absurd q.2.2 (by decide))
  have w20 : (fx_up (fx_up (fx_up (fx_up (fx_up S 4 i 0 z1) 4 i 1 z5) 4 i 3 z10) 4 i 4 z14) 4 i 5 z18) 4 i 1 = (fx_up (fx_up (fx_up (fx_up S 4 i 0 z1) 4 i 1 z5) 4 i 3 z10) 4 i 4 z14) 4 i 1 := if_neg (fun q => absurd q.2.2 (by decide))
  have w21 : (fx_up (fx_up (fx_up (fx_up (fx_up S 4 i 0 z1) 4 i 1 z5) 4 i 3 z10) 4 i 4 z14) 4 i 5 z18) 20 j 1 = (fx_up (fx_up (fx_up (fx_up S 4 i 0 z1) 4 i 1 z5) 4 i 3 z10) 4 i 4 z14) 20 j 1 := rfl
  intro z22 (z22a : (-2147483648 : Int) ≤ z22) (z22b : z22 ≤ (2147483647 : Int)) (z22c : z22 = (fx_up (fx_up (fx_up (fx_up (fx_up S 4 i 0 z1) 4 i 1 z5) 4 i 3 z10) 4 i 4 z14) 4 i 5 z18) 20 j 6)
  refine And.intro (show (-2147483648 : Int) ≤ z22 ∧ z22 ≤ (2147483647 : Int) by omega) ?_
  have w23 : (fx_up (fx_up (fx_up (fx_up (fx_up (fx_up S 4 i 0 z1) 4 i 1 z5) 4 i 3 z10) 4 i 4 z14) 4 i 5 z18) 4 i 6 z22) 4 i 0 = (fx_up (fx_up (fx_up (fx_up (fx_up S 4 i 0 z1) 4 i 1 z5) 4 i 3 z10) 4 i 4 z14) 4 i 5 z18) 4 i 0 := if_neg (fun q => absurd q.2.2 (by decide))
  have w24 : (fx_up (fx_up (fx_up (fx_up (fx_up (fx_up S 4 i 0 z1) 4 i 1 z5) 4 i 3 z10) 4 i 4 z14) 4 i 5 z18) 4 i 6 z22) 4 i 1 = (fx_up (fx_up (fx_up (fx_up (fx_up S 4 i 0 z1) 4 i 1 z5) 4 i 3 z10) 4 i 4 z14) 4 i 5 z18) 4 i 1 := if_neg (fun q => absurd q.2.2 (by decide))
  have w25 : (fx_up (fx_up (fx_up (fx_up (fx_up (fx_up S 4 i 0 z1) 4 i 1 z5) 4 i 3 z10) 4 i 4 z14) 4 i 5 z18) 4 i 6 z22) 20 j 1 = (fx_up (fx_up (fx_up (fx_up (fx_up S 4 i 0 z1) 4 i 1 z5) 4 i 3 z10) 4 i 4 z14) 4 i 5 z18) 20 j 1 := rfl
  intro z26 (z26a : (0 : Int) ≤ z26) (z26b : z26 ≤ (2 : Int)) (z26c : z26 = (fx_up (fx_up (fx_up (fx_up (fx_up (fx_up S 4 i 0 z1) 4 i 1 z5) 4 i 3 z10) 4 i 4 z14) 4 i 5 z18) 4 i 6 z22) 20 j 7)
  refine And.intro (show (0 : Int) ≤ z26 ∧ z26 ≤ (2 : Int) by omega) ?_
  have w27 : (fx_up (fx_up (fx_up (fx_up (fx_up (fx_up (fx_up S 4 i 0 z1) 4 i 1 z5) 4 i 3 z10) 4 i 4 z14) 4 i 5 z18) 4 i 6 z22) 4 i 7 z26) 4 i 0 = (fx_up (fx_up (fx_up (fx_up (fx_up (fx_up S 4 i 0 z1) 4 i 1 z5) 4 i 3 z10) 4 i 4 z14) 4 i 5 z18) 4 i 6 z22) 4 i 0 := if_neg (fun q => absurd q.2.2 (by decide))
  have w28 : (fx_up (fx_up (fx_up (fx_up (fx_up (fx_up (fx_up S 4 i 0 z1) 4 i 1 z5) 4 i 3 z10) 4 i 4 z14) 4 i 5 z18) 4 i 6 z22) 4 i 7 z26) 4 i 1 = (fx_up (fx_up (fx_up (fx_up (fx_up (fx_up S 4 i 0 z1) 4 i 1 z5) 4 i 3 z10) 4 i 4 z14) 4 i 5 z18) 4 i 6 z22) 4 i 1 := if_neg (fun q => absurd q.2.2 (by decide))
  have w29 : (fx_up (fx_up (fx_up (fx_up (fx_up (fx_up (fx_up S 4 i 0 z1) 4 i 1 z5) 4 i 3 z10) 4 i 4 z14) 4 i 5 z18) 4 i 6 z22) 4 i 7 z26) 20 j 1 = (fx_up (fx_up (fx_up (fx_up (fx_up (fx_up S 4 i 0 z1) 4 i 1 z5) 4 i 3 z10) 4 i 4 z14) 4 i 5 z18) 4 i 6 z22) 20 j 1 := rfl
  refine And.intro (show ((0 : Int) ≤ (0 : Int) ∧ (5 : Int) ≤ (5 : Int) : Prop) by omega) (And.intro (show (0 ≤ (0 : Int) ∧ 0 ≤ (0 : Int)) ∧ (0 ≤ (2 : Int) ∧ (0 : Int) + (2 : Int) ≤ (2 : Int) ∧ (0 : Int) + (2 : Int) ≤ (2 : Int)) by omega) ?_)
  have w30 : (fx_cpy (fx_up (fx_up (fx_up (fx_up (fx_up (fx_up (fx_up S 4 i 0 z1) 4 i 1 z5) 4 i 3 z10) 4 i 4 z14) 4 i 5 z18) 4 i 6 z22) 4 i 7 z26) 5 i (0 : Int) (2 : Int) 21 j (0 : Int)) 4 i 0 = (fx_up (fx_up (fx_up (fx_up (fx_up (fx_up (fx_up S 4 i 0 z1) 4 i 1 z5) 4 i 3 z10) 4 i 4 z14) 4 i 5 z18) 4 i 6 z22) 4 i 7 z26) 4 i 0 := rfl
  have w31 : (fx_cpy (fx_up (fx_up (fx_up (fx_up (fx_up (fx_up (fx_up S 4 i 0 z1) 4 i 1 z5) 4 i 3 z10) 4 i 4 z14) 4 i 5 z18) 4 i 6 z22) 4 i 7 z26) 5 i (0 : Int) (2 : Int) 21 j (0 : Int)) 4 i 1 = (fx_up (fx_up (fx_up (fx_up (fx_up (fx_up (fx_up S 4 i 0 z1) 4 i 1 z5) 4 i 3 z10) 4 i 4 z14) 4 i 5 z18) 4 i 6 z22) 4 i 7 z26) 4 i 1 := rfl
  have w32 : (fx_cpy (fx_up (fx_up (fx_up (fx_up (fx_up (fx_up (fx_up S 4 i 0 z1) 4 i 1 z5) 4 i 3 z10) 4 i 4 z14) 4 i 5 z18) 4 i 6 z22) 4 i 7 z26) 5 i (0 : Int) (2 : Int) 21 j (0 : Int)) 20 j 1 = (fx_up (fx_up (fx_up (fx_up (fx_up (fx_up (fx_up S 4 i 0 z1) 4 i 1 z5) 4 i 3 z10) 4 i 4 z14) 4 i 5 z18) 4 i 6 z22) 4 i 7 z26) 20 j 1 := rfl
  refine And.intro (show ((0 : Int) ≤ (0 : Int) ∧ (6000 : Int) ≤ (6000 : Int) : Prop) by omega) (And.intro (show (0 ≤ (0 : Int) ∧ 0 ≤ (0 : Int)) ∧ (0 ≤ (2 : Int) ∧ (0 : Int) + (2 : Int) ≤ (2 : Int) ∧ (0 : Int) + (2 : Int) ≤ (2 : Int)) by omega) ?_)
  have w33 : (fx_cpy (fx_cpy (fx_up (fx_up (fx_up (fx_up (fx_up (fx_up (fx_up S 4 i 0 z1) 4 i 1 z5) 4 i 3 z10) 4 i 4 z14) 4 i 5 z18) 4 i 6 z22) 4 i 7 z26) 5 i (0 : Int) (2 : Int) 21 j (0 : Int)) 6 i (0 : Int) (2 : Int) 22 j (0 : Int)) 4 i 0 = (fx_cpy (fx_up (fx_up (fx_up (fx_up (fx_up (fx_up (fx_up S 4 i 0 z1) 4 i 1 z5) 4 i 3 z10) 4 i 4 z14) 4 i 5 z18) 4 i 6 z22) 4 i 7 z26) 5 i (0 : Int) (2 : Int) 21 j (0 : Int)) 4 i 0 := rfl
  have w34 : (fx_cpy (fx_cpy (fx_up (fx_up (fx_up (fx_up (fx_up (fx_up (fx_up S 4 i 0 z1) 4 i 1 z5) 4 i 3 z10) 4 i 4 z14) 4 i 5 z18) 4 i 6 z22) 4 i 7 z26) 5 i (0 : Int) (2 : Int) 21 j (0 : Int)) 6 i (0 : Int) (2 : Int) 22 j (0 : Int)) 4 i 1 = (fx_cpy (fx_up (fx_up (fx_up (fx_up (fx_up (fx_up (fx_up S 4 i 0 z1) 4 i 1 z5) 4 i 3 z10) 4 i 4 z14) 4 i 5 z18) 4 i 6 z22) 4 i 7 z26) 5 i (0 : Int) (2 : Int) 21 j (0 : Int)) 4 i 1 := rfl
  have w35 : (fx_cpy (fx_cpy (fx_up (fx_up (fx_up (fx_up (fx_up (fx_up (fx_up S 4 i 0 z1) 4 i 1 z5) 4 i 3 z10) 4 i 4 z14) 4 i 5 z18) 4 i 6 z22) 4 i 7 z26) 5 i (0 : Int) (2 : Int) 21 j (0 : Int)) 6 i (0 : Int) (2 : Int) 22 j (0 : Int)) 20 j 1 = (fx_cpy (fx_up (fx_up (fx_up (fx_up (fx_up (fx_up (fx_up S 4 i 0 z1) 4 i 1 z5) 4 i 3 z10) 4 i 4 z14) 4 i 5 z18) 4 i 6 z22) 4 i 7 z26) 5 i (0 : Int) (2 : Int) 21 j (0 : Int)) 20 j 1 := rfl
  refine And.intro (show ((-1 : Int) ≤ (-1 : Int) ∧ (207 : Int) ≤ (207 : Int) : Prop) by omega) (And.intro (show (0 ≤ (0 : Int) ∧ 0 ≤ (0 : Int)) ∧ (0 ≤ (32 : Int) ∧ (0 : Int) + (32 : Int) ≤ (32 : Int) ∧ (0 : Int) + (32 : Int) ≤ (32 : Int)) by omega) ?_)
  have w36 : (fx_cpy (fx_cpy (fx_cpy (fx_up (fx_up (fx_up (fx_up (fx_up (fx_up (fx_up S 4 i 0 z1) 4 i 1 z5) 4 i 3 z10) 4 i 4 z14) 4 i 5 z18) 4 i 6 z22) 4 i 7 z26) 5 i (0 : Int) (2 : Int) 21 j (0 : Int)) 6 i (0 : Int) (2 : Int) 22 j (0 : Int)) 7 i (0 : Int) (32 : Int) 23 j (0 : Int)) 4 i 0 = (fx_cpy (fx_cpy (fx_up (fx_up (fx_up (fx_up (fx_up (fx_up (fx_up S 4 i 0 z1) 4 i 1 z5) 4 i 3 z10) 4 i 4 z14) 4 i 5 z18) 4 i 6 z22) 4 i 7 z26) 5 i (0 : Int) (2 : Int) 21 j (0 : Int)) 6 i (0 : Int) (2 : Int) 22 j (0 : Int)) 4 i 0 := rfl
  have w37 : (fx_cpy (fx_cpy (fx_cpy (fx_up (fx_up (fx_up (fx_up (fx_up (fx_up (fx_up S 4 i 0 z1) 4 i 1 z5) 4 i 3 z10) 4 i 4 z14) 4 i 5 z18) 4 i 6 z22) 4 i 7 z26) 5 i (0 : Int) (2 : Int) 21 j (0 : Int)) 6 i (0 : Int) (2 : Int) 22 j (0 : Int)) 7 i (0 : Int) (32 : Int) 23 j (0 : Int)) 4 i 1 = (fx_cpy (fx_cpy (fx_up (fx_up (fx_up (fx_up (fx_up (fx_up (fx_up S 4 i 0 z1) 4 i 1 z5) 4 i 3 z10) 4 i 4 z14) 4 i 5 z18) 4 i 6 z22) 4 i 7 z26) 5 i (0 : Int) (2 : Int) 21 j (0 : Int)) 6 i (0 : Int) (2 : Int) 22 j (0 : Int)) 4 i 1 := rfl
  have w38 : (fx_cpy (fx_cpy (fx_cpy (fx_up (fx_up (fx_up (fx_up (fx_up (fx_up (fx_up S 4 i 0 z1) 4 i 1 z5) 4 i 3 z10) 4 i 4 z14) 4 i 5 z18) 4 i 6 z22) 4 i 7 z26) 5 i (0 : Int) (2 : Int) 21 j (0 : Int)) 6 i (0 : Int) (2 : Int) 22 j (0 : Int)) 7 i (0 : Int) (32 : Int) 23 j (0 : Int)) 20 j 1 = (fx_cpy (fx_cpy (fx_up (fx_up (fx_up (fx_up (fx_up (fx_up (fx_up S 4 i 0 z1) 4 i 1 z5) 4 i 3 z10) 4 i 4 z14) 4 i 5 z18) 4 i 6 z22) 4 i 7 z26) 5 i (0 : Int) (2 : Int) 21 j (0 : Int)) 6 i (0 : Int) (2 : Int) 22 j (0 : Int)) 20 j 1 := rfl
  intro z39 (z39a : (-2147483648 : Int) ≤ z39) (z39b : z39 ≤ (2147483647 : Int)) (z39c : z39 = (fx_cpy (fx_cpy (fx_cpy (fx_up (fx_up (fx_up (fx_up (fx_up (fx_up (fx_up S 4 i 0 z1) 4 i 1 z5) 4 i 3 z10) 4 i 4 z14) 4 i 5 z18) 4 i 6 z22) 4 i 7 z26) 5 i (0 : Int) (2 : Int) 21 j (0 : Int)) 6 i (0 : Int) (2 : Int) 22 j (0 : Int)) 7 i (0 : Int) (32 : Int) 23 j (0 : Int)) 20 j 11)
  refine And.intro (show (-2147483648 : Int) ≤ z39 ∧ z39 ≤ (2147483647 : Int) by omega) ?_
  have w40 : (fx_up (fx_cpy (fx_cpy (fx_cpy (fx_up (fx_up (fx_up (fx_up (fx_up (fx_up (fx_up S 4 i 0 z1) 4 i 1 z5) 4 i 3 z10) 4 i 4 z14) 4 i 5 z18) 4 i 6 z22) 4 i 7 z26) 5 i (0 : Int) (2 : Int) 21 j (0 : Int)) 6 i (0 : Int) (2 : Int) 22 j (0 : Int)) 7 i (0 : Int) (32 : Int) 23 j (0 : Int)) 4 i 11 z39) 4 i 0 = (fx_cpy (fx_cpy (fx_cpy (fx_up (fx_up (fx_up (fx_up (fx_up (fx_up (fx_up S 4 i 0 z1) 4 i 1 z5) 4 i 3 z10) 4 i 4 z14) 4 i 5 z18) 4 i 6 z22) 4 i 7 z26) 5 i (0 : Int) (2 : Int) 21 j (0 : Int)) 6 i (0 : Int) (2 : Int) 22 j (0 : Int)) 7 i (0 : Int) (32 : Int) 23 j (0 : Int)) 4 i 0 := if_neg (fun q => absurd q.2.2 (by decide))
  have w41 : (fx_up (fx_cpy (fx_cpy (fx_cpy (fx_up (fx_up (fx_up (fx_up (fx_up (fx_up (fx_up S 4 i 0 z1) 4 i 1 z5) 4 i 3 z10) 4 i 4 z14) 4 i 5 z18) 4 i 6 z22) 4 i 7 z26) 5 i (0 : Int) (2 : Int) 21 j (0 : Int)) 6 i (0 : Int) (2 : Int) 22 j (0 : Int)) 7 i (0 : Int) (32 : Int) 23 j (0 : Int)) 4 i 11 z39) 4 i 1 = (fx_cpy (fx_cpy (fx_cpy (fx_up (fx_up (fx_up (fx_up (fx_up (fx_up (fx_up S 4 i 0 z1) 4 i 1 z5) 4 i 3 z10) 4 i 4 z14) 4 i 5 z18) 4 i 6 z22) 4 i 7 z26) 5 i (0 : Int) (2 : Int) 21 j (0 : Int)) 6 i (0 : Int) (2 : Int) 22 j (0 : Int)) 7 i (0 : Int) (32 : Int) 23 j (0 : Int)) 4 i 1 := if_neg (fun q => absurd q.2.2 (by decide))
  have w42 : (fx_up (fx_cpy (fx_cpy (fx_cpy (fx_up (fx_up (fx_up (fx_up (fx_up (fx_up (fx_up S 4 i 0 z1) 4 i 1 z5) 4 i 3 z10) 4 i 4 z14) 4 i 5 z18) 4 i 6 z22) 4 i 7 z26) 5 i (0 : Int) (2 : Int) 21 j (0 : Int)) 6 i (0 : Int) (2 : Int) 22 j (0 : Int)) 7 i (0 : Int) (32 : Int) 23 j (0 : Int)) 4 i 11 z39) 20 j 1 = (fx_cpy (fx_cpy (fx_cpy (fx_up (fx_up (fx_up (fx_up (fx_up (fx_up (fx_up S 4 i 0 z1) 4 i 1 z5) 4 i 3 z10) 4 i 4 z14) 4 i 5 z18) 4 i 6 z22) 4 i 7 z26) 5 i (0 : Int) (2 : Int) 21 j (0 : Int)) 6 i (0 : Int) (2 : Int) 22 j (0 : Int)) 7 i (0 : Int) (32 : Int) 23 j (0 : Int)) 20 j 1 := rfl
  intro z43 (z43a : (-2147483648 : Int) ≤ z43) (z43b : z43 ≤ (2147483647 : Int)) (z43c : z43 = (fx_up (fx_cpy (fx_cpy (fx_cpy (fx_up (fx_up (fx_up (fx_up (fx_up (fx_up (fx_up S 4 i 0 z1) 4 i 1 z5) 4 i 3 z10) 4 i 4 z14) 4 i 5 z18) 4 i 6 z22) 4 i 7 z26) 5 i (0 : Int) (2 : Int) 21 j (0 : Int)) 6 i (0 : Int) (2 : Int) 22 j (0 : Int)) 7 i (0 : Int) (32 : Int) 23 j (0 : Int)) 4 i 11 z39) 20 j 12)
  refine And.intro (show (-2147483648 : Int) ≤ z43 ∧ z43 ≤ (2147483647 : Int) by omega) ?_
  have w44 : (fx_up (fx_up (fx_cpy (fx_cpy (fx_cpy (fx_up (fx_up (fx_up (fx_up (fx_up (fx_up (fx_up S 4 i 0 z1) 4 i 1 z5) 4 i 3 z10) 4 i 4 z14) 4 i 5 z18) 4 i 6 z22) 4 i 7 z26) 5 i (0 : Int) (2 : Int) 21 j (0 : Int)) 6 i (0 : Int) (2 : Int) 22 j (0 : Int)) 7 i (0 : Int) (32 : Int) 23 j (0 : Int)) 4 i 11 z39) 4 i 12 z43) 4 i 0 = (fx_up (fx_cpy (fx_cpy (fx_cpy (fx_up (fx_up (fx_up (fx_up (fx_up (fx_up (fx_up S 4 i 0 z1) 4 i 1 z5) 4 i 3 z10) 4 i 4 z14) 4 i 5 z18) 4 i 6 z22) 4 i 7 z26) 5 i (0 : Int) (2 : Int) 21 j (0 : Int)) 6 i (0 : Int) (2 : Int) 22 j (0 : Int)) 7 i (0 : Int) (32 : Int) 23 j (0 : Int)) 4 i 11 z39) 4 i 0 := if_neg (fun q => absurd q.2.2 (by decide))
  have w45 : (fx_up (fx_up (fx_cpy (fx_cpy (fx_cpy (fx_up (fx_up (fx_up (fx_up (fx_up (fx_up (fx_up S 4 i 0 z1) 4 i 1 z5) 4 i 3 z10) 4 i 4 z14) 4 i 5 z18) 4 i 6 z22) 4 i 7 z26) 5 i (0 : Int) (2 : Int) 21 j (0 : Int)) 6 i (0 : Int) (2 : Int) 22 j (0 : Int)) 7 i (0 : Int) (32 : Int) 23 j (0 : Int)) 4 i 11 z39) 4 i 12 z43) 4 i 1 = (fx_up (fx_cpy (fx_cpy (fx_cpy (fx_up (fx_up (fx_up (fx_up (fx_up (fx_up (fx_up S 4 i 0 z1) 4 i 1 z5) 4 i 3 z10) 4 i 4 z14) 4 i 5 z18) 4 i 6 z22) 4 i 7 z26) 5 i (0 : Int) (2 : Int) 21 j (0 : Int)) 6 i (0 : Int) (2 : Int) 22 j (0 : Int)) 7 i (0 : Int) (32 : Int) 23 j (0 : Int)) 4 i 11 z39) 4 i 1 := if_neg (fun q => absurd q.2.2 (by decide))
  have w46 : (fx_up (fx_up (fx_cpy (fx_cpy (fx_cpy (fx_up (fx_up (fx_up (fx_up (fx_up (fx_up (fx_up S 4 i 0 z1) 4 i 1 z5) 4 i 3 z10) 4 i 4 z14) 4 i 5 z18) 4 i 6 z22) 4 i 7 z26) 5 i (0 : Int) (2 : Int) 21 j (0 : Int)) 6 i (0 : Int) (2 : Int) 22 j (0 : Int)) 7 i (0 : Int) (32 : Int) 23 j (0 : Int)) 4 i 11 z39) 4 i 12 z43) 20 j 1 = (fx_up (fx_cpy (fx_cpy (fx_cpy (fx_up (fx_up (fx_up (fx_up (fx_up (fx_up (fx_up S 4 i 0 z1) 4 i 1 z5) 4 i 3 z10) 4 i 4 z14) 4 i 5 z18) 4 i 6 z22) 4 i 7 z26) 5 i (0 : Int) (2 : Int) 21 j (0 : Int)) 6 i (0 : Int) (2 : Int) 22 j (0 : Int)) 7 i (0 : Int) (32 : Int) 23 j (0 : Int)) 4 i 11 z39) 20 j 1 := rfl
  exact hk (fx_up (fx_up (fx_cpy (fx_cpy (fx_cpy (fx_up (fx_up (fx_up (fx_up (fx_up (fx_up (fx_up S 4 i 0 z1) 4 i 1 z5) 4 i 3 z10) 4 i 4 z14) 4 i 5 z18) 4 i 6 z22) 4 i 7 z26) 5 i (0 : Int) (2 : Int) 21 j (0 : Int)) 6 i (0 : Int) (2 : Int) 22 j (0 : Int)) 7 i (0 : Int) (32 : Int) 23 j (0 : Int)) 4 i 11 z39) 4 i 12 z43) ⟨(fxfr_up (fxfr_up (fxfr_cpy (fxfr_cpy (fxfr_cpy (fxfr_up (fxfr_up (fxfr_up (fxfr_up (fxfr_up (fxfr_up (fxfr_up fxfr_rfl rfl) rfl) rfl) rfl) rfl) rfl) rfl) (fun _ => rfl)) (fun _ => rfl)) (fun _ => rfl)) rfl) rfl), by omega⟩
theorem z_Log_deletePlace {l : Launch} {k : fxK} {S : fxS} {d : Int} (p0 : -2147483648 ≤ d ∧ d < 2147483648) (hk : ∀ (r : Int) , (0 ≤ r ∧ r ≤ S 13 0 10 ∧ r ≤ 40) → k (some (.inl r)) S) : ∀ m : Nat, (∀ (a : Int), (0 ≤ a ∧ a ≤ 40 ∧ (a = 0 ∨ a ≤ S 13 0 10)) → 41 - a ≤ (m : Int) → fZ l 8 k 2 [some (.inr (.inr (13, 0))), some (.inl d), some (.inl a)] [] S) := by
  intro m
  induction m with
  | zero =>
    intro a  i0 hmu
    exfalso
    omega
  | succ m ih =>
    intro a  i0 hmu
    refine fxz_8 400 ?_
    intro z1 (z1a : (0 : Int) ≤ z1) (z1b : z1 ≤ (40 : Int)) (z1c : z1 = S 13 0 10)
    refine And.intro (fun (h2 : (z1 ≤ a : Prop)) => ?_) (fun (h2 : (a < z1 : Prop)) => ?_)
    ·
      exact hk a (by omega)
    ·
      refine And.intro (show 0 ≤ a ∧ a < 40 by omega) ?_
      intro z3 (z3a : (-2147483648 : Int) ≤ z3) (z3b : z3 ≤ (2147483647 : Int)) (z3c : z3 = S 18 0 (a).toNat)
      refine And.intro (fun (h4 : (d ≤ z3 : Prop)) => ?_) (fun (h4 : (z3 < d : Prop)) => ?_)
      ·
        exact hk a (by omega)
      ·
        refine And.intro (by decide) (And.intro (show -2147483648 ≤ a + (1 : Int) ∧ a + (1 : Int) < 2147483648 by omega) ?_)
        exact ih (a + (1 : Int))  (by omega) (by omega)
theorem c_Log_deletePlace {l : Launch} {k : fxK} {S : fxS} {d : Int} (p0 : -2147483648 ≤ d ∧ d < 2147483648) (hk : ∀ (r : Int) , (0 ≤ r ∧ r ≤ S 13 0 10 ∧ r ≤ 40) → k (some (.inl r)) S) : fC l 8 [.inr (.inr (13, 0)), .inl d] S k := by
  refine fxe_8 (Nat.le_of_ble_eq_true rfl) (fxz_8 400 ?_)
  refine And.intro (by decide) ?_
  exact (z_Log_deletePlace p0 hk (41 - (0 : Int)).toNat) (0 : Int)  (by omega) (by omega)
theorem z_Log_noteDelete {l : Launch} {k : fxK} {S : fxS} {d : Int} (p0 : -2147483648 ≤ d ∧ d < 2147483648) (hk : ∀ (S' : fxS) , (fxfr [(13, 10), (18, 9999), (19, 9999)] S S') → k none S') : ∀ m : Nat, (∀ (t j : Int) (S1 : fxS), (fxfr [(13, 10), (18, 9999), (19, 9999)] S S1) → (0 ≤ t ∧ t ≤ j ∧ j ≤ 39) → (0 ≤ S1 13 0 10 ∧ S1 13 0 10 ≤ 39) → j+1 ≤ (m : Int) → fZ l 9 k 21 [some (.inr (.inr (13, 0))), some (.inl d), some (.inl t), some (.inl j)] [] S1) := by
  intro m
  induction m with
  | zero =>
    intro t j S1 hf i0 i1 hmu
    exfalso
    omega
  | succ m ih =>
    intro t j S1 hf i0 i1 hmu
    refine fxz_9 400 ?_
    refine And.intro (fun (h1 : (j ≤ t : Prop)) => ?_) (fun (h1 : (t < j : Prop)) => ?_)
    ·
      refine And.intro (show 0 ≤ t ∧ t < 40 by omega) ?_
      refine And.intro (show (-2147483648 : Int) ≤ d ∧ d ≤ (2147483647 : Int) by omega) ?_
      have w2 : (fx_up S1 18 0 (t).toNat d) 13 0 10 = S1 13 0 10 := rfl
      refine And.intro (show 0 ≤ t ∧ t < 40 by omega) ?_
      refine And.intro (show (0 : Int) ≤ (0 : Int) ∧ (0 : Int) ≤ (1 : Int) by omega) ?_
      have w3 : (fx_up (fx_up S1 18 0 (t).toNat d) 19 0 (t).toNat (0 : Int)) 13 0 10 = (fx_up S1 18 0 (t).toNat d) 13 0 10 := rfl
      intro z4 (z4a : (0 : Int) ≤ z4) (z4b : z4 ≤ (40 : Int)) (z4c : z4 = (fx_up (fx_up S1 18 0 (t).toNat d) 19 0 (t).toNat (0 : Int)) 13 0 10)
      refine And.intro (show -2147483648 ≤ (z4 + (1 : Int)) ∧ (z4 + (1 : Int)) < 2147483648 by omega) ?_
      refine And.intro (show (0 : Int) ≤ (z4 + (1 : Int)) ∧ (z4 + (1 : Int)) ≤ (40 : Int) by omega) ?_
      have w5 : (fx_up (fx_up (fx_up S1 18 0 (t).toNat d) 19 0 (t).toNat (0 : Int)) 13 0 10 (z4 + (1 : Int))) 13 0 10 = (z4 + (1 : Int)) := fx_up_at _ _ _ _ _
      exact hk (fx_up (fx_up (fx_up S1 18 0 (t).toNat d) 19 0 (t).toNat (0 : Int)) 13 0 10 (z4 + (1 : Int))) (fxfr_up (fxfr_up (fxfr_up hf rfl) rfl) rfl)
    ·
      refine And.intro (show -2147483648 ≤ (j - (1 : Int)) ∧ (j - (1 : Int)) < 2147483648 by omega) ?_
      refine And.intro (show 0 ≤ (j - (1 : Int)) ∧ (j - (1 : Int)) < 40 by omega) ?_
      intro z6 (z6a : (-2147483648 : Int) ≤ z6) (z6b : z6 ≤ (2147483647 : Int)) (z6c : z6 = S1 18 0 ((j - (1 : Int))).toNat)
      refine And.intro (show 0 ≤ j ∧ j < 40 by omega) ?_
      refine And.intro (show (-2147483648 : Int) ≤ z6 ∧ z6 ≤ (2147483647 : Int) by omega) ?_
      have w7 : (fx_up S1 18 0 (j).toNat z6) 13 0 10 = S1 13 0 10 := rfl
      refine And.intro (show -2147483648 ≤ (j - (1 : Int)) ∧ (j - (1 : Int)) < 2147483648 by omega) ?_
      refine And.intro (show 0 ≤ (j - (1 : Int)) ∧ (j - (1 : Int)) < 40 by omega) ?_
      intro z8 (z8a : (0 : Int) ≤ z8) (z8b : z8 ≤ (1 : Int)) (z8c : z8 = (fx_up S1 18 0 (j).toNat z6) 19 0 ((j - (1 : Int))).toNat)
      refine And.intro (show 0 ≤ j ∧ j < 40 by omega) ?_
      refine And.intro (show (0 : Int) ≤ z8 ∧ z8 ≤ (1 : Int) by omega) ?_
      have w9 : (fx_up (fx_up S1 18 0 (j).toNat z6) 19 0 (j).toNat z8) 13 0 10 = (fx_up S1 18 0 (j).toNat z6) 13 0 10 := rfl
      refine And.intro (by decide) (And.intro (show -2147483648 ≤ j + (-1 : Int) ∧ j + (-1 : Int) < 2147483648 by omega) ?_)
      exact ih t (j + (-1 : Int)) (fx_up (fx_up S1 18 0 (j).toNat z6) 19 0 (j).toNat z8) (fxfr_up (fxfr_up hf rfl) rfl) (by omega) (by omega) (by omega)
theorem c_Log_noteDelete {l : Launch} {k : fxK} {S : fxS} {d : Int} (p0 : -2147483648 ≤ d ∧ d < 2147483648) (hk : ∀ (S' : fxS) , (fxfr [(13, 10), (18, 9999), (19, 9999)] S S') → k none S') : fC l 9 [.inr (.inr (13, 0)), .inl d] S k := by
  refine fxe_9 (Nat.le_of_ble_eq_true rfl) (fxz_9 400 ?_)
  intro z11 (z11a : (0 : Int) ≤ z11) (z11b : z11 ≤ (40 : Int)) (z11c : z11 = S 13 0 10)
  refine And.intro (fun (h12 : (z11 < (40 : Int) : Prop)) => ?_) (fun (h12 : ((40 : Int) ≤ z11 : Prop)) => ?_)
  ·
    refine c_Log_deletePlace (d := d) (show -2147483648 ≤ d ∧ d < 2147483648 by omega) (fun (z13 : Int) (q14 : 0 ≤ z13 ∧ z13 ≤ S 13 0 10 ∧ z13 ≤ 40) => ?_)
    refine And.intro (by decide) ?_
    intro z15 (z15a : (0 : Int) ≤ z15) (z15b : z15 ≤ (40 : Int)) (z15c : z15 = S 13 0 10)
    refine And.intro (by decide) ?_
    exact (z_Log_noteDelete p0 hk (z15+1).toNat) z13 z15 S fxfr_rfl (by omega) (by omega) (by omega)
  ·
    exact hk S fxfr_rfl
theorem z_Log_forgetDelete {l : Launch} {k : fxK} {S : fxS} {d : Int} (p0 : -2147483648 ≤ d ∧ d < 2147483648) (hk : ∀ (S' : fxS) , (fxfr [(13, 10), (18, 9999), (19, 9999)] S S') → k none S') : ∀ m : Nat, (∀ (j : Int) (S1 : fxS), (fxfr [(13, 10), (18, 9999), (19, 9999)] S S1) → (0 ≤ j ∧ j ≤ 39) → (1 ≤ S1 13 0 10 ∧ S1 13 0 10 ≤ 40) → 41-j ≤ (m : Int) → fZ l 10 k 27 [some (.inr (.inr (13, 0))), none, none, some (.inl j)] [] S1) := by
  intro m
  induction m with
  | zero =>
    intro j S1 hf i0 i1 hmu
    exfalso
    omega
  | succ m ih =>
    intro j S1 hf i0 i1 hmu
    refine fxz_10 400 ?_
    refine And.intro (show -2147483648 ≤ (j + (1 : Int)) ∧ (j + (1 : Int)) < 2147483648 by omega) ?_
    intro z1 (z1a : (0 : Int) ≤ z1) (z1b : z1 ≤ (40 : Int)) (z1c : z1 = S1 13 0 10)
    refine And.intro (fun (h2 : (z1 ≤ (j + (1 : Int)) : Prop)) => ?_) (fun (h2 : ((j + (1 : Int)) < z1 : Prop)) => ?_)
    ·
      intro z3 (z3a : (0 : Int) ≤ z3) (z3b : z3 ≤ (40 : Int)) (z3c : z3 = S1 13 0 10)
      refine And.intro (show -2147483648 ≤ (z3 - (1 : Int)) ∧ (z3 - (1 : Int)) < 2147483648 by omega) ?_
      refine And.intro (show (0 : Int) ≤ (z3 - (1 : Int)) ∧ (z3 - (1 : Int)) ≤ (40 : Int) by omega) ?_
      have w4 : (fx_up S1 13 0 10 (z3 - (1 : Int))) 13 0 10 = (z3 - (1 : Int)) := fx_up_at _ _ _ _ _
      exact hk (fx_up S1 13 0 10 (z3 - (1 : Int))) (fxfr_up hf rfl)
    ·
      refine And.intro (show -2147483648 ≤ (j + (1 : Int)) ∧ (j + (1 : Int)) < 2147483648 by omega) ?_
      refine And.intro (show 0 ≤ (j + (1 : Int)) ∧ (j + (1 : Int)) < 40 by omega) ?_
      intro z5 (z5a : (-2147483648 : Int) ≤ z5) (z5b : z5 ≤ (2147483647 : Int)) (z5c : z5 = S1 18 0 ((j + (1 : Int))).toNat)
      refine And.intro (show 0 ≤ j ∧ j < 40 by omega) ?_
      refine And.intro (show (-2147483648 : Int) ≤ z5 ∧ z5 ≤ (2147483647 : Int) by omega) ?_
      have w6 : (fx_up S1 18 0 (j).toNat z5) 13 0 10 = S1 13 0 10 := rfl
      refine And.intro (show -2147483648 ≤ (j + (1 : Int)) ∧ (j + (1 : Int)) < 2147483648 by omega) ?_
      refine And.intro (show 0 ≤ (j + (1 : Int)) ∧ (j + (1 : Int)) < 40 by omega) ?_
      intro z7 (z7a : (0 : Int) ≤ z7) (z7b : z7 ≤ (1 : Int)) (z7c : z7 = (fx_up S1 18 0 (j).toNat z5) 19 0 ((j + (1 : Int))).toNat)
      refine And.intro (show 0 ≤ j ∧ j < 40 by omega) ?_
      refine And.intro (show (0 : Int) ≤ z7 ∧ z7 ≤ (1 : Int) by omega) ?_
      have w8 : (fx_up (fx_up S1 18 0 (j).toNat z5) 19 0 (j).toNat z7) 13 0 10 = (fx_up S1 18 0 (j).toNat z5) 13 0 10 := rfl
      refine And.intro (by decide) (And.intro (show -2147483648 ≤ j + (1 : Int) ∧ j + (1 : Int) < 2147483648 by omega) ?_)
      exact ih (j + (1 : Int)) (fx_up (fx_up S1 18 0 (j).toNat z5) 19 0 (j).toNat z7) (fxfr_up (fxfr_up hf rfl) rfl) (by omega) (by omega) (by omega)
theorem c_Log_forgetDelete {l : Launch} {k : fxK} {S : fxS} {d : Int} (p0 : -2147483648 ≤ d ∧ d < 2147483648) (hk : ∀ (S' : fxS) , (fxfr [(13, 10), (18, 9999), (19, 9999)] S S') → k none S') : fC l 10 [.inr (.inr (13, 0)), .inl d] S k := by
  refine fxe_10 (Nat.le_of_ble_eq_true rfl) (fxz_10 400 ?_)
  refine c_Log_deletePlace (d := d) (show -2147483648 ≤ d ∧ d < 2147483648 by omega) (fun (z10 : Int) (q11 : 0 ≤ z10 ∧ z10 ≤ S 13 0 10 ∧ z10 ≤ 40) => ?_)
  refine And.intro (by decide) ?_
  intro z12 (z12a : (0 : Int) ≤ z12) (z12b : z12 ≤ (40 : Int)) (z12c : z12 = S 13 0 10)
  refine And.intro (fun (h13 : (z12 ≤ z10 : Prop)) => ?_) (fun (h13 : (z10 < z12 : Prop)) => ?_)
  ·
    exact hk S fxfr_rfl
  ·
    refine And.intro (show 0 ≤ z10 ∧ z10 < 40 by omega) ?_
    intro z14 (z14a : (-2147483648 : Int) ≤ z14) (z14b : z14 ≤ (2147483647 : Int)) (z14c : z14 = S 18 0 (z10).toNat)
    refine And.intro (fun (h15 : (z14 = d : Prop)) => ?_) (fun (h15 : (z14 ≠ d : Prop)) => ?_)
    ·
      refine And.intro (by decide) ?_
      exact (z_Log_forgetDelete p0 hk (41-z10).toNat) z10 S fxfr_rfl (by omega) (by omega) (by omega)
    ·
      exact hk S fxfr_rfl
theorem c_Log_add {l : Launch} {k : fxK} {S : fxS} {n : Int} {e : Int} {d : Int} (p0 : -1 ≤ n ∧ n < 60) (p1 : -2147483648 ≤ e ∧ e < 2147483648) (p2 : -2147483648 ≤ d ∧ d < 2147483648) (hk : ∀ (S' : fxS) , (fxfr [(8, 4), (10, 9999), (11, 9999), (13, 6), (13, 7), (13, 10), (15, 9999), (16, 9999), (17, 9999), (18, 9999), (19, 9999), (20, 0), (20, 1), (20, 3), (20, 4), (20, 5), (20, 6), (20, 7), (20, 11), (20, 12), (21, 9999), (22, 9999), (23, 9999)] S S') → k none S') : fC l 11 [.inr (.inr (13, 0)), .inl n, .inl e, .inl d] S k := by
  refine fxe_11 (Nat.le_of_ble_eq_true rfl) (fxz_11 400 ?_)
  intro z1 (z1a : (0 : Int) ≤ z1) (z1b : z1 ≤ (200 : Int)) (z1c : z1 = S 13 0 6)
  refine And.intro (fun (h2 : (z1 < (200 : Int) : Prop)) => ?_) (fun (h2 : ((200 : Int) ≤ z1 : Prop)) => ?_)
  ·
    refine And.intro (fun (h3 : (n < (0 : Int) : Prop)) => ?_) (fun (h3 : ((0 : Int) ≤ n : Prop)) => ?_)
    ·
      intro z4 (z4a : (0 : Int) ≤ z4) (z4b : z4 ≤ (200 : Int)) (z4c : z4 = S 13 0 6)
      refine And.intro (show 0 ≤ z4 ∧ z4 < 200 by omega) ?_
      refine And.intro (show (-1 : Int) ≤ n ∧ n ≤ (59 : Int) by omega) ?_
      have w5 : (fx_up S 15 0 (z4).toNat n) 13 0 6 = S 13 0 6 := rfl
      intro z6 (z6a : (0 : Int) ≤ z6) (z6b : z6 ≤ (200 : Int)) (z6c : z6 = (fx_up S 15 0 (z4).toNat n) 13 0 6)
      refine And.intro (show 0 ≤ z6 ∧ z6 < 200 by omega) ?_
      refine And.intro (show (-2147483648 : Int) ≤ e ∧ e ≤ (2147483647 : Int) by omega) ?_
      have w7 : (fx_up (fx_up S 15 0 (z4).toNat n) 16 0 (z6).toNat e) 13 0 6 = (fx_up S 15 0 (z4).toNat n) 13 0 6 := rfl
      intro z8 (z8a : (0 : Int) ≤ z8) (z8b : z8 ≤ (200 : Int)) (z8c : z8 = (fx_up (fx_up S 15 0 (z4).toNat n) 16 0 (z6).toNat e) 13 0 6)
      refine And.intro (show 0 ≤ z8 ∧ z8 < 200 by omega) ?_
      refine And.intro (show (-2147483648 : Int) ≤ d ∧ d ≤ (2147483647 : Int) by omega) ?_
      have w9 : (fx_up (fx_up (fx_up S 15 0 (z4).toNat n) 16 0 (z6).toNat e) 17 0 (z8).toNat d) 13 0 6 = (fx_up (fx_up S 15 0 (z4).toNat n) 16 0 (z6).toNat e) 13 0 6 := rfl
      intro z10 (z10a : (0 : Int) ≤ z10) (z10b : z10 ≤ (200 : Int)) (z10c : z10 = (fx_up (fx_up (fx_up S 15 0 (z4).toNat n) 16 0 (z6).toNat e) 17 0 (z8).toNat d) 13 0 6)
      refine And.intro (show -2147483648 ≤ (z10 + (1 : Int)) ∧ (z10 + (1 : Int)) < 2147483648 by omega) ?_
      refine And.intro (show (0 : Int) ≤ (z10 + (1 : Int)) ∧ (z10 + (1 : Int)) ≤ (200 : Int) by omega) ?_
      have w11 : (fx_up (fx_up (fx_up (fx_up S 15 0 (z4).toNat n) 16 0 (z6).toNat e) 17 0 (z8).toNat d) 13 0 6 (z10 + (1 : Int))) 13 0 6 = (z10 + (1 : Int)) := fx_up_at _ _ _ _ _
      intro z12 (z12a : (-2147483648 : Int) ≤ z12) (z12b : z12 ≤ (2147483647 : Int)) (z12c : z12 = (fx_up (fx_up (fx_up (fx_up S 15 0 (z4).toNat n) 16 0 (z6).toNat e) 17 0 (z8).toNat d) 13 0 6 (z10 + (1 : Int))) 13 0 7)
      intro z13 (z13a : -2147483648 ≤ z13) (z13b : z13 < 2147483648) (z13c : -2147483648 ≤ (z12 + e) ∧ (z12 + e) < 2147483648 → z13 = (z12 + e))
      refine And.intro (show (-2147483648 : Int) ≤ z13 ∧ z13 ≤ (2147483647 : Int) by omega) ?_
      have w14 : (fx_up (fx_up (fx_up (fx_up (fx_up S 15 0 (z4).toNat n) 16 0 (z6).toNat e) 17 0 (z8).toNat d) 13 0 6 (z10 + (1 : Int))) 13 0 7 z13) 13 0 6 = (fx_up (fx_up (fx_up (fx_up S 15 0 (z4).toNat n) 16 0 (z6).toNat e) 17 0 (z8).toNat d) 13 0 6 (z10 + (1 : Int))) 13 0 6 := if_neg (fun q => absurd q.2.2 (by decide))
      refine And.intro (fun (h15 : (d ≤ (0 : Int) : Prop)) => ?_) (fun (h15 : ((0 : Int) < d : Prop)) => ?_)
      ·
        refine And.intro (fun (h16 : ((0 : Int) ≤ d : Prop)) => ?_) (fun (h16 : (d < (0 : Int) : Prop)) => ?_)
        ·
          exact hk (fx_up (fx_up (fx_up (fx_up (fx_up S 15 0 (z4).toNat n) 16 0 (z6).toNat e) 17 0 (z8).toNat d) 13 0 6 (z10 + (1 : Int))) 13 0 7 z13) (fxfr_up (fxfr_up (fxfr_up (fxfr_up (fxfr_up fxfr_rfl rfl) rfl) rfl) rfl) rfl)
        ·
          intro z17 z17a z17b z17c
          refine c_Log_forgetDelete (d := z17) (show -2147483648 ≤ z17 ∧ z17 < 2147483648 by omega) (fun (S18 : fxS) (f19 : fxfr [(13, 10), (18, 9999), (19, 9999)] (fx_up (fx_up (fx_up (fx_up (fx_up S 15 0 (z4).toNat n) 16 0 (z6).toNat e) 17 0 (z8).toNat d) 13 0 6 (z10 + (1 : Int))) 13 0 7 z13) S18) => ?_)
          have w20 : S18 13 0 6 = (fx_up (fx_up (fx_up (fx_up (fx_up S 15 0 (z4).toNat n) 16 0 (z6).toNat e) 17 0 (z8).toNat d) 13 0 6 (z10 + (1 : Int))) 13 0 7 z13) 13 0 6 := f19 13 0 6 rfl
          exact hk S18 (fxfr_tr (fxfr_up (fxfr_up (fxfr_up (fxfr_up (fxfr_up fxfr_rfl rfl) rfl) rfl) rfl) rfl) f19 rfl)
      ·
        refine c_Log_noteDelete (d := d) (show -2147483648 ≤ d ∧ d < 2147483648 by omega) (fun (S21 : fxS) (f22 : fxfr [(13, 10), (18, 9999), (19, 9999)] (fx_up (fx_up (fx_up (fx_up (fx_up S 15 0 (z4).toNat n) 16 0 (z6).toNat e) 17 0 (z8).toNat d) 13 0 6 (z10 + (1 : Int))) 13 0 7 z13) S21) => ?_)
        have w23 : S21 13 0 6 = (fx_up (fx_up (fx_up (fx_up (fx_up S 15 0 (z4).toNat n) 16 0 (z6).toNat e) 17 0 (z8).toNat d) 13 0 6 (z10 + (1 : Int))) 13 0 7 z13) 13 0 6 := f22 13 0 6 rfl
        refine And.intro (fun (h24 : ((0 : Int) ≤ d : Prop)) => ?_) (fun (h24 : (d < (0 : Int) : Prop)) => ?_)
        ·
          exact hk S21 (fxfr_tr (fxfr_up (fxfr_up (fxfr_up (fxfr_up (fxfr_up fxfr_rfl rfl) rfl) rfl) rfl) rfl) f22 rfl)
        ·
          intro z25 z25a z25b z25c
          refine c_Log_forgetDelete (d := z25) (show -2147483648 ≤ z25 ∧ z25 < 2147483648 by omega) (fun (S26 : fxS) (f27 : fxfr [(13, 10), (18, 9999), (19, 9999)] S21 S26) => ?_)
          have w28 : S26 13 0 6 = S21 13 0 6 := f27 13 0 6 rfl
          exact hk S26 (fxfr_tr (fxfr_tr (fxfr_up (fxfr_up (fxfr_up (fxfr_up (fxfr_up fxfr_rfl rfl) rfl) rfl) rfl) rfl) f22 rfl) f27 rfl)
    ·
      intro z29 (z29a : (0 : Int) ≤ z29) (z29b : z29 ≤ (200 : Int)) (z29c : z29 = S 13 0 6)
      refine And.intro (show 0 ≤ z29 ∧ z29 < 200 by omega) ?_
      refine And.intro (show 0 ≤ n ∧ n < 60 by omega) ?_
      refine c_Node_become20 (i := (z29).toNat) (j := (n).toNat)  (fun (S30 : fxS) ⟨(f31 : fxfr [(20, 0), (20, 1), (20, 3), (20, 4), (20, 5), (20, 6), (20, 7), (20, 11), (20, 12), (21, 9999), (22, 9999), (23, 9999)] S S30), (q32 : S30 20 (z29).toNat 0 = S 4 (n).toNat 0 ∧ S30 20 (z29).toNat 1 = S 4 (n).toNat 1)⟩ => ?_)
      have w33 : S30 13 0 6 = S 13 0 6 := f31 13 0 6 rfl
      intro z34 (z34a : (0 : Int) ≤ z34) (z34b : z34 ≤ (200 : Int)) (z34c : z34 = S30 13 0 6)
      refine And.intro (show 0 ≤ z34 ∧ z34 < 200 by omega) ?_
      refine And.intro (show (-1 : Int) ≤ n ∧ n ≤ (59 : Int) by omega) ?_
      have w35 : (fx_up S30 15 0 (z34).toNat n) 13 0 6 = S30 13 0 6 := rfl
      intro z36 (z36a : (0 : Int) ≤ z36) (z36b : z36 ≤ (200 : Int)) (z36c : z36 = (fx_up S30 15 0 (z34).toNat n) 13 0 6)
      refine And.intro (show 0 ≤ z36 ∧ z36 < 200 by omega) ?_
      refine And.intro (show (-2147483648 : Int) ≤ e ∧ e ≤ (2147483647 : Int) by omega) ?_
      have w37 : (fx_up (fx_up S30 15 0 (z34).toNat n) 16 0 (z36).toNat e) 13 0 6 = (fx_up S30 15 0 (z34).toNat n) 13 0 6 := rfl
      intro z38 (z38a : (0 : Int) ≤ z38) (z38b : z38 ≤ (200 : Int)) (z38c : z38 = (fx_up (fx_up S30 15 0 (z34).toNat n) 16 0 (z36).toNat e) 13 0 6)
      refine And.intro (show 0 ≤ z38 ∧ z38 < 200 by omega) ?_
      refine And.intro (show (-2147483648 : Int) ≤ d ∧ d ≤ (2147483647 : Int) by omega) ?_
      have w39 : (fx_up (fx_up (fx_up S30 15 0 (z34).toNat n) 16 0 (z36).toNat e) 17 0 (z38).toNat d) 13 0 6 = (fx_up (fx_up S30 15 0 (z34).toNat n) 16 0 (z36).toNat e) 13 0 6 := rfl
      intro z40 (z40a : (0 : Int) ≤ z40) (z40b : z40 ≤ (200 : Int)) (z40c : z40 = (fx_up (fx_up (fx_up S30 15 0 (z34).toNat n) 16 0 (z36).toNat e) 17 0 (z38).toNat d) 13 0 6)
      refine And.intro (show -2147483648 ≤ (z40 + (1 : Int)) ∧ (z40 + (1 : Int)) < 2147483648 by omega) ?_
      refine And.intro (show (0 : Int) ≤ (z40 + (1 : Int)) ∧ (z40 + (1 : Int)) ≤ (200 : Int) by omega) ?_
      have w41 : (fx_up (fx_up (fx_up (fx_up S30 15 0 (z34).toNat n) 16 0 (z36).toNat e) 17 0 (z38).toNat d) 13 0 6 (z40 + (1 : Int))) 13 0 6 = (z40 + (1 : Int)) := fx_up_at _ _ _ _ _
      intro z42 (z42a : (-2147483648 : Int) ≤ z42) (z42b : z42 ≤ (2147483647 : Int)) (z42c : z42 = (fx_up (fx_up (fx_up (fx_up S30 15 0 (z34).toNat n) 16 0 (z36).toNat e) 17 0 (z38).toNat d) 13 0 6 (z40 + (1 : Int))) 13 0 7)
      intro z43 (z43a : -2147483648 ≤ z43) (z43b : z43 < 2147483648) (z43c : -2147483648 ≤ (z42 + e) ∧ (z42 + e) < 2147483648 → z43 = (z42 + e))
      refine And.intro (show (-2147483648 : Int) ≤ z43 ∧ z43 ≤ (2147483647 : Int) by omega) ?_
      have w44 : (fx_up (fx_up (fx_up (fx_up (fx_up S30 15 0 (z34).toNat n) 16 0 (z36).toNat e) 17 0 (z38).toNat d) 13 0 6 (z40 + (1 : Int))) 13 0 7 z43) 13 0 6 = (fx_up (fx_up (fx_up (fx_up S30 15 0 (z34).toNat n) 16 0 (z36).toNat e) 17 0 (z38).toNat d) 13 0 6 (z40 + (1 : Int))) 13 0 6 := if_neg (fun q => absurd q.2.2 (by decide))
      refine And.intro (fun (h45 : (d ≤ (0 : Int) : Prop)) => ?_) (fun (h45 : ((0 : Int) < d : Prop)) => ?_)
      ·
        refine And.intro (fun (h46 : ((0 : Int) ≤ d : Prop)) => ?_) (fun (h46 : (d < (0 : Int) : Prop)) => ?_)
        ·
          exact hk (fx_up (fx_up (fx_up (fx_up (fx_up S30 15 0 (z34).toNat n) 16 0 (z36).toNat e) 17 0 (z38).toNat d) 13 0 6 (z40 + (1 : Int))) 13 0 7 z43) (fxfr_up (fxfr_up (fxfr_up (fxfr_up (fxfr_up (fxfr_tr fxfr_rfl f31 rfl) rfl) rfl) rfl) rfl) rfl)
        ·
          intro z47 z47a z47b z47c
          refine c_Log_forgetDelete (d := z47) (show -2147483648 ≤ z47 ∧ z47 < 2147483648 by omega) (fun (S48 : fxS) (f49 : fxfr [(13, 10), (18, 9999), (19, 9999)] (fx_up (fx_up (fx_up (fx_up (fx_up S30 15 0 (z34).toNat n) 16 0 (z36).toNat e) 17 0 (z38).toNat d) 13 0 6 (z40 + (1 : Int))) 13 0 7 z43) S48) => ?_)
          have w50 : S48 13 0 6 = (fx_up (fx_up (fx_up (fx_up (fx_up S30 15 0 (z34).toNat n) 16 0 (z36).toNat e) 17 0 (z38).toNat d) 13 0 6 (z40 + (1 : Int))) 13 0 7 z43) 13 0 6 := f49 13 0 6 rfl
          exact hk S48 (fxfr_tr (fxfr_up (fxfr_up (fxfr_up (fxfr_up (fxfr_up (fxfr_tr fxfr_rfl f31 rfl) rfl) rfl) rfl) rfl) rfl) f49 rfl)
      ·
        refine c_Log_noteDelete (d := d) (show -2147483648 ≤ d ∧ d < 2147483648 by omega) (fun (S51 : fxS) (f52 : fxfr [(13, 10), (18, 9999), (19, 9999)] (fx_up (fx_up (fx_up (fx_up (fx_up S30 15 0 (z34).toNat n) 16 0 (z36).toNat e) 17 0 (z38).toNat d) 13 0 6 (z40 + (1 : Int))) 13 0 7 z43) S51) => ?_)
        have w53 : S51 13 0 6 = (fx_up (fx_up (fx_up (fx_up (fx_up S30 15 0 (z34).toNat n) 16 0 (z36).toNat e) 17 0 (z38).toNat d) 13 0 6 (z40 + (1 : Int))) 13 0 7 z43) 13 0 6 := f52 13 0 6 rfl
        refine And.intro (fun (h54 : ((0 : Int) ≤ d : Prop)) => ?_) (fun (h54 : (d < (0 : Int) : Prop)) => ?_)
        ·
          exact hk S51 (fxfr_tr (fxfr_up (fxfr_up (fxfr_up (fxfr_up (fxfr_up (fxfr_tr fxfr_rfl f31 rfl) rfl) rfl) rfl) rfl) rfl) f52 rfl)
        ·
          intro z55 z55a z55b z55c
          refine c_Log_forgetDelete (d := z55) (show -2147483648 ≤ z55 ∧ z55 < 2147483648 by omega) (fun (S56 : fxS) (f57 : fxfr [(13, 10), (18, 9999), (19, 9999)] S51 S56) => ?_)
          have w58 : S56 13 0 6 = S51 13 0 6 := f57 13 0 6 rfl
          exact hk S56 (fxfr_tr (fxfr_tr (fxfr_up (fxfr_up (fxfr_up (fxfr_up (fxfr_up (fxfr_tr fxfr_rfl f31 rfl) rfl) rfl) rfl) rfl) rfl) f52 rfl) f57 rfl)
  ·
    refine c_Log_keepAll   (fun (z59 : Int) (S60 : fxS) ⟨(f61 : fxfr [(8, 4), (10, 9999), (11, 9999), (13, 6), (13, 7), (19, 9999)] S S60), (q62 : -2147483648 ≤ z59 ∧ z59 < 2147483648 ∧ (S60 13 0 6 = 0))⟩ => ?_)
    refine And.intro (fun (h63 : (n < (0 : Int) : Prop)) => ?_) (fun (h63 : ((0 : Int) ≤ n : Prop)) => ?_)
    ·
      intro z64 (z64a : (0 : Int) ≤ z64) (z64b : z64 ≤ (200 : Int)) (z64c : z64 = S60 13 0 6)
      refine And.intro (show 0 ≤ z64 ∧ z64 < 200 by omega) ?_
      refine And.intro (show (-1 : Int) ≤ n ∧ n ≤ (59 : Int) by omega) ?_
      have w65 : (fx_up S60 15 0 (z64).toNat n) 13 0 6 = S60 13 0 6 := rfl
      intro z66 (z66a : (0 : Int) ≤ z66) (z66b : z66 ≤ (200 : Int)) (z66c : z66 = (fx_up S60 15 0 (z64).toNat n) 13 0 6)
      refine And.intro (show 0 ≤ z66 ∧ z66 < 200 by omega) ?_
      refine And.intro (show (-2147483648 : Int) ≤ e ∧ e ≤ (2147483647 : Int) by omega) ?_
      have w67 : (fx_up (fx_up S60 15 0 (z64).toNat n) 16 0 (z66).toNat e) 13 0 6 = (fx_up S60 15 0 (z64).toNat n) 13 0 6 := rfl
      intro z68 (z68a : (0 : Int) ≤ z68) (z68b : z68 ≤ (200 : Int)) (z68c : z68 = (fx_up (fx_up S60 15 0 (z64).toNat n) 16 0 (z66).toNat e) 13 0 6)
      refine And.intro (show 0 ≤ z68 ∧ z68 < 200 by omega) ?_
      refine And.intro (show (-2147483648 : Int) ≤ d ∧ d ≤ (2147483647 : Int) by omega) ?_
      have w69 : (fx_up (fx_up (fx_up S60 15 0 (z64).toNat n) 16 0 (z66).toNat e) 17 0 (z68).toNat d) 13 0 6 = (fx_up (fx_up S60 15 0 (z64).toNat n) 16 0 (z66).toNat e) 13 0 6 := rfl
      intro z70 (z70a : (0 : Int) ≤ z70) (z70b : z70 ≤ (200 : Int)) (z70c : z70 = (fx_up (fx_up (fx_up S60 15 0 (z64).toNat n) 16 0 (z66).toNat e) 17 0 (z68).toNat d) 13 0 6)
      refine And.intro (show -2147483648 ≤ (z70 + (1 : Int)) ∧ (z70 + (1 : Int)) < 2147483648 by omega) ?_
      refine And.intro (show (0 : Int) ≤ (z70 + (1 : Int)) ∧ (z70 + (1 : Int)) ≤ (200 : Int) by omega) ?_
      have w71 : (fx_up (fx_up (fx_up (fx_up S60 15 0 (z64).toNat n) 16 0 (z66).toNat e) 17 0 (z68).toNat d) 13 0 6 (z70 + (1 : Int))) 13 0 6 = (z70 + (1 : Int)) := fx_up_at _ _ _ _ _
      intro z72 (z72a : (-2147483648 : Int) ≤ z72) (z72b : z72 ≤ (2147483647 : Int)) (z72c : z72 = (fx_up (fx_up (fx_up (fx_up S60 15 0 (z64).toNat n) 16 0 (z66).toNat e) 17 0 (z68).toNat d) 13 0 6 (z70 + (1 : Int))) 13 0 7)
      intro z73 (z73a : -2147483648 ≤ z73) (z73b : z73 < 2147483648) (z73c : -2147483648 ≤ (z72 + e) ∧ (z72 + e) < 2147483648 → z73 = (z72 + e))
      refine And.intro (show (-2147483648 : Int) ≤ z73 ∧ z73 ≤ (2147483647 : Int) by omega) ?_
      have w74 : (fx_up (fx_up (fx_up (fx_up (fx_up S60 15 0 (z64).toNat n) 16 0 (z66).toNat e) 17 0 (z68).toNat d) 13 0 6 (z70 + (1 : Int))) 13 0 7 z73) 13 0 6 = (fx_up (fx_up (fx_up (fx_up S60 15 0 (z64).toNat n) 16 0 (z66).toNat e) 17 0 (z68).toNat d) 13 0 6 (z70 + (1 : Int))) 13 0 6 := if_neg (fun q => absurd q.2.2 (by decide))
      refine And.intro (fun (h75 : (d ≤ (0 : Int) : Prop)) => ?_) (fun (h75 : ((0 : Int) < d : Prop)) => ?_)
      ·
        refine And.intro (fun (h76 : ((0 : Int) ≤ d : Prop)) => ?_) (fun (h76 : (d < (0 : Int) : Prop)) => ?_)
        ·
          exact hk (fx_up (fx_up (fx_up (fx_up (fx_up S60 15 0 (z64).toNat n) 16 0 (z66).toNat e) 17 0 (z68).toNat d) 13 0 6 (z70 + (1 : Int))) 13 0 7 z73) (fxfr_up (fxfr_up (fxfr_up (fxfr_up (fxfr_up (fxfr_tr fxfr_rfl f61 rfl) rfl) rfl) rfl) rfl) rfl)
        ·
          intro z77 z77a z77b z77c
          refine c_Log_forgetDelete (d := z77) (show -2147483648 ≤ z77 ∧ z77 < 2147483648 by omega) (fun (S78 : fxS) (f79 : fxfr [(13, 10), (18, 9999), (19, 9999)] (fx_up (fx_up (fx_up (fx_up (fx_up S60 15 0 (z64).toNat n) 16 0 (z66).toNat e) 17 0 (z68).toNat d) 13 0 6 (z70 + (1 : Int))) 13 0 7 z73) S78) => ?_)
          have w80 : S78 13 0 6 = (fx_up (fx_up (fx_up (fx_up (fx_up S60 15 0 (z64).toNat n) 16 0 (z66).toNat e) 17 0 (z68).toNat d) 13 0 6 (z70 + (1 : Int))) 13 0 7 z73) 13 0 6 := f79 13 0 6 rfl
          exact hk S78 (fxfr_tr (fxfr_up (fxfr_up (fxfr_up (fxfr_up (fxfr_up (fxfr_tr fxfr_rfl f61 rfl) rfl) rfl) rfl) rfl) rfl) f79 rfl)
      ·
        refine c_Log_noteDelete (d := d) (show -2147483648 ≤ d ∧ d < 2147483648 by omega) (fun (S81 : fxS) (f82 : fxfr [(13, 10), (18, 9999), (19, 9999)] (fx_up (fx_up (fx_up (fx_up (fx_up S60 15 0 (z64).toNat n) 16 0 (z66).toNat e) 17 0 (z68).toNat d) 13 0 6 (z70 + (1 : Int))) 13 0 7 z73) S81) => ?_)
        have w83 : S81 13 0 6 = (fx_up (fx_up (fx_up (fx_up (fx_up S60 15 0 (z64).toNat n) 16 0 (z66).toNat e) 17 0 (z68).toNat d) 13 0 6 (z70 + (1 : Int))) 13 0 7 z73) 13 0 6 := f82 13 0 6 rfl
        refine And.intro (fun (h84 : ((0 : Int) ≤ d : Prop)) => ?_) (fun (h84 : (d < (0 : Int) : Prop)) => ?_)
        ·
          exact hk S81 (fxfr_tr (fxfr_up (fxfr_up (fxfr_up (fxfr_up (fxfr_up (fxfr_tr fxfr_rfl f61 rfl) rfl) rfl) rfl) rfl) rfl) f82 rfl)
        ·
          intro z85 z85a z85b z85c
          refine c_Log_forgetDelete (d := z85) (show -2147483648 ≤ z85 ∧ z85 < 2147483648 by omega) (fun (S86 : fxS) (f87 : fxfr [(13, 10), (18, 9999), (19, 9999)] S81 S86) => ?_)
          have w88 : S86 13 0 6 = S81 13 0 6 := f87 13 0 6 rfl
          exact hk S86 (fxfr_tr (fxfr_tr (fxfr_up (fxfr_up (fxfr_up (fxfr_up (fxfr_up (fxfr_tr fxfr_rfl f61 rfl) rfl) rfl) rfl) rfl) rfl) f82 rfl) f87 rfl)
    ·
      intro z89 (z89a : (0 : Int) ≤ z89) (z89b : z89 ≤ (200 : Int)) (z89c : z89 = S60 13 0 6)
      refine And.intro (show 0 ≤ z89 ∧ z89 < 200 by omega) ?_
      refine And.intro (show 0 ≤ n ∧ n < 60 by omega) ?_
      refine c_Node_become20 (i := (z89).toNat) (j := (n).toNat)  (fun (S90 : fxS) ⟨(f91 : fxfr [(20, 0), (20, 1), (20, 3), (20, 4), (20, 5), (20, 6), (20, 7), (20, 11), (20, 12), (21, 9999), (22, 9999), (23, 9999)] S60 S90), (q92 : S90 20 (z89).toNat 0 = S60 4 (n).toNat 0 ∧ S90 20 (z89).toNat 1 = S60 4 (n).toNat 1)⟩ => ?_)
      have w93 : S90 13 0 6 = S60 13 0 6 := f91 13 0 6 rfl
      intro z94 (z94a : (0 : Int) ≤ z94) (z94b : z94 ≤ (200 : Int)) (z94c : z94 = S90 13 0 6)
      refine And.intro (show 0 ≤ z94 ∧ z94 < 200 by omega) ?_
      refine And.intro (show (-1 : Int) ≤ n ∧ n ≤ (59 : Int) by omega) ?_
      have w95 : (fx_up S90 15 0 (z94).toNat n) 13 0 6 = S90 13 0 6 := rfl
      intro z96 (z96a : (0 : Int) ≤ z96) (z96b : z96 ≤ (200 : Int)) (z96c : z96 = (fx_up S90 15 0 (z94).toNat n) 13 0 6)
      refine And.intro (show 0 ≤ z96 ∧ z96 < 200 by omega) ?_
      refine And.intro (show (-2147483648 : Int) ≤ e ∧ e ≤ (2147483647 : Int) by omega) ?_
      have w97 : (fx_up (fx_up S90 15 0 (z94).toNat n) 16 0 (z96).toNat e) 13 0 6 = (fx_up S90 15 0 (z94).toNat n) 13 0 6 := rfl
      intro z98 (z98a : (0 : Int) ≤ z98) (z98b : z98 ≤ (200 : Int)) (z98c : z98 = (fx_up (fx_up S90 15 0 (z94).toNat n) 16 0 (z96).toNat e) 13 0 6)
      refine And.intro (show 0 ≤ z98 ∧ z98 < 200 by omega) ?_
      refine And.intro (show (-2147483648 : Int) ≤ d ∧ d ≤ (2147483647 : Int) by omega) ?_
      have w99 : (fx_up (fx_up (fx_up S90 15 0 (z94).toNat n) 16 0 (z96).toNat e) 17 0 (z98).toNat d) 13 0 6 = (fx_up (fx_up S90 15 0 (z94).toNat n) 16 0 (z96).toNat e) 13 0 6 := rfl
      intro z100 (z100a : (0 : Int) ≤ z100) (z100b : z100 ≤ (200 : Int)) (z100c : z100 = (fx_up (fx_up (fx_up S90 15 0 (z94).toNat n) 16 0 (z96).toNat e) 17 0 (z98).toNat d) 13 0 6)
      refine And.intro (show -2147483648 ≤ (z100 + (1 : Int)) ∧ (z100 + (1 : Int)) < 2147483648 by omega) ?_
      refine And.intro (show (0 : Int) ≤ (z100 + (1 : Int)) ∧ (z100 + (1 : Int)) ≤ (200 : Int) by omega) ?_
      have w101 : (fx_up (fx_up (fx_up (fx_up S90 15 0 (z94).toNat n) 16 0 (z96).toNat e) 17 0 (z98).toNat d) 13 0 6 (z100 + (1 : Int))) 13 0 6 = (z100 + (1 : Int)) := fx_up_at _ _ _ _ _
      intro z102 (z102a : (-2147483648 : Int) ≤ z102) (z102b : z102 ≤ (2147483647 : Int)) (z102c : z102 = (fx_up (fx_up (fx_up (fx_up S90 15 0 (z94).toNat n) 16 0 (z96).toNat e) 17 0 (z98).toNat d) 13 0 6 (z100 + (1 : Int))) 13 0 7)
      intro z103 (z103a : -2147483648 ≤ z103) (z103b : z103 < 2147483648) (z103c : -2147483648 ≤ (z102 + e) ∧ (z102 + e) < 2147483648 → z103 = (z102 + e))
      refine And.intro (show (-2147483648 : Int) ≤ z103 ∧ z103 ≤ (2147483647 : Int) by omega) ?_
      have w104 : (fx_up (fx_up (fx_up (fx_up (fx_up S90 15 0 (z94).toNat n) 16 0 (z96).toNat e) 17 0 (z98).toNat d) 13 0 6 (z100 + (1 : Int))) 13 0 7 z103) 13 0 6 = (fx_up (fx_up (fx_up (fx_up S90 15 0 (z94).toNat n) 16 0 (z96).toNat e) 17 0 (z98).toNat d) 13 0 6 (z100 + (1 : Int))) 13 0 6 := if_neg (fun q => absurd q.2.2 (by decide))
      refine And.intro (fun (h105 : (d ≤ (0 : Int) : Prop)) => ?_) (fun (h105 : ((0 : Int) < d : Prop)) => ?_)
      ·
        refine And.intro (fun (h106 : ((0 : Int) ≤ d : Prop)) => ?_) (fun (h106 : (d < (0 : Int) : Prop)) => ?_)
        ·
          exact hk (fx_up (fx_up (fx_up (fx_up (fx_up S90 15 0 (z94).toNat n) 16 0 (z96).toNat e) 17 0 (z98).toNat d) 13 0 6 (z100 + (1 : Int))) 13 0 7 z103) (fxfr_up (fxfr_up (fxfr_up (fxfr_up (fxfr_up (fxfr_tr (fxfr_tr fxfr_rfl f61 rfl) f91 rfl) rfl) rfl) rfl) rfl) rfl)
        ·
          intro z107 z107a z107b z107c
          refine c_Log_forgetDelete (d := z107) (show -2147483648 ≤ z107 ∧ z107 < 2147483648 by omega) (fun (S108 : fxS) (f109 : fxfr [(13, 10), (18, 9999), (19, 9999)] (fx_up (fx_up (fx_up (fx_up (fx_up S90 15 0 (z94).toNat n) 16 0 (z96).toNat e) 17 0 (z98).toNat d) 13 0 6 (z100 + (1 : Int))) 13 0 7 z103) S108) => ?_)
          have w110 : S108 13 0 6 = (fx_up (fx_up (fx_up (fx_up (fx_up S90 15 0 (z94).toNat n) 16 0 (z96).toNat e) 17 0 (z98).toNat d) 13 0 6 (z100 + (1 : Int))) 13 0 7 z103) 13 0 6 := f109 13 0 6 rfl
          exact hk S108 (fxfr_tr (fxfr_up (fxfr_up (fxfr_up (fxfr_up (fxfr_up (fxfr_tr (fxfr_tr fxfr_rfl f61 rfl) f91 rfl) rfl) rfl) rfl) rfl) rfl) f109 rfl)
      ·
        refine c_Log_noteDelete (d := d) (show -2147483648 ≤ d ∧ d < 2147483648 by omega) (fun (S111 : fxS) (f112 : fxfr [(13, 10), (18, 9999), (19, 9999)] (fx_up (fx_up (fx_up (fx_up (fx_up S90 15 0 (z94).toNat n) 16 0 (z96).toNat e) 17 0 (z98).toNat d) 13 0 6 (z100 + (1 : Int))) 13 0 7 z103) S111) => ?_)
        have w113 : S111 13 0 6 = (fx_up (fx_up (fx_up (fx_up (fx_up S90 15 0 (z94).toNat n) 16 0 (z96).toNat e) 17 0 (z98).toNat d) 13 0 6 (z100 + (1 : Int))) 13 0 7 z103) 13 0 6 := f112 13 0 6 rfl
        refine And.intro (fun (h114 : ((0 : Int) ≤ d : Prop)) => ?_) (fun (h114 : (d < (0 : Int) : Prop)) => ?_)
        ·
          exact hk S111 (fxfr_tr (fxfr_up (fxfr_up (fxfr_up (fxfr_up (fxfr_up (fxfr_tr (fxfr_tr fxfr_rfl f61 rfl) f91 rfl) rfl) rfl) rfl) rfl) rfl) f112 rfl)
        ·
          intro z115 z115a z115b z115c
          refine c_Log_forgetDelete (d := z115) (show -2147483648 ≤ z115 ∧ z115 < 2147483648 by omega) (fun (S116 : fxS) (f117 : fxfr [(13, 10), (18, 9999), (19, 9999)] S111 S116) => ?_)
          have w118 : S116 13 0 6 = S111 13 0 6 := f117 13 0 6 rfl
          exact hk S116 (fxfr_tr (fxfr_tr (fxfr_up (fxfr_up (fxfr_up (fxfr_up (fxfr_up (fxfr_tr (fxfr_tr fxfr_rfl f61 rfl) f91 rfl) rfl) rfl) rfl) rfl) rfl) f112 rfl) f117 rfl)
theorem z_fill7 {l : Launch} {k : fxK} {S : fxS} {i : Nat} {v : Int} (p0 : -1 ≤ v ∧ v ≤ 207) (hk : ∀ (S' : fxS) , (fxfr [(7, 9999)] S S') → k none S') : ∀ m : Nat, (∀ (j e : Int) (S1 : fxS), (fxfr [(7, 9999)] S S1) → (0 ≤ j ∧ j ≤ 32) → (e = 32) → 33-j ≤ (m : Int) → fZ l 12 k 5 [some (.inr (.inr (7, i))), some (.inl v), some (.inl j), some (.inl e)] [] S1) := by
  intro m
  induction m with
  | zero =>
    intro j e S1 hf i0 i1 hmu
    exfalso
    omega
  | succ m ih =>
    intro j e S1 hf i0 i1 hmu
    refine fxz_12 400 ?_
    refine And.intro (fun (h1 : (e ≤ j : Prop)) => ?_) (fun (h1 : (j < e : Prop)) => ?_)
    ·
      exact hk S1 hf
    ·
      refine And.intro (show 0 ≤ j ∧ j < 32 by omega) ?_
      refine And.intro (show (-1 : Int) ≤ v ∧ v ≤ (207 : Int) by omega) ?_
      refine And.intro (by decide) (And.intro (show -2147483648 ≤ j + (1 : Int) ∧ j + (1 : Int) < 2147483648 by omega) ?_)
      exact ih (j + (1 : Int)) e (fx_up S1 7 i (j).toNat v) (fxfr_up hf rfl) (by omega) (by omega) (by omega)
theorem c_fill7 {l : Launch} {k : fxK} {S : fxS} {i : Nat} {v : Int} (p0 : -1 ≤ v ∧ v ≤ 207) (hk : ∀ (S' : fxS) , (fxfr [(7, 9999)] S S') → k none S') : fC l 12 [.inr (.inr (7, i)), .inl v] S k := by
  refine fxe_12 (Nat.le_of_ble_eq_true rfl) (fxz_12 400 ?_)
  refine And.intro (by decide) ?_
  refine And.intro (by decide) ?_
  exact (z_fill7 p0 hk (33-(0 : Int)).toNat) (0 : Int) (32 : Int) S fxfr_rfl (by omega) (by omega) (by omega)
theorem z_fill10 {l : Launch} {k : fxK} {S : fxS} {i : Nat} {v : Int} (p0 : 0 ≤ v ∧ v ≤ 2) (hk : ∀ (S' : fxS) , (fxfr [(10, 9999)] S S') → k none S') : ∀ m : Nat, (∀ (j e : Int) (S1 : fxS), (fxfr [(10, 9999)] S S1) → (0 ≤ j ∧ j ≤ 208) → (e = 208) → 209-j ≤ (m : Int) → fZ l 12 k 5 [some (.inr (.inr (10, i))), some (.inl v), some (.inl j), some (.inl e)] [] S1) := by
  intro m
  induction m with
  | zero =>
    intro j e S1 hf i0 i1 hmu
    exfalso
    omega
  | succ m ih =>
    intro j e S1 hf i0 i1 hmu
    refine fxz_12 400 ?_
    refine And.intro (fun (h1 : (e ≤ j : Prop)) => ?_) (fun (h1 : (j < e : Prop)) => ?_)
    ·
      exact hk S1 hf
    ·
      refine And.intro (show 0 ≤ j ∧ j < 208 by omega) ?_
      refine And.intro (show (0 : Int) ≤ v ∧ v ≤ (2 : Int) by omega) ?_
      refine And.intro (by decide) (And.intro (show -2147483648 ≤ j + (1 : Int) ∧ j + (1 : Int) < 2147483648 by omega) ?_)
      exact ih (j + (1 : Int)) e (fx_up S1 10 i (j).toNat v) (fxfr_up hf rfl) (by omega) (by omega) (by omega)
theorem c_fill10 {l : Launch} {k : fxK} {S : fxS} {i : Nat} {v : Int} (p0 : 0 ≤ v ∧ v ≤ 2) (hk : ∀ (S' : fxS) , (fxfr [(10, 9999)] S S') → k none S') : fC l 12 [.inr (.inr (10, i)), .inl v] S k := by
  refine fxe_12 (Nat.le_of_ble_eq_true rfl) (fxz_12 400 ?_)
  refine And.intro (by decide) ?_
  refine And.intro (by decide) ?_
  exact (z_fill10 p0 hk (209-(0 : Int)).toNat) (0 : Int) (208 : Int) S fxfr_rfl (by omega) (by omega) (by omega)
theorem c_Node_clear {l : Launch} {k : fxK} {S : fxS} {i : Nat}  (hk : ∀ (S' : fxS) , (fxfr [(4, 0), (4, 1), (4, 3), (4, 4), (4, 5), (4, 6), (4, 7), (4, 11), (4, 12), (7, 9999)] S S' ∧ (S' 4 i 0 = 0 ∧ S' 4 i 1 = 0)) → k none S') : fC l 13 [.inr (.inr (4, i))] S k := by
  refine fxe_13 (Nat.le_of_ble_eq_true rfl) (fxz_13 400 ?_)
  refine And.intro (show (0 : Int) ≤ (0 : Int) ∧ (0 : Int) ≤ (2 : Int) by omega) ?_
  have w1 : (fx_up S 4 i 0 (0 : Int)) 4 i 0 = (0 : Int) := fx_up_at _ _ _ _ _
  have w2 : (fx_up S 4 i 0 (0 : Int)) 4 i 1 = S 4 i 1 := if_neg (fun q => absurd q.2.2 (by decide))
  refine And.intro (show (0 : Int) ≤ (0 : Int) ∧ (0 : Int) ≤ (59 : Int) by omega) ?_
  have w3 : (fx_up (fx_up S 4 i 0 (0 : Int)) 4 i 1 (0 : Int)) 4 i 0 = (fx_up S 4 i 0 (0 : Int)) 4 i 0 := if_neg (fun q => absurd q.2.2 (by decide))
  have w4 : (fx_up (fx_up S 4 i 0 (0 : Int)) 4 i 1 (0 : Int)) 4 i 1 = (0 : Int) := fx_up_at _ _ _ _ _
  refine And.intro (show (-2147483648 : Int) ≤ (0 : Int) ∧ (0 : Int) ≤ (2147483647 : Int) by omega) ?_
  have w5 : (fx_up (fx_up (fx_up S 4 i 0 (0 : Int)) 4 i 1 (0 : Int)) 4 i 3 (0 : Int)) 4 i 0 = (fx_up (fx_up S 4 i 0 (0 : Int)) 4 i 1 (0 : Int)) 4 i 0 := if_neg (fun q => absurd q.2.2 (by decide))
  have w6 : (fx_up (fx_up (fx_up S 4 i 0 (0 : Int)) 4 i 1 (0 : Int)) 4 i 3 (0 : Int)) 4 i 1 = (fx_up (fx_up S 4 i 0 (0 : Int)) 4 i 1 (0 : Int)) 4 i 1 := if_neg (fun q => absurd q.2.2 (by decide))
  refine And.intro (show (0 : Int) ≤ (0 : Int) ∧ (0 : Int) ≤ (1024 : Int) by omega) ?_
  have w7 : (fx_up (fx_up (fx_up (fx_up S 4 i 0 (0 : Int)) 4 i 1 (0 : Int)) 4 i 3 (0 : Int)) 4 i 4 (0 : Int)) 4 i 0 = (fx_up (fx_up (fx_up S 4 i 0 (0 : Int)) 4 i 1 (0 : Int)) 4 i 3 (0 : Int)) 4 i 0 := if_neg (fun q => absurd q.2.2 (by decide))
  have w8 : (fx_up (fx_up (fx_up (fx_up S 4 i 0 (0 : Int)) 4 i 1 (0 : Int)) 4 i 3 (0 : Int)) 4 i 4 (0 : Int)) 4 i 1 = (fx_up (fx_up (fx_up S 4 i 0 (0 : Int)) 4 i 1 (0 : Int)) 4 i 3 (0 : Int)) 4 i 1 := if_neg (fun q => absurd q.2.2 (by decide))
  refine And.intro (show (-2147483648 : Int) ≤ (0 : Int) ∧ (0 : Int) ≤ (2147483647 : Int) by omega) ?_
  have w9 : (fx_up (fx_up (fx_up (fx_up (fx_up S 4 i 0 (0 : Int)) 4 i 1 (0 : Int)) 4 i 3 (0 : Int)) 4 i 4 (0 : Int)) 4 i 5 (0 : Int)) 4 i 0 = (fx_up (fx_up (fx_up (fx_up S 4 i 0 (0 : Int)) 4 i 1 (0 : Int)) 4 i 3 (0 : Int)) 4 i 4 (0 : Int)) 4 i 0 := if_neg (fun q => absurd q.2.2 (by decide))
  have w10 : (fx_up (fx_up (fx_up (fx_up (fx_up S 4 i 0 (0 : Int)) 4 i 1 (0 : Int)) 4 i 3 (0 : Int)) 4 i 4 (0 : Int)) 4 i 5 (0 : Int)) 4 i 1 = (fx_up (fx_up (fx_up (fx_up S 4 i 0 (0 : Int)) 4 i 1 (0 : Int)) 4 i 3 (0 : Int)) 4 i 4 (0 : Int)) 4 i 1 := if_neg (fun q => absurd q.2.2 (by decide))
  refine And.intro (show (-2147483648 : Int) ≤ (0 : Int) ∧ (0 : Int) ≤ (2147483647 : Int) by omega) ?_
  have w11 : (fx_up (fx_up (fx_up (fx_up (fx_up (fx_up S 4 i 0 (0 : Int)) 4 i 1 (0 : Int)) 4 i 3 (0 : Int)) 4 i 4 (0 : Int)) 4 i 5 (0 : Int)) 4 i 6 (0 : Int)) 4 i 0 = (fx_up (fx_up (fx_up (fx_up (fx_up S 4 i 0 (0 : Int)) 4 i 1 (0 : Int)) 4 i 3 (0 : Int)) 4 i 4 (0 : Int)) 4 i 5 (0 : Int)) 4 i 0 := if_neg (fun q => absurd q.2.2 (by decide))
  have w12 : (fx_up (fx_up (fx_up (fx_up (fx_up (fx_up S 4 i 0 (0 : Int)) 4 i 1 (0 : Int)) 4 i 3 (0 : Int)) 4 i 4 (0 : Int)) 4 i 5 (0 : Int)) 4 i 6 (0 : Int)) 4 i 1 = (fx_up (fx_up (fx_up (fx_up (fx_up S 4 i 0 (0 : Int)) 4 i 1 (0 : Int)) 4 i 3 (0 : Int)) 4 i 4 (0 : Int)) 4 i 5 (0 : Int)) 4 i 1 := if_neg (fun q => absurd q.2.2 (by decide))
  refine And.intro (show (0 : Int) ≤ (0 : Int) ∧ (0 : Int) ≤ (2 : Int) by omega) ?_
  have w13 : (fx_up (fx_up (fx_up (fx_up (fx_up (fx_up (fx_up S 4 i 0 (0 : Int)) 4 i 1 (0 : Int)) 4 i 3 (0 : Int)) 4 i 4 (0 : Int)) 4 i 5 (0 : Int)) 4 i 6 (0 : Int)) 4 i 7 (0 : Int)) 4 i 0 = (fx_up (fx_up (fx_up (fx_up (fx_up (fx_up S 4 i 0 (0 : Int)) 4 i 1 (0 : Int)) 4 i 3 (0 : Int)) 4 i 4 (0 : Int)) 4 i 5 (0 : Int)) 4 i 6 (0 : Int)) 4 i 0 := if_neg (fun q => absurd q.2.2 (by decide))
  have w14 : (fx_up (fx_up (fx_up (fx_up (fx_up (fx_up (fx_up S 4 i 0 (0 : Int)) 4 i 1 (0 : Int)) 4 i 3 (0 : Int)) 4 i 4 (0 : Int)) 4 i 5 (0 : Int)) 4 i 6 (0 : Int)) 4 i 7 (0 : Int)) 4 i 1 = (fx_up (fx_up (fx_up (fx_up (fx_up (fx_up S 4 i 0 (0 : Int)) 4 i 1 (0 : Int)) 4 i 3 (0 : Int)) 4 i 4 (0 : Int)) 4 i 5 (0 : Int)) 4 i 6 (0 : Int)) 4 i 1 := if_neg (fun q => absurd q.2.2 (by decide))
  refine c_fill7 (i := i) (v := (-1 : Int)) (show -1 ≤ (-1 : Int) ∧ (-1 : Int) ≤ 207 by omega) (fun (S15 : fxS) (f16 : fxfr [(7, 9999)] (fx_up (fx_up (fx_up (fx_up (fx_up (fx_up (fx_up S 4 i 0 (0 : Int)) 4 i 1 (0 : Int)) 4 i 3 (0 : Int)) 4 i 4 (0 : Int)) 4 i 5 (0 : Int)) 4 i 6 (0 : Int)) 4 i 7 (0 : Int)) S15) => ?_)
  have w17 : S15 4 i 0 = (fx_up (fx_up (fx_up (fx_up (fx_up (fx_up (fx_up S 4 i 0 (0 : Int)) 4 i 1 (0 : Int)) 4 i 3 (0 : Int)) 4 i 4 (0 : Int)) 4 i 5 (0 : Int)) 4 i 6 (0 : Int)) 4 i 7 (0 : Int)) 4 i 0 := f16 4 i 0 rfl
  have w18 : S15 4 i 1 = (fx_up (fx_up (fx_up (fx_up (fx_up (fx_up (fx_up S 4 i 0 (0 : Int)) 4 i 1 (0 : Int)) 4 i 3 (0 : Int)) 4 i 4 (0 : Int)) 4 i 5 (0 : Int)) 4 i 6 (0 : Int)) 4 i 7 (0 : Int)) 4 i 1 := f16 4 i 1 rfl
  refine And.intro (show (-2147483648 : Int) ≤ (0 : Int) ∧ (0 : Int) ≤ (2147483647 : Int) by omega) ?_
  have w19 : (fx_up S15 4 i 11 (0 : Int)) 4 i 0 = S15 4 i 0 := if_neg (fun q => absurd q.2.2 (by decide))
  have w20 : (fx_up S15 4 i 11 (0 : Int)) 4 i 1 = S15 4 i 1 := if_neg (fun q => absurd q.2.2 (by decide))
  refine And.intro (show (-2147483648 : Int) ≤ (0 : Int) ∧ (0 : Int) ≤ (2147483647 : Int) by omega) ?_
  have w21 : (fx_up (fx_up S15 4 i 11 (0 : Int)) 4 i 12 (0 : Int)) 4 i 0 = (fx_up S15 4 i 11 (0 : Int)) 4 i 0 := if_neg (fun q => absurd q.2.2 (by decide))
  have w22 : (fx_up (fx_up S15 4 i 11 (0 : Int)) 4 i 12 (0 : Int)) 4 i 1 = (fx_up S15 4 i 11 (0 : Int)) 4 i 1 := if_neg (fun q => absurd q.2.2 (by decide))
  exact hk (fx_up (fx_up S15 4 i 11 (0 : Int)) 4 i 12 (0 : Int)) ⟨(fxfr_up (fxfr_up (fxfr_tr (fxfr_up (fxfr_up (fxfr_up (fxfr_up (fxfr_up (fxfr_up (fxfr_up fxfr_rfl rfl) rfl) rfl) rfl) rfl) rfl) rfl) f16 rfl) rfl) rfl), by omega⟩
theorem c_Tree_settle {l : Launch} {k : fxK} {S : fxS} {n : Int} {o : Int} {x : Int} {q : Int} (p0 : 1 ≤ n ∧ n < 60) (p1 : 0 ≤ o ∧ o < 60) (p2 : 1 ≤ q ∧ q ≤ 2) (hk : ∀ (S' : fxS) , (fxfr [(4, 0), (4, 1), (4, 3), (4, 4), (4, 5), (4, 6), (4, 7), (4, 11), (4, 12), (7, 9999)] S S' ∧ (S' 4 (n).toNat 0 = q ∧ S' 4 (n).toNat 1 = o)) → k none S') : fC l 14 [.inr (.inr (2, 0)), .inl n, .inl o, .inr (.inl x), .inl q] S k := by
  refine fxe_14 (Nat.le_of_ble_eq_true rfl) (fxz_14 400 ?_)
  refine And.intro (show 0 ≤ n ∧ n < 60 by omega) ?_
  refine And.intro (by decide) ?_
  refine c_Node_clear (i := (n).toNat)  (fun (S1 : fxS) ⟨(f2 : fxfr [(4, 0), (4, 1), (4, 3), (4, 4), (4, 5), (4, 6), (4, 7), (4, 11), (4, 12), (7, 9999)] S S1), (q3 : S1 4 (n).toNat 0 = 0 ∧ S1 4 (n).toNat 1 = 0)⟩ => ?_)
  refine And.intro (show (0 : Int) ≤ q ∧ q ≤ (2 : Int) by omega) ?_
  have w4 : (fx_up S1 4 (n).toNat 0 q) 4 (n).toNat 0 = q := fx_up_at _ _ _ _ _
  have w5 : (fx_up S1 4 (n).toNat 0 q) 4 (n).toNat 1 = S1 4 (n).toNat 1 := if_neg (fun q => absurd q.2.2 (by decide))
  refine And.intro (show (0 : Int) ≤ o ∧ o ≤ (59 : Int) by omega) ?_
  have w6 : (fx_up (fx_up S1 4 (n).toNat 0 q) 4 (n).toNat 1 o) 4 (n).toNat 0 = (fx_up S1 4 (n).toNat 0 q) 4 (n).toNat 0 := if_neg (fun q => absurd q.2.2 (by decide))
  have w7 : (fx_up (fx_up S1 4 (n).toNat 0 q) 4 (n).toNat 1 o) 4 (n).toNat 1 = o := fx_up_at _ _ _ _ _
  intro z8 (z8a : (-2147483648 : Int) ≤ z8) (z8b : z8 ≤ (2147483647 : Int)) (z8c : z8 = (fx_up (fx_up S1 4 (n).toNat 0 q) 4 (n).toNat 1 o) 2 0 1)
  refine And.intro (show (-2147483648 : Int) ≤ z8 ∧ z8 ≤ (2147483647 : Int) by omega) ?_
  have w9 : (fx_up (fx_up (fx_up S1 4 (n).toNat 0 q) 4 (n).toNat 1 o) 4 (n).toNat 6 z8) 4 (n).toNat 0 = (fx_up (fx_up S1 4 (n).toNat 0 q) 4 (n).toNat 1 o) 4 (n).toNat 0 := if_neg (fun q => absurd q.2.2 (by decide))
  have w10 : (fx_up (fx_up (fx_up S1 4 (n).toNat 0 q) 4 (n).toNat 1 o) 4 (n).toNat 6 z8) 4 (n).toNat 1 = (fx_up (fx_up S1 4 (n).toNat 0 q) 4 (n).toNat 1 o) 4 (n).toNat 1 := if_neg (fun q => absurd q.2.2 (by decide))
  exact hk (fx_up (fx_up (fx_up S1 4 (n).toNat 0 q) 4 (n).toNat 1 o) 4 (n).toNat 6 z8) ⟨(fxfr_up (fxfr_up (fxfr_up (fxfr_tr fxfr_rfl f2 rfl) rfl) rfl) rfl), by omega⟩
theorem c_Changes_create {l : Launch} {k : fxK} {S : fxS} {o : Int} {x : Int} {q : Int} (p0 : 0 ≤ o ∧ o < 60) (p1 : 0 ≤ q ∧ q ≤ 1) (hk : ∀ (r : Int) (S' : fxS) , (fxfr [(2, 2), (2, 3), (4, 0), (4, 1), (4, 3), (4, 4), (4, 5), (4, 6), (4, 7), (4, 11), (4, 12), (7, 9999), (8, 4), (10, 9999), (11, 9999), (13, 6), (13, 7), (13, 10), (15, 9999), (16, 9999), (17, 9999), (18, 9999), (19, 9999), (20, 0), (20, 1), (20, 3), (20, 4), (20, 5), (20, 6), (20, 7), (20, 11), (20, 12), (21, 9999), (22, 9999), (23, 9999)] S S' ∧ (-2147483648 ≤ r ∧ r < 2147483648)) → k (some (.inl r)) S') : fC l 15 [.inr (.inr (24, 0)), .inl o, .inr (.inl x), .inl q] S k := by
  refine fxe_15 (Nat.le_of_ble_eq_true rfl) (fxz_15 400 ?_)
  refine c_Tree_leastAbsent   (fun (z1 : Int) (q2 : -1 ≤ z1 ∧ z1 < 60 ∧ z1 ≠ 0) => ?_)
  refine And.intro (by decide) ?_
  refine And.intro (fun (h3 : ((0 : Int) ≤ z1 : Prop)) => ?_) (fun (h3 : (z1 < (0 : Int) : Prop)) => ?_)
  ·
    refine c_Log_add (n := z1) (e := (16 : Int)) (d := (0 : Int)) (show -1 ≤ z1 ∧ z1 < 60 by omega) (show -2147483648 ≤ (16 : Int) ∧ (16 : Int) < 2147483648 by omega) (show -2147483648 ≤ (0 : Int) ∧ (0 : Int) < 2147483648 by omega) (fun (S4 : fxS) (f5 : fxfr [(8, 4), (10, 9999), (11, 9999), (13, 6), (13, 7), (13, 10), (15, 9999), (16, 9999), (17, 9999), (18, 9999), (19, 9999), (20, 0), (20, 1), (20, 3), (20, 4), (20, 5), (20, 6), (20, 7), (20, 11), (20, 12), (21, 9999), (22, 9999), (23, 9999)] S S4) => ?_)
    refine And.intro (fun (h6 : (q = (0 : Int) : Prop)) => ?_) (fun (h6 : (q ≠ (0 : Int) : Prop)) => ?_)
    ·
      refine c_Tree_settle (n := z1) (o := o) (x := x) (q := (2 : Int)) (show 1 ≤ z1 ∧ z1 < 60 by omega) (show 0 ≤ o ∧ o < 60 by omega) (show 1 ≤ (2 : Int) ∧ (2 : Int) ≤ 2 by omega) (fun (S7 : fxS) ⟨(f8 : fxfr [(4, 0), (4, 1), (4, 3), (4, 4), (4, 5), (4, 6), (4, 7), (4, 11), (4, 12), (7, 9999)] S4 S7), (q9 : S7 4 (z1).toNat 0 = (2 : Int) ∧ S7 4 (z1).toNat 1 = o)⟩ => ?_)
      refine And.intro (fun (h10 : (q ≠ (0 : Int) : Prop)) => ?_) (fun (h10 : (q = (0 : Int) : Prop)) => ?_)
      ·
        exact hk z1 S7 ⟨(fxfr_tr (fxfr_tr fxfr_rfl f5 rfl) f8 rfl), by omega⟩
      ·
        refine And.intro (show 0 ≤ z1 ∧ z1 < 60 by omega) ?_
        intro z11 (z11a : (-2147483648 : Int) ≤ z11) (z11b : z11 ≤ (2147483647 : Int)) (z11c : z11 = S7 2 0 2)
        intro z12 (z12a : -2147483648 ≤ z12) (z12b : z12 < 2147483648) (z12c : -2147483648 ≤ (z11 + (1 : Int)) ∧ (z11 + (1 : Int)) < 2147483648 → z12 = (z11 + (1 : Int)))
        refine And.intro (show (-2147483648 : Int) ≤ z12 ∧ z12 ≤ (2147483647 : Int) by omega) ?_
        refine And.intro (show (-2147483648 : Int) ≤ z11 ∧ z11 ≤ (2147483647 : Int) by omega) ?_
        refine And.intro (show 0 ≤ z1 ∧ z1 < 60 by omega) ?_
        intro z13 (z13a : (-2147483648 : Int) ≤ z13) (z13b : z13 ≤ (2147483647 : Int)) (z13c : z13 = (fx_up (fx_up S7 2 0 2 z12) 4 (z1).toNat 3 z11) 2 0 3)
        intro z14 (z14a : -2147483648 ≤ z14) (z14b : z14 < 2147483648) (z14c : -2147483648 ≤ (z13 + (1 : Int)) ∧ (z13 + (1 : Int)) < 2147483648 → z14 = (z13 + (1 : Int)))
        refine And.intro (show (-2147483648 : Int) ≤ z14 ∧ z14 ≤ (2147483647 : Int) by omega) ?_
        refine And.intro (show (-2147483648 : Int) ≤ z13 ∧ z13 ≤ (2147483647 : Int) by omega) ?_
        exact hk z1 (fx_up (fx_up (fx_up (fx_up S7 2 0 2 z12) 4 (z1).toNat 3 z11) 2 0 3 z14) 4 (z1).toNat 5 z13) ⟨(fxfr_up (fxfr_up (fxfr_up (fxfr_up (fxfr_tr (fxfr_tr fxfr_rfl f5 rfl) f8 rfl) rfl) rfl) rfl) rfl), by omega⟩
    ·
      refine c_Tree_settle (n := z1) (o := o) (x := x) (q := (1 : Int)) (show 1 ≤ z1 ∧ z1 < 60 by omega) (show 0 ≤ o ∧ o < 60 by omega) (show 1 ≤ (1 : Int) ∧ (1 : Int) ≤ 2 by omega) (fun (S15 : fxS) ⟨(f16 : fxfr [(4, 0), (4, 1), (4, 3), (4, 4), (4, 5), (4, 6), (4, 7), (4, 11), (4, 12), (7, 9999)] S4 S15), (q17 : S15 4 (z1).toNat 0 = (1 : Int) ∧ S15 4 (z1).toNat 1 = o)⟩ => ?_)
      refine And.intro (fun (h18 : (q ≠ (0 : Int) : Prop)) => ?_) (fun (h18 : (q = (0 : Int) : Prop)) => ?_)
      ·
        exact hk z1 S15 ⟨(fxfr_tr (fxfr_tr fxfr_rfl f5 rfl) f16 rfl), by omega⟩
      ·
        refine And.intro (show 0 ≤ z1 ∧ z1 < 60 by omega) ?_
        intro z19 (z19a : (-2147483648 : Int) ≤ z19) (z19b : z19 ≤ (2147483647 : Int)) (z19c : z19 = S15 2 0 2)
        intro z20 (z20a : -2147483648 ≤ z20) (z20b : z20 < 2147483648) (z20c : -2147483648 ≤ (z19 + (1 : Int)) ∧ (z19 + (1 : Int)) < 2147483648 → z20 = (z19 + (1 : Int)))
        refine And.intro (show (-2147483648 : Int) ≤ z20 ∧ z20 ≤ (2147483647 : Int) by omega) ?_
        refine And.intro (show (-2147483648 : Int) ≤ z19 ∧ z19 ≤ (2147483647 : Int) by omega) ?_
        refine And.intro (show 0 ≤ z1 ∧ z1 < 60 by omega) ?_
        intro z21 (z21a : (-2147483648 : Int) ≤ z21) (z21b : z21 ≤ (2147483647 : Int)) (z21c : z21 = (fx_up (fx_up S15 2 0 2 z20) 4 (z1).toNat 3 z19) 2 0 3)
        intro z22 (z22a : -2147483648 ≤ z22) (z22b : z22 < 2147483648) (z22c : -2147483648 ≤ (z21 + (1 : Int)) ∧ (z21 + (1 : Int)) < 2147483648 → z22 = (z21 + (1 : Int)))
        refine And.intro (show (-2147483648 : Int) ≤ z22 ∧ z22 ≤ (2147483647 : Int) by omega) ?_
        refine And.intro (show (-2147483648 : Int) ≤ z21 ∧ z21 ≤ (2147483647 : Int) by omega) ?_
        exact hk z1 (fx_up (fx_up (fx_up (fx_up S15 2 0 2 z20) 4 (z1).toNat 3 z19) 2 0 3 z22) 4 (z1).toNat 5 z21) ⟨(fxfr_up (fxfr_up (fxfr_up (fxfr_up (fxfr_tr (fxfr_tr fxfr_rfl f5 rfl) f16 rfl) rfl) rfl) rfl) rfl), by omega⟩
  ·
    exact hk (-3 : Int) S ⟨fxfr_rfl, by omega⟩
theorem c_StubHouse_make {l : Launch} {k : fxK} {S : fxS} {o : Int} {x : Int} {q : Int} (p0 : 0 ≤ q ∧ q ≤ 1) (p1 : -2147483648 ≤ o ∧ o < 2147483648) (hk : ∀ (r : Int) (S' : fxS) , (fxfr [(2, 2), (2, 3), (4, 0), (4, 1), (4, 3), (4, 4), (4, 5), (4, 6), (4, 7), (4, 11), (4, 12), (7, 9999), (8, 4), (10, 9999), (11, 9999), (13, 6), (13, 7), (13, 10), (15, 9999), (16, 9999), (17, 9999), (18, 9999), (19, 9999), (20, 0), (20, 1), (20, 3), (20, 4), (20, 5), (20, 6), (20, 7), (20, 11), (20, 12), (21, 9999), (22, 9999), (23, 9999)] S S' ∧ (-2147483648 ≤ r ∧ r < 2147483648)) → k (some (.inl r)) S') : fC l 16 [.inr (.inr (0, 0)), .inl o, .inr (.inl x), .inl q] S k := by
  refine fxe_16 (Nat.le_of_ble_eq_true rfl) (fxz_16 400 ?_)
  intro z1 (z1a : (0 : Int) ≤ z1) (z1b : z1 ≤ (1 : Int)) (z1c : z1 = S 0 0 10)
  refine And.intro (fun (h2 : (z1 = (0 : Int) : Prop)) => ?_) (fun (h2 : (z1 ≠ (0 : Int) : Prop)) => ?_)
  ·
    refine c_Tree_isDirectory (n := o) (show -2147483648 ≤ o ∧ o < 2147483648 by omega) (fun (z3 : Int) (q4 : (z3 = 0 ∨ z3 = 1) ∧ (z3 = 1 → 0 ≤ o ∧ o < 60)) => ?_)
    refine And.intro (fun (h5 : (z3 = (0 : Int) : Prop)) => ?_) (fun (h5 : (z3 ≠ (0 : Int) : Prop)) => ?_)
    ·
      exact hk (-1 : Int) S ⟨fxfr_rfl, by omega⟩
    ·
      intro z6 (z6a : 0 ≤ z6) (z6b : z6 ≤ 1)
      refine And.intro (fun (h7 : (z6 ≠ (0 : Int) : Prop)) => ?_) (fun (h7 : (z6 = (0 : Int) : Prop)) => ?_)
      ·
        refine c_Tree_seek (n := o) (x := x) (show -2147483648 ≤ o ∧ o < 2147483648 by omega) (fun (z8 : Int) (q9 : -1 ≤ z8 ∧ z8 < 60 ∧ z8 ≠ 0) => ?_)
        refine And.intro (fun (h10 : (z8 < (0 : Int) : Prop)) => ?_) (fun (h10 : ((0 : Int) ≤ z8 : Prop)) => ?_)
        ·
          refine c_Tree_leastAbsent   (fun (z11 : Int) (q12 : -1 ≤ z11 ∧ z11 < 60 ∧ z11 ≠ 0) => ?_)
          refine And.intro (fun (h13 : (z11 < (0 : Int) : Prop)) => ?_) (fun (h13 : ((0 : Int) ≤ z11 : Prop)) => ?_)
          ·
            exact hk (-3 : Int) S ⟨fxfr_rfl, by omega⟩
          ·
            refine c_Tree_depthOf (n := o) (show 0 ≤ o ∧ o < 60 by omega) (fun (z14 : Int) (q15 : 0 ≤ z14 ∧ z14 ≤ 60 ∧ z14 = (depF (fun m => S 4 m 1) 60 o : Int)) => ?_)
            refine And.intro (fun (h16 : (z14 < (5 : Int) : Prop)) => ?_) (fun (h16 : ((5 : Int) ≤ z14 : Prop)) => ?_)
            ·
              refine c_Changes_create (o := o) (x := x) (q := q) (show 0 ≤ o ∧ o < 60 by omega) (show 0 ≤ q ∧ q ≤ 1 by omega) (fun (z17 : Int) (S18 : fxS) ⟨(f19 : fxfr [(2, 2), (2, 3), (4, 0), (4, 1), (4, 3), (4, 4), (4, 5), (4, 6), (4, 7), (4, 11), (4, 12), (7, 9999), (8, 4), (10, 9999), (11, 9999), (13, 6), (13, 7), (13, 10), (15, 9999), (16, 9999), (17, 9999), (18, 9999), (19, 9999), (20, 0), (20, 1), (20, 3), (20, 4), (20, 5), (20, 6), (20, 7), (20, 11), (20, 12), (21, 9999), (22, 9999), (23, 9999)] S S18), (q20 : -2147483648 ≤ z17 ∧ z17 < 2147483648)⟩ => ?_)
              exact hk z17 S18 ⟨(fxfr_tr fxfr_rfl f19 rfl), by omega⟩
            ·
              exact hk (-3 : Int) S ⟨fxfr_rfl, by omega⟩
        ·
          exact hk (-7 : Int) S ⟨fxfr_rfl, by omega⟩
      ·
        exact hk (-1 : Int) S ⟨fxfr_rfl, by omega⟩
  ·
    exact hk (-8 : Int) S ⟨fxfr_rfl, by omega⟩
theorem c_StubHouse_find {l : Launch} {k : fxK} {S : fxS} {o : Int} {x : Int} (p0 : -2147483648 ≤ o ∧ o < 2147483648) (hk : ∀ (r : Int) , (-2147483648 ≤ r ∧ r < 2147483648) → k (some (.inl r)) S) : fC l 31 [.inr (.inr (0, 0)), .inl o, .inr (.inl x)] S k := by
  refine fxe_31 (Nat.le_of_ble_eq_true rfl) (fxz_31 400 ?_)
  intro z1 (z1a : (0 : Int) ≤ z1) (z1b : z1 ≤ (1 : Int)) (z1c : z1 = S 0 0 10)
  refine And.intro (fun (h2 : (z1 = (0 : Int) : Prop)) => ?_) (fun (h2 : (z1 ≠ (0 : Int) : Prop)) => ?_)
  ·
    refine c_Tree_isDirectory (n := o) (show -2147483648 ≤ o ∧ o < 2147483648 by omega) (fun (z3 : Int) (q4 : (z3 = 0 ∨ z3 = 1) ∧ (z3 = 1 → 0 ≤ o ∧ o < 60)) => ?_)
    refine And.intro (fun (h5 : (z3 ≠ (0 : Int) : Prop)) => ?_) (fun (h5 : (z3 = (0 : Int) : Prop)) => ?_)
    ·
      refine c_Tree_seek (n := o) (x := x) (show -2147483648 ≤ o ∧ o < 2147483648 by omega) (fun (z6 : Int) (q7 : -1 ≤ z6 ∧ z6 < 60 ∧ z6 ≠ 0) => ?_)
      refine And.intro (by decide) ?_
      refine And.intro (fun (h8 : ((0 : Int) ≤ z6 : Prop)) => ?_) (fun (h8 : (z6 < (0 : Int) : Prop)) => ?_)
      ·
        exact hk z6 (by omega)
      ·
        exact hk (-2 : Int) (by omega)
    ·
      exact hk (-1 : Int) (by omega)
  ·
    exact hk (-8 : Int) (by omega)
