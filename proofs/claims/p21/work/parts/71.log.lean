/-! contracts: log, stores, nodes of the class -/
theorem z_Stores_freeHeld {l : Launch} {k : fxK} {S : fxS}   (hk : ∀ (S' : fxS) , (fxfr [(8, 4), (10, 9999), (11, 9999)] S S') → k none S') : ∀ m : Nat, (∀ (b : Int) (S1 : fxS), (fxfr [(8, 4), (10, 9999), (11, 9999)] S S1) → (0 ≤ b ∧ b ≤ 208) → 209 - b ≤ (m : Int) → fZ l 5 k 2 [some (.inr (.inr (8, 0))), some (.inl b)] [] S1) := by
  intro m
  induction m with
  | zero =>
    intro b S1 hf i0 hmu
    exfalso
    omega
  | succ m ih =>
    intro b S1 hf i0 hmu
    refine fxz_5 400 ?_
    refine And.intro (fun (h1 : ((208 : Int) ≤ b : Prop)) => ?_) (fun (h1 : (b < (208 : Int) : Prop)) => ?_)
    ·
      exact hk S1 hf
    ·
      intro z2 (z2a : (-2147483648 : Int) ≤ z2) (z2b : z2 ≤ (2147483647 : Int)) (z2c : z2 = S1 8 0 4)
      refine And.intro (fun (h3 : (z2 ≤ (0 : Int) : Prop)) => ?_) (fun (h3 : ((0 : Int) < z2 : Prop)) => ?_)
      ·
        exact hk S1 hf
      ·
        refine And.intro (show 0 ≤ b ∧ b < 208 by omega) ?_
        intro z4 (z4a : (0 : Int) ≤ z4) (z4b : z4 ≤ (2 : Int)) (z4c : z4 = S1 10 0 (b).toNat)
        refine And.intro (fun (h5 : (z4 ≠ (2 : Int) : Prop)) => ?_) (fun (h5 : (z4 = (2 : Int) : Prop)) => ?_)
        ·
          refine And.intro (by decide) (And.intro (show -2147483648 ≤ b + (1 : Int) ∧ b + (1 : Int) < 2147483648 by omega) ?_)
          exact ih (b + (1 : Int)) S1 hf (by omega) (by omega)
        ·
          refine And.intro (show 0 ≤ b ∧ b < 208 by omega) ?_
          refine And.intro (show (0 : Int) ≤ (0 : Int) ∧ (0 : Int) ≤ (2 : Int) by omega) ?_
          refine And.intro (fun (h7 : ((48 : Int) ≤ b : Prop)) => ?_) (fun (h7 : (b < (48 : Int) : Prop)) => ?_)
          ·
            refine And.intro (show 0 ≤ (1 : Int) ∧ (1 : Int) < 2 by omega) ?_
            intro z8 (z8a : (-2147483648 : Int) ≤ z8) (z8b : z8 ≤ (2147483647 : Int)) (z8c : z8 = (fx_up S1 10 0 (b).toNat (0 : Int)) 11 0 ((1 : Int)).toNat)
            intro z9 (z9a : -2147483648 ≤ z9) (z9b : z9 < 2147483648) (z9c : -2147483648 ≤ (z8 + (1 : Int)) ∧ (z8 + (1 : Int)) < 2147483648 → z9 = (z8 + (1 : Int)))
            refine And.intro (show 0 ≤ (1 : Int) ∧ (1 : Int) < 2 by omega) ?_
            refine And.intro (show (-2147483648 : Int) ≤ z9 ∧ z9 ≤ (2147483647 : Int) by omega) ?_
            intro z10 (z10a : (-2147483648 : Int) ≤ z10) (z10b : z10 ≤ (2147483647 : Int)) (z10c : z10 = (fx_up (fx_up S1 10 0 (b).toNat (0 : Int)) 11 0 ((1 : Int)).toNat z9) 8 0 4)
            intro z11 (z11a : -2147483648 ≤ z11) (z11b : z11 < 2147483648) (z11c : -2147483648 ≤ (z10 - (1 : Int)) ∧ (z10 - (1 : Int)) < 2147483648 → z11 = (z10 - (1 : Int)))
            refine And.intro (show (-2147483648 : Int) ≤ z11 ∧ z11 ≤ (2147483647 : Int) by omega) ?_
            refine And.intro (by decide) (And.intro (show -2147483648 ≤ b + (1 : Int) ∧ b + (1 : Int) < 2147483648 by omega) ?_)
            exact ih (b + (1 : Int)) (fx_up (fx_up (fx_up S1 10 0 (b).toNat (0 : Int)) 11 0 ((1 : Int)).toNat z9) 8 0 4 z11) (fxfr_up (fxfr_up (fxfr_up hf rfl) rfl) rfl) (by omega) (by omega)
          ·
            refine And.intro (show 0 ≤ (0 : Int) ∧ (0 : Int) < 2 by omega) ?_
            intro z13 (z13a : (-2147483648 : Int) ≤ z13) (z13b : z13 ≤ (2147483647 : Int)) (z13c : z13 = (fx_up S1 10 0 (b).toNat (0 : Int)) 11 0 ((0 : Int)).toNat)
            intro z14 (z14a : -2147483648 ≤ z14) (z14b : z14 < 2147483648) (z14c : -2147483648 ≤ (z13 + (1 : Int)) ∧ (z13 + (1 : Int)) < 2147483648 → z14 = (z13 + (1 : Int)))
            refine And.intro (show 0 ≤ (0 : Int) ∧ (0 : Int) < 2 by omega) ?_
            refine And.intro (show (-2147483648 : Int) ≤ z14 ∧ z14 ≤ (2147483647 : Int) by omega) ?_
            intro z15 (z15a : (-2147483648 : Int) ≤ z15) (z15b : z15 ≤ (2147483647 : Int)) (z15c : z15 = (fx_up (fx_up S1 10 0 (b).toNat (0 : Int)) 11 0 ((0 : Int)).toNat z14) 8 0 4)
            intro z16 (z16a : -2147483648 ≤ z16) (z16b : z16 < 2147483648) (z16c : -2147483648 ≤ (z15 - (1 : Int)) ∧ (z15 - (1 : Int)) < 2147483648 → z16 = (z15 - (1 : Int)))
            refine And.intro (show (-2147483648 : Int) ≤ z16 ∧ z16 ≤ (2147483647 : Int) by omega) ?_
            refine And.intro (by decide) (And.intro (show -2147483648 ≤ b + (1 : Int) ∧ b + (1 : Int) < 2147483648 by omega) ?_)
            exact ih (b + (1 : Int)) (fx_up (fx_up (fx_up S1 10 0 (b).toNat (0 : Int)) 11 0 ((0 : Int)).toNat z14) 8 0 4 z16) (fxfr_up (fxfr_up (fxfr_up hf rfl) rfl) rfl) (by omega) (by omega)
theorem c_Stores_freeHeld {l : Launch} {k : fxK} {S : fxS}   (hk : ∀ (S' : fxS) , (fxfr [(8, 4), (10, 9999), (11, 9999)] S S') → k none S') : fC l 5 [.inr (.inr (8, 0))] S k := by
  refine fxe_5 (Nat.le_of_ble_eq_true rfl) (fxz_5 400 ?_)
  refine And.intro (by decide) ?_
  exact (z_Stores_freeHeld  hk (209 - (0 : Int)).toNat) (0 : Int) S fxfr_rfl (by omega) (by omega)
theorem z_Log_keepAll {l : Launch} {k : fxK} {S : fxS}  (p0 : WTS S) (hk : ∀ (r : Int) (S' : fxS) , (fxfr [(8, 4), (10, 9999), (11, 9999), (13, 6), (13, 7), (19, 9999)] S S' ∧ (-2147483648 ≤ r ∧ r < 2147483648 ∧ (S' 13 0 6 = 0)) ∧ (TreeL S')) → k (some (.inl r)) S') : ∀ m : Nat, (∀ (kp j : Int) (S1 : fxS), (fxfr [(8, 4), (10, 9999), (11, 9999), (13, 6), (13, 7), (19, 9999)] S S1) → (0 ≤ j ∧ j ≤ 40) → (S1 13 0 6 = 0) → (0 ≤ kp ∧ kp ≤ 200) → (TreeL S1) → 41 - j ≤ (m : Int) → fZ l 6 k 17 [some (.inr (.inr (13, 0))), some (.inl kp), some (.inl j)] [] S1) := by
  intro m
  induction m with
  | zero =>
    intro kp j S1 hf i0 i1 i2 i3 hmu
    exfalso
    omega
  | succ m ih =>
    intro kp j S1 hf i0 i1 i2 i3 hmu
    refine fxz_6 400 ?_
    intro z1 (z1a : (0 : Int) ≤ z1) (z1b : z1 ≤ (40 : Int)) (z1c : z1 = S1 13 0 10)
    refine And.intro (fun (h2 : (z1 ≤ j : Prop)) => ?_) (fun (h2 : (j < z1 : Prop)) => ?_)
    ·
      refine c_Stores_freeHeld   (fun (S3 : fxS) (f4 : fxfr [(8, 4), (10, 9999), (11, 9999)] S1 S3) => ?_)
      have w5 : S3 13 0 6 = S1 13 0 6 := f4 13 0 6 rfl
      have g6 : TreeL S3 := fx_pfr TreeL_stab f4 rfl i3
      exact hk kp S3 ⟨(fxfr_tr hf f4 rfl), by omega, g6⟩
    ·
      refine And.intro (show 0 ≤ j ∧ j < 40 by omega) ?_
      refine And.intro (show (0 : Int) ≤ (1 : Int) ∧ (1 : Int) ≤ (1 : Int) by omega) ?_
      have w7 : (fx_up S1 19 0 (j).toNat (1 : Int)) 13 0 6 = S1 13 0 6 := rfl
      have g8 : TreeL (fx_up S1 19 0 (j).toNat (1 : Int)) := fx_pup TreeL_stab rfl i3
      refine And.intro (by decide) (And.intro (show -2147483648 ≤ j + (1 : Int) ∧ j + (1 : Int) < 2147483648 by omega) ?_)
      exact ih kp (j + (1 : Int)) (fx_up S1 19 0 (j).toNat (1 : Int)) (fxfr_up hf rfl) (by omega) (by omega) (by omega) g8 (by omega)
theorem c_Log_keepAll {l : Launch} {k : fxK} {S : fxS}  (p0 : WTS S) (hk : ∀ (r : Int) (S' : fxS) , (fxfr [(8, 4), (10, 9999), (11, 9999), (13, 6), (13, 7), (19, 9999)] S S' ∧ (-2147483648 ≤ r ∧ r < 2147483648 ∧ (S' 13 0 6 = 0)) ∧ (TreeL S')) → k (some (.inl r)) S') : fC l 6 [.inr (.inr (13, 0))] S k := by
  refine fxe_6 (Nat.le_of_ble_eq_true rfl) (fxz_6 400 ?_)
  intro z10 (z10a : (0 : Int) ≤ z10) (z10b : z10 ≤ (200 : Int)) (z10c : z10 = S 13 0 6)
  refine And.intro (by decide) ?_
  refine And.intro (show (0 : Int) ≤ (0 : Int) ∧ (0 : Int) ≤ (200 : Int) by omega) ?_
  have w11 : (fx_up S 13 0 6 (0 : Int)) 13 0 6 = (0 : Int) := fx_up_at _ _ _ _ _
  have g12 : WTS (fx_up S 13 0 6 (0 : Int)) := fx_pup WTS_stab rfl p0
  have tl : TreeL (fx_up S 13 0 6 (0 : Int)) := Tree_zero (by assumption)
  refine And.intro (show (-2147483648 : Int) ≤ (0 : Int) ∧ (0 : Int) ≤ (2147483647 : Int) by omega) ?_
  have w13 : (fx_up (fx_up S 13 0 6 (0 : Int)) 13 0 7 (0 : Int)) 13 0 6 = (fx_up S 13 0 6 (0 : Int)) 13 0 6 := if_neg (fun q => absurd q.2.2 (by decide))
  have g14 : WTS (fx_up (fx_up S 13 0 6 (0 : Int)) 13 0 7 (0 : Int)) := fx_pup WTS_stab rfl g12
  have g15 : TreeL (fx_up (fx_up S 13 0 6 (0 : Int)) 13 0 7 (0 : Int)) := fx_pup TreeL_stab rfl tl
  refine And.intro (by decide) ?_
  exact (z_Log_keepAll p0 hk (41 - (0 : Int)).toNat) z10 (0 : Int) (fx_up (fx_up S 13 0 6 (0 : Int)) 13 0 7 (0 : Int)) (fxfr_up (fxfr_up fxfr_rfl rfl) rfl) (by omega) (by omega) (by omega) g15 (by omega)
theorem c_Node_become20 {l : Launch} {k : fxK} {S : fxS} {i : Nat} {j : Nat}  (hk : ∀ (S' : fxS) , (fxfr [(20, 0), (20, 1), (20, 3), (20, 4), (20, 5), (20, 6), (20, 7), (20, 11), (20, 12), (21, 9999), (22, 9999), (23, 9999)] S S' ∧ (S' 20 i 0 = S 4 j 0 ∧ S' 20 i 1 = S 4 j 1) ∧ (N20 i S S')) → k none S') : fC l 7 [.inr (.inr (20, i)), .inr (.inr (4, j))] S k := by
  have n1 : N20 i S S := N20_rfl
  refine fxe_7 (Nat.le_of_ble_eq_true rfl) (fxz_7 400 ?_)
  intro z2 (z2a : (0 : Int) ≤ z2) (z2b : z2 ≤ (2 : Int)) (z2c : z2 = S 4 j 0)
  refine And.intro (show (0 : Int) ≤ z2 ∧ z2 ≤ (2 : Int) by omega) ?_
  have w3 : (fx_up S 20 i 0 z2) 20 i 0 = z2 := fx_up_at _ _ _ _ _
  have w4 : (fx_up S 20 i 0 z2) 20 i 1 = S 20 i 1 := if_neg (fun q => absurd q.2.2 (by decide))
  have w5 : (fx_up S 20 i 0 z2) 4 j 1 = S 4 j 1 := rfl
  have g6 : N20 i S (fx_up S 20 i 0 z2) := N20_up n1
  intro z7 (z7a : (0 : Int) ≤ z7) (z7b : z7 ≤ (59 : Int)) (z7c : z7 = (fx_up S 20 i 0 z2) 4 j 1)
  refine And.intro (show (0 : Int) ≤ z7 ∧ z7 ≤ (59 : Int) by omega) ?_
  have w8 : (fx_up (fx_up S 20 i 0 z2) 20 i 1 z7) 20 i 0 = (fx_up S 20 i 0 z2) 20 i 0 := if_neg (fun q => absurd q.2.2 (by decide))
  have w9 : (fx_up (fx_up S 20 i 0 z2) 20 i 1 z7) 20 i 1 = z7 := fx_up_at _ _ _ _ _
  have w10 : (fx_up (fx_up S 20 i 0 z2) 20 i 1 z7) 4 j 1 = (fx_up S 20 i 0 z2) 4 j 1 := rfl
  have g11 : N20 i S (fx_up (fx_up S 20 i 0 z2) 20 i 1 z7) := N20_up g6
  intro z12
  intro z13 (z13a : (-2147483648 : Int) ≤ z13) (z13b : z13 ≤ (2147483647 : Int)) (z13c : z13 = (fx_up (fx_up S 20 i 0 z2) 20 i 1 z7) 4 j 3)
  refine And.intro (show (-2147483648 : Int) ≤ z13 ∧ z13 ≤ (2147483647 : Int) by omega) ?_
  have w14 : (fx_up (fx_up (fx_up S 20 i 0 z2) 20 i 1 z7) 20 i 3 z13) 20 i 0 = (fx_up (fx_up S 20 i 0 z2) 20 i 1 z7) 20 i 0 := if_neg (fun q => absurd q.2.2 (by decide))
  have w15 : (fx_up (fx_up (fx_up S 20 i 0 z2) 20 i 1 z7) 20 i 3 z13) 20 i 1 = (fx_up (fx_up S 20 i 0 z2) 20 i 1 z7) 20 i 1 := if_neg (fun q => absurd q.2.2 (by decide))
  have w16 : (fx_up (fx_up (fx_up S 20 i 0 z2) 20 i 1 z7) 20 i 3 z13) 4 j 1 = (fx_up (fx_up S 20 i 0 z2) 20 i 1 z7) 4 j 1 := rfl
  have g17 : N20 i S (fx_up (fx_up (fx_up S 20 i 0 z2) 20 i 1 z7) 20 i 3 z13) := fx_pup N20_stab rfl g11
  intro z18 (z18a : (0 : Int) ≤ z18) (z18b : z18 ≤ (1024 : Int)) (z18c : z18 = (fx_up (fx_up (fx_up S 20 i 0 z2) 20 i 1 z7) 20 i 3 z13) 4 j 4)
  refine And.intro (show (0 : Int) ≤ z18 ∧ z18 ≤ (1024 : Int) by omega) ?_
  have w19 : (fx_up (fx_up (fx_up (fx_up S 20 i 0 z2) 20 i 1 z7) 20 i 3 z13) 20 i 4 z18) 20 i 0 = (fx_up (fx_up (fx_up S 20 i 0 z2) 20 i 1 z7) 20 i 3 z13) 20 i 0 := if_neg (fun q => absurd q.2.2 (by decide))
  have w20 : (fx_up (fx_up (fx_up (fx_up S 20 i 0 z2) 20 i 1 z7) 20 i 3 z13) 20 i 4 z18) 20 i 1 = (fx_up (fx_up (fx_up S 20 i 0 z2) 20 i 1 z7) 20 i 3 z13) 20 i 1 := if_neg (fun q => absurd q.2.2 (by decide))
  have w21 : (fx_up (fx_up (fx_up (fx_up S 20 i 0 z2) 20 i 1 z7) 20 i 3 z13) 20 i 4 z18) 4 j 1 = (fx_up (fx_up (fx_up S 20 i 0 z2) 20 i 1 z7) 20 i 3 z13) 4 j 1 := rfl
  have g22 : N20 i S (fx_up (fx_up (fx_up (fx_up S 20 i 0 z2) 20 i 1 z7) 20 i 3 z13) 20 i 4 z18) := fx_pup N20_stab rfl g17
  intro z23 (z23a : (-2147483648 : Int) ≤ z23) (z23b : z23 ≤ (2147483647 : Int)) (z23c : z23 = (fx_up (fx_up (fx_up (fx_up S 20 i 0 z2) 20 i 1 z7) 20 i 3 z13) 20 i 4 z18) 4 j 5)
  refine And.intro (show (-2147483648 : Int) ≤ z23 ∧ z23 ≤ (2147483647 : Int) by omega) ?_
  have w24 : (fx_up (fx_up (fx_up (fx_up (fx_up S 20 i 0 z2) 20 i 1 z7) 20 i 3 z13) 20 i 4 z18) 20 i 5 z23) 20 i 0 = (fx_up (fx_up (fx_up (fx_up S 20 i 0 z2) 20 i 1 z7) 20 i 3 z13) 20 i 4 z18) 20 i 0 := if_neg (fun q => absurd q.2.2 (by decide))
  have w25 : (fx_up (fx_up (fx_up (fx_up (fx_up S 20 i 0 z2) 20 i 1 z7) 20 i 3 z13) 20 i 4 z18) 20 i 5 z23) 20 i 1 = (fx_up (fx_up (fx_up (fx_up S 20 i 0 z2) 20 i 1 z7) 20 i 3 z13) 20 i 4 z18) 20 i 1 := if_neg (fun q => absurd q.2.2 (by decide))
  have w26 : (fx_up (fx_up (fx_up (fx_up (fx_up S 20 i 0 z2) 20 i 1 z7) 20 i 3 z13) 20 i 4 z18) 20 i 5 z23) 4 j 1 = (fx_up (fx_up (fx_up (fx_up S 20 i 0 z2) 20 i 1 z7) 20 i 3 z13) 20 i 4 z18) 4 j 1 := rfl
  have g27 : N20 i S (fx_up (fx_up (fx_up (fx_up (fx_up S 20 i 0 z2) 20 i 1 z7) 20 i 3 z13) 20 i 4 z18) 20 i 5 z23) := fx_pup N20_stab rfl g22
  intro z28 (z28a : (-2147483648 : Int) ≤ z28) (z28b : z28 ≤ (2147483647 : Int)) (z28c : z28 = (fx_up (fx_up (fx_up (fx_up (fx_up S 20 i 0 z2) 20 i 1 z7) 20 i 3 z13) 20 i 4 z18) 20 i 5 z23) 4 j 6)
  refine And.intro (show (-2147483648 : Int) ≤ z28 ∧ z28 ≤ (2147483647 : Int) by omega) ?_
  have w29 : (fx_up (fx_up (fx_up (fx_up (fx_up (fx_up S 20 i 0 z2) 20 i 1 z7) 20 i 3 z13) 20 i 4 z18) 20 i 5 z23) 20 i 6 z28) 20 i 0 = (fx_up (fx_up (fx_up (fx_up (fx_up S 20 i 0 z2) 20 i 1 z7) 20 i 3 z13) 20 i 4 z18) 20 i 5 z23) 20 i 0 := if_neg (fun q => absurd q.2.2 (by decide))
  have w30 : (fx_up (fx_up (fx_up (fx_up (fx_up (fx_up S 20 i 0 z2) 20 i 1 z7) 20 i 3 z13) 20 i 4 z18) 20 i 5 z23) 20 i 6 z28) 20 i 1 = (fx_up (fx_up (fx_up (fx_up (fx_up S 20 i 0 z2) 20 i 1 z7) 20 i 3 z13) 20 i 4 z18) 20 i 5 z23) 20 i 1 := if_neg (fun q => absurd q.2.2 (by decide))
  have w31 : (fx_up (fx_up (fx_up (fx_up (fx_up (fx_up S 20 i 0 z2) 20 i 1 z7) 20 i 3 z13) 20 i 4 z18) 20 i 5 z23) 20 i 6 z28) 4 j 1 = (fx_up (fx_up (fx_up (fx_up (fx_up S 20 i 0 z2) 20 i 1 z7) 20 i 3 z13) 20 i 4 z18) 20 i 5 z23) 4 j 1 := rfl
  have g32 : N20 i S (fx_up (fx_up (fx_up (fx_up (fx_up (fx_up S 20 i 0 z2) 20 i 1 z7) 20 i 3 z13) 20 i 4 z18) 20 i 5 z23) 20 i 6 z28) := fx_pup N20_stab rfl g27
  intro z33 (z33a : (0 : Int) ≤ z33) (z33b : z33 ≤ (2 : Int)) (z33c : z33 = (fx_up (fx_up (fx_up (fx_up (fx_up (fx_up S 20 i 0 z2) 20 i 1 z7) 20 i 3 z13) 20 i 4 z18) 20 i 5 z23) 20 i 6 z28) 4 j 7)
  refine And.intro (show (0 : Int) ≤ z33 ∧ z33 ≤ (2 : Int) by omega) ?_
  have w34 : (fx_up (fx_up (fx_up (fx_up (fx_up (fx_up (fx_up S 20 i 0 z2) 20 i 1 z7) 20 i 3 z13) 20 i 4 z18) 20 i 5 z23) 20 i 6 z28) 20 i 7 z33) 20 i 0 = (fx_up (fx_up (fx_up (fx_up (fx_up (fx_up S 20 i 0 z2) 20 i 1 z7) 20 i 3 z13) 20 i 4 z18) 20 i 5 z23) 20 i 6 z28) 20 i 0 := if_neg (fun q => absurd q.2.2 (by decide))
  have w35 : (fx_up (fx_up (fx_up (fx_up (fx_up (fx_up (fx_up S 20 i 0 z2) 20 i 1 z7) 20 i 3 z13) 20 i 4 z18) 20 i 5 z23) 20 i 6 z28) 20 i 7 z33) 20 i 1 = (fx_up (fx_up (fx_up (fx_up (fx_up (fx_up S 20 i 0 z2) 20 i 1 z7) 20 i 3 z13) 20 i 4 z18) 20 i 5 z23) 20 i 6 z28) 20 i 1 := if_neg (fun q => absurd q.2.2 (by decide))
  have w36 : (fx_up (fx_up (fx_up (fx_up (fx_up (fx_up (fx_up S 20 i 0 z2) 20 i 1 z7) 20 i 3 z13) 20 i 4 z18) 20 i 5 z23) 20 i 6 z28) 20 i 7 z33) 4 j 1 = (fx_up (fx_up (fx_up (fx_up (fx_up (fx_up S 20 i 0 z2) 20 i 1 z7) 20 i 3 z13) 20 i 4 z18) 20 i 5 z23) 20 i 6 z28) 4 j 1 := rfl
  have g37 : N20 i S (fx_up (fx_up (fx_up (fx_up (fx_up (fx_up (fx_up S 20 i 0 z2) 20 i 1 z7) 20 i 3 z13) 20 i 4 z18) 20 i 5 z23) 20 i 6 z28) 20 i 7 z33) := fx_pup N20_stab rfl g32
  refine And.intro (show ((0 : Int) ≤ (0 : Int) ∧ (5 : Int) ≤ (5 : Int) : Prop) by omega) (And.intro (show (0 ≤ (0 : Int) ∧ 0 ≤ (0 : Int)) ∧ (0 ≤ (2 : Int) ∧ (0 : Int) + (2 : Int) ≤ (2 : Int) ∧ (0 : Int) + (2 : Int) ≤ (2 : Int)) by omega) ?_)
  have w38 : (fx_cpy (fx_up (fx_up (fx_up (fx_up (fx_up (fx_up (fx_up S 20 i 0 z2) 20 i 1 z7) 20 i 3 z13) 20 i 4 z18) 20 i 5 z23) 20 i 6 z28) 20 i 7 z33) 21 i (0 : Int) (2 : Int) 5 j (0 : Int)) 20 i 0 = (fx_up (fx_up (fx_up (fx_up (fx_up (fx_up (fx_up S 20 i 0 z2) 20 i 1 z7) 20 i 3 z13) 20 i 4 z18) 20 i 5 z23) 20 i 6 z28) 20 i 7 z33) 20 i 0 := rfl
  have w39 : (fx_cpy (fx_up (fx_up (fx_up (fx_up (fx_up (fx_up (fx_up S 20 i 0 z2) 20 i 1 z7) 20 i 3 z13) 20 i 4 z18) 20 i 5 z23) 20 i 6 z28) 20 i 7 z33) 21 i (0 : Int) (2 : Int) 5 j (0 : Int)) 20 i 1 = (fx_up (fx_up (fx_up (fx_up (fx_up (fx_up (fx_up S 20 i 0 z2) 20 i 1 z7) 20 i 3 z13) 20 i 4 z18) 20 i 5 z23) 20 i 6 z28) 20 i 7 z33) 20 i 1 := rfl
  have w40 : (fx_cpy (fx_up (fx_up (fx_up (fx_up (fx_up (fx_up (fx_up S 20 i 0 z2) 20 i 1 z7) 20 i 3 z13) 20 i 4 z18) 20 i 5 z23) 20 i 6 z28) 20 i 7 z33) 21 i (0 : Int) (2 : Int) 5 j (0 : Int)) 4 j 1 = (fx_up (fx_up (fx_up (fx_up (fx_up (fx_up (fx_up S 20 i 0 z2) 20 i 1 z7) 20 i 3 z13) 20 i 4 z18) 20 i 5 z23) 20 i 6 z28) 20 i 7 z33) 4 j 1 := rfl
  have g41 : N20 i S (fx_cpy (fx_up (fx_up (fx_up (fx_up (fx_up (fx_up (fx_up S 20 i 0 z2) 20 i 1 z7) 20 i 3 z13) 20 i 4 z18) 20 i 5 z23) 20 i 6 z28) 20 i 7 z33) 21 i (0 : Int) (2 : Int) 5 j (0 : Int)) := fx_pcpy N20_stab (fun _ => rfl) g37
  refine And.intro (show ((0 : Int) ≤ (0 : Int) ∧ (6000 : Int) ≤ (6000 : Int) : Prop) by omega) (And.intro (show (0 ≤ (0 : Int) ∧ 0 ≤ (0 : Int)) ∧ (0 ≤ (2 : Int) ∧ (0 : Int) + (2 : Int) ≤ (2 : Int) ∧ (0 : Int) + (2 : Int) ≤ (2 : Int)) by omega) ?_)
  have w42 : (fx_cpy (fx_cpy (fx_up (fx_up (fx_up (fx_up (fx_up (fx_up (fx_up S 20 i 0 z2) 20 i 1 z7) 20 i 3 z13) 20 i 4 z18) 20 i 5 z23) 20 i 6 z28) 20 i 7 z33) 21 i (0 : Int) (2 : Int) 5 j (0 : Int)) 22 i (0 : Int) (2 : Int) 6 j (0 : Int)) 20 i 0 = (fx_cpy (fx_up (fx_up (fx_up (fx_up (fx_up (fx_up (fx_up S 20 i 0 z2) 20 i 1 z7) 20 i 3 z13) 20 i 4 z18) 20 i 5 z23) 20 i 6 z28) 20 i 7 z33) 21 i (0 : Int) (2 : Int) 5 j (0 : Int)) 20 i 0 := rfl
  have w43 : (fx_cpy (fx_cpy (fx_up (fx_up (fx_up (fx_up (fx_up (fx_up (fx_up S 20 i 0 z2) 20 i 1 z7) 20 i 3 z13) 20 i 4 z18) 20 i 5 z23) 20 i 6 z28) 20 i 7 z33) 21 i (0 : Int) (2 : Int) 5 j (0 : Int)) 22 i (0 : Int) (2 : Int) 6 j (0 : Int)) 20 i 1 = (fx_cpy (fx_up (fx_up (fx_up (fx_up (fx_up (fx_up (fx_up S 20 i 0 z2) 20 i 1 z7) 20 i 3 z13) 20 i 4 z18) 20 i 5 z23) 20 i 6 z28) 20 i 7 z33) 21 i (0 : Int) (2 : Int) 5 j (0 : Int)) 20 i 1 := rfl
  have w44 : (fx_cpy (fx_cpy (fx_up (fx_up (fx_up (fx_up (fx_up (fx_up (fx_up S 20 i 0 z2) 20 i 1 z7) 20 i 3 z13) 20 i 4 z18) 20 i 5 z23) 20 i 6 z28) 20 i 7 z33) 21 i (0 : Int) (2 : Int) 5 j (0 : Int)) 22 i (0 : Int) (2 : Int) 6 j (0 : Int)) 4 j 1 = (fx_cpy (fx_up (fx_up (fx_up (fx_up (fx_up (fx_up (fx_up S 20 i 0 z2) 20 i 1 z7) 20 i 3 z13) 20 i 4 z18) 20 i 5 z23) 20 i 6 z28) 20 i 7 z33) 21 i (0 : Int) (2 : Int) 5 j (0 : Int)) 4 j 1 := rfl
  have g45 : N20 i S (fx_cpy (fx_cpy (fx_up (fx_up (fx_up (fx_up (fx_up (fx_up (fx_up S 20 i 0 z2) 20 i 1 z7) 20 i 3 z13) 20 i 4 z18) 20 i 5 z23) 20 i 6 z28) 20 i 7 z33) 21 i (0 : Int) (2 : Int) 5 j (0 : Int)) 22 i (0 : Int) (2 : Int) 6 j (0 : Int)) := fx_pcpy N20_stab (fun _ => rfl) g41
  refine And.intro (show ((-1 : Int) ≤ (-1 : Int) ∧ (207 : Int) ≤ (207 : Int) : Prop) by omega) (And.intro (show (0 ≤ (0 : Int) ∧ 0 ≤ (0 : Int)) ∧ (0 ≤ (32 : Int) ∧ (0 : Int) + (32 : Int) ≤ (32 : Int) ∧ (0 : Int) + (32 : Int) ≤ (32 : Int)) by omega) ?_)
  have w46 : (fx_cpy (fx_cpy (fx_cpy (fx_up (fx_up (fx_up (fx_up (fx_up (fx_up (fx_up S 20 i 0 z2) 20 i 1 z7) 20 i 3 z13) 20 i 4 z18) 20 i 5 z23) 20 i 6 z28) 20 i 7 z33) 21 i (0 : Int) (2 : Int) 5 j (0 : Int)) 22 i (0 : Int) (2 : Int) 6 j (0 : Int)) 23 i (0 : Int) (32 : Int) 7 j (0 : Int)) 20 i 0 = (fx_cpy (fx_cpy (fx_up (fx_up (fx_up (fx_up (fx_up (fx_up (fx_up S 20 i 0 z2) 20 i 1 z7) 20 i 3 z13) 20 i 4 z18) 20 i 5 z23) 20 i 6 z28) 20 i 7 z33) 21 i (0 : Int) (2 : Int) 5 j (0 : Int)) 22 i (0 : Int) (2 : Int) 6 j (0 : Int)) 20 i 0 := rfl
  have w47 : (fx_cpy (fx_cpy (fx_cpy (fx_up (fx_up (fx_up (fx_up (fx_up (fx_up (fx_up S 20 i 0 z2) 20 i 1 z7) 20 i 3 z13) 20 i 4 z18) 20 i 5 z23) 20 i 6 z28) 20 i 7 z33) 21 i (0 : Int) (2 : Int) 5 j (0 : Int)) 22 i (0 : Int) (2 : Int) 6 j (0 : Int)) 23 i (0 : Int) (32 : Int) 7 j (0 : Int)) 20 i 1 = (fx_cpy (fx_cpy (fx_up (fx_up (fx_up (fx_up (fx_up (fx_up (fx_up S 20 i 0 z2) 20 i 1 z7) 20 i 3 z13) 20 i 4 z18) 20 i 5 z23) 20 i 6 z28) 20 i 7 z33) 21 i (0 : Int) (2 : Int) 5 j (0 : Int)) 22 i (0 : Int) (2 : Int) 6 j (0 : Int)) 20 i 1 := rfl
  have w48 : (fx_cpy (fx_cpy (fx_cpy (fx_up (fx_up (fx_up (fx_up (fx_up (fx_up (fx_up S 20 i 0 z2) 20 i 1 z7) 20 i 3 z13) 20 i 4 z18) 20 i 5 z23) 20 i 6 z28) 20 i 7 z33) 21 i (0 : Int) (2 : Int) 5 j (0 : Int)) 22 i (0 : Int) (2 : Int) 6 j (0 : Int)) 23 i (0 : Int) (32 : Int) 7 j (0 : Int)) 4 j 1 = (fx_cpy (fx_cpy (fx_up (fx_up (fx_up (fx_up (fx_up (fx_up (fx_up S 20 i 0 z2) 20 i 1 z7) 20 i 3 z13) 20 i 4 z18) 20 i 5 z23) 20 i 6 z28) 20 i 7 z33) 21 i (0 : Int) (2 : Int) 5 j (0 : Int)) 22 i (0 : Int) (2 : Int) 6 j (0 : Int)) 4 j 1 := rfl
  have g49 : N20 i S (fx_cpy (fx_cpy (fx_cpy (fx_up (fx_up (fx_up (fx_up (fx_up (fx_up (fx_up S 20 i 0 z2) 20 i 1 z7) 20 i 3 z13) 20 i 4 z18) 20 i 5 z23) 20 i 6 z28) 20 i 7 z33) 21 i (0 : Int) (2 : Int) 5 j (0 : Int)) 22 i (0 : Int) (2 : Int) 6 j (0 : Int)) 23 i (0 : Int) (32 : Int) 7 j (0 : Int)) := fx_pcpy N20_stab (fun _ => rfl) g45
  intro z50 (z50a : (-2147483648 : Int) ≤ z50) (z50b : z50 ≤ (2147483647 : Int)) (z50c : z50 = (fx_cpy (fx_cpy (fx_cpy (fx_up (fx_up (fx_up (fx_up (fx_up (fx_up (fx_up S 20 i 0 z2) 20 i 1 z7) 20 i 3 z13) 20 i 4 z18) 20 i 5 z23) 20 i 6 z28) 20 i 7 z33) 21 i (0 : Int) (2 : Int) 5 j (0 : Int)) 22 i (0 : Int) (2 : Int) 6 j (0 : Int)) 23 i (0 : Int) (32 : Int) 7 j (0 : Int)) 4 j 11)
  refine And.intro (show (-2147483648 : Int) ≤ z50 ∧ z50 ≤ (2147483647 : Int) by omega) ?_
  have w51 : (fx_up (fx_cpy (fx_cpy (fx_cpy (fx_up (fx_up (fx_up (fx_up (fx_up (fx_up (fx_up S 20 i 0 z2) 20 i 1 z7) 20 i 3 z13) 20 i 4 z18) 20 i 5 z23) 20 i 6 z28) 20 i 7 z33) 21 i (0 : Int) (2 : Int) 5 j (0 : Int)) 22 i (0 : Int) (2 : Int) 6 j (0 : Int)) 23 i (0 : Int) (32 : Int) 7 j (0 : Int)) 20 i 11 z50) 20 i 0 = (fx_cpy (fx_cpy (fx_cpy (fx_up (fx_up (fx_up (fx_up (fx_up (fx_up (fx_up S 20 i 0 z2) 20 i 1 z7) 20 i 3 z13) 20 i 4 z18) 20 i 5 z23) 20 i 6 z28) 20 i 7 z33) 21 i (0 : Int) (2 : Int) 5 j (0 : Int)) 22 i (0 : Int) (2 : Int) 6 j (0 : Int)) 23 i (0 : Int) (32 : Int) 7 j (0 : Int)) 20 i 0 := if_neg (fun q => absurd q.2.2 (by decide))
  have w52 : (fx_up (fx_cpy (fx_cpy (fx_cpy (fx_up (fx_up (fx_up (fx_up (fx_up (fx_up (fx_up S 20 i 0 z2) 20 i 1 z7) 20 i 3 z13) 20 i 4 z18) 20 i 5 z23) 20 i 6 z28) 20 i 7 z33) 21 i (0 : Int) (2 : Int) 5 j (0 : Int)) 22 i (0 : Int) (2 : Int) 6 j (0 : Int)) 23 i (0 : Int) (32 : Int) 7 j (0 : Int)) 20 i 11 z50) 20 i 1 = (fx_cpy (fx_cpy (fx_cpy (fx_up (fx_up (fx_up (fx_up (fx_up (fx_up (fx_up S 20 i 0 z2) 20 i 1 z7) 20 i 3 z13) 20 i 4 z18) 20 i 5 z23) 20 i 6 z28) 20 i 7 z33) 21 i (0 : Int) (2 : Int) 5 j (0 : Int)) 22 i (0 : Int) (2 : Int) 6 j (0 : Int)) 23 i (0 : Int) (32 : Int) 7 j (0 : Int)) 20 i 1 := if_neg (fun q => absurd q.2.2 (by decide))
  have w53 : (fx_up (fx_cpy (fx_cpy (fx_cpy (fx_up (fx_up (fx_up (fx_up (fx_up (fx_up (fx_up S 20 i 0 z2) 20 i 1 z7) 20 i 3 z13) 20 i 4 z18) 20 i 5 z23) 20 i 6 z28) 20 i 7 z33) 21 i (0 : Int) (2 : Int) 5 j (0 : Int)) 22 i (0 : Int) (2 : Int) 6 j (0 : Int)) 23 i (0 : Int) (32 : Int) 7 j (0 : Int)) 20 i 11 z50) 4 j 1 = (fx_cpy (fx_cpy (fx_cpy (fx_up (fx_up (fx_up (fx_up (fx_up (fx_up (fx_up S 20 i 0 z2) 20 i 1 z7) 20 i 3 z13) 20 i 4 z18) 20 i 5 z23) 20 i 6 z28) 20 i 7 z33) 21 i (0 : Int) (2 : Int) 5 j (0 : Int)) 22 i (0 : Int) (2 : Int) 6 j (0 : Int)) 23 i (0 : Int) (32 : Int) 7 j (0 : Int)) 4 j 1 := rfl
  have g54 : N20 i S (fx_up (fx_cpy (fx_cpy (fx_cpy (fx_up (fx_up (fx_up (fx_up (fx_up (fx_up (fx_up S 20 i 0 z2) 20 i 1 z7) 20 i 3 z13) 20 i 4 z18) 20 i 5 z23) 20 i 6 z28) 20 i 7 z33) 21 i (0 : Int) (2 : Int) 5 j (0 : Int)) 22 i (0 : Int) (2 : Int) 6 j (0 : Int)) 23 i (0 : Int) (32 : Int) 7 j (0 : Int)) 20 i 11 z50) := fx_pup N20_stab rfl g49
  intro z55 (z55a : (-2147483648 : Int) ≤ z55) (z55b : z55 ≤ (2147483647 : Int)) (z55c : z55 = (fx_up (fx_cpy (fx_cpy (fx_cpy (fx_up (fx_up (fx_up (fx_up (fx_up (fx_up (fx_up S 20 i 0 z2) 20 i 1 z7) 20 i 3 z13) 20 i 4 z18) 20 i 5 z23) 20 i 6 z28) 20 i 7 z33) 21 i (0 : Int) (2 : Int) 5 j (0 : Int)) 22 i (0 : Int) (2 : Int) 6 j (0 : Int)) 23 i (0 : Int) (32 : Int) 7 j (0 : Int)) 20 i 11 z50) 4 j 12)
  refine And.intro (show (-2147483648 : Int) ≤ z55 ∧ z55 ≤ (2147483647 : Int) by omega) ?_
  have w56 : (fx_up (fx_up (fx_cpy (fx_cpy (fx_cpy (fx_up (fx_up (fx_up (fx_up (fx_up (fx_up (fx_up S 20 i 0 z2) 20 i 1 z7) 20 i 3 z13) 20 i 4 z18) 20 i 5 z23) 20 i 6 z28) 20 i 7 z33) 21 i (0 : Int) (2 : Int) 5 j (0 : Int)) 22 i (0 : Int) (2 : Int) 6 j (0 : Int)) 23 i (0 : Int) (32 : Int) 7 j (0 : Int)) 20 i 11 z50) 20 i 12 z55) 20 i 0 = (fx_up (fx_cpy (fx_cpy (fx_cpy (fx_up (fx_up (fx_up (fx_up (fx_up (fx_up (fx_up S 20 i 0 z2) 20 i 1 z7) 20 i 3 z13) 20 i 4 z18) 20 i 5 z23) 20 i 6 z28) 20 i 7 z33) 21 i (0 : Int) (2 : Int) 5 j (0 : Int)) 22 i (0 : Int) (2 : Int) 6 j (0 : Int)) 23 i (0 : Int) (32 : Int) 7 j (0 : Int)) 20 i 11 z50) 20 i 0 := if_neg (fun q => absurd q.2.2 (by decide))
  have w57 : (fx_up (fx_up (fx_cpy (fx_cpy (fx_cpy (fx_up (fx_up (fx_up (fx_up (fx_up (fx_up (fx_up S 20 i 0 z2) 20 i 1 z7) 20 i 3 z13) 20 i 4 z18) 20 i 5 z23) 20 i 6 z28) 20 i 7 z33) 21 i (0 : Int) (2 : Int) 5 j (0 : Int)) 22 i (0 : Int) (2 : Int) 6 j (0 : Int)) 23 i (0 : Int) (32 : Int) 7 j (0 : Int)) 20 i 11 z50) 20 i 12 z55) 20 i 1 = (fx_up (fx_cpy (fx_cpy (fx_cpy (fx_up (fx_up (fx_up (fx_up (fx_up (fx_up (fx_up S 20 i 0 z2) 20 i 1 z7) 20 i 3 z13) 20 i 4 z18) 20 i 5 z23) 20 i 6 z28) 20 i 7 z33) 21 i (0 : Int) (2 : Int) 5 j (0 : Int)) 22 i (0 : Int) (2 : Int) 6 j (0 : Int)) 23 i (0 : Int) (32 : Int) 7 j (0 : Int)) 20 i 11 z50) 20 i 1 := if_neg (fun q => absurd q.2.2 (by decide))
  have w58 : (fx_up (fx_up (fx_cpy (fx_cpy (fx_cpy (fx_up (fx_up (fx_up (fx_up (fx_up (fx_up (fx_up S 20 i 0 z2) 20 i 1 z7) 20 i 3 z13) 20 i 4 z18) 20 i 5 z23) 20 i 6 z28) 20 i 7 z33) 21 i (0 : Int) (2 : Int) 5 j (0 : Int)) 22 i (0 : Int) (2 : Int) 6 j (0 : Int)) 23 i (0 : Int) (32 : Int) 7 j (0 : Int)) 20 i 11 z50) 20 i 12 z55) 4 j 1 = (fx_up (fx_cpy (fx_cpy (fx_cpy (fx_up (fx_up (fx_up (fx_up (fx_up (fx_up (fx_up S 20 i 0 z2) 20 i 1 z7) 20 i 3 z13) 20 i 4 z18) 20 i 5 z23) 20 i 6 z28) 20 i 7 z33) 21 i (0 : Int) (2 : Int) 5 j (0 : Int)) 22 i (0 : Int) (2 : Int) 6 j (0 : Int)) 23 i (0 : Int) (32 : Int) 7 j (0 : Int)) 20 i 11 z50) 4 j 1 := rfl
  have g59 : N20 i S (fx_up (fx_up (fx_cpy (fx_cpy (fx_cpy (fx_up (fx_up (fx_up (fx_up (fx_up (fx_up (fx_up S 20 i 0 z2) 20 i 1 z7) 20 i 3 z13) 20 i 4 z18) 20 i 5 z23) 20 i 6 z28) 20 i 7 z33) 21 i (0 : Int) (2 : Int) 5 j (0 : Int)) 22 i (0 : Int) (2 : Int) 6 j (0 : Int)) 23 i (0 : Int) (32 : Int) 7 j (0 : Int)) 20 i 11 z50) 20 i 12 z55) := fx_pup N20_stab rfl g54
  exact hk (fx_up (fx_up (fx_cpy (fx_cpy (fx_cpy (fx_up (fx_up (fx_up (fx_up (fx_up (fx_up (fx_up S 20 i 0 z2) 20 i 1 z7) 20 i 3 z13) 20 i 4 z18) 20 i 5 z23) 20 i 6 z28) 20 i 7 z33) 21 i (0 : Int) (2 : Int) 5 j (0 : Int)) 22 i (0 : Int) (2 : Int) 6 j (0 : Int)) 23 i (0 : Int) (32 : Int) 7 j (0 : Int)) 20 i 11 z50) 20 i 12 z55) ⟨(fxfr_up (fxfr_up (fxfr_cpy (fxfr_cpy (fxfr_cpy (fxfr_up (fxfr_up (fxfr_up (fxfr_up (fxfr_up (fxfr_up (fxfr_up fxfr_rfl rfl) rfl) rfl) rfl) rfl) rfl) rfl) (fun _ => rfl)) (fun _ => rfl)) (fun _ => rfl)) rfl) rfl), by omega, g59⟩
theorem c_Node_become4 {l : Launch} {k : fxK} {S : fxS} {i : Nat} {j : Nat}  (hk : ∀ (S' : fxS) , (fxfr [(4, 0), (4, 1), (4, 3), (4, 4), (4, 5), (4, 6), (4, 7), (4, 11), (4, 12), (5, 9999), (6, 9999), (7, 9999)] S S' ∧ (S' 4 i 0 = S 20 j 0 ∧ S' 4 i 1 = S 20 j 1) ∧ (N4 i S S')) → k none S') : fC l 7 [.inr (.inr (4, i)), .inr (.inr (20, j))] S k := by
  have n1 : N4 i S S := N4_rfl
  refine fxe_7 (Nat.le_of_ble_eq_true rfl) (fxz_7 400 ?_)
  intro z2 (z2a : (0 : Int) ≤ z2) (z2b : z2 ≤ (2 : Int)) (z2c : z2 = S 20 j 0)
  refine And.intro (show (0 : Int) ≤ z2 ∧ z2 ≤ (2 : Int) by omega) ?_
  have w3 : (fx_up S 4 i 0 z2) 4 i 0 = z2 := fx_up_at _ _ _ _ _
  have w4 : (fx_up S 4 i 0 z2) 4 i 1 = S 4 i 1 := if_neg (fun q => absurd q.2.2 (by decide))
  have w5 : (fx_up S 4 i 0 z2) 20 j 1 = S 20 j 1 := rfl
  have g6 : N4 i S (fx_up S 4 i 0 z2) := N4_up n1
  intro z7 (z7a : (0 : Int) ≤ z7) (z7b : z7 ≤ (59 : Int)) (z7c : z7 = (fx_up S 4 i 0 z2) 20 j 1)
  refine And.intro (show (0 : Int) ≤ z7 ∧ z7 ≤ (59 : Int) by omega) ?_
  have w8 : (fx_up (fx_up S 4 i 0 z2) 4 i 1 z7) 4 i 0 = (fx_up S 4 i 0 z2) 4 i 0 := if_neg (fun q => absurd q.2.2 (by decide))
  have w9 : (fx_up (fx_up S 4 i 0 z2) 4 i 1 z7) 4 i 1 = z7 := fx_up_at _ _ _ _ _
  have w10 : (fx_up (fx_up S 4 i 0 z2) 4 i 1 z7) 20 j 1 = (fx_up S 4 i 0 z2) 20 j 1 := rfl
  have g11 : N4 i S (fx_up (fx_up S 4 i 0 z2) 4 i 1 z7) := N4_up g6
  intro z12
  intro z13 (z13a : (-2147483648 : Int) ≤ z13) (z13b : z13 ≤ (2147483647 : Int)) (z13c : z13 = (fx_up (fx_up S 4 i 0 z2) 4 i 1 z7) 20 j 3)
  refine And.intro (show (-2147483648 : Int) ≤ z13 ∧ z13 ≤ (2147483647 : Int) by omega) ?_
  have w14 : (fx_up (fx_up (fx_up S 4 i 0 z2) 4 i 1 z7) 4 i 3 z13) 4 i 0 = (fx_up (fx_up S 4 i 0 z2) 4 i 1 z7) 4 i 0 := if_neg (fun q => absurd q.2.2 (by decide))
  have w15 : (fx_up (fx_up (fx_up S 4 i 0 z2) 4 i 1 z7) 4 i 3 z13) 4 i 1 = (fx_up (fx_up S 4 i 0 z2) 4 i 1 z7) 4 i 1 := if_neg (fun q => absurd q.2.2 (by decide))
  have w16 : (fx_up (fx_up (fx_up S 4 i 0 z2) 4 i 1 z7) 4 i 3 z13) 20 j 1 = (fx_up (fx_up S 4 i 0 z2) 4 i 1 z7) 20 j 1 := rfl
  have g17 : N4 i S (fx_up (fx_up (fx_up S 4 i 0 z2) 4 i 1 z7) 4 i 3 z13) := fx_pup N4_stab rfl g11
  intro z18 (z18a : (0 : Int) ≤ z18) (z18b : z18 ≤ (1024 : Int)) (z18c : z18 = (fx_up (fx_up (fx_up S 4 i 0 z2) 4 i 1 z7) 4 i 3 z13) 20 j 4)
  refine And.intro (show (0 : Int) ≤ z18 ∧ z18 ≤ (1024 : Int) by omega) ?_
  have w19 : (fx_up (fx_up (fx_up (fx_up S 4 i 0 z2) 4 i 1 z7) 4 i 3 z13) 4 i 4 z18) 4 i 0 = (fx_up (fx_up (fx_up S 4 i 0 z2) 4 i 1 z7) 4 i 3 z13) 4 i 0 := if_neg (fun q => absurd q.2.2 (by decide))
  have w20 : (fx_up (fx_up (fx_up (fx_up S 4 i 0 z2) 4 i 1 z7) 4 i 3 z13) 4 i 4 z18) 4 i 1 = (fx_up (fx_up (fx_up S 4 i 0 z2) 4 i 1 z7) 4 i 3 z13) 4 i 1 := if_neg (fun q => absurd q.2.2 (by decide))
  have w21 : (fx_up (fx_up (fx_up (fx_up S 4 i 0 z2) 4 i 1 z7) 4 i 3 z13) 4 i 4 z18) 20 j 1 = (fx_up (fx_up (fx_up S 4 i 0 z2) 4 i 1 z7) 4 i 3 z13) 20 j 1 := rfl
  have g22 : N4 i S (fx_up (fx_up (fx_up (fx_up S 4 i 0 z2) 4 i 1 z7) 4 i 3 z13) 4 i 4 z18) := fx_pup N4_stab rfl g17
  intro z23 (z23a : (-2147483648 : Int) ≤ z23) (z23b : z23 ≤ (2147483647 : Int)) (z23c : z23 = (fx_up (fx_up (fx_up (fx_up S 4 i 0 z2) 4 i 1 z7) 4 i 3 z13) 4 i 4 z18) 20 j 5)
  refine And.intro (show (-2147483648 : Int) ≤ z23 ∧ z23 ≤ (2147483647 : Int) by omega) ?_
  have w24 : (fx_up (fx_up (fx_up (fx_up (fx_up S 4 i 0 z2) 4 i 1 z7) 4 i 3 z13) 4 i 4 z18) 4 i 5 z23) 4 i 0 = (fx_up (fx_up (fx_up (fx_up S 4 i 0 z2) 4 i 1 z7) 4 i 3 z13) 4 i 4 z18) 4 i 0 := if_neg (fun q => absurd q.2.2 (by decide))
  have w25 : (fx_up (fx_up (fx_up (fx_up (fx_up S 4 i 0 z2) 4 i 1 z7) 4 i 3 z13) 4 i 4 z18) 4 i 5 z23) 4 i 1 = (fx_up (fx_up (fx_up (fx_up S 4 i 0 z2) 4 i 1 z7) 4 i 3 z13) 4 i 4 z18) 4 i 1 := if_neg (fun q => absurd q.2.2 (by decide))
  have w26 : (fx_up (fx_up (fx_up (fx_up (fx_up S 4 i 0 z2) 4 i 1 z7) 4 i 3 z13) 4 i 4 z18) 4 i 5 z23) 20 j 1 = (fx_up (fx_up (fx_up (fx_up S 4 i 0 z2) 4 i 1 z7) 4 i 3 z13) 4 i 4 z18) 20 j 1 := rfl
  have g27 : N4 i S (fx_up (fx_up (fx_up (fx_up (fx_up S 4 i 0 z2) 4 i 1 z7) 4 i 3 z13) 4 i 4 z18) 4 i 5 z23) := fx_pup N4_stab rfl g22
  intro z28 (z28a : (-2147483648 : Int) ≤ z28) (z28b : z28 ≤ (2147483647 : Int)) (z28c : z28 = (fx_up (fx_up (fx_up (fx_up (fx_up S 4 i 0 z2) 4 i 1 z7) 4 i 3 z13) 4 i 4 z18) 4 i 5 z23) 20 j 6)
  refine And.intro (show (-2147483648 : Int) ≤ z28 ∧ z28 ≤ (2147483647 : Int) by omega) ?_
  have w29 : (fx_up (fx_up (fx_up (fx_up (fx_up (fx_up S 4 i 0 z2) 4 i 1 z7) 4 i 3 z13) 4 i 4 z18) 4 i 5 z23) 4 i 6 z28) 4 i 0 = (fx_up (fx_up (fx_up (fx_up (fx_up S 4 i 0 z2) 4 i 1 z7) 4 i 3 z13) 4 i 4 z18) 4 i 5 z23) 4 i 0 := if_neg (fun q => absurd q.2.2 (by decide))
  have w30 : (fx_up (fx_up (fx_up (fx_up (fx_up (fx_up S 4 i 0 z2) 4 i 1 z7) 4 i 3 z13) 4 i 4 z18) 4 i 5 z23) 4 i 6 z28) 4 i 1 = (fx_up (fx_up (fx_up (fx_up (fx_up S 4 i 0 z2) 4 i 1 z7) 4 i 3 z13) 4 i 4 z18) 4 i 5 z23) 4 i 1 := if_neg (fun q => absurd q.2.2 (by decide))
  have w31 : (fx_up (fx_up (fx_up (fx_up (fx_up (fx_up S 4 i 0 z2) 4 i 1 z7) 4 i 3 z13) 4 i 4 z18) 4 i 5 z23) 4 i 6 z28) 20 j 1 = (fx_up (fx_up (fx_up (fx_up (fx_up S 4 i 0 z2) 4 i 1 z7) 4 i 3 z13) 4 i 4 z18) 4 i 5 z23) 20 j 1 := rfl
  have g32 : N4 i S (fx_up (fx_up (fx_up (fx_up (fx_up (fx_up S 4 i 0 z2) 4 i 1 z7) 4 i 3 z13) 4 i 4 z18) 4 i 5 z23) 4 i 6 z28) := fx_pup N4_stab rfl g27
  intro z33 (z33a : (0 : Int) ≤ z33) (z33b : z33 ≤ (2 : Int)) (z33c : z33 = (fx_up (fx_up (fx_up (fx_up (fx_up (fx_up S 4 i 0 z2) 4 i 1 z7) 4 i 3 z13) 4 i 4 z18) 4 i 5 z23) 4 i 6 z28) 20 j 7)
  refine And.intro (show (0 : Int) ≤ z33 ∧ z33 ≤ (2 : Int) by omega) ?_
  have w34 : (fx_up (fx_up (fx_up (fx_up (fx_up (fx_up (fx_up S 4 i 0 z2) 4 i 1 z7) 4 i 3 z13) 4 i 4 z18) 4 i 5 z23) 4 i 6 z28) 4 i 7 z33) 4 i 0 = (fx_up (fx_up (fx_up (fx_up (fx_up (fx_up S 4 i 0 z2) 4 i 1 z7) 4 i 3 z13) 4 i 4 z18) 4 i 5 z23) 4 i 6 z28) 4 i 0 := if_neg (fun q => absurd q.2.2 (by decide))
  have w35 : (fx_up (fx_up (fx_up (fx_up (fx_up (fx_up (fx_up S 4 i 0 z2) 4 i 1 z7) 4 i 3 z13) 4 i 4 z18) 4 i 5 z23) 4 i 6 z28) 4 i 7 z33) 4 i 1 = (fx_up (fx_up (fx_up (fx_up (fx_up (fx_up S 4 i 0 z2) 4 i 1 z7) 4 i 3 z13) 4 i 4 z18) 4 i 5 z23) 4 i 6 z28) 4 i 1 := if_neg (fun q => absurd q.2.2 (by decide))
  have w36 : (fx_up (fx_up (fx_up (fx_up (fx_up (fx_up (fx_up S 4 i 0 z2) 4 i 1 z7) 4 i 3 z13) 4 i 4 z18) 4 i 5 z23) 4 i 6 z28) 4 i 7 z33) 20 j 1 = (fx_up (fx_up (fx_up (fx_up (fx_up (fx_up S 4 i 0 z2) 4 i 1 z7) 4 i 3 z13) 4 i 4 z18) 4 i 5 z23) 4 i 6 z28) 20 j 1 := rfl
  have g37 : N4 i S (fx_up (fx_up (fx_up (fx_up (fx_up (fx_up (fx_up S 4 i 0 z2) 4 i 1 z7) 4 i 3 z13) 4 i 4 z18) 4 i 5 z23) 4 i 6 z28) 4 i 7 z33) := fx_pup N4_stab rfl g32
  refine And.intro (show ((0 : Int) ≤ (0 : Int) ∧ (5 : Int) ≤ (5 : Int) : Prop) by omega) (And.intro (show (0 ≤ (0 : Int) ∧ 0 ≤ (0 : Int)) ∧ (0 ≤ (2 : Int) ∧ (0 : Int) + (2 : Int) ≤ (2 : Int) ∧ (0 : Int) + (2 : Int) ≤ (2 : Int)) by omega) ?_)
  have w38 : (fx_cpy (fx_up (fx_up (fx_up (fx_up (fx_up (fx_up (fx_up S 4 i 0 z2) 4 i 1 z7) 4 i 3 z13) 4 i 4 z18) 4 i 5 z23) 4 i 6 z28) 4 i 7 z33) 5 i (0 : Int) (2 : Int) 21 j (0 : Int)) 4 i 0 = (fx_up (fx_up (fx_up (fx_up (fx_up (fx_up (fx_up S 4 i 0 z2) 4 i 1 z7) 4 i 3 z13) 4 i 4 z18) 4 i 5 z23) 4 i 6 z28) 4 i 7 z33) 4 i 0 := rfl
  have w39 : (fx_cpy (fx_up (fx_up (fx_up (fx_up (fx_up (fx_up (fx_up S 4 i 0 z2) 4 i 1 z7) 4 i 3 z13) 4 i 4 z18) 4 i 5 z23) 4 i 6 z28) 4 i 7 z33) 5 i (0 : Int) (2 : Int) 21 j (0 : Int)) 4 i 1 = (fx_up (fx_up (fx_up (fx_up (fx_up (fx_up (fx_up S 4 i 0 z2) 4 i 1 z7) 4 i 3 z13) 4 i 4 z18) 4 i 5 z23) 4 i 6 z28) 4 i 7 z33) 4 i 1 := rfl
  have w40 : (fx_cpy (fx_up (fx_up (fx_up (fx_up (fx_up (fx_up (fx_up S 4 i 0 z2) 4 i 1 z7) 4 i 3 z13) 4 i 4 z18) 4 i 5 z23) 4 i 6 z28) 4 i 7 z33) 5 i (0 : Int) (2 : Int) 21 j (0 : Int)) 20 j 1 = (fx_up (fx_up (fx_up (fx_up (fx_up (fx_up (fx_up S 4 i 0 z2) 4 i 1 z7) 4 i 3 z13) 4 i 4 z18) 4 i 5 z23) 4 i 6 z28) 4 i 7 z33) 20 j 1 := rfl
  have g41 : N4 i S (fx_cpy (fx_up (fx_up (fx_up (fx_up (fx_up (fx_up (fx_up S 4 i 0 z2) 4 i 1 z7) 4 i 3 z13) 4 i 4 z18) 4 i 5 z23) 4 i 6 z28) 4 i 7 z33) 5 i (0 : Int) (2 : Int) 21 j (0 : Int)) := fx_pcpy N4_stab (fun _ => rfl) g37
  refine And.intro (show ((0 : Int) ≤ (0 : Int) ∧ (6000 : Int) ≤ (6000 : Int) : Prop) by omega) (And.intro (show (0 ≤ (0 : Int) ∧ 0 ≤ (0 : Int)) ∧ (0 ≤ (2 : Int) ∧ (0 : Int) + (2 : Int) ≤ (2 : Int) ∧ (0 : Int) + (2 : Int) ≤ (2 : Int)) by omega) ?_)
  have w42 : (fx_cpy (fx_cpy (fx_up (fx_up (fx_up (fx_up (fx_up (fx_up (fx_up S 4 i 0 z2) 4 i 1 z7) 4 i 3 z13) 4 i 4 z18) 4 i 5 z23) 4 i 6 z28) 4 i 7 z33) 5 i (0 : Int) (2 : Int) 21 j (0 : Int)) 6 i (0 : Int) (2 : Int) 22 j (0 : Int)) 4 i 0 = (fx_cpy (fx_up (fx_up (fx_up (fx_up (fx_up (fx_up (fx_up S 4 i 0 z2) 4 i 1 z7) 4 i 3 z13) 4 i 4 z18) 4 i 5 z23) 4 i 6 z28) 4 i 7 z33) 5 i (0 : Int) (2 : Int) 21 j (0 : Int)) 4 i 0 := rfl
  have w43 : (fx_cpy (fx_cpy (fx_up (fx_up (fx_up (fx_up (fx_up (fx_up (fx_up S 4 i 0 z2) 4 i 1 z7) 4 i 3 z13) 4 i 4 z18) 4 i 5 z23) 4 i 6 z28) 4 i 7 z33) 5 i (0 : Int) (2 : Int) 21 j (0 : Int)) 6 i (0 : Int) (2 : Int) 22 j (0 : Int)) 4 i 1 = (fx_cpy (fx_up (fx_up (fx_up (fx_up (fx_up (fx_up (fx_up S 4 i 0 z2) 4 i 1 z7) 4 i 3 z13) 4 i 4 z18) 4 i 5 z23) 4 i 6 z28) 4 i 7 z33) 5 i (0 : Int) (2 : Int) 21 j (0 : Int)) 4 i 1 := rfl
  have w44 : (fx_cpy (fx_cpy (fx_up (fx_up (fx_up (fx_up (fx_up (fx_up (fx_up S 4 i 0 z2) 4 i 1 z7) 4 i 3 z13) 4 i 4 z18) 4 i 5 z23) 4 i 6 z28) 4 i 7 z33) 5 i (0 : Int) (2 : Int) 21 j (0 : Int)) 6 i (0 : Int) (2 : Int) 22 j (0 : Int)) 20 j 1 = (fx_cpy (fx_up (fx_up (fx_up (fx_up (fx_up (fx_up (fx_up S 4 i 0 z2) 4 i 1 z7) 4 i 3 z13) 4 i 4 z18) 4 i 5 z23) 4 i 6 z28) 4 i 7 z33) 5 i (0 : Int) (2 : Int) 21 j (0 : Int)) 20 j 1 := rfl
  have g45 : N4 i S (fx_cpy (fx_cpy (fx_up (fx_up (fx_up (fx_up (fx_up (fx_up (fx_up S 4 i 0 z2) 4 i 1 z7) 4 i 3 z13) 4 i 4 z18) 4 i 5 z23) 4 i 6 z28) 4 i 7 z33) 5 i (0 : Int) (2 : Int) 21 j (0 : Int)) 6 i (0 : Int) (2 : Int) 22 j (0 : Int)) := fx_pcpy N4_stab (fun _ => rfl) g41
  refine And.intro (show ((-1 : Int) ≤ (-1 : Int) ∧ (207 : Int) ≤ (207 : Int) : Prop) by omega) (And.intro (show (0 ≤ (0 : Int) ∧ 0 ≤ (0 : Int)) ∧ (0 ≤ (32 : Int) ∧ (0 : Int) + (32 : Int) ≤ (32 : Int) ∧ (0 : Int) + (32 : Int) ≤ (32 : Int)) by omega) ?_)
  have w46 : (fx_cpy (fx_cpy (fx_cpy (fx_up (fx_up (fx_up (fx_up (fx_up (fx_up (fx_up S 4 i 0 z2) 4 i 1 z7) 4 i 3 z13) 4 i 4 z18) 4 i 5 z23) 4 i 6 z28) 4 i 7 z33) 5 i (0 : Int) (2 : Int) 21 j (0 : Int)) 6 i (0 : Int) (2 : Int) 22 j (0 : Int)) 7 i (0 : Int) (32 : Int) 23 j (0 : Int)) 4 i 0 = (fx_cpy (fx_cpy (fx_up (fx_up (fx_up (fx_up (fx_up (fx_up (fx_up S 4 i 0 z2) 4 i 1 z7) 4 i 3 z13) 4 i 4 z18) 4 i 5 z23) 4 i 6 z28) 4 i 7 z33) 5 i (0 : Int) (2 : Int) 21 j (0 : Int)) 6 i (0 : Int) (2 : Int) 22 j (0 : Int)) 4 i 0 := rfl
  have w47 : (fx_cpy (fx_cpy (fx_cpy (fx_up (fx_up (fx_up (fx_up (fx_up (fx_up (fx_up S 4 i 0 z2) 4 i 1 z7) 4 i 3 z13) 4 i 4 z18) 4 i 5 z23) 4 i 6 z28) 4 i 7 z33) 5 i (0 : Int) (2 : Int) 21 j (0 : Int)) 6 i (0 : Int) (2 : Int) 22 j (0 : Int)) 7 i (0 : Int) (32 : Int) 23 j (0 : Int)) 4 i 1 = (fx_cpy (fx_cpy (fx_up (fx_up (fx_up (fx_up (fx_up (fx_up (fx_up S 4 i 0 z2) 4 i 1 z7) 4 i 3 z13) 4 i 4 z18) 4 i 5 z23) 4 i 6 z28) 4 i 7 z33) 5 i (0 : Int) (2 : Int) 21 j (0 : Int)) 6 i (0 : Int) (2 : Int) 22 j (0 : Int)) 4 i 1 := rfl
  have w48 : (fx_cpy (fx_cpy (fx_cpy (fx_up (fx_up (fx_up (fx_up (fx_up (fx_up (fx_up S 4 i 0 z2) 4 i 1 z7) 4 i 3 z13) 4 i 4 z18) 4 i 5 z23) 4 i 6 z28) 4 i 7 z33) 5 i (0 : Int) (2 : Int) 21 j (0 : Int)) 6 i (0 : Int) (2 : Int) 22 j (0 : Int)) 7 i (0 : Int) (32 : Int) 23 j (0 : Int)) 20 j 1 = (fx_cpy (fx_cpy (fx_up (fx_up (fx_up (fx_up (fx_up (fx_up (fx_up S 4 i 0 z2) 4 i 1 z7) 4 i 3 z13) 4 i 4 z18) 4 i 5 z23) 4 i 6 z28) 4 i 7 z33) 5 i (0 : Int) (2 : Int) 21 j (0 : Int)) 6 i (0 : Int) (2 : Int) 22 j (0 : Int)) 20 j 1 := rfl
  have g49 : N4 i S (fx_cpy (fx_cpy (fx_cpy (fx_up (fx_up (fx_up (fx_up (fx_up (fx_up (fx_up S 4 i 0 z2) 4 i 1 z7) 4 i 3 z13) 4 i 4 z18) 4 i 5 z23) 4 i 6 z28) 4 i 7 z33) 5 i (0 : Int) (2 : Int) 21 j (0 : Int)) 6 i (0 : Int) (2 : Int) 22 j (0 : Int)) 7 i (0 : Int) (32 : Int) 23 j (0 : Int)) := fx_pcpy N4_stab (fun _ => rfl) g45
  intro z50 (z50a : (-2147483648 : Int) ≤ z50) (z50b : z50 ≤ (2147483647 : Int)) (z50c : z50 = (fx_cpy (fx_cpy (fx_cpy (fx_up (fx_up (fx_up (fx_up (fx_up (fx_up (fx_up S 4 i 0 z2) 4 i 1 z7) 4 i 3 z13) 4 i 4 z18) 4 i 5 z23) 4 i 6 z28) 4 i 7 z33) 5 i (0 : Int) (2 : Int) 21 j (0 : Int)) 6 i (0 : Int) (2 : Int) 22 j (0 : Int)) 7 i (0 : Int) (32 : Int) 23 j (0 : Int)) 20 j 11)
  refine And.intro (show (-2147483648 : Int) ≤ z50 ∧ z50 ≤ (2147483647 : Int) by omega) ?_
  have w51 : (fx_up (fx_cpy (fx_cpy (fx_cpy (fx_up (fx_up (fx_up (fx_up (fx_up (fx_up (fx_up S 4 i 0 z2) 4 i 1 z7) 4 i 3 z13) 4 i 4 z18) 4 i 5 z23) 4 i 6 z28) 4 i 7 z33) 5 i (0 : Int) (2 : Int) 21 j (0 : Int)) 6 i (0 : Int) (2 : Int) 22 j (0 : Int)) 7 i (0 : Int) (32 : Int) 23 j (0 : Int)) 4 i 11 z50) 4 i 0 = (fx_cpy (fx_cpy (fx_cpy (fx_up (fx_up (fx_up (fx_up (fx_up (fx_up (fx_up S 4 i 0 z2) 4 i 1 z7) 4 i 3 z13) 4 i 4 z18) 4 i 5 z23) 4 i 6 z28) 4 i 7 z33) 5 i (0 : Int) (2 : Int) 21 j (0 : Int)) 6 i (0 : Int) (2 : Int) 22 j (0 : Int)) 7 i (0 : Int) (32 : Int) 23 j (0 : Int)) 4 i 0 := if_neg (fun q => absurd q.2.2 (by decide))
  have w52 : (fx_up (fx_cpy (fx_cpy (fx_cpy (fx_up (fx_up (fx_up (fx_up (fx_up (fx_up (fx_up S 4 i 0 z2) 4 i 1 z7) 4 i 3 z13) 4 i 4 z18) 4 i 5 z23) 4 i 6 z28) 4 i 7 z33) 5 i (0 : Int) (2 : Int) 21 j (0 : Int)) 6 i (0 : Int) (2 : Int) 22 j (0 : Int)) 7 i (0 : Int) (32 : Int) 23 j (0 : Int)) 4 i 11 z50) 4 i 1 = (fx_cpy (fx_cpy (fx_cpy (fx_up (fx_up (fx_up (fx_up (fx_up (fx_up (fx_up S 4 i 0 z2) 4 i 1 z7) 4 i 3 z13) 4 i 4 z18) 4 i 5 z23) 4 i 6 z28) 4 i 7 z33) 5 i (0 : Int) (2 : Int) 21 j (0 : Int)) 6 i (0 : Int) (2 : Int) 22 j (0 : Int)) 7 i (0 : Int) (32 : Int) 23 j (0 : Int)) 4 i 1 := if_neg (fun q => absurd q.2.2 (by decide))
  have w53 : (fx_up (fx_cpy (fx_cpy (fx_cpy (fx_up (fx_up (fx_up (fx_up (fx_up (fx_up (fx_up S 4 i 0 z2) 4 i 1 z7) 4 i 3 z13) 4 i 4 z18) 4 i 5 z23) 4 i 6 z28) 4 i 7 z33) 5 i (0 : Int) (2 : Int) 21 j (0 : Int)) 6 i (0 : Int) (2 : Int) 22 j (0 : Int)) 7 i (0 : Int) (32 : Int) 23 j (0 : Int)) 4 i 11 z50) 20 j 1 = (fx_cpy (fx_cpy (fx_cpy (fx_up (fx_up (fx_up (fx_up (fx_up (fx_up (fx_up S 4 i 0 z2) 4 i 1 z7) 4 i 3 z13) 4 i 4 z18) 4 i 5 z23) 4 i 6 z28) 4 i 7 z33) 5 i (0 : Int) (2 : Int) 21 j (0 : Int)) 6 i (0 : Int) (2 : Int) 22 j (0 : Int)) 7 i (0 : Int) (32 : Int) 23 j (0 : Int)) 20 j 1 := rfl
  have g54 : N4 i S (fx_up (fx_cpy (fx_cpy (fx_cpy (fx_up (fx_up (fx_up (fx_up (fx_up (fx_up (fx_up S 4 i 0 z2) 4 i 1 z7) 4 i 3 z13) 4 i 4 z18) 4 i 5 z23) 4 i 6 z28) 4 i 7 z33) 5 i (0 : Int) (2 : Int) 21 j (0 : Int)) 6 i (0 : Int) (2 : Int) 22 j (0 : Int)) 7 i (0 : Int) (32 : Int) 23 j (0 : Int)) 4 i 11 z50) := fx_pup N4_stab rfl g49
  intro z55 (z55a : (-2147483648 : Int) ≤ z55) (z55b : z55 ≤ (2147483647 : Int)) (z55c : z55 = (fx_up (fx_cpy (fx_cpy (fx_cpy (fx_up (fx_up (fx_up (fx_up (fx_up (fx_up (fx_up S 4 i 0 z2) 4 i 1 z7) 4 i 3 z13) 4 i 4 z18) 4 i 5 z23) 4 i 6 z28) 4 i 7 z33) 5 i (0 : Int) (2 : Int) 21 j (0 : Int)) 6 i (0 : Int) (2 : Int) 22 j (0 : Int)) 7 i (0 : Int) (32 : Int) 23 j (0 : Int)) 4 i 11 z50) 20 j 12)
  refine And.intro (show (-2147483648 : Int) ≤ z55 ∧ z55 ≤ (2147483647 : Int) by omega) ?_
  have w56 : (fx_up (fx_up (fx_cpy (fx_cpy (fx_cpy (fx_up (fx_up (fx_up (fx_up (fx_up (fx_up (fx_up S 4 i 0 z2) 4 i 1 z7) 4 i 3 z13) 4 i 4 z18) 4 i 5 z23) 4 i 6 z28) 4 i 7 z33) 5 i (0 : Int) (2 : Int) 21 j (0 : Int)) 6 i (0 : Int) (2 : Int) 22 j (0 : Int)) 7 i (0 : Int) (32 : Int) 23 j (0 : Int)) 4 i 11 z50) 4 i 12 z55) 4 i 0 = (fx_up (fx_cpy (fx_cpy (fx_cpy (fx_up (fx_up (fx_up (fx_up (fx_up (fx_up (fx_up S 4 i 0 z2) 4 i 1 z7) 4 i 3 z13) 4 i 4 z18) 4 i 5 z23) 4 i 6 z28) 4 i 7 z33) 5 i (0 : Int) (2 : Int) 21 j (0 : Int)) 6 i (0 : Int) (2 : Int) 22 j (0 : Int)) 7 i (0 : Int) (32 : Int) 23 j (0 : Int)) 4 i 11 z50) 4 i 0 := if_neg (fun q => absurd q.2.2 (by decide))
  have w57 : (fx_up (fx_up (fx_cpy (fx_cpy (fx_cpy (fx_up (fx_up (fx_up (fx_up (fx_up (fx_up (fx_up S 4 i 0 z2) 4 i 1 z7) 4 i 3 z13) 4 i 4 z18) 4 i 5 z23) 4 i 6 z28) 4 i 7 z33) 5 i (0 : Int) (2 : Int) 21 j (0 : Int)) 6 i (0 : Int) (2 : Int) 22 j (0 : Int)) 7 i (0 : Int) (32 : Int) 23 j (0 : Int)) 4 i 11 z50) 4 i 12 z55) 4 i 1 = (fx_up (fx_cpy (fx_cpy (fx_cpy (fx_up (fx_up (fx_up (fx_up (fx_up (fx_up (fx_up S 4 i 0 z2) 4 i 1 z7) 4 i 3 z13) 4 i 4 z18) 4 i 5 z23) 4 i 6 z28) 4 i 7 z33) 5 i (0 : Int) (2 : Int) 21 j (0 : Int)) 6 i (0 : Int) (2 : Int) 22 j (0 : Int)) 7 i (0 : Int) (32 : Int) 23 j (0 : Int)) 4 i 11 z50) 4 i 1 := if_neg (fun q => absurd q.2.2 (by decide))
  have w58 : (fx_up (fx_up (fx_cpy (fx_cpy (fx_cpy (fx_up (fx_up (fx_up (fx_up (fx_up (fx_up (fx_up S 4 i 0 z2) 4 i 1 z7) 4 i 3 z13) 4 i 4 z18) 4 i 5 z23) 4 i 6 z28) 4 i 7 z33) 5 i (0 : Int) (2 : Int) 21 j (0 : Int)) 6 i (0 : Int) (2 : Int) 22 j (0 : Int)) 7 i (0 : Int) (32 : Int) 23 j (0 : Int)) 4 i 11 z50) 4 i 12 z55) 20 j 1 = (fx_up (fx_cpy (fx_cpy (fx_cpy (fx_up (fx_up (fx_up (fx_up (fx_up (fx_up (fx_up S 4 i 0 z2) 4 i 1 z7) 4 i 3 z13) 4 i 4 z18) 4 i 5 z23) 4 i 6 z28) 4 i 7 z33) 5 i (0 : Int) (2 : Int) 21 j (0 : Int)) 6 i (0 : Int) (2 : Int) 22 j (0 : Int)) 7 i (0 : Int) (32 : Int) 23 j (0 : Int)) 4 i 11 z50) 20 j 1 := rfl
  have g59 : N4 i S (fx_up (fx_up (fx_cpy (fx_cpy (fx_cpy (fx_up (fx_up (fx_up (fx_up (fx_up (fx_up (fx_up S 4 i 0 z2) 4 i 1 z7) 4 i 3 z13) 4 i 4 z18) 4 i 5 z23) 4 i 6 z28) 4 i 7 z33) 5 i (0 : Int) (2 : Int) 21 j (0 : Int)) 6 i (0 : Int) (2 : Int) 22 j (0 : Int)) 7 i (0 : Int) (32 : Int) 23 j (0 : Int)) 4 i 11 z50) 4 i 12 z55) := fx_pup N4_stab rfl g54
  exact hk (fx_up (fx_up (fx_cpy (fx_cpy (fx_cpy (fx_up (fx_up (fx_up (fx_up (fx_up (fx_up (fx_up S 4 i 0 z2) 4 i 1 z7) 4 i 3 z13) 4 i 4 z18) 4 i 5 z23) 4 i 6 z28) 4 i 7 z33) 5 i (0 : Int) (2 : Int) 21 j (0 : Int)) 6 i (0 : Int) (2 : Int) 22 j (0 : Int)) 7 i (0 : Int) (32 : Int) 23 j (0 : Int)) 4 i 11 z50) 4 i 12 z55) ⟨(fxfr_up (fxfr_up (fxfr_cpy (fxfr_cpy (fxfr_cpy (fxfr_up (fxfr_up (fxfr_up (fxfr_up (fxfr_up (fxfr_up (fxfr_up fxfr_rfl rfl) rfl) rfl) rfl) rfl) rfl) rfl) (fun _ => rfl)) (fun _ => rfl)) (fun _ => rfl)) rfl) rfl), by omega, g59⟩
theorem z_Log_deletePlace {l : Launch} {k : fxK} {S : fxS} {d : Int} (p0 : -2147483648 ≤ d ∧ d < 2147483648) (hk : ∀ (r : Int) , (0 ≤ r ∧ r ≤ S 13 0 10 ∧ r ≤ 40) → k (some (.inl r)) S) : ∀ m : Nat, (∀ (a : Int), (0 ≤ a ∧ a ≤ 40 ∧ (a = 0 ∨ a ≤ S 13 0 10)) → 41 - a ≤ (m : Int) → fZ l 8 k 2 [some (.inr (.inr (13, 0))), some (.inl d), some (.inl a)] [] S) := by
  intro m
  induction m with
  | zero =>
    intro a  i0 hmu
    exfalso
    omega
  | succ m ih =>
    intro a  i0 hmu
    refine fxz_8 400 ?_
    intro z1 (z1a : (0 : Int) ≤ z1) (z1b : z1 ≤ (40 : Int)) (z1c : z1 = S 13 0 10)
    refine And.intro (fun (h2 : (z1 ≤ a : Prop)) => ?_) (fun (h2 : (a < z1 : Prop)) => ?_)
    ·
      exact hk a (by omega)
    ·
      refine And.intro (show 0 ≤ a ∧ a < 40 by omega) ?_
      intro z3 (z3a : (-2147483648 : Int) ≤ z3) (z3b : z3 ≤ (2147483647 : Int)) (z3c : z3 = S 18 0 (a).toNat)
      refine And.intro (fun (h4 : (d ≤ z3 : Prop)) => ?_) (fun (h4 : (z3 < d : Prop)) => ?_)
      ·
        exact hk a (by omega)
      ·
        refine And.intro (by decide) (And.intro (show -2147483648 ≤ a + (1 : Int) ∧ a + (1 : Int) < 2147483648 by omega) ?_)
        exact ih (a + (1 : Int))  (by omega) (by omega)
theorem c_Log_deletePlace {l : Launch} {k : fxK} {S : fxS} {d : Int} (p0 : -2147483648 ≤ d ∧ d < 2147483648) (hk : ∀ (r : Int) , (0 ≤ r ∧ r ≤ S 13 0 10 ∧ r ≤ 40) → k (some (.inl r)) S) : fC l 8 [.inr (.inr (13, 0)), .inl d] S k := by
  refine fxe_8 (Nat.le_of_ble_eq_true rfl) (fxz_8 400 ?_)
  refine And.intro (by decide) ?_
  exact (z_Log_deletePlace p0 hk (41 - (0 : Int)).toNat) (0 : Int)  (by omega) (by omega)
theorem z_Log_noteDelete {l : Launch} {k : fxK} {S : fxS} {d : Int} (p0 : -2147483648 ≤ d ∧ d < 2147483648) (hk : ∀ (S' : fxS) , (fxfr [(13, 10), (18, 9999), (19, 9999)] S S') → k none S') : ∀ m : Nat, (∀ (t j : Int) (S1 : fxS), (fxfr [(13, 10), (18, 9999), (19, 9999)] S S1) → (0 ≤ t ∧ t ≤ j ∧ j ≤ 39) → (0 ≤ S1 13 0 10 ∧ S1 13 0 10 ≤ 39) → j+1 ≤ (m : Int) → fZ l 9 k 21 [some (.inr (.inr (13, 0))), some (.inl d), some (.inl t), some (.inl j)] [] S1) := by
  intro m
  induction m with
  | zero =>
    intro t j S1 hf i0 i1 hmu
    exfalso
    omega
  | succ m ih =>
    intro t j S1 hf i0 i1 hmu
    refine fxz_9 400 ?_
    refine And.intro (fun (h1 : (j ≤ t : Prop)) => ?_) (fun (h1 : (t < j : Prop)) => ?_)
    ·
      refine And.intro (show 0 ≤ t ∧ t < 40 by omega) ?_
      refine And.intro (show (-2147483648 : Int) ≤ d ∧ d ≤ (2147483647 : Int) by omega) ?_
      have w2 : (fx_up S1 18 0 (t).toNat d) 13 0 10 = S1 13 0 10 := rfl
      refine And.intro (show 0 ≤ t ∧ t < 40 by omega) ?_
      refine And.intro (show (0 : Int) ≤ (0 : Int) ∧ (0 : Int) ≤ (1 : Int) by omega) ?_
      have w3 : (fx_up (fx_up S1 18 0 (t).toNat d) 19 0 (t).toNat (0 : Int)) 13 0 10 = (fx_up S1 18 0 (t).toNat d) 13 0 10 := rfl
      intro z4 (z4a : (0 : Int) ≤ z4) (z4b : z4 ≤ (40 : Int)) (z4c : z4 = (fx_up (fx_up S1 18 0 (t).toNat d) 19 0 (t).toNat (0 : Int)) 13 0 10)
      refine And.intro (show -2147483648 ≤ (z4 + (1 : Int)) ∧ (z4 + (1 : Int)) < 2147483648 by omega) ?_
      refine And.intro (show (0 : Int) ≤ (z4 + (1 : Int)) ∧ (z4 + (1 : Int)) ≤ (40 : Int) by omega) ?_
      have w5 : (fx_up (fx_up (fx_up S1 18 0 (t).toNat d) 19 0 (t).toNat (0 : Int)) 13 0 10 (z4 + (1 : Int))) 13 0 10 = (z4 + (1 : Int)) := fx_up_at _ _ _ _ _
      exact hk (fx_up (fx_up (fx_up S1 18 0 (t).toNat d) 19 0 (t).toNat (0 : Int)) 13 0 10 (z4 + (1 : Int))) (fxfr_up (fxfr_up (fxfr_up hf rfl) rfl) rfl)
    ·
      refine And.intro (show -2147483648 ≤ (j - (1 : Int)) ∧ (j - (1 : Int)) < 2147483648 by omega) ?_
      refine And.intro (show 0 ≤ (j - (1 : Int)) ∧ (j - (1 : Int)) < 40 by omega) ?_
      intro z6 (z6a : (-2147483648 : Int) ≤ z6) (z6b : z6 ≤ (2147483647 : Int)) (z6c : z6 = S1 18 0 ((j - (1 : Int))).toNat)
      refine And.intro (show 0 ≤ j ∧ j < 40 by omega) ?_
      refine And.intro (show (-2147483648 : Int) ≤ z6 ∧ z6 ≤ (2147483647 : Int) by omega) ?_
      have w7 : (fx_up S1 18 0 (j).toNat z6) 13 0 10 = S1 13 0 10 := rfl
      refine And.intro (show -2147483648 ≤ (j - (1 : Int)) ∧ (j - (1 : Int)) < 2147483648 by omega) ?_
      refine And.intro (show 0 ≤ (j - (1 : Int)) ∧ (j - (1 : Int)) < 40 by omega) ?_
      intro z8 (z8a : (0 : Int) ≤ z8) (z8b : z8 ≤ (1 : Int)) (z8c : z8 = (fx_up S1 18 0 (j).toNat z6) 19 0 ((j - (1 : Int))).toNat)
      refine And.intro (show 0 ≤ j ∧ j < 40 by omega) ?_
      refine And.intro (show (0 : Int) ≤ z8 ∧ z8 ≤ (1 : Int) by omega) ?_
      have w9 : (fx_up (fx_up S1 18 0 (j).toNat z6) 19 0 (j).toNat z8) 13 0 10 = (fx_up S1 18 0 (j).toNat z6) 13 0 10 := rfl
      refine And.intro (by decide) (And.intro (show -2147483648 ≤ j + (-1 : Int) ∧ j + (-1 : Int) < 2147483648 by omega) ?_)
      exact ih t (j + (-1 : Int)) (fx_up (fx_up S1 18 0 (j).toNat z6) 19 0 (j).toNat z8) (fxfr_up (fxfr_up hf rfl) rfl) (by omega) (by omega) (by omega)
theorem c_Log_noteDelete {l : Launch} {k : fxK} {S : fxS} {d : Int} (p0 : -2147483648 ≤ d ∧ d < 2147483648) (hk : ∀ (S' : fxS) , (fxfr [(13, 10), (18, 9999), (19, 9999)] S S') → k none S') : fC l 9 [.inr (.inr (13, 0)), .inl d] S k := by
  refine fxe_9 (Nat.le_of_ble_eq_true rfl) (fxz_9 400 ?_)
  intro z11 (z11a : (0 : Int) ≤ z11) (z11b : z11 ≤ (40 : Int)) (z11c : z11 = S 13 0 10)
  refine And.intro (fun (h12 : (z11 < (40 : Int) : Prop)) => ?_) (fun (h12 : ((40 : Int) ≤ z11 : Prop)) => ?_)
  ·
    refine c_Log_deletePlace (d := d) (show -2147483648 ≤ d ∧ d < 2147483648 by omega) (fun (z13 : Int) (q14 : 0 ≤ z13 ∧ z13 ≤ S 13 0 10 ∧ z13 ≤ 40) => ?_)
    refine And.intro (by decide) ?_
    intro z15 (z15a : (0 : Int) ≤ z15) (z15b : z15 ≤ (40 : Int)) (z15c : z15 = S 13 0 10)
    refine And.intro (by decide) ?_
    exact (z_Log_noteDelete p0 hk (z15+1).toNat) z13 z15 S fxfr_rfl (by omega) (by omega) (by omega)
  ·
    exact hk S fxfr_rfl
theorem z_Log_forgetDelete {l : Launch} {k : fxK} {S : fxS} {d : Int} (p0 : -2147483648 ≤ d ∧ d < 2147483648) (hk : ∀ (S' : fxS) , (fxfr [(13, 10), (18, 9999), (19, 9999)] S S') → k none S') : ∀ m : Nat, (∀ (j : Int) (S1 : fxS), (fxfr [(13, 10), (18, 9999), (19, 9999)] S S1) → (0 ≤ j ∧ j ≤ 39) → (1 ≤ S1 13 0 10 ∧ S1 13 0 10 ≤ 40) → 41-j ≤ (m : Int) → fZ l 10 k 27 [some (.inr (.inr (13, 0))), none, none, some (.inl j)] [] S1) := by
  intro m
  induction m with
  | zero =>
    intro j S1 hf i0 i1 hmu
    exfalso
    omega
  | succ m ih =>
    intro j S1 hf i0 i1 hmu
    refine fxz_10 400 ?_
    refine And.intro (show -2147483648 ≤ (j + (1 : Int)) ∧ (j + (1 : Int)) < 2147483648 by omega) ?_
    intro z1 (z1a : (0 : Int) ≤ z1) (z1b : z1 ≤ (40 : Int)) (z1c : z1 = S1 13 0 10)
    refine And.intro (fun (h2 : (z1 ≤ (j + (1 : Int)) : Prop)) => ?_) (fun (h2 : ((j + (1 : Int)) < z1 : Prop)) => ?_)
    ·
      intro z3 (z3a : (0 : Int) ≤ z3) (z3b : z3 ≤ (40 : Int)) (z3c : z3 = S1 13 0 10)
      refine And.intro (show -2147483648 ≤ (z3 - (1 : Int)) ∧ (z3 - (1 : Int)) < 2147483648 by omega) ?_
      refine And.intro (show (0 : Int) ≤ (z3 - (1 : Int)) ∧ (z3 - (1 : Int)) ≤ (40 : Int) by omega) ?_
      have w4 : (fx_up S1 13 0 10 (z3 - (1 : Int))) 13 0 10 = (z3 - (1 : Int)) := fx_up_at _ _ _ _ _
      exact hk (fx_up S1 13 0 10 (z3 - (1 : Int))) (fxfr_up hf rfl)
    ·
      refine And.intro (show -2147483648 ≤ (j + (1 : Int)) ∧ (j + (1 : Int)) < 2147483648 by omega) ?_
      refine And.intro (show 0 ≤ (j + (1 : Int)) ∧ (j + (1 : Int)) < 40 by omega) ?_
      intro z5 (z5a : (-2147483648 : Int) ≤ z5) (z5b : z5 ≤ (2147483647 : Int)) (z5c : z5 = S1 18 0 ((j + (1 : Int))).toNat)
      refine And.intro (show 0 ≤ j ∧ j < 40 by omega) ?_
      refine And.intro (show (-2147483648 : Int) ≤ z5 ∧ z5 ≤ (2147483647 : Int) by omega) ?_
      have w6 : (fx_up S1 18 0 (j).toNat z5) 13 0 10 = S1 13 0 10 := rfl
      refine And.intro (show -2147483648 ≤ (j + (1 : Int)) ∧ (j + (1 : Int)) < 2147483648 by omega) ?_
      refine And.intro (show 0 ≤ (j + (1 : Int)) ∧ (j + (1 : Int)) < 40 by omega) ?_
      intro z7 (z7a : (0 : Int) ≤ z7) (z7b : z7 ≤ (1 : Int)) (z7c : z7 = (fx_up S1 18 0 (j).toNat z5) 19 0 ((j + (1 : Int))).toNat)
      refine And.intro (show 0 ≤ j ∧ j < 40 by omega) ?_
      refine And.intro (show (0 : Int) ≤ z7 ∧ z7 ≤ (1 : Int) by omega) ?_
      have w8 : (fx_up (fx_up S1 18 0 (j).toNat z5) 19 0 (j).toNat z7) 13 0 10 = (fx_up S1 18 0 (j).toNat z5) 13 0 10 := rfl
      refine And.intro (by decide) (And.intro (show -2147483648 ≤ j + (1 : Int) ∧ j + (1 : Int) < 2147483648 by omega) ?_)
      exact ih (j + (1 : Int)) (fx_up (fx_up S1 18 0 (j).toNat z5) 19 0 (j).toNat z7) (fxfr_up (fxfr_up hf rfl) rfl) (by omega) (by omega) (by omega)
theorem c_Log_forgetDelete {l : Launch} {k : fxK} {S : fxS} {d : Int} (p0 : -2147483648 ≤ d ∧ d < 2147483648) (hk : ∀ (S' : fxS) , (fxfr [(13, 10), (18, 9999), (19, 9999)] S S') → k none S') : fC l 10 [.inr (.inr (13, 0)), .inl d] S k := by
  refine fxe_10 (Nat.le_of_ble_eq_true rfl) (fxz_10 400 ?_)
  refine c_Log_deletePlace (d := d) (show -2147483648 ≤ d ∧ d < 2147483648 by omega) (fun (z10 : Int) (q11 : 0 ≤ z10 ∧ z10 ≤ S 13 0 10 ∧ z10 ≤ 40) => ?_)
  refine And.intro (by decide) ?_
  intro z12 (z12a : (0 : Int) ≤ z12) (z12b : z12 ≤ (40 : Int)) (z12c : z12 = S 13 0 10)
  refine And.intro (fun (h13 : (z12 ≤ z10 : Prop)) => ?_) (fun (h13 : (z10 < z12 : Prop)) => ?_)
  ·
    exact hk S fxfr_rfl
  ·
    refine And.intro (show 0 ≤ z10 ∧ z10 < 40 by omega) ?_
    intro z14 (z14a : (-2147483648 : Int) ≤ z14) (z14b : z14 ≤ (2147483647 : Int)) (z14c : z14 = S 18 0 (z10).toNat)
    refine And.intro (fun (h15 : (z14 = d : Prop)) => ?_) (fun (h15 : (z14 ≠ d : Prop)) => ?_)
    ·
      refine And.intro (by decide) ?_
      exact (z_Log_forgetDelete p0 hk (41-z10).toNat) z10 S fxfr_rfl (by omega) (by omega) (by omega)
    ·
      exact hk S fxfr_rfl
theorem c_Log_add {l : Launch} {k : fxK} {S : fxS} {n : Int} {e : Int} {d : Int} (p0 : 0 ≤ n ∧ n < 60) (p1 : TreeL S) (p2 : -2147483648 ≤ e ∧ e < 2147483648) (p3 : -2147483648 ≤ d ∧ d < 2147483648) (hk : ∀ (S' : fxS) , (fxfr [(8, 4), (10, 9999), (11, 9999), (13, 6), (13, 7), (13, 10), (15, 9999), (16, 9999), (17, 9999), (18, 9999), (19, 9999), (20, 0), (20, 1), (20, 3), (20, 4), (20, 5), (20, 6), (20, 7), (20, 11), (20, 12), (21, 9999), (22, 9999), (23, 9999)] S S' ∧ (TreeO n S')) → k none S') : fC l 11 [.inr (.inr (13, 0)), .inl n, .inl e, .inl d] S k := by
  refine fxe_11 (Nat.le_of_ble_eq_true rfl) (fxz_11 400 ?_)
  intro z1 (z1a : (0 : Int) ≤ z1) (z1b : z1 ≤ (200 : Int)) (z1c : z1 = S 13 0 6)
  have wt : WTS S := TreeL_wt (by assumption)
  refine And.intro (fun (h2 : (z1 < (200 : Int) : Prop)) => ?_) (fun (h2 : ((200 : Int) ≤ z1 : Prop)) => ?_)
  ·
    refine And.intro (fun (h3 : (n < (0 : Int) : Prop)) => ?_) (fun (h3 : ((0 : Int) ≤ n : Prop)) => ?_)
    ·
      intro z4 (z4a : (0 : Int) ≤ z4) (z4b : z4 ≤ (200 : Int)) (z4c : z4 = S 13 0 6)
      obtain rfl : z1 = z4 := by omega
      refine And.intro (show 0 ≤ z1 ∧ z1 < 200 by omega) ?_
      refine And.intro (show (-1 : Int) ≤ n ∧ n ≤ (59 : Int) by omega) ?_
      have w5 : (fx_up S 15 0 (z1).toNat n) 13 0 6 = S 13 0 6 := rfl
      have g6 : WTS (fx_up S 15 0 (z1).toNat n) := fx_pup WTS_stab rfl wt
      intro z7 (z7a : (0 : Int) ≤ z7) (z7b : z7 ≤ (200 : Int)) (z7c : z7 = (fx_up S 15 0 (z1).toNat n) 13 0 6)
      obtain rfl : z1 = z7 := by omega
      refine And.intro (show 0 ≤ z1 ∧ z1 < 200 by omega) ?_
      refine And.intro (show (-2147483648 : Int) ≤ e ∧ e ≤ (2147483647 : Int) by omega) ?_
      have w8 : (fx_up (fx_up S 15 0 (z1).toNat n) 16 0 (z1).toNat e) 13 0 6 = (fx_up S 15 0 (z1).toNat n) 13 0 6 := rfl
      have g9 : WTS (fx_up (fx_up S 15 0 (z1).toNat n) 16 0 (z1).toNat e) := fx_pup WTS_stab rfl g6
      intro z10 (z10a : (0 : Int) ≤ z10) (z10b : z10 ≤ (200 : Int)) (z10c : z10 = (fx_up (fx_up S 15 0 (z1).toNat n) 16 0 (z1).toNat e) 13 0 6)
      obtain rfl : z1 = z10 := by omega
      refine And.intro (show 0 ≤ z1 ∧ z1 < 200 by omega) ?_
      refine And.intro (show (-2147483648 : Int) ≤ d ∧ d ≤ (2147483647 : Int) by omega) ?_
      have w11 : (fx_up (fx_up (fx_up S 15 0 (z1).toNat n) 16 0 (z1).toNat e) 17 0 (z1).toNat d) 13 0 6 = (fx_up (fx_up S 15 0 (z1).toNat n) 16 0 (z1).toNat e) 13 0 6 := rfl
      have g12 : WTS (fx_up (fx_up (fx_up S 15 0 (z1).toNat n) 16 0 (z1).toNat e) 17 0 (z1).toNat d) := fx_pup WTS_stab rfl g9
      intro z13 (z13a : (0 : Int) ≤ z13) (z13b : z13 ≤ (200 : Int)) (z13c : z13 = (fx_up (fx_up (fx_up S 15 0 (z1).toNat n) 16 0 (z1).toNat e) 17 0 (z1).toNat d) 13 0 6)
      obtain rfl : z1 = z13 := by omega
      refine And.intro (show -2147483648 ≤ (z1 + (1 : Int)) ∧ (z1 + (1 : Int)) < 2147483648 by omega) ?_
      refine And.intro (show (0 : Int) ≤ (z1 + (1 : Int)) ∧ (z1 + (1 : Int)) ≤ (200 : Int) by omega) ?_
      have w14 : (fx_up (fx_up (fx_up (fx_up S 15 0 (z1).toNat n) 16 0 (z1).toNat e) 17 0 (z1).toNat d) 13 0 6 (z1 + (1 : Int))) 13 0 6 = (z1 + (1 : Int)) := fx_up_at _ _ _ _ _
      have g15 : WTS (fx_up (fx_up (fx_up (fx_up S 15 0 (z1).toNat n) 16 0 (z1).toNat e) 17 0 (z1).toNat d) 13 0 6 (z1 + (1 : Int))) := fx_pup WTS_stab rfl g12
      have to : TreeO n (fx_up (fx_up (fx_up (fx_up S 15 0 (z1).toNat n) 16 0 (z1).toNat e) 17 0 (z1).toNat d) 13 0 6 (z1 + (1 : Int))) := by first | exact Tree_add (by assumption) (by omega) (by omega) | (exfalso; omega)
      intro z16 (z16a : (-2147483648 : Int) ≤ z16) (z16b : z16 ≤ (2147483647 : Int)) (z16c : z16 = (fx_up (fx_up (fx_up (fx_up S 15 0 (z1).toNat n) 16 0 (z1).toNat e) 17 0 (z1).toNat d) 13 0 6 (z1 + (1 : Int))) 13 0 7)
      intro z17 (z17a : -2147483648 ≤ z17) (z17b : z17 < 2147483648) (z17c : -2147483648 ≤ (z16 + e) ∧ (z16 + e) < 2147483648 → z17 = (z16 + e))
      refine And.intro (show (-2147483648 : Int) ≤ z17 ∧ z17 ≤ (2147483647 : Int) by omega) ?_
      have w18 : (fx_up (fx_up (fx_up (fx_up (fx_up S 15 0 (z1).toNat n) 16 0 (z1).toNat e) 17 0 (z1).toNat d) 13 0 6 (z1 + (1 : Int))) 13 0 7 z17) 13 0 6 = (fx_up (fx_up (fx_up (fx_up S 15 0 (z1).toNat n) 16 0 (z1).toNat e) 17 0 (z1).toNat d) 13 0 6 (z1 + (1 : Int))) 13 0 6 := if_neg (fun q => absurd q.2.2 (by decide))
      have g19 : WTS (fx_up (fx_up (fx_up (fx_up (fx_up S 15 0 (z1).toNat n) 16 0 (z1).toNat e) 17 0 (z1).toNat d) 13 0 6 (z1 + (1 : Int))) 13 0 7 z17) := fx_pup WTS_stab rfl g15
      have g20 : TreeO n (fx_up (fx_up (fx_up (fx_up (fx_up S 15 0 (z1).toNat n) 16 0 (z1).toNat e) 17 0 (z1).toNat d) 13 0 6 (z1 + (1 : Int))) 13 0 7 z17) := fx_pup TreeO_stab rfl to
      refine And.intro (fun (h21 : (d ≤ (0 : Int) : Prop)) => ?_) (fun (h21 : ((0 : Int) < d : Prop)) => ?_)
      ·
        refine And.intro (fun (h22 : ((0 : Int) ≤ d : Prop)) => ?_) (fun (h22 : (d < (0 : Int) : Prop)) => ?_)
        ·
          exact hk (fx_up (fx_up (fx_up (fx_up (fx_up S 15 0 (z1).toNat n) 16 0 (z1).toNat e) 17 0 (z1).toNat d) 13 0 6 (z1 + (1 : Int))) 13 0 7 z17) ⟨(fxfr_up (fxfr_up (fxfr_up (fxfr_up (fxfr_up fxfr_rfl rfl) rfl) rfl) rfl) rfl), g20⟩
        ·
          intro z23 z23a z23b z23c
          refine c_Log_forgetDelete (d := z23) (show -2147483648 ≤ z23 ∧ z23 < 2147483648 by omega) (fun (S24 : fxS) (f25 : fxfr [(13, 10), (18, 9999), (19, 9999)] (fx_up (fx_up (fx_up (fx_up (fx_up S 15 0 (z1).toNat n) 16 0 (z1).toNat e) 17 0 (z1).toNat d) 13 0 6 (z1 + (1 : Int))) 13 0 7 z17) S24) => ?_)
          have w26 : S24 13 0 6 = (fx_up (fx_up (fx_up (fx_up (fx_up S 15 0 (z1).toNat n) 16 0 (z1).toNat e) 17 0 (z1).toNat d) 13 0 6 (z1 + (1 : Int))) 13 0 7 z17) 13 0 6 := f25 13 0 6 rfl
          have g27 : WTS S24 := fx_pfr WTS_stab f25 rfl g19
          have g28 : TreeO n S24 := fx_pfr TreeO_stab f25 rfl g20
          exact hk S24 ⟨(fxfr_tr (fxfr_up (fxfr_up (fxfr_up (fxfr_up (fxfr_up fxfr_rfl rfl) rfl) rfl) rfl) rfl) f25 rfl), g28⟩
      ·
        refine c_Log_noteDelete (d := d) (show -2147483648 ≤ d ∧ d < 2147483648 by omega) (fun (S29 : fxS) (f30 : fxfr [(13, 10), (18, 9999), (19, 9999)] (fx_up (fx_up (fx_up (fx_up (fx_up S 15 0 (z1).toNat n) 16 0 (z1).toNat e) 17 0 (z1).toNat d) 13 0 6 (z1 + (1 : Int))) 13 0 7 z17) S29) => ?_)
        have w31 : S29 13 0 6 = (fx_up (fx_up (fx_up (fx_up (fx_up S 15 0 (z1).toNat n) 16 0 (z1).toNat e) 17 0 (z1).toNat d) 13 0 6 (z1 + (1 : Int))) 13 0 7 z17) 13 0 6 := f30 13 0 6 rfl
        have g32 : WTS S29 := fx_pfr WTS_stab f30 rfl g19
        have g33 : TreeO n S29 := fx_pfr TreeO_stab f30 rfl g20
        refine And.intro (fun (h34 : ((0 : Int) ≤ d : Prop)) => ?_) (fun (h34 : (d < (0 : Int) : Prop)) => ?_)
        ·
          exact hk S29 ⟨(fxfr_tr (fxfr_up (fxfr_up (fxfr_up (fxfr_up (fxfr_up fxfr_rfl rfl) rfl) rfl) rfl) rfl) f30 rfl), g33⟩
        ·
          intro z35 z35a z35b z35c
          refine c_Log_forgetDelete (d := z35) (show -2147483648 ≤ z35 ∧ z35 < 2147483648 by omega) (fun (S36 : fxS) (f37 : fxfr [(13, 10), (18, 9999), (19, 9999)] S29 S36) => ?_)
          have w38 : S36 13 0 6 = S29 13 0 6 := f37 13 0 6 rfl
          have g39 : WTS S36 := fx_pfr WTS_stab f37 rfl g32
          have g40 : TreeO n S36 := fx_pfr TreeO_stab f37 rfl g33
          exact hk S36 ⟨(fxfr_tr (fxfr_tr (fxfr_up (fxfr_up (fxfr_up (fxfr_up (fxfr_up fxfr_rfl rfl) rfl) rfl) rfl) rfl) f30 rfl) f37 rfl), g40⟩
    ·
      intro z41 (z41a : (0 : Int) ≤ z41) (z41b : z41 ≤ (200 : Int)) (z41c : z41 = S 13 0 6)
      obtain rfl : z1 = z41 := by omega
      refine And.intro (show 0 ≤ z1 ∧ z1 < 200 by omega) ?_
      refine And.intro (show 0 ≤ n ∧ n < 60 by omega) ?_
      refine c_Node_become20 (i := (z1).toNat) (j := (n).toNat)  (fun (S42 : fxS) ⟨(f43 : fxfr [(20, 0), (20, 1), (20, 3), (20, 4), (20, 5), (20, 6), (20, 7), (20, 11), (20, 12), (21, 9999), (22, 9999), (23, 9999)] S S42), (q44 : S42 20 (z1).toNat 0 = S 4 (n).toNat 0 ∧ S42 20 (z1).toNat 1 = S 4 (n).toNat 1), (g45 : N20 (z1).toNat S S42)⟩ => ?_)
      have w46 : S42 13 0 6 = S 13 0 6 := f43 13 0 6 rfl
      have g47 : WTS S42 := fx_pfr WTS_stab f43 rfl wt
      have tb : TreeB n ((z1).toNat) S42 := ⟨S, by assumption, fun m => ⟨f43 4 m 0 rfl, f43 4 m 1 rfl⟩, by assumption, fun k => f43 15 0 k rfl, by omega, q44⟩
      intro z48 (z48a : (0 : Int) ≤ z48) (z48b : z48 ≤ (200 : Int)) (z48c : z48 = S42 13 0 6)
      obtain rfl : z1 = z48 := by omega
      refine And.intro (show 0 ≤ z1 ∧ z1 < 200 by omega) ?_
      refine And.intro (show (-1 : Int) ≤ n ∧ n ≤ (59 : Int) by omega) ?_
      have w49 : (fx_up S42 15 0 (z1).toNat n) 13 0 6 = S42 13 0 6 := rfl
      have g50 : WTS (fx_up S42 15 0 (z1).toNat n) := fx_pup WTS_stab rfl g47
      intro z51 (z51a : (0 : Int) ≤ z51) (z51b : z51 ≤ (200 : Int)) (z51c : z51 = (fx_up S42 15 0 (z1).toNat n) 13 0 6)
      obtain rfl : z1 = z51 := by omega
      refine And.intro (show 0 ≤ z1 ∧ z1 < 200 by omega) ?_
      refine And.intro (show (-2147483648 : Int) ≤ e ∧ e ≤ (2147483647 : Int) by omega) ?_
      have w52 : (fx_up (fx_up S42 15 0 (z1).toNat n) 16 0 (z1).toNat e) 13 0 6 = (fx_up S42 15 0 (z1).toNat n) 13 0 6 := rfl
      have g53 : WTS (fx_up (fx_up S42 15 0 (z1).toNat n) 16 0 (z1).toNat e) := fx_pup WTS_stab rfl g50
      intro z54 (z54a : (0 : Int) ≤ z54) (z54b : z54 ≤ (200 : Int)) (z54c : z54 = (fx_up (fx_up S42 15 0 (z1).toNat n) 16 0 (z1).toNat e) 13 0 6)
      obtain rfl : z1 = z54 := by omega
      refine And.intro (show 0 ≤ z1 ∧ z1 < 200 by omega) ?_
      refine And.intro (show (-2147483648 : Int) ≤ d ∧ d ≤ (2147483647 : Int) by omega) ?_
      have w55 : (fx_up (fx_up (fx_up S42 15 0 (z1).toNat n) 16 0 (z1).toNat e) 17 0 (z1).toNat d) 13 0 6 = (fx_up (fx_up S42 15 0 (z1).toNat n) 16 0 (z1).toNat e) 13 0 6 := rfl
      have g56 : WTS (fx_up (fx_up (fx_up S42 15 0 (z1).toNat n) 16 0 (z1).toNat e) 17 0 (z1).toNat d) := fx_pup WTS_stab rfl g53
      intro z57 (z57a : (0 : Int) ≤ z57) (z57b : z57 ≤ (200 : Int)) (z57c : z57 = (fx_up (fx_up (fx_up S42 15 0 (z1).toNat n) 16 0 (z1).toNat e) 17 0 (z1).toNat d) 13 0 6)
      obtain rfl : z1 = z57 := by omega
      refine And.intro (show -2147483648 ≤ (z1 + (1 : Int)) ∧ (z1 + (1 : Int)) < 2147483648 by omega) ?_
      refine And.intro (show (0 : Int) ≤ (z1 + (1 : Int)) ∧ (z1 + (1 : Int)) ≤ (200 : Int) by omega) ?_
      have w58 : (fx_up (fx_up (fx_up (fx_up S42 15 0 (z1).toNat n) 16 0 (z1).toNat e) 17 0 (z1).toNat d) 13 0 6 (z1 + (1 : Int))) 13 0 6 = (z1 + (1 : Int)) := fx_up_at _ _ _ _ _
      have g59 : WTS (fx_up (fx_up (fx_up (fx_up S42 15 0 (z1).toNat n) 16 0 (z1).toNat e) 17 0 (z1).toNat d) 13 0 6 (z1 + (1 : Int))) := fx_pup WTS_stab rfl g56
      have to : TreeO n (fx_up (fx_up (fx_up (fx_up S42 15 0 (z1).toNat n) 16 0 (z1).toNat e) 17 0 (z1).toNat d) 13 0 6 (z1 + (1 : Int))) := by first | exact Tree_add (by assumption) (by omega) (by omega) | (exfalso; omega)
      intro z60 (z60a : (-2147483648 : Int) ≤ z60) (z60b : z60 ≤ (2147483647 : Int)) (z60c : z60 = (fx_up (fx_up (fx_up (fx_up S42 15 0 (z1).toNat n) 16 0 (z1).toNat e) 17 0 (z1).toNat d) 13 0 6 (z1 + (1 : Int))) 13 0 7)
      intro z61 (z61a : -2147483648 ≤ z61) (z61b : z61 < 2147483648) (z61c : -2147483648 ≤ (z60 + e) ∧ (z60 + e) < 2147483648 → z61 = (z60 + e))
      refine And.intro (show (-2147483648 : Int) ≤ z61 ∧ z61 ≤ (2147483647 : Int) by omega) ?_
      have w62 : (fx_up (fx_up (fx_up (fx_up (fx_up S42 15 0 (z1).toNat n) 16 0 (z1).toNat e) 17 0 (z1).toNat d) 13 0 6 (z1 + (1 : Int))) 13 0 7 z61) 13 0 6 = (fx_up (fx_up (fx_up (fx_up S42 15 0 (z1).toNat n) 16 0 (z1).toNat e) 17 0 (z1).toNat d) 13 0 6 (z1 + (1 : Int))) 13 0 6 := if_neg (fun q => absurd q.2.2 (by decide))
      have g63 : WTS (fx_up (fx_up (fx_up (fx_up (fx_up S42 15 0 (z1).toNat n) 16 0 (z1).toNat e) 17 0 (z1).toNat d) 13 0 6 (z1 + (1 : Int))) 13 0 7 z61) := fx_pup WTS_stab rfl g59
      have g64 : TreeO n (fx_up (fx_up (fx_up (fx_up (fx_up S42 15 0 (z1).toNat n) 16 0 (z1).toNat e) 17 0 (z1).toNat d) 13 0 6 (z1 + (1 : Int))) 13 0 7 z61) := fx_pup TreeO_stab rfl to
      refine And.intro (fun (h65 : (d ≤ (0 : Int) : Prop)) => ?_) (fun (h65 : ((0 : Int) < d : Prop)) => ?_)
      ·
        refine And.intro (fun (h66 : ((0 : Int) ≤ d : Prop)) => ?_) (fun (h66 : (d < (0 : Int) : Prop)) => ?_)
        ·
          exact hk (fx_up (fx_up (fx_up (fx_up (fx_up S42 15 0 (z1).toNat n) 16 0 (z1).toNat e) 17 0 (z1).toNat d) 13 0 6 (z1 + (1 : Int))) 13 0 7 z61) ⟨(fxfr_up (fxfr_up (fxfr_up (fxfr_up (fxfr_up (fxfr_tr fxfr_rfl f43 rfl) rfl) rfl) rfl) rfl) rfl), g64⟩
        ·
          intro z67 z67a z67b z67c
          refine c_Log_forgetDelete (d := z67) (show -2147483648 ≤ z67 ∧ z67 < 2147483648 by omega) (fun (S68 : fxS) (f69 : fxfr [(13, 10), (18, 9999), (19, 9999)] (fx_up (fx_up (fx_up (fx_up (fx_up S42 15 0 (z1).toNat n) 16 0 (z1).toNat e) 17 0 (z1).toNat d) 13 0 6 (z1 + (1 : Int))) 13 0 7 z61) S68) => ?_)
          have w70 : S68 13 0 6 = (fx_up (fx_up (fx_up (fx_up (fx_up S42 15 0 (z1).toNat n) 16 0 (z1).toNat e) 17 0 (z1).toNat d) 13 0 6 (z1 + (1 : Int))) 13 0 7 z61) 13 0 6 := f69 13 0 6 rfl
          have g71 : WTS S68 := fx_pfr WTS_stab f69 rfl g63
          have g72 : TreeO n S68 := fx_pfr TreeO_stab f69 rfl g64
          exact hk S68 ⟨(fxfr_tr (fxfr_up (fxfr_up (fxfr_up (fxfr_up (fxfr_up (fxfr_tr fxfr_rfl f43 rfl) rfl) rfl) rfl) rfl) rfl) f69 rfl), g72⟩
      ·
        refine c_Log_noteDelete (d := d) (show -2147483648 ≤ d ∧ d < 2147483648 by omega) (fun (S73 : fxS) (f74 : fxfr [(13, 10), (18, 9999), (19, 9999)] (fx_up (fx_up (fx_up (fx_up (fx_up S42 15 0 (z1).toNat n) 16 0 (z1).toNat e) 17 0 (z1).toNat d) 13 0 6 (z1 + (1 : Int))) 13 0 7 z61) S73) => ?_)
        have w75 : S73 13 0 6 = (fx_up (fx_up (fx_up (fx_up (fx_up S42 15 0 (z1).toNat n) 16 0 (z1).toNat e) 17 0 (z1).toNat d) 13 0 6 (z1 + (1 : Int))) 13 0 7 z61) 13 0 6 := f74 13 0 6 rfl
        have g76 : WTS S73 := fx_pfr WTS_stab f74 rfl g63
        have g77 : TreeO n S73 := fx_pfr TreeO_stab f74 rfl g64
        refine And.intro (fun (h78 : ((0 : Int) ≤ d : Prop)) => ?_) (fun (h78 : (d < (0 : Int) : Prop)) => ?_)
        ·
          exact hk S73 ⟨(fxfr_tr (fxfr_up (fxfr_up (fxfr_up (fxfr_up (fxfr_up (fxfr_tr fxfr_rfl f43 rfl) rfl) rfl) rfl) rfl) rfl) f74 rfl), g77⟩
        ·
          intro z79 z79a z79b z79c
          refine c_Log_forgetDelete (d := z79) (show -2147483648 ≤ z79 ∧ z79 < 2147483648 by omega) (fun (S80 : fxS) (f81 : fxfr [(13, 10), (18, 9999), (19, 9999)] S73 S80) => ?_)
          have w82 : S80 13 0 6 = S73 13 0 6 := f81 13 0 6 rfl
          have g83 : WTS S80 := fx_pfr WTS_stab f81 rfl g76
          have g84 : TreeO n S80 := fx_pfr TreeO_stab f81 rfl g77
          exact hk S80 ⟨(fxfr_tr (fxfr_tr (fxfr_up (fxfr_up (fxfr_up (fxfr_up (fxfr_up (fxfr_tr fxfr_rfl f43 rfl) rfl) rfl) rfl) rfl) rfl) f74 rfl) f81 rfl), g84⟩
  ·
    refine c_Log_keepAll  wt (fun (z85 : Int) (S86 : fxS) ⟨(f87 : fxfr [(8, 4), (10, 9999), (11, 9999), (13, 6), (13, 7), (19, 9999)] S S86), (q88 : -2147483648 ≤ z85 ∧ z85 < 2147483648 ∧ (S86 13 0 6 = 0)), (g89 : TreeL S86)⟩ => ?_)
    have g90 : WTS S86 := fx_pfr WTS_stab f87 rfl wt
    refine And.intro (fun (h91 : (n < (0 : Int) : Prop)) => ?_) (fun (h91 : ((0 : Int) ≤ n : Prop)) => ?_)
    ·
      intro z92 (z92a : (0 : Int) ≤ z92) (z92b : z92 ≤ (200 : Int)) (z92c : z92 = S86 13 0 6)
      refine And.intro (show 0 ≤ z92 ∧ z92 < 200 by omega) ?_
      refine And.intro (show (-1 : Int) ≤ n ∧ n ≤ (59 : Int) by omega) ?_
      have w93 : (fx_up S86 15 0 (z92).toNat n) 13 0 6 = S86 13 0 6 := rfl
      have g94 : WTS (fx_up S86 15 0 (z92).toNat n) := fx_pup WTS_stab rfl g90
      intro z95 (z95a : (0 : Int) ≤ z95) (z95b : z95 ≤ (200 : Int)) (z95c : z95 = (fx_up S86 15 0 (z92).toNat n) 13 0 6)
      obtain rfl : z92 = z95 := by omega
      refine And.intro (show 0 ≤ z92 ∧ z92 < 200 by omega) ?_
      refine And.intro (show (-2147483648 : Int) ≤ e ∧ e ≤ (2147483647 : Int) by omega) ?_
      have w96 : (fx_up (fx_up S86 15 0 (z92).toNat n) 16 0 (z92).toNat e) 13 0 6 = (fx_up S86 15 0 (z92).toNat n) 13 0 6 := rfl
      have g97 : WTS (fx_up (fx_up S86 15 0 (z92).toNat n) 16 0 (z92).toNat e) := fx_pup WTS_stab rfl g94
      intro z98 (z98a : (0 : Int) ≤ z98) (z98b : z98 ≤ (200 : Int)) (z98c : z98 = (fx_up (fx_up S86 15 0 (z92).toNat n) 16 0 (z92).toNat e) 13 0 6)
      obtain rfl : z92 = z98 := by omega
      refine And.intro (show 0 ≤ z92 ∧ z92 < 200 by omega) ?_
      refine And.intro (show (-2147483648 : Int) ≤ d ∧ d ≤ (2147483647 : Int) by omega) ?_
      have w99 : (fx_up (fx_up (fx_up S86 15 0 (z92).toNat n) 16 0 (z92).toNat e) 17 0 (z92).toNat d) 13 0 6 = (fx_up (fx_up S86 15 0 (z92).toNat n) 16 0 (z92).toNat e) 13 0 6 := rfl
      have g100 : WTS (fx_up (fx_up (fx_up S86 15 0 (z92).toNat n) 16 0 (z92).toNat e) 17 0 (z92).toNat d) := fx_pup WTS_stab rfl g97
      intro z101 (z101a : (0 : Int) ≤ z101) (z101b : z101 ≤ (200 : Int)) (z101c : z101 = (fx_up (fx_up (fx_up S86 15 0 (z92).toNat n) 16 0 (z92).toNat e) 17 0 (z92).toNat d) 13 0 6)
      obtain rfl : z92 = z101 := by omega
      refine And.intro (show -2147483648 ≤ (z92 + (1 : Int)) ∧ (z92 + (1 : Int)) < 2147483648 by omega) ?_
      refine And.intro (show (0 : Int) ≤ (z92 + (1 : Int)) ∧ (z92 + (1 : Int)) ≤ (200 : Int) by omega) ?_
      have w102 : (fx_up (fx_up (fx_up (fx_up S86 15 0 (z92).toNat n) 16 0 (z92).toNat e) 17 0 (z92).toNat d) 13 0 6 (z92 + (1 : Int))) 13 0 6 = (z92 + (1 : Int)) := fx_up_at _ _ _ _ _
      have g103 : WTS (fx_up (fx_up (fx_up (fx_up S86 15 0 (z92).toNat n) 16 0 (z92).toNat e) 17 0 (z92).toNat d) 13 0 6 (z92 + (1 : Int))) := fx_pup WTS_stab rfl g100
      have to : TreeO n (fx_up (fx_up (fx_up (fx_up S86 15 0 (z92).toNat n) 16 0 (z92).toNat e) 17 0 (z92).toNat d) 13 0 6 (z92 + (1 : Int))) := by first | exact Tree_add (by assumption) (by omega) (by omega) | (exfalso; omega)
      intro z104 (z104a : (-2147483648 : Int) ≤ z104) (z104b : z104 ≤ (2147483647 : Int)) (z104c : z104 = (fx_up (fx_up (fx_up (fx_up S86 15 0 (z92).toNat n) 16 0 (z92).toNat e) 17 0 (z92).toNat d) 13 0 6 (z92 + (1 : Int))) 13 0 7)
      intro z105 (z105a : -2147483648 ≤ z105) (z105b : z105 < 2147483648) (z105c : -2147483648 ≤ (z104 + e) ∧ (z104 + e) < 2147483648 → z105 = (z104 + e))
      refine And.intro (show (-2147483648 : Int) ≤ z105 ∧ z105 ≤ (2147483647 : Int) by omega) ?_
      have w106 : (fx_up (fx_up (fx_up (fx_up (fx_up S86 15 0 (z92).toNat n) 16 0 (z92).toNat e) 17 0 (z92).toNat d) 13 0 6 (z92 + (1 : Int))) 13 0 7 z105) 13 0 6 = (fx_up (fx_up (fx_up (fx_up S86 15 0 (z92).toNat n) 16 0 (z92).toNat e) 17 0 (z92).toNat d) 13 0 6 (z92 + (1 : Int))) 13 0 6 := if_neg (fun q => absurd q.2.2 (by decide))
      have g107 : WTS (fx_up (fx_up (fx_up (fx_up (fx_up S86 15 0 (z92).toNat n) 16 0 (z92).toNat e) 17 0 (z92).toNat d) 13 0 6 (z92 + (1 : Int))) 13 0 7 z105) := fx_pup WTS_stab rfl g103
      have g108 : TreeO n (fx_up (fx_up (fx_up (fx_up (fx_up S86 15 0 (z92).toNat n) 16 0 (z92).toNat e) 17 0 (z92).toNat d) 13 0 6 (z92 + (1 : Int))) 13 0 7 z105) := fx_pup TreeO_stab rfl to
      refine And.intro (fun (h109 : (d ≤ (0 : Int) : Prop)) => ?_) (fun (h109 : ((0 : Int) < d : Prop)) => ?_)
      ·
        refine And.intro (fun (h110 : ((0 : Int) ≤ d : Prop)) => ?_) (fun (h110 : (d < (0 : Int) : Prop)) => ?_)
        ·
          exact hk (fx_up (fx_up (fx_up (fx_up (fx_up S86 15 0 (z92).toNat n) 16 0 (z92).toNat e) 17 0 (z92).toNat d) 13 0 6 (z92 + (1 : Int))) 13 0 7 z105) ⟨(fxfr_up (fxfr_up (fxfr_up (fxfr_up (fxfr_up (fxfr_tr fxfr_rfl f87 rfl) rfl) rfl) rfl) rfl) rfl), g108⟩
        ·
          intro z111 z111a z111b z111c
          refine c_Log_forgetDelete (d := z111) (show -2147483648 ≤ z111 ∧ z111 < 2147483648 by omega) (fun (S112 : fxS) (f113 : fxfr [(13, 10), (18, 9999), (19, 9999)] (fx_up (fx_up (fx_up (fx_up (fx_up S86 15 0 (z92).toNat n) 16 0 (z92).toNat e) 17 0 (z92).toNat d) 13 0 6 (z92 + (1 : Int))) 13 0 7 z105) S112) => ?_)
          have w114 : S112 13 0 6 = (fx_up (fx_up (fx_up (fx_up (fx_up S86 15 0 (z92).toNat n) 16 0 (z92).toNat e) 17 0 (z92).toNat d) 13 0 6 (z92 + (1 : Int))) 13 0 7 z105) 13 0 6 := f113 13 0 6 rfl
          have g115 : WTS S112 := fx_pfr WTS_stab f113 rfl g107
          have g116 : TreeO n S112 := fx_pfr TreeO_stab f113 rfl g108
          exact hk S112 ⟨(fxfr_tr (fxfr_up (fxfr_up (fxfr_up (fxfr_up (fxfr_up (fxfr_tr fxfr_rfl f87 rfl) rfl) rfl) rfl) rfl) rfl) f113 rfl), g116⟩
      ·
        refine c_Log_noteDelete (d := d) (show -2147483648 ≤ d ∧ d < 2147483648 by omega) (fun (S117 : fxS) (f118 : fxfr [(13, 10), (18, 9999), (19, 9999)] (fx_up (fx_up (fx_up (fx_up (fx_up S86 15 0 (z92).toNat n) 16 0 (z92).toNat e) 17 0 (z92).toNat d) 13 0 6 (z92 + (1 : Int))) 13 0 7 z105) S117) => ?_)
        have w119 : S117 13 0 6 = (fx_up (fx_up (fx_up (fx_up (fx_up S86 15 0 (z92).toNat n) 16 0 (z92).toNat e) 17 0 (z92).toNat d) 13 0 6 (z92 + (1 : Int))) 13 0 7 z105) 13 0 6 := f118 13 0 6 rfl
        have g120 : WTS S117 := fx_pfr WTS_stab f118 rfl g107
        have g121 : TreeO n S117 := fx_pfr TreeO_stab f118 rfl g108
        refine And.intro (fun (h122 : ((0 : Int) ≤ d : Prop)) => ?_) (fun (h122 : (d < (0 : Int) : Prop)) => ?_)
        ·
          exact hk S117 ⟨(fxfr_tr (fxfr_up (fxfr_up (fxfr_up (fxfr_up (fxfr_up (fxfr_tr fxfr_rfl f87 rfl) rfl) rfl) rfl) rfl) rfl) f118 rfl), g121⟩
        ·
          intro z123 z123a z123b z123c
          refine c_Log_forgetDelete (d := z123) (show -2147483648 ≤ z123 ∧ z123 < 2147483648 by omega) (fun (S124 : fxS) (f125 : fxfr [(13, 10), (18, 9999), (19, 9999)] S117 S124) => ?_)
          have w126 : S124 13 0 6 = S117 13 0 6 := f125 13 0 6 rfl
          have g127 : WTS S124 := fx_pfr WTS_stab f125 rfl g120
          have g128 : TreeO n S124 := fx_pfr TreeO_stab f125 rfl g121
          exact hk S124 ⟨(fxfr_tr (fxfr_tr (fxfr_up (fxfr_up (fxfr_up (fxfr_up (fxfr_up (fxfr_tr fxfr_rfl f87 rfl) rfl) rfl) rfl) rfl) rfl) f118 rfl) f125 rfl), g128⟩
    ·
      intro z129 (z129a : (0 : Int) ≤ z129) (z129b : z129 ≤ (200 : Int)) (z129c : z129 = S86 13 0 6)
      refine And.intro (show 0 ≤ z129 ∧ z129 < 200 by omega) ?_
      refine And.intro (show 0 ≤ n ∧ n < 60 by omega) ?_
      refine c_Node_become20 (i := (z129).toNat) (j := (n).toNat)  (fun (S130 : fxS) ⟨(f131 : fxfr [(20, 0), (20, 1), (20, 3), (20, 4), (20, 5), (20, 6), (20, 7), (20, 11), (20, 12), (21, 9999), (22, 9999), (23, 9999)] S86 S130), (q132 : S130 20 (z129).toNat 0 = S86 4 (n).toNat 0 ∧ S130 20 (z129).toNat 1 = S86 4 (n).toNat 1), (g133 : N20 (z129).toNat S86 S130)⟩ => ?_)
      have w134 : S130 13 0 6 = S86 13 0 6 := f131 13 0 6 rfl
      have g135 : WTS S130 := fx_pfr WTS_stab f131 rfl g90
      have tb : TreeB n ((z129).toNat) S130 := ⟨S86, by assumption, fun m => ⟨f131 4 m 0 rfl, f131 4 m 1 rfl⟩, by assumption, fun k => f131 15 0 k rfl, by omega, q132⟩
      intro z136 (z136a : (0 : Int) ≤ z136) (z136b : z136 ≤ (200 : Int)) (z136c : z136 = S130 13 0 6)
      obtain rfl : z129 = z136 := by omega
      refine And.intro (show 0 ≤ z129 ∧ z129 < 200 by omega) ?_
      refine And.intro (show (-1 : Int) ≤ n ∧ n ≤ (59 : Int) by omega) ?_
      have w137 : (fx_up S130 15 0 (z129).toNat n) 13 0 6 = S130 13 0 6 := rfl
      have g138 : WTS (fx_up S130 15 0 (z129).toNat n) := fx_pup WTS_stab rfl g135
      intro z139 (z139a : (0 : Int) ≤ z139) (z139b : z139 ≤ (200 : Int)) (z139c : z139 = (fx_up S130 15 0 (z129).toNat n) 13 0 6)
      obtain rfl : z129 = z139 := by omega
      refine And.intro (show 0 ≤ z129 ∧ z129 < 200 by omega) ?_
      refine And.intro (show (-2147483648 : Int) ≤ e ∧ e ≤ (2147483647 : Int) by omega) ?_
      have w140 : (fx_up (fx_up S130 15 0 (z129).toNat n) 16 0 (z129).toNat e) 13 0 6 = (fx_up S130 15 0 (z129).toNat n) 13 0 6 := rfl
      have g141 : WTS (fx_up (fx_up S130 15 0 (z129).toNat n) 16 0 (z129).toNat e) := fx_pup WTS_stab rfl g138
      intro z142 (z142a : (0 : Int) ≤ z142) (z142b : z142 ≤ (200 : Int)) (z142c : z142 = (fx_up (fx_up S130 15 0 (z129).toNat n) 16 0 (z129).toNat e) 13 0 6)
      obtain rfl : z129 = z142 := by omega
      refine And.intro (show 0 ≤ z129 ∧ z129 < 200 by omega) ?_
      refine And.intro (show (-2147483648 : Int) ≤ d ∧ d ≤ (2147483647 : Int) by omega) ?_
      have w143 : (fx_up (fx_up (fx_up S130 15 0 (z129).toNat n) 16 0 (z129).toNat e) 17 0 (z129).toNat d) 13 0 6 = (fx_up (fx_up S130 15 0 (z129).toNat n) 16 0 (z129).toNat e) 13 0 6 := rfl
      have g144 : WTS (fx_up (fx_up (fx_up S130 15 0 (z129).toNat n) 16 0 (z129).toNat e) 17 0 (z129).toNat d) := fx_pup WTS_stab rfl g141
      intro z145 (z145a : (0 : Int) ≤ z145) (z145b : z145 ≤ (200 : Int)) (z145c : z145 = (fx_up (fx_up (fx_up S130 15 0 (z129).toNat n) 16 0 (z129).toNat e) 17 0 (z129).toNat d) 13 0 6)
      obtain rfl : z129 = z145 := by omega
      refine And.intro (show -2147483648 ≤ (z129 + (1 : Int)) ∧ (z129 + (1 : Int)) < 2147483648 by omega) ?_
      refine And.intro (show (0 : Int) ≤ (z129 + (1 : Int)) ∧ (z129 + (1 : Int)) ≤ (200 : Int) by omega) ?_
      have w146 : (fx_up (fx_up (fx_up (fx_up S130 15 0 (z129).toNat n) 16 0 (z129).toNat e) 17 0 (z129).toNat d) 13 0 6 (z129 + (1 : Int))) 13 0 6 = (z129 + (1 : Int)) := fx_up_at _ _ _ _ _
      have g147 : WTS (fx_up (fx_up (fx_up (fx_up S130 15 0 (z129).toNat n) 16 0 (z129).toNat e) 17 0 (z129).toNat d) 13 0 6 (z129 + (1 : Int))) := fx_pup WTS_stab rfl g144
      have to : TreeO n (fx_up (fx_up (fx_up (fx_up S130 15 0 (z129).toNat n) 16 0 (z129).toNat e) 17 0 (z129).toNat d) 13 0 6 (z129 + (1 : Int))) := by first | exact Tree_add (by assumption) (by omega) (by omega) | (exfalso; omega)
      intro z148 (z148a : (-2147483648 : Int) ≤ z148) (z148b : z148 ≤ (2147483647 : Int)) (z148c : z148 = (fx_up (fx_up (fx_up (fx_up S130 15 0 (z129).toNat n) 16 0 (z129).toNat e) 17 0 (z129).toNat d) 13 0 6 (z129 + (1 : Int))) 13 0 7)
      intro z149 (z149a : -2147483648 ≤ z149) (z149b : z149 < 2147483648) (z149c : -2147483648 ≤ (z148 + e) ∧ (z148 + e) < 2147483648 → z149 = (z148 + e))
      refine And.intro (show (-2147483648 : Int) ≤ z149 ∧ z149 ≤ (2147483647 : Int) by omega) ?_
      have w150 : (fx_up (fx_up (fx_up (fx_up (fx_up S130 15 0 (z129).toNat n) 16 0 (z129).toNat e) 17 0 (z129).toNat d) 13 0 6 (z129 + (1 : Int))) 13 0 7 z149) 13 0 6 = (fx_up (fx_up (fx_up (fx_up S130 15 0 (z129).toNat n) 16 0 (z129).toNat e) 17 0 (z129).toNat d) 13 0 6 (z129 + (1 : Int))) 13 0 6 := if_neg (fun q => absurd q.2.2 (by decide))
      have g151 : WTS (fx_up (fx_up (fx_up (fx_up (fx_up S130 15 0 (z129).toNat n) 16 0 (z129).toNat e) 17 0 (z129).toNat d) 13 0 6 (z129 + (1 : Int))) 13 0 7 z149) := fx_pup WTS_stab rfl g147
      have g152 : TreeO n (fx_up (fx_up (fx_up (fx_up (fx_up S130 15 0 (z129).toNat n) 16 0 (z129).toNat e) 17 0 (z129).toNat d) 13 0 6 (z129 + (1 : Int))) 13 0 7 z149) := fx_pup TreeO_stab rfl to
      refine And.intro (fun (h153 : (d ≤ (0 : Int) : Prop)) => ?_) (fun (h153 : ((0 : Int) < d : Prop)) => ?_)
      ·
        refine And.intro (fun (h154 : ((0 : Int) ≤ d : Prop)) => ?_) (fun (h154 : (d < (0 : Int) : Prop)) => ?_)
        ·
          exact hk (fx_up (fx_up (fx_up (fx_up (fx_up S130 15 0 (z129).toNat n) 16 0 (z129).toNat e) 17 0 (z129).toNat d) 13 0 6 (z129 + (1 : Int))) 13 0 7 z149) ⟨(fxfr_up (fxfr_up (fxfr_up (fxfr_up (fxfr_up (fxfr_tr (fxfr_tr fxfr_rfl f87 rfl) f131 rfl) rfl) rfl) rfl) rfl) rfl), g152⟩
        ·
          intro z155 z155a z155b z155c
          refine c_Log_forgetDelete (d := z155) (show -2147483648 ≤ z155 ∧ z155 < 2147483648 by omega) (fun (S156 : fxS) (f157 : fxfr [(13, 10), (18, 9999), (19, 9999)] (fx_up (fx_up (fx_up (fx_up (fx_up S130 15 0 (z129).toNat n) 16 0 (z129).toNat e) 17 0 (z129).toNat d) 13 0 6 (z129 + (1 : Int))) 13 0 7 z149) S156) => ?_)
          have w158 : S156 13 0 6 = (fx_up (fx_up (fx_up (fx_up (fx_up S130 15 0 (z129).toNat n) 16 0 (z129).toNat e) 17 0 (z129).toNat d) 13 0 6 (z129 + (1 : Int))) 13 0 7 z149) 13 0 6 := f157 13 0 6 rfl
          have g159 : WTS S156 := fx_pfr WTS_stab f157 rfl g151
          have g160 : TreeO n S156 := fx_pfr TreeO_stab f157 rfl g152
          exact hk S156 ⟨(fxfr_tr (fxfr_up (fxfr_up (fxfr_up (fxfr_up (fxfr_up (fxfr_tr (fxfr_tr fxfr_rfl f87 rfl) f131 rfl) rfl) rfl) rfl) rfl) rfl) f157 rfl), g160⟩
      ·
        refine c_Log_noteDelete (d := d) (show -2147483648 ≤ d ∧ d < 2147483648 by omega) (fun (S161 : fxS) (f162 : fxfr [(13, 10), (18, 9999), (19, 9999)] (fx_up (fx_up (fx_up (fx_up (fx_up S130 15 0 (z129).toNat n) 16 0 (z129).toNat e) 17 0 (z129).toNat d) 13 0 6 (z129 + (1 : Int))) 13 0 7 z149) S161) => ?_)
        have w163 : S161 13 0 6 = (fx_up (fx_up (fx_up (fx_up (fx_up S130 15 0 (z129).toNat n) 16 0 (z129).toNat e) 17 0 (z129).toNat d) 13 0 6 (z129 + (1 : Int))) 13 0 7 z149) 13 0 6 := f162 13 0 6 rfl
        have g164 : WTS S161 := fx_pfr WTS_stab f162 rfl g151
        have g165 : TreeO n S161 := fx_pfr TreeO_stab f162 rfl g152
        refine And.intro (fun (h166 : ((0 : Int) ≤ d : Prop)) => ?_) (fun (h166 : (d < (0 : Int) : Prop)) => ?_)
        ·
          exact hk S161 ⟨(fxfr_tr (fxfr_up (fxfr_up (fxfr_up (fxfr_up (fxfr_up (fxfr_tr (fxfr_tr fxfr_rfl f87 rfl) f131 rfl) rfl) rfl) rfl) rfl) rfl) f162 rfl), g165⟩
        ·
          intro z167 z167a z167b z167c
          refine c_Log_forgetDelete (d := z167) (show -2147483648 ≤ z167 ∧ z167 < 2147483648 by omega) (fun (S168 : fxS) (f169 : fxfr [(13, 10), (18, 9999), (19, 9999)] S161 S168) => ?_)
          have w170 : S168 13 0 6 = S161 13 0 6 := f169 13 0 6 rfl
          have g171 : WTS S168 := fx_pfr WTS_stab f169 rfl g164
          have g172 : TreeO n S168 := fx_pfr TreeO_stab f169 rfl g165
          exact hk S168 ⟨(fxfr_tr (fxfr_tr (fxfr_up (fxfr_up (fxfr_up (fxfr_up (fxfr_up (fxfr_tr (fxfr_tr fxfr_rfl f87 rfl) f131 rfl) rfl) rfl) rfl) rfl) rfl) f162 rfl) f169 rfl), g172⟩
theorem c_Log_add0 {l : Launch} {k : fxK} {S : fxS} {n : Int} {e : Int} {d : Int} (p0 : n = -1) (p1 : TreeL S) (p2 : -2147483648 ≤ e ∧ e < 2147483648) (p3 : -2147483648 ≤ d ∧ d < 2147483648) (hk : ∀ (S' : fxS) , (fxfr [(8, 4), (10, 9999), (11, 9999), (13, 6), (13, 7), (13, 10), (15, 9999), (16, 9999), (17, 9999), (18, 9999), (19, 9999), (20, 0), (20, 1), (20, 3), (20, 4), (20, 5), (20, 6), (20, 7), (20, 11), (20, 12), (21, 9999), (22, 9999), (23, 9999)] S S' ∧ (TreeL S')) → k none S') : fC l 11 [.inr (.inr (13, 0)), .inl n, .inl e, .inl d] S k := by
  refine fxe_11 (Nat.le_of_ble_eq_true rfl) (fxz_11 400 ?_)
  intro z1 (z1a : (0 : Int) ≤ z1) (z1b : z1 ≤ (200 : Int)) (z1c : z1 = S 13 0 6)
  have wt : WTS S := TreeL_wt (by assumption)
  refine And.intro (fun (h2 : (z1 < (200 : Int) : Prop)) => ?_) (fun (h2 : ((200 : Int) ≤ z1 : Prop)) => ?_)
  ·
    refine And.intro (fun (h3 : (n < (0 : Int) : Prop)) => ?_) (fun (h3 : ((0 : Int) ≤ n : Prop)) => ?_)
    ·
      intro z4 (z4a : (0 : Int) ≤ z4) (z4b : z4 ≤ (200 : Int)) (z4c : z4 = S 13 0 6)
      obtain rfl : z1 = z4 := by omega
      refine And.intro (show 0 ≤ z1 ∧ z1 < 200 by omega) ?_
      refine And.intro (show (-1 : Int) ≤ n ∧ n ≤ (59 : Int) by omega) ?_
      have w5 : (fx_up S 15 0 (z1).toNat n) 13 0 6 = S 13 0 6 := rfl
      have g6 : WTS (fx_up S 15 0 (z1).toNat n) := fx_pup WTS_stab rfl wt
      intro z7 (z7a : (0 : Int) ≤ z7) (z7b : z7 ≤ (200 : Int)) (z7c : z7 = (fx_up S 15 0 (z1).toNat n) 13 0 6)
      obtain rfl : z1 = z7 := by omega
      refine And.intro (show 0 ≤ z1 ∧ z1 < 200 by omega) ?_
      refine And.intro (show (-2147483648 : Int) ≤ e ∧ e ≤ (2147483647 : Int) by omega) ?_
      have w8 : (fx_up (fx_up S 15 0 (z1).toNat n) 16 0 (z1).toNat e) 13 0 6 = (fx_up S 15 0 (z1).toNat n) 13 0 6 := rfl
      have g9 : WTS (fx_up (fx_up S 15 0 (z1).toNat n) 16 0 (z1).toNat e) := fx_pup WTS_stab rfl g6
      intro z10 (z10a : (0 : Int) ≤ z10) (z10b : z10 ≤ (200 : Int)) (z10c : z10 = (fx_up (fx_up S 15 0 (z1).toNat n) 16 0 (z1).toNat e) 13 0 6)
      obtain rfl : z1 = z10 := by omega
      refine And.intro (show 0 ≤ z1 ∧ z1 < 200 by omega) ?_
      refine And.intro (show (-2147483648 : Int) ≤ d ∧ d ≤ (2147483647 : Int) by omega) ?_
      have w11 : (fx_up (fx_up (fx_up S 15 0 (z1).toNat n) 16 0 (z1).toNat e) 17 0 (z1).toNat d) 13 0 6 = (fx_up (fx_up S 15 0 (z1).toNat n) 16 0 (z1).toNat e) 13 0 6 := rfl
      have g12 : WTS (fx_up (fx_up (fx_up S 15 0 (z1).toNat n) 16 0 (z1).toNat e) 17 0 (z1).toNat d) := fx_pup WTS_stab rfl g9
      intro z13 (z13a : (0 : Int) ≤ z13) (z13b : z13 ≤ (200 : Int)) (z13c : z13 = (fx_up (fx_up (fx_up S 15 0 (z1).toNat n) 16 0 (z1).toNat e) 17 0 (z1).toNat d) 13 0 6)
      obtain rfl : z1 = z13 := by omega
      refine And.intro (show -2147483648 ≤ (z1 + (1 : Int)) ∧ (z1 + (1 : Int)) < 2147483648 by omega) ?_
      refine And.intro (show (0 : Int) ≤ (z1 + (1 : Int)) ∧ (z1 + (1 : Int)) ≤ (200 : Int) by omega) ?_
      have w14 : (fx_up (fx_up (fx_up (fx_up S 15 0 (z1).toNat n) 16 0 (z1).toNat e) 17 0 (z1).toNat d) 13 0 6 (z1 + (1 : Int))) 13 0 6 = (z1 + (1 : Int)) := fx_up_at _ _ _ _ _
      have g15 : WTS (fx_up (fx_up (fx_up (fx_up S 15 0 (z1).toNat n) 16 0 (z1).toNat e) 17 0 (z1).toNat d) 13 0 6 (z1 + (1 : Int))) := fx_pup WTS_stab rfl g12
      have tl : TreeL (fx_up (fx_up (fx_up (fx_up S 15 0 (z1).toNat n) 16 0 (z1).toNat e) 17 0 (z1).toNat d) 13 0 6 (z1 + (1 : Int))) := by first | exact Tree_none (by assumption) (by omega) (by omega) (by omega) | (exfalso; omega)
      intro z16 (z16a : (-2147483648 : Int) ≤ z16) (z16b : z16 ≤ (2147483647 : Int)) (z16c : z16 = (fx_up (fx_up (fx_up (fx_up S 15 0 (z1).toNat n) 16 0 (z1).toNat e) 17 0 (z1).toNat d) 13 0 6 (z1 + (1 : Int))) 13 0 7)
      intro z17 (z17a : -2147483648 ≤ z17) (z17b : z17 < 2147483648) (z17c : -2147483648 ≤ (z16 + e) ∧ (z16 + e) < 2147483648 → z17 = (z16 + e))
      refine And.intro (show (-2147483648 : Int) ≤ z17 ∧ z17 ≤ (2147483647 : Int) by omega) ?_
      have w18 : (fx_up (fx_up (fx_up (fx_up (fx_up S 15 0 (z1).toNat n) 16 0 (z1).toNat e) 17 0 (z1).toNat d) 13 0 6 (z1 + (1 : Int))) 13 0 7 z17) 13 0 6 = (fx_up (fx_up (fx_up (fx_up S 15 0 (z1).toNat n) 16 0 (z1).toNat e) 17 0 (z1).toNat d) 13 0 6 (z1 + (1 : Int))) 13 0 6 := if_neg (fun q => absurd q.2.2 (by decide))
      have g19 : WTS (fx_up (fx_up (fx_up (fx_up (fx_up S 15 0 (z1).toNat n) 16 0 (z1).toNat e) 17 0 (z1).toNat d) 13 0 6 (z1 + (1 : Int))) 13 0 7 z17) := fx_pup WTS_stab rfl g15
      have g20 : TreeL (fx_up (fx_up (fx_up (fx_up (fx_up S 15 0 (z1).toNat n) 16 0 (z1).toNat e) 17 0 (z1).toNat d) 13 0 6 (z1 + (1 : Int))) 13 0 7 z17) := fx_pup TreeL_stab rfl tl
      refine And.intro (fun (h21 : (d ≤ (0 : Int) : Prop)) => ?_) (fun (h21 : ((0 : Int) < d : Prop)) => ?_)
      ·
        refine And.intro (fun (h22 : ((0 : Int) ≤ d : Prop)) => ?_) (fun (h22 : (d < (0 : Int) : Prop)) => ?_)
        ·
          exact hk (fx_up (fx_up (fx_up (fx_up (fx_up S 15 0 (z1).toNat n) 16 0 (z1).toNat e) 17 0 (z1).toNat d) 13 0 6 (z1 + (1 : Int))) 13 0 7 z17) ⟨(fxfr_up (fxfr_up (fxfr_up (fxfr_up (fxfr_up fxfr_rfl rfl) rfl) rfl) rfl) rfl), g20⟩
        ·
          intro z23 z23a z23b z23c
          refine c_Log_forgetDelete (d := z23) (show -2147483648 ≤ z23 ∧ z23 < 2147483648 by omega) (fun (S24 : fxS) (f25 : fxfr [(13, 10), (18, 9999), (19, 9999)] (fx_up (fx_up (fx_up (fx_up (fx_up S 15 0 (z1).toNat n) 16 0 (z1).toNat e) 17 0 (z1).toNat d) 13 0 6 (z1 + (1 : Int))) 13 0 7 z17) S24) => ?_)
          have w26 : S24 13 0 6 = (fx_up (fx_up (fx_up (fx_up (fx_up S 15 0 (z1).toNat n) 16 0 (z1).toNat e) 17 0 (z1).toNat d) 13 0 6 (z1 + (1 : Int))) 13 0 7 z17) 13 0 6 := f25 13 0 6 rfl
          have g27 : WTS S24 := fx_pfr WTS_stab f25 rfl g19
          have g28 : TreeL S24 := fx_pfr TreeL_stab f25 rfl g20
          exact hk S24 ⟨(fxfr_tr (fxfr_up (fxfr_up (fxfr_up (fxfr_up (fxfr_up fxfr_rfl rfl) rfl) rfl) rfl) rfl) f25 rfl), g28⟩
      ·
        refine c_Log_noteDelete (d := d) (show -2147483648 ≤ d ∧ d < 2147483648 by omega) (fun (S29 : fxS) (f30 : fxfr [(13, 10), (18, 9999), (19, 9999)] (fx_up (fx_up (fx_up (fx_up (fx_up S 15 0 (z1).toNat n) 16 0 (z1).toNat e) 17 0 (z1).toNat d) 13 0 6 (z1 + (1 : Int))) 13 0 7 z17) S29) => ?_)
        have w31 : S29 13 0 6 = (fx_up (fx_up (fx_up (fx_up (fx_up S 15 0 (z1).toNat n) 16 0 (z1).toNat e) 17 0 (z1).toNat d) 13 0 6 (z1 + (1 : Int))) 13 0 7 z17) 13 0 6 := f30 13 0 6 rfl
        have g32 : WTS S29 := fx_pfr WTS_stab f30 rfl g19
        have g33 : TreeL S29 := fx_pfr TreeL_stab f30 rfl g20
        refine And.intro (fun (h34 : ((0 : Int) ≤ d : Prop)) => ?_) (fun (h34 : (d < (0 : Int) : Prop)) => ?_)
        ·
          exact hk S29 ⟨(fxfr_tr (fxfr_up (fxfr_up (fxfr_up (fxfr_up (fxfr_up fxfr_rfl rfl) rfl) rfl) rfl) rfl) f30 rfl), g33⟩
        ·
          intro z35 z35a z35b z35c
          refine c_Log_forgetDelete (d := z35) (show -2147483648 ≤ z35 ∧ z35 < 2147483648 by omega) (fun (S36 : fxS) (f37 : fxfr [(13, 10), (18, 9999), (19, 9999)] S29 S36) => ?_)
          have w38 : S36 13 0 6 = S29 13 0 6 := f37 13 0 6 rfl
          have g39 : WTS S36 := fx_pfr WTS_stab f37 rfl g32
          have g40 : TreeL S36 := fx_pfr TreeL_stab f37 rfl g33
          exact hk S36 ⟨(fxfr_tr (fxfr_tr (fxfr_up (fxfr_up (fxfr_up (fxfr_up (fxfr_up fxfr_rfl rfl) rfl) rfl) rfl) rfl) f30 rfl) f37 rfl), g40⟩
    ·
      intro z41 (z41a : (0 : Int) ≤ z41) (z41b : z41 ≤ (200 : Int)) (z41c : z41 = S 13 0 6)
      obtain rfl : z1 = z41 := by omega
      refine And.intro (show 0 ≤ z1 ∧ z1 < 200 by omega) ?_
      refine And.intro (show 0 ≤ n ∧ n < 60 by omega) ?_
      refine c_Node_become20 (i := (z1).toNat) (j := (n).toNat)  (fun (S42 : fxS) ⟨(f43 : fxfr [(20, 0), (20, 1), (20, 3), (20, 4), (20, 5), (20, 6), (20, 7), (20, 11), (20, 12), (21, 9999), (22, 9999), (23, 9999)] S S42), (q44 : S42 20 (z1).toNat 0 = S 4 (n).toNat 0 ∧ S42 20 (z1).toNat 1 = S 4 (n).toNat 1), (g45 : N20 (z1).toNat S S42)⟩ => ?_)
      have w46 : S42 13 0 6 = S 13 0 6 := f43 13 0 6 rfl
      have g47 : WTS S42 := fx_pfr WTS_stab f43 rfl wt
      intro z48 (z48a : (0 : Int) ≤ z48) (z48b : z48 ≤ (200 : Int)) (z48c : z48 = S42 13 0 6)
      obtain rfl : z1 = z48 := by omega
      refine And.intro (show 0 ≤ z1 ∧ z1 < 200 by omega) ?_
      refine And.intro (show (-1 : Int) ≤ n ∧ n ≤ (59 : Int) by omega) ?_
      have w49 : (fx_up S42 15 0 (z1).toNat n) 13 0 6 = S42 13 0 6 := rfl
      have g50 : WTS (fx_up S42 15 0 (z1).toNat n) := fx_pup WTS_stab rfl g47
      intro z51 (z51a : (0 : Int) ≤ z51) (z51b : z51 ≤ (200 : Int)) (z51c : z51 = (fx_up S42 15 0 (z1).toNat n) 13 0 6)
      obtain rfl : z1 = z51 := by omega
      refine And.intro (show 0 ≤ z1 ∧ z1 < 200 by omega) ?_
      refine And.intro (show (-2147483648 : Int) ≤ e ∧ e ≤ (2147483647 : Int) by omega) ?_
      have w52 : (fx_up (fx_up S42 15 0 (z1).toNat n) 16 0 (z1).toNat e) 13 0 6 = (fx_up S42 15 0 (z1).toNat n) 13 0 6 := rfl
      have g53 : WTS (fx_up (fx_up S42 15 0 (z1).toNat n) 16 0 (z1).toNat e) := fx_pup WTS_stab rfl g50
      intro z54 (z54a : (0 : Int) ≤ z54) (z54b : z54 ≤ (200 : Int)) (z54c : z54 = (fx_up (fx_up S42 15 0 (z1).toNat n) 16 0 (z1).toNat e) 13 0 6)
      obtain rfl : z1 = z54 := by omega
      refine And.intro (show 0 ≤ z1 ∧ z1 < 200 by omega) ?_
      refine And.intro (show (-2147483648 : Int) ≤ d ∧ d ≤ (2147483647 : Int) by omega) ?_
      have w55 : (fx_up (fx_up (fx_up S42 15 0 (z1).toNat n) 16 0 (z1).toNat e) 17 0 (z1).toNat d) 13 0 6 = (fx_up (fx_up S42 15 0 (z1).toNat n) 16 0 (z1).toNat e) 13 0 6 := rfl
      have g56 : WTS (fx_up (fx_up (fx_up S42 15 0 (z1).toNat n) 16 0 (z1).toNat e) 17 0 (z1).toNat d) := fx_pup WTS_stab rfl g53
      intro z57 (z57a : (0 : Int) ≤ z57) (z57b : z57 ≤ (200 : Int)) (z57c : z57 = (fx_up (fx_up (fx_up S42 15 0 (z1).toNat n) 16 0 (z1).toNat e) 17 0 (z1).toNat d) 13 0 6)
      obtain rfl : z1 = z57 := by omega
      refine And.intro (show -2147483648 ≤ (z1 + (1 : Int)) ∧ (z1 + (1 : Int)) < 2147483648 by omega) ?_
      refine And.intro (show (0 : Int) ≤ (z1 + (1 : Int)) ∧ (z1 + (1 : Int)) ≤ (200 : Int) by omega) ?_
      have w58 : (fx_up (fx_up (fx_up (fx_up S42 15 0 (z1).toNat n) 16 0 (z1).toNat e) 17 0 (z1).toNat d) 13 0 6 (z1 + (1 : Int))) 13 0 6 = (z1 + (1 : Int)) := fx_up_at _ _ _ _ _
      have g59 : WTS (fx_up (fx_up (fx_up (fx_up S42 15 0 (z1).toNat n) 16 0 (z1).toNat e) 17 0 (z1).toNat d) 13 0 6 (z1 + (1 : Int))) := fx_pup WTS_stab rfl g56
      have tl : TreeL (fx_up (fx_up (fx_up (fx_up S42 15 0 (z1).toNat n) 16 0 (z1).toNat e) 17 0 (z1).toNat d) 13 0 6 (z1 + (1 : Int))) := by first | exact Tree_none (by assumption) (by omega) (by omega) (by omega) | (exfalso; omega)
      intro z60 (z60a : (-2147483648 : Int) ≤ z60) (z60b : z60 ≤ (2147483647 : Int)) (z60c : z60 = (fx_up (fx_up (fx_up (fx_up S42 15 0 (z1).toNat n) 16 0 (z1).toNat e) 17 0 (z1).toNat d) 13 0 6 (z1 + (1 : Int))) 13 0 7)
      intro z61 (z61a : -2147483648 ≤ z61) (z61b : z61 < 2147483648) (z61c : -2147483648 ≤ (z60 + e) ∧ (z60 + e) < 2147483648 → z61 = (z60 + e))
      refine And.intro (show (-2147483648 : Int) ≤ z61 ∧ z61 ≤ (2147483647 : Int) by omega) ?_
      have w62 : (fx_up (fx_up (fx_up (fx_up (fx_up S42 15 0 (z1).toNat n) 16 0 (z1).toNat e) 17 0 (z1).toNat d) 13 0 6 (z1 + (1 : Int))) 13 0 7 z61) 13 0 6 = (fx_up (fx_up (fx_up (fx_up S42 15 0 (z1).toNat n) 16 0 (z1).toNat e) 17 0 (z1).toNat d) 13 0 6 (z1 + (1 : Int))) 13 0 6 := if_neg (fun q => absurd q.2.2 (by decide))
      have g63 : WTS (fx_up (fx_up (fx_up (fx_up (fx_up S42 15 0 (z1).toNat n) 16 0 (z1).toNat e) 17 0 (z1).toNat d) 13 0 6 (z1 + (1 : Int))) 13 0 7 z61) := fx_pup WTS_stab rfl g59
      have g64 : TreeL (fx_up (fx_up (fx_up (fx_up (fx_up S42 15 0 (z1).toNat n) 16 0 (z1).toNat e) 17 0 (z1).toNat d) 13 0 6 (z1 + (1 : Int))) 13 0 7 z61) := fx_pup TreeL_stab rfl tl
      refine And.intro (fun (h65 : (d ≤ (0 : Int) : Prop)) => ?_) (fun (h65 : ((0 : Int) < d : Prop)) => ?_)
      ·
        refine And.intro (fun (h66 : ((0 : Int) ≤ d : Prop)) => ?_) (fun (h66 : (d < (0 : Int) : Prop)) => ?_)
        ·
          exact hk (fx_up (fx_up (fx_up (fx_up (fx_up S42 15 0 (z1).toNat n) 16 0 (z1).toNat e) 17 0 (z1).toNat d) 13 0 6 (z1 + (1 : Int))) 13 0 7 z61) ⟨(fxfr_up (fxfr_up (fxfr_up (fxfr_up (fxfr_up (fxfr_tr fxfr_rfl f43 rfl) rfl) rfl) rfl) rfl) rfl), g64⟩
        ·
          intro z67 z67a z67b z67c
          refine c_Log_forgetDelete (d := z67) (show -2147483648 ≤ z67 ∧ z67 < 2147483648 by omega) (fun (S68 : fxS) (f69 : fxfr [(13, 10), (18, 9999), (19, 9999)] (fx_up (fx_up (fx_up (fx_up (fx_up S42 15 0 (z1).toNat n) 16 0 (z1).toNat e) 17 0 (z1).toNat d) 13 0 6 (z1 + (1 : Int))) 13 0 7 z61) S68) => ?_)
          have w70 : S68 13 0 6 = (fx_up (fx_up (fx_up (fx_up (fx_up S42 15 0 (z1).toNat n) 16 0 (z1).toNat e) 17 0 (z1).toNat d) 13 0 6 (z1 + (1 : Int))) 13 0 7 z61) 13 0 6 := f69 13 0 6 rfl
          have g71 : WTS S68 := fx_pfr WTS_stab f69 rfl g63
          have g72 : TreeL S68 := fx_pfr TreeL_stab f69 rfl g64
          exact hk S68 ⟨(fxfr_tr (fxfr_up (fxfr_up (fxfr_up (fxfr_up (fxfr_up (fxfr_tr fxfr_rfl f43 rfl) rfl) rfl) rfl) rfl) rfl) f69 rfl), g72⟩
      ·
        refine c_Log_noteDelete (d := d) (show -2147483648 ≤ d ∧ d < 2147483648 by omega) (fun (S73 : fxS) (f74 : fxfr [(13, 10), (18, 9999), (19, 9999)] (fx_up (fx_up (fx_up (fx_up (fx_up S42 15 0 (z1).toNat n) 16 0 (z1).toNat e) 17 0 (z1).toNat d) 13 0 6 (z1 + (1 : Int))) 13 0 7 z61) S73) => ?_)
        have w75 : S73 13 0 6 = (fx_up (fx_up (fx_up (fx_up (fx_up S42 15 0 (z1).toNat n) 16 0 (z1).toNat e) 17 0 (z1).toNat d) 13 0 6 (z1 + (1 : Int))) 13 0 7 z61) 13 0 6 := f74 13 0 6 rfl
        have g76 : WTS S73 := fx_pfr WTS_stab f74 rfl g63
        have g77 : TreeL S73 := fx_pfr TreeL_stab f74 rfl g64
        refine And.intro (fun (h78 : ((0 : Int) ≤ d : Prop)) => ?_) (fun (h78 : (d < (0 : Int) : Prop)) => ?_)
        ·
          exact hk S73 ⟨(fxfr_tr (fxfr_up (fxfr_up (fxfr_up (fxfr_up (fxfr_up (fxfr_tr fxfr_rfl f43 rfl) rfl) rfl) rfl) rfl) rfl) f74 rfl), g77⟩
        ·
          intro z79 z79a z79b z79c
          refine c_Log_forgetDelete (d := z79) (show -2147483648 ≤ z79 ∧ z79 < 2147483648 by omega) (fun (S80 : fxS) (f81 : fxfr [(13, 10), (18, 9999), (19, 9999)] S73 S80) => ?_)
          have w82 : S80 13 0 6 = S73 13 0 6 := f81 13 0 6 rfl
          have g83 : WTS S80 := fx_pfr WTS_stab f81 rfl g76
          have g84 : TreeL S80 := fx_pfr TreeL_stab f81 rfl g77
          exact hk S80 ⟨(fxfr_tr (fxfr_tr (fxfr_up (fxfr_up (fxfr_up (fxfr_up (fxfr_up (fxfr_tr fxfr_rfl f43 rfl) rfl) rfl) rfl) rfl) rfl) f74 rfl) f81 rfl), g84⟩
  ·
    refine c_Log_keepAll  wt (fun (z85 : Int) (S86 : fxS) ⟨(f87 : fxfr [(8, 4), (10, 9999), (11, 9999), (13, 6), (13, 7), (19, 9999)] S S86), (q88 : -2147483648 ≤ z85 ∧ z85 < 2147483648 ∧ (S86 13 0 6 = 0)), (g89 : TreeL S86)⟩ => ?_)
    have g90 : WTS S86 := fx_pfr WTS_stab f87 rfl wt
    refine And.intro (fun (h91 : (n < (0 : Int) : Prop)) => ?_) (fun (h91 : ((0 : Int) ≤ n : Prop)) => ?_)
    ·
      intro z92 (z92a : (0 : Int) ≤ z92) (z92b : z92 ≤ (200 : Int)) (z92c : z92 = S86 13 0 6)
      refine And.intro (show 0 ≤ z92 ∧ z92 < 200 by omega) ?_
      refine And.intro (show (-1 : Int) ≤ n ∧ n ≤ (59 : Int) by omega) ?_
      have w93 : (fx_up S86 15 0 (z92).toNat n) 13 0 6 = S86 13 0 6 := rfl
      have g94 : WTS (fx_up S86 15 0 (z92).toNat n) := fx_pup WTS_stab rfl g90
      intro z95 (z95a : (0 : Int) ≤ z95) (z95b : z95 ≤ (200 : Int)) (z95c : z95 = (fx_up S86 15 0 (z92).toNat n) 13 0 6)
      obtain rfl : z92 = z95 := by omega
      refine And.intro (show 0 ≤ z92 ∧ z92 < 200 by omega) ?_
      refine And.intro (show (-2147483648 : Int) ≤ e ∧ e ≤ (2147483647 : Int) by omega) ?_
      have w96 : (fx_up (fx_up S86 15 0 (z92).toNat n) 16 0 (z92).toNat e) 13 0 6 = (fx_up S86 15 0 (z92).toNat n) 13 0 6 := rfl
      have g97 : WTS (fx_up (fx_up S86 15 0 (z92).toNat n) 16 0 (z92).toNat e) := fx_pup WTS_stab rfl g94
      intro z98 (z98a : (0 : Int) ≤ z98) (z98b : z98 ≤ (200 : Int)) (z98c : z98 = (fx_up (fx_up S86 15 0 (z92).toNat n) 16 0 (z92).toNat e) 13 0 6)
      obtain rfl : z92 = z98 := by omega
      refine And.intro (show 0 ≤ z92 ∧ z92 < 200 by omega) ?_
      refine And.intro (show (-2147483648 : Int) ≤ d ∧ d ≤ (2147483647 : Int) by omega) ?_
      have w99 : (fx_up (fx_up (fx_up S86 15 0 (z92).toNat n) 16 0 (z92).toNat e) 17 0 (z92).toNat d) 13 0 6 = (fx_up (fx_up S86 15 0 (z92).toNat n) 16 0 (z92).toNat e) 13 0 6 := rfl
      have g100 : WTS (fx_up (fx_up (fx_up S86 15 0 (z92).toNat n) 16 0 (z92).toNat e) 17 0 (z92).toNat d) := fx_pup WTS_stab rfl g97
      intro z101 (z101a : (0 : Int) ≤ z101) (z101b : z101 ≤ (200 : Int)) (z101c : z101 = (fx_up (fx_up (fx_up S86 15 0 (z92).toNat n) 16 0 (z92).toNat e) 17 0 (z92).toNat d) 13 0 6)
      obtain rfl : z92 = z101 := by omega
      refine And.intro (show -2147483648 ≤ (z92 + (1 : Int)) ∧ (z92 + (1 : Int)) < 2147483648 by omega) ?_
      refine And.intro (show (0 : Int) ≤ (z92 + (1 : Int)) ∧ (z92 + (1 : Int)) ≤ (200 : Int) by omega) ?_
      have w102 : (fx_up (fx_up (fx_up (fx_up S86 15 0 (z92).toNat n) 16 0 (z92).toNat e) 17 0 (z92).toNat d) 13 0 6 (z92 + (1 : Int))) 13 0 6 = (z92 + (1 : Int)) := fx_up_at _ _ _ _ _
      have g103 : WTS (fx_up (fx_up (fx_up (fx_up S86 15 0 (z92).toNat n) 16 0 (z92).toNat e) 17 0 (z92).toNat d) 13 0 6 (z92 + (1 : Int))) := fx_pup WTS_stab rfl g100
      have tl : TreeL (fx_up (fx_up (fx_up (fx_up S86 15 0 (z92).toNat n) 16 0 (z92).toNat e) 17 0 (z92).toNat d) 13 0 6 (z92 + (1 : Int))) := by first | exact Tree_none (by assumption) (by omega) (by omega) (by omega) | (exfalso; omega)
      intro z104 (z104a : (-2147483648 : Int) ≤ z104) (z104b : z104 ≤ (2147483647 : Int)) (z104c : z104 = (fx_up (fx_up (fx_up (fx_up S86 15 0 (z92).toNat n) 16 0 (z92).toNat e) 17 0 (z92).toNat d) 13 0 6 (z92 + (1 : Int))) 13 0 7)
      intro z105 (z105a : -2147483648 ≤ z105) (z105b : z105 < 2147483648) (z105c : -2147483648 ≤ (z104 + e) ∧ (z104 + e) < 2147483648 → z105 = (z104 + e))
      refine And.intro (show (-2147483648 : Int) ≤ z105 ∧ z105 ≤ (2147483647 : Int) by omega) ?_
      have w106 : (fx_up (fx_up (fx_up (fx_up (fx_up S86 15 0 (z92).toNat n) 16 0 (z92).toNat e) 17 0 (z92).toNat d) 13 0 6 (z92 + (1 : Int))) 13 0 7 z105) 13 0 6 = (fx_up (fx_up (fx_up (fx_up S86 15 0 (z92).toNat n) 16 0 (z92).toNat e) 17 0 (z92).toNat d) 13 0 6 (z92 + (1 : Int))) 13 0 6 := if_neg (fun q => absurd q.2.2 (by decide))
      have g107 : WTS (fx_up (fx_up (fx_up (fx_up (fx_up S86 15 0 (z92).toNat n) 16 0 (z92).toNat e) 17 0 (z92).toNat d) 13 0 6 (z92 + (1 : Int))) 13 0 7 z105) := fx_pup WTS_stab rfl g103
      have g108 : TreeL (fx_up (fx_up (fx_up (fx_up (fx_up S86 15 0 (z92).toNat n) 16 0 (z92).toNat e) 17 0 (z92).toNat d) 13 0 6 (z92 + (1 : Int))) 13 0 7 z105) := fx_pup TreeL_stab rfl tl
      refine And.intro (fun (h109 : (d ≤ (0 : Int) : Prop)) => ?_) (fun (h109 : ((0 : Int) < d : Prop)) => ?_)
      ·
        refine And.intro (fun (h110 : ((0 : Int) ≤ d : Prop)) => ?_) (fun (h110 : (d < (0 : Int) : Prop)) => ?_)
        ·
          exact hk (fx_up (fx_up (fx_up (fx_up (fx_up S86 15 0 (z92).toNat n) 16 0 (z92).toNat e) 17 0 (z92).toNat d) 13 0 6 (z92 + (1 : Int))) 13 0 7 z105) ⟨(fxfr_up (fxfr_up (fxfr_up (fxfr_up (fxfr_up (fxfr_tr fxfr_rfl f87 rfl) rfl) rfl) rfl) rfl) rfl), g108⟩
        ·
          intro z111 z111a z111b z111c
          refine c_Log_forgetDelete (d := z111) (show -2147483648 ≤ z111 ∧ z111 < 2147483648 by omega) (fun (S112 : fxS) (f113 : fxfr [(13, 10), (18, 9999), (19, 9999)] (fx_up (fx_up (fx_up (fx_up (fx_up S86 15 0 (z92).toNat n) 16 0 (z92).toNat e) 17 0 (z92).toNat d) 13 0 6 (z92 + (1 : Int))) 13 0 7 z105) S112) => ?_)
          have w114 : S112 13 0 6 = (fx_up (fx_up (fx_up (fx_up (fx_up S86 15 0 (z92).toNat n) 16 0 (z92).toNat e) 17 0 (z92).toNat d) 13 0 6 (z92 + (1 : Int))) 13 0 7 z105) 13 0 6 := f113 13 0 6 rfl
          have g115 : WTS S112 := fx_pfr WTS_stab f113 rfl g107
          have g116 : TreeL S112 := fx_pfr TreeL_stab f113 rfl g108
          exact hk S112 ⟨(fxfr_tr (fxfr_up (fxfr_up (fxfr_up (fxfr_up (fxfr_up (fxfr_tr fxfr_rfl f87 rfl) rfl) rfl) rfl) rfl) rfl) f113 rfl), g116⟩
      ·
        refine c_Log_noteDelete (d := d) (show -2147483648 ≤ d ∧ d < 2147483648 by omega) (fun (S117 : fxS) (f118 : fxfr [(13, 10), (18, 9999), (19, 9999)] (fx_up (fx_up (fx_up (fx_up (fx_up S86 15 0 (z92).toNat n) 16 0 (z92).toNat e) 17 0 (z92).toNat d) 13 0 6 (z92 + (1 : Int))) 13 0 7 z105) S117) => ?_)
        have w119 : S117 13 0 6 = (fx_up (fx_up (fx_up (fx_up (fx_up S86 15 0 (z92).toNat n) 16 0 (z92).toNat e) 17 0 (z92).toNat d) 13 0 6 (z92 + (1 : Int))) 13 0 7 z105) 13 0 6 := f118 13 0 6 rfl
        have g120 : WTS S117 := fx_pfr WTS_stab f118 rfl g107
        have g121 : TreeL S117 := fx_pfr TreeL_stab f118 rfl g108
        refine And.intro (fun (h122 : ((0 : Int) ≤ d : Prop)) => ?_) (fun (h122 : (d < (0 : Int) : Prop)) => ?_)
        ·
          exact hk S117 ⟨(fxfr_tr (fxfr_up (fxfr_up (fxfr_up (fxfr_up (fxfr_up (fxfr_tr fxfr_rfl f87 rfl) rfl) rfl) rfl) rfl) rfl) f118 rfl), g121⟩
        ·
          intro z123 z123a z123b z123c
          refine c_Log_forgetDelete (d := z123) (show -2147483648 ≤ z123 ∧ z123 < 2147483648 by omega) (fun (S124 : fxS) (f125 : fxfr [(13, 10), (18, 9999), (19, 9999)] S117 S124) => ?_)
          have w126 : S124 13 0 6 = S117 13 0 6 := f125 13 0 6 rfl
          have g127 : WTS S124 := fx_pfr WTS_stab f125 rfl g120
          have g128 : TreeL S124 := fx_pfr TreeL_stab f125 rfl g121
          exact hk S124 ⟨(fxfr_tr (fxfr_tr (fxfr_up (fxfr_up (fxfr_up (fxfr_up (fxfr_up (fxfr_tr fxfr_rfl f87 rfl) rfl) rfl) rfl) rfl) rfl) f118 rfl) f125 rfl), g128⟩
    ·
      intro z129 (z129a : (0 : Int) ≤ z129) (z129b : z129 ≤ (200 : Int)) (z129c : z129 = S86 13 0 6)
      refine And.intro (show 0 ≤ z129 ∧ z129 < 200 by omega) ?_
      refine And.intro (show 0 ≤ n ∧ n < 60 by omega) ?_
      refine c_Node_become20 (i := (z129).toNat) (j := (n).toNat)  (fun (S130 : fxS) ⟨(f131 : fxfr [(20, 0), (20, 1), (20, 3), (20, 4), (20, 5), (20, 6), (20, 7), (20, 11), (20, 12), (21, 9999), (22, 9999), (23, 9999)] S86 S130), (q132 : S130 20 (z129).toNat 0 = S86 4 (n).toNat 0 ∧ S130 20 (z129).toNat 1 = S86 4 (n).toNat 1), (g133 : N20 (z129).toNat S86 S130)⟩ => ?_)
      have w134 : S130 13 0 6 = S86 13 0 6 := f131 13 0 6 rfl
      have g135 : WTS S130 := fx_pfr WTS_stab f131 rfl g90
      intro z136 (z136a : (0 : Int) ≤ z136) (z136b : z136 ≤ (200 : Int)) (z136c : z136 = S130 13 0 6)
      obtain rfl : z129 = z136 := by omega
      refine And.intro (show 0 ≤ z129 ∧ z129 < 200 by omega) ?_
      refine And.intro (show (-1 : Int) ≤ n ∧ n ≤ (59 : Int) by omega) ?_
      have w137 : (fx_up S130 15 0 (z129).toNat n) 13 0 6 = S130 13 0 6 := rfl
      have g138 : WTS (fx_up S130 15 0 (z129).toNat n) := fx_pup WTS_stab rfl g135
      intro z139 (z139a : (0 : Int) ≤ z139) (z139b : z139 ≤ (200 : Int)) (z139c : z139 = (fx_up S130 15 0 (z129).toNat n) 13 0 6)
      obtain rfl : z129 = z139 := by omega
      refine And.intro (show 0 ≤ z129 ∧ z129 < 200 by omega) ?_
      refine And.intro (show (-2147483648 : Int) ≤ e ∧ e ≤ (2147483647 : Int) by omega) ?_
      have w140 : (fx_up (fx_up S130 15 0 (z129).toNat n) 16 0 (z129).toNat e) 13 0 6 = (fx_up S130 15 0 (z129).toNat n) 13 0 6 := rfl
      have g141 : WTS (fx_up (fx_up S130 15 0 (z129).toNat n) 16 0 (z129).toNat e) := fx_pup WTS_stab rfl g138
      intro z142 (z142a : (0 : Int) ≤ z142) (z142b : z142 ≤ (200 : Int)) (z142c : z142 = (fx_up (fx_up S130 15 0 (z129).toNat n) 16 0 (z129).toNat e) 13 0 6)
      obtain rfl : z129 = z142 := by omega
      refine And.intro (show 0 ≤ z129 ∧ z129 < 200 by omega) ?_
      refine And.intro (show (-2147483648 : Int) ≤ d ∧ d ≤ (2147483647 : Int) by omega) ?_
      have w143 : (fx_up (fx_up (fx_up S130 15 0 (z129).toNat n) 16 0 (z129).toNat e) 17 0 (z129).toNat d) 13 0 6 = (fx_up (fx_up S130 15 0 (z129).toNat n) 16 0 (z129).toNat e) 13 0 6 := rfl
      have g144 : WTS (fx_up (fx_up (fx_up S130 15 0 (z129).toNat n) 16 0 (z129).toNat e) 17 0 (z129).toNat d) := fx_pup WTS_stab rfl g141
      intro z145 (z145a : (0 : Int) ≤ z145) (z145b : z145 ≤ (200 : Int)) (z145c : z145 = (fx_up (fx_up (fx_up S130 15 0 (z129).toNat n) 16 0 (z129).toNat e) 17 0 (z129).toNat d) 13 0 6)
      obtain rfl : z129 = z145 := by omega
      refine And.intro (show -2147483648 ≤ (z129 + (1 : Int)) ∧ (z129 + (1 : Int)) < 2147483648 by omega) ?_
      refine And.intro (show (0 : Int) ≤ (z129 + (1 : Int)) ∧ (z129 + (1 : Int)) ≤ (200 : Int) by omega) ?_
      have w146 : (fx_up (fx_up (fx_up (fx_up S130 15 0 (z129).toNat n) 16 0 (z129).toNat e) 17 0 (z129).toNat d) 13 0 6 (z129 + (1 : Int))) 13 0 6 = (z129 + (1 : Int)) := fx_up_at _ _ _ _ _
      have g147 : WTS (fx_up (fx_up (fx_up (fx_up S130 15 0 (z129).toNat n) 16 0 (z129).toNat e) 17 0 (z129).toNat d) 13 0 6 (z129 + (1 : Int))) := fx_pup WTS_stab rfl g144
      have tl : TreeL (fx_up (fx_up (fx_up (fx_up S130 15 0 (z129).toNat n) 16 0 (z129).toNat e) 17 0 (z129).toNat d) 13 0 6 (z129 + (1 : Int))) := by first | exact Tree_none (by assumption) (by omega) (by omega) (by omega) | (exfalso; omega)
      intro z148 (z148a : (-2147483648 : Int) ≤ z148) (z148b : z148 ≤ (2147483647 : Int)) (z148c : z148 = (fx_up (fx_up (fx_up (fx_up S130 15 0 (z129).toNat n) 16 0 (z129).toNat e) 17 0 (z129).toNat d) 13 0 6 (z129 + (1 : Int))) 13 0 7)
      intro z149 (z149a : -2147483648 ≤ z149) (z149b : z149 < 2147483648) (z149c : -2147483648 ≤ (z148 + e) ∧ (z148 + e) < 2147483648 → z149 = (z148 + e))
      refine And.intro (show (-2147483648 : Int) ≤ z149 ∧ z149 ≤ (2147483647 : Int) by omega) ?_
      have w150 : (fx_up (fx_up (fx_up (fx_up (fx_up S130 15 0 (z129).toNat n) 16 0 (z129).toNat e) 17 0 (z129).toNat d) 13 0 6 (z129 + (1 : Int))) 13 0 7 z149) 13 0 6 = (fx_up (fx_up (fx_up (fx_up S130 15 0 (z129).toNat n) 16 0 (z129).toNat e) 17 0 (z129).toNat d) 13 0 6 (z129 + (1 : Int))) 13 0 6 := if_neg (fun q => absurd q.2.2 (by decide))
      have g151 : WTS (fx_up (fx_up (fx_up (fx_up (fx_up S130 15 0 (z129).toNat n) 16 0 (z129).toNat e) 17 0 (z129).toNat d) 13 0 6 (z129 + (1 : Int))) 13 0 7 z149) := fx_pup WTS_stab rfl g147
      have g152 : TreeL (fx_up (fx_up (fx_up (fx_up (fx_up S130 15 0 (z129).toNat n) 16 0 (z129).toNat e) 17 0 (z129).toNat d) 13 0 6 (z129 + (1 : Int))) 13 0 7 z149) := fx_pup TreeL_stab rfl tl
      refine And.intro (fun (h153 : (d ≤ (0 : Int) : Prop)) => ?_) (fun (h153 : ((0 : Int) < d : Prop)) => ?_)
      ·
        refine And.intro (fun (h154 : ((0 : Int) ≤ d : Prop)) => ?_) (fun (h154 : (d < (0 : Int) : Prop)) => ?_)
        ·
          exact hk (fx_up (fx_up (fx_up (fx_up (fx_up S130 15 0 (z129).toNat n) 16 0 (z129).toNat e) 17 0 (z129).toNat d) 13 0 6 (z129 + (1 : Int))) 13 0 7 z149) ⟨(fxfr_up (fxfr_up (fxfr_up (fxfr_up (fxfr_up (fxfr_tr (fxfr_tr fxfr_rfl f87 rfl) f131 rfl) rfl) rfl) rfl) rfl) rfl), g152⟩
        ·
          intro z155 z155a z155b z155c
          refine c_Log_forgetDelete (d := z155) (show -2147483648 ≤ z155 ∧ z155 < 2147483648 by omega) (fun (S156 : fxS) (f157 : fxfr [(13, 10), (18, 9999), (19, 9999)] (fx_up (fx_up (fx_up (fx_up (fx_up S130 15 0 (z129).toNat n) 16 0 (z129).toNat e) 17 0 (z129).toNat d) 13 0 6 (z129 + (1 : Int))) 13 0 7 z149) S156) => ?_)
          have w158 : S156 13 0 6 = (fx_up (fx_up (fx_up (fx_up (fx_up S130 15 0 (z129).toNat n) 16 0 (z129).toNat e) 17 0 (z129).toNat d) 13 0 6 (z129 + (1 : Int))) 13 0 7 z149) 13 0 6 := f157 13 0 6 rfl
          have g159 : WTS S156 := fx_pfr WTS_stab f157 rfl g151
          have g160 : TreeL S156 := fx_pfr TreeL_stab f157 rfl g152
          exact hk S156 ⟨(fxfr_tr (fxfr_up (fxfr_up (fxfr_up (fxfr_up (fxfr_up (fxfr_tr (fxfr_tr fxfr_rfl f87 rfl) f131 rfl) rfl) rfl) rfl) rfl) rfl) f157 rfl), g160⟩
      ·
        refine c_Log_noteDelete (d := d) (show -2147483648 ≤ d ∧ d < 2147483648 by omega) (fun (S161 : fxS) (f162 : fxfr [(13, 10), (18, 9999), (19, 9999)] (fx_up (fx_up (fx_up (fx_up (fx_up S130 15 0 (z129).toNat n) 16 0 (z129).toNat e) 17 0 (z129).toNat d) 13 0 6 (z129 + (1 : Int))) 13 0 7 z149) S161) => ?_)
        have w163 : S161 13 0 6 = (fx_up (fx_up (fx_up (fx_up (fx_up S130 15 0 (z129).toNat n) 16 0 (z129).toNat e) 17 0 (z129).toNat d) 13 0 6 (z129 + (1 : Int))) 13 0 7 z149) 13 0 6 := f162 13 0 6 rfl
        have g164 : WTS S161 := fx_pfr WTS_stab f162 rfl g151
        have g165 : TreeL S161 := fx_pfr TreeL_stab f162 rfl g152
        refine And.intro (fun (h166 : ((0 : Int) ≤ d : Prop)) => ?_) (fun (h166 : (d < (0 : Int) : Prop)) => ?_)
        ·
          exact hk S161 ⟨(fxfr_tr (fxfr_up (fxfr_up (fxfr_up (fxfr_up (fxfr_up (fxfr_tr (fxfr_tr fxfr_rfl f87 rfl) f131 rfl) rfl) rfl) rfl) rfl) rfl) f162 rfl), g165⟩
        ·
          intro z167 z167a z167b z167c
          refine c_Log_forgetDelete (d := z167) (show -2147483648 ≤ z167 ∧ z167 < 2147483648 by omega) (fun (S168 : fxS) (f169 : fxfr [(13, 10), (18, 9999), (19, 9999)] S161 S168) => ?_)
          have w170 : S168 13 0 6 = S161 13 0 6 := f169 13 0 6 rfl
          have g171 : WTS S168 := fx_pfr WTS_stab f169 rfl g164
          have g172 : TreeL S168 := fx_pfr TreeL_stab f169 rfl g165
          exact hk S168 ⟨(fxfr_tr (fxfr_tr (fxfr_up (fxfr_up (fxfr_up (fxfr_up (fxfr_up (fxfr_tr (fxfr_tr fxfr_rfl f87 rfl) f131 rfl) rfl) rfl) rfl) rfl) rfl) f162 rfl) f169 rfl), g172⟩
theorem z_fill7 {l : Launch} {k : fxK} {S : fxS} {i : Nat} {v : Int} (p0 : -1 ≤ v ∧ v ≤ 207) (hk : ∀ (S' : fxS) , (fxfr [(7, 9999)] S S') → k none S') : ∀ m : Nat, (∀ (j e : Int) (S1 : fxS), (fxfr [(7, 9999)] S S1) → (0 ≤ j ∧ j ≤ 32) → (e = 32) → 33-j ≤ (m : Int) → fZ l 12 k 5 [some (.inr (.inr (7, i))), some (.inl v), some (.inl j), some (.inl e)] [] S1) := by
  intro m
  induction m with
  | zero =>
    intro j e S1 hf i0 i1 hmu
    exfalso
    omega
  | succ m ih =>
    intro j e S1 hf i0 i1 hmu
    refine fxz_12 400 ?_
    refine And.intro (fun (h1 : (e ≤ j : Prop)) => ?_) (fun (h1 : (j < e : Prop)) => ?_)
    ·
      exact hk S1 hf
    ·
      refine And.intro (show 0 ≤ j ∧ j < 32 by omega) ?_
      refine And.intro (show (-1 : Int) ≤ v ∧ v ≤ (207 : Int) by omega) ?_
      refine And.intro (by decide) (And.intro (show -2147483648 ≤ j + (1 : Int) ∧ j + (1 : Int) < 2147483648 by omega) ?_)
      exact ih (j + (1 : Int)) e (fx_up S1 7 i (j).toNat v) (fxfr_up hf rfl) (by omega) (by omega) (by omega)
theorem c_fill7 {l : Launch} {k : fxK} {S : fxS} {i : Nat} {v : Int} (p0 : -1 ≤ v ∧ v ≤ 207) (hk : ∀ (S' : fxS) , (fxfr [(7, 9999)] S S') → k none S') : fC l 12 [.inr (.inr (7, i)), .inl v] S k := by
  refine fxe_12 (Nat.le_of_ble_eq_true rfl) (fxz_12 400 ?_)
  refine And.intro (by decide) ?_
  refine And.intro (by decide) ?_
  exact (z_fill7 p0 hk (33-(0 : Int)).toNat) (0 : Int) (32 : Int) S fxfr_rfl (by omega) (by omega) (by omega)
theorem z_fill10 {l : Launch} {k : fxK} {S : fxS} {i : Nat} {v : Int} (p0 : 0 ≤ v ∧ v ≤ 2) (hk : ∀ (S' : fxS) , (fxfr [(10, 9999)] S S') → k none S') : ∀ m : Nat, (∀ (j e : Int) (S1 : fxS), (fxfr [(10, 9999)] S S1) → (0 ≤ j ∧ j ≤ 208) → (e = 208) → 209-j ≤ (m : Int) → fZ l 12 k 5 [some (.inr (.inr (10, i))), some (.inl v), some (.inl j), some (.inl e)] [] S1) := by
  intro m
  induction m with
  | zero =>
    intro j e S1 hf i0 i1 hmu
    exfalso
    omega
  | succ m ih =>
    intro j e S1 hf i0 i1 hmu
    refine fxz_12 400 ?_
    refine And.intro (fun (h1 : (e ≤ j : Prop)) => ?_) (fun (h1 : (j < e : Prop)) => ?_)
    ·
      exact hk S1 hf
    ·
      refine And.intro (show 0 ≤ j ∧ j < 208 by omega) ?_
      refine And.intro (show (0 : Int) ≤ v ∧ v ≤ (2 : Int) by omega) ?_
      refine And.intro (by decide) (And.intro (show -2147483648 ≤ j + (1 : Int) ∧ j + (1 : Int) < 2147483648 by omega) ?_)
      exact ih (j + (1 : Int)) e (fx_up S1 10 i (j).toNat v) (fxfr_up hf rfl) (by omega) (by omega) (by omega)
theorem c_fill10 {l : Launch} {k : fxK} {S : fxS} {i : Nat} {v : Int} (p0 : 0 ≤ v ∧ v ≤ 2) (hk : ∀ (S' : fxS) , (fxfr [(10, 9999)] S S') → k none S') : fC l 12 [.inr (.inr (10, i)), .inl v] S k := by
  refine fxe_12 (Nat.le_of_ble_eq_true rfl) (fxz_12 400 ?_)
  refine And.intro (by decide) ?_
  refine And.intro (by decide) ?_
  exact (z_fill10 p0 hk (209-(0 : Int)).toNat) (0 : Int) (208 : Int) S fxfr_rfl (by omega) (by omega) (by omega)
theorem c_Node_clear {l : Launch} {k : fxK} {S : fxS} {i : Nat}  (hk : ∀ (S' : fxS) , (fxfr [(4, 0), (4, 1), (4, 3), (4, 4), (4, 5), (4, 6), (4, 7), (4, 11), (4, 12), (7, 9999)] S S' ∧ (S' 4 i 0 = 0 ∧ S' 4 i 1 = 0) ∧ (N4 i S S')) → k none S') : fC l 13 [.inr (.inr (4, i))] S k := by
  have n1 : N4 i S S := N4_rfl
  refine fxe_13 (Nat.le_of_ble_eq_true rfl) (fxz_13 400 ?_)
  refine And.intro (show (0 : Int) ≤ (0 : Int) ∧ (0 : Int) ≤ (2 : Int) by omega) ?_
  have w2 : (fx_up S 4 i 0 (0 : Int)) 4 i 0 = (0 : Int) := fx_up_at _ _ _ _ _
  have w3 : (fx_up S 4 i 0 (0 : Int)) 4 i 1 = S 4 i 1 := if_neg (fun q => absurd q.2.2 (by decide))
  have g4 : N4 i S (fx_up S 4 i 0 (0 : Int)) := N4_up n1
  refine And.intro (show (0 : Int) ≤ (0 : Int) ∧ (0 : Int) ≤ (59 : Int) by omega) ?_
  have w5 : (fx_up (fx_up S 4 i 0 (0 : Int)) 4 i 1 (0 : Int)) 4 i 0 = (fx_up S 4 i 0 (0 : Int)) 4 i 0 := if_neg (fun q => absurd q.2.2 (by decide))
  have w6 : (fx_up (fx_up S 4 i 0 (0 : Int)) 4 i 1 (0 : Int)) 4 i 1 = (0 : Int) := fx_up_at _ _ _ _ _
  have g7 : N4 i S (fx_up (fx_up S 4 i 0 (0 : Int)) 4 i 1 (0 : Int)) := N4_up g4
  refine And.intro (show (-2147483648 : Int) ≤ (0 : Int) ∧ (0 : Int) ≤ (2147483647 : Int) by omega) ?_
  have w8 : (fx_up (fx_up (fx_up S 4 i 0 (0 : Int)) 4 i 1 (0 : Int)) 4 i 3 (0 : Int)) 4 i 0 = (fx_up (fx_up S 4 i 0 (0 : Int)) 4 i 1 (0 : Int)) 4 i 0 := if_neg (fun q => absurd q.2.2 (by decide))
  have w9 : (fx_up (fx_up (fx_up S 4 i 0 (0 : Int)) 4 i 1 (0 : Int)) 4 i 3 (0 : Int)) 4 i 1 = (fx_up (fx_up S 4 i 0 (0 : Int)) 4 i 1 (0 : Int)) 4 i 1 := if_neg (fun q => absurd q.2.2 (by decide))
  have g10 : N4 i S (fx_up (fx_up (fx_up S 4 i 0 (0 : Int)) 4 i 1 (0 : Int)) 4 i 3 (0 : Int)) := fx_pup N4_stab rfl g7
  refine And.intro (show (0 : Int) ≤ (0 : Int) ∧ (0 : Int) ≤ (1024 : Int) by omega) ?_
  have w11 : (fx_up (fx_up (fx_up (fx_up S 4 i 0 (0 : Int)) 4 i 1 (0 : Int)) 4 i 3 (0 : Int)) 4 i 4 (0 : Int)) 4 i 0 = (fx_up (fx_up (fx_up S 4 i 0 (0 : Int)) 4 i 1 (0 : Int)) 4 i 3 (0 : Int)) 4 i 0 := if_neg (fun q => absurd q.2.2 (by decide))
  have w12 : (fx_up (fx_up (fx_up (fx_up S 4 i 0 (0 : Int)) 4 i 1 (0 : Int)) 4 i 3 (0 : Int)) 4 i 4 (0 : Int)) 4 i 1 = (fx_up (fx_up (fx_up S 4 i 0 (0 : Int)) 4 i 1 (0 : Int)) 4 i 3 (0 : Int)) 4 i 1 := if_neg (fun q => absurd q.2.2 (by decide))
  have g13 : N4 i S (fx_up (fx_up (fx_up (fx_up S 4 i 0 (0 : Int)) 4 i 1 (0 : Int)) 4 i 3 (0 : Int)) 4 i 4 (0 : Int)) := fx_pup N4_stab rfl g10
  refine And.intro (show (-2147483648 : Int) ≤ (0 : Int) ∧ (0 : Int) ≤ (2147483647 : Int) by omega) ?_
  have w14 : (fx_up (fx_up (fx_up (fx_up (fx_up S 4 i 0 (0 : Int)) 4 i 1 (0 : Int)) 4 i 3 (0 : Int)) 4 i 4 (0 : Int)) 4 i 5 (0 : Int)) 4 i 0 = (fx_up (fx_up (fx_up (fx_up S 4 i 0 (0 : Int)) 4 i 1 (0 : Int)) 4 i 3 (0 : Int)) 4 i 4 (0 : Int)) 4 i 0 := if_neg (fun q => absurd q.2.2 (by decide))
  have w15 : (fx_up (fx_up (fx_up (fx_up (fx_up S 4 i 0 (0 : Int)) 4 i 1 (0 : Int)) 4 i 3 (0 : Int)) 4 i 4 (0 : Int)) 4 i 5 (0 : Int)) 4 i 1 = (fx_up (fx_up (fx_up (fx_up S 4 i 0 (0 : Int)) 4 i 1 (0 : Int)) 4 i 3 (0 : Int)) 4 i 4 (0 : Int)) 4 i 1 := if_neg (fun q => absurd q.2.2 (by decide))
  have g16 : N4 i S (fx_up (fx_up (fx_up (fx_up (fx_up S 4 i 0 (0 : Int)) 4 i 1 (0 : Int)) 4 i 3 (0 : Int)) 4 i 4 (0 : Int)) 4 i 5 (0 : Int)) := fx_pup N4_stab rfl g13
  refine And.intro (show (-2147483648 : Int) ≤ (0 : Int) ∧ (0 : Int) ≤ (2147483647 : Int) by omega) ?_
  have w17 : (fx_up (fx_up (fx_up (fx_up (fx_up (fx_up S 4 i 0 (0 : Int)) 4 i 1 (0 : Int)) 4 i 3 (0 : Int)) 4 i 4 (0 : Int)) 4 i 5 (0 : Int)) 4 i 6 (0 : Int)) 4 i 0 = (fx_up (fx_up (fx_up (fx_up (fx_up S 4 i 0 (0 : Int)) 4 i 1 (0 : Int)) 4 i 3 (0 : Int)) 4 i 4 (0 : Int)) 4 i 5 (0 : Int)) 4 i 0 := if_neg (fun q => absurd q.2.2 (by decide))
  have w18 : (fx_up (fx_up (fx_up (fx_up (fx_up (fx_up S 4 i 0 (0 : Int)) 4 i 1 (0 : Int)) 4 i 3 (0 : Int)) 4 i 4 (0 : Int)) 4 i 5 (0 : Int)) 4 i 6 (0 : Int)) 4 i 1 = (fx_up (fx_up (fx_up (fx_up (fx_up S 4 i 0 (0 : Int)) 4 i 1 (0 : Int)) 4 i 3 (0 : Int)) 4 i 4 (0 : Int)) 4 i 5 (0 : Int)) 4 i 1 := if_neg (fun q => absurd q.2.2 (by decide))
  have g19 : N4 i S (fx_up (fx_up (fx_up (fx_up (fx_up (fx_up S 4 i 0 (0 : Int)) 4 i 1 (0 : Int)) 4 i 3 (0 : Int)) 4 i 4 (0 : Int)) 4 i 5 (0 : Int)) 4 i 6 (0 : Int)) := fx_pup N4_stab rfl g16
  refine And.intro (show (0 : Int) ≤ (0 : Int) ∧ (0 : Int) ≤ (2 : Int) by omega) ?_
  have w20 : (fx_up (fx_up (fx_up (fx_up (fx_up (fx_up (fx_up S 4 i 0 (0 : Int)) 4 i 1 (0 : Int)) 4 i 3 (0 : Int)) 4 i 4 (0 : Int)) 4 i 5 (0 : Int)) 4 i 6 (0 : Int)) 4 i 7 (0 : Int)) 4 i 0 = (fx_up (fx_up (fx_up (fx_up (fx_up (fx_up S 4 i 0 (0 : Int)) 4 i 1 (0 : Int)) 4 i 3 (0 : Int)) 4 i 4 (0 : Int)) 4 i 5 (0 : Int)) 4 i 6 (0 : Int)) 4 i 0 := if_neg (fun q => absurd q.2.2 (by decide))
  have w21 : (fx_up (fx_up (fx_up (fx_up (fx_up (fx_up (fx_up S 4 i 0 (0 : Int)) 4 i 1 (0 : Int)) 4 i 3 (0 : Int)) 4 i 4 (0 : Int)) 4 i 5 (0 : Int)) 4 i 6 (0 : Int)) 4 i 7 (0 : Int)) 4 i 1 = (fx_up (fx_up (fx_up (fx_up (fx_up (fx_up S 4 i 0 (0 : Int)) 4 i 1 (0 : Int)) 4 i 3 (0 : Int)) 4 i 4 (0 : Int)) 4 i 5 (0 : Int)) 4 i 6 (0 : Int)) 4 i 1 := if_neg (fun q => absurd q.2.2 (by decide))
  have g22 : N4 i S (fx_up (fx_up (fx_up (fx_up (fx_up (fx_up (fx_up S 4 i 0 (0 : Int)) 4 i 1 (0 : Int)) 4 i 3 (0 : Int)) 4 i 4 (0 : Int)) 4 i 5 (0 : Int)) 4 i 6 (0 : Int)) 4 i 7 (0 : Int)) := fx_pup N4_stab rfl g19
  refine c_fill7 (i := i) (v := (-1 : Int)) (show -1 ≤ (-1 : Int) ∧ (-1 : Int) ≤ 207 by omega) (fun (S23 : fxS) (f24 : fxfr [(7, 9999)] (fx_up (fx_up (fx_up (fx_up (fx_up (fx_up (fx_up S 4 i 0 (0 : Int)) 4 i 1 (0 : Int)) 4 i 3 (0 : Int)) 4 i 4 (0 : Int)) 4 i 5 (0 : Int)) 4 i 6 (0 : Int)) 4 i 7 (0 : Int)) S23) => ?_)
  have w25 : S23 4 i 0 = (fx_up (fx_up (fx_up (fx_up (fx_up (fx_up (fx_up S 4 i 0 (0 : Int)) 4 i 1 (0 : Int)) 4 i 3 (0 : Int)) 4 i 4 (0 : Int)) 4 i 5 (0 : Int)) 4 i 6 (0 : Int)) 4 i 7 (0 : Int)) 4 i 0 := f24 4 i 0 rfl
  have w26 : S23 4 i 1 = (fx_up (fx_up (fx_up (fx_up (fx_up (fx_up (fx_up S 4 i 0 (0 : Int)) 4 i 1 (0 : Int)) 4 i 3 (0 : Int)) 4 i 4 (0 : Int)) 4 i 5 (0 : Int)) 4 i 6 (0 : Int)) 4 i 7 (0 : Int)) 4 i 1 := f24 4 i 1 rfl
  have g27 : N4 i S S23 := fx_pfr N4_stab f24 rfl g22
  refine And.intro (show (-2147483648 : Int) ≤ (0 : Int) ∧ (0 : Int) ≤ (2147483647 : Int) by omega) ?_
  have w28 : (fx_up S23 4 i 11 (0 : Int)) 4 i 0 = S23 4 i 0 := if_neg (fun q => absurd q.2.2 (by decide))
  have w29 : (fx_up S23 4 i 11 (0 : Int)) 4 i 1 = S23 4 i 1 := if_neg (fun q => absurd q.2.2 (by decide))
  have g30 : N4 i S (fx_up S23 4 i 11 (0 : Int)) := fx_pup N4_stab rfl g27
  refine And.intro (show (-2147483648 : Int) ≤ (0 : Int) ∧ (0 : Int) ≤ (2147483647 : Int) by omega) ?_
  have w31 : (fx_up (fx_up S23 4 i 11 (0 : Int)) 4 i 12 (0 : Int)) 4 i 0 = (fx_up S23 4 i 11 (0 : Int)) 4 i 0 := if_neg (fun q => absurd q.2.2 (by decide))
  have w32 : (fx_up (fx_up S23 4 i 11 (0 : Int)) 4 i 12 (0 : Int)) 4 i 1 = (fx_up S23 4 i 11 (0 : Int)) 4 i 1 := if_neg (fun q => absurd q.2.2 (by decide))
  have g33 : N4 i S (fx_up (fx_up S23 4 i 11 (0 : Int)) 4 i 12 (0 : Int)) := fx_pup N4_stab rfl g30
  exact hk (fx_up (fx_up S23 4 i 11 (0 : Int)) 4 i 12 (0 : Int)) ⟨(fxfr_up (fxfr_up (fxfr_tr (fxfr_up (fxfr_up (fxfr_up (fxfr_up (fxfr_up (fxfr_up (fxfr_up fxfr_rfl rfl) rfl) rfl) rfl) rfl) rfl) rfl) f24 rfl) rfl) rfl), by omega, g33⟩
theorem c_Tree_settle {l : Launch} {k : fxK} {S : fxS} {n : Int} {o : Int} {x : Int} {q : Int} (p0 : 1 ≤ n ∧ n < 60) (p1 : 0 ≤ o ∧ o < 60) (p2 : 1 ≤ q ∧ q ≤ 2) (hk : ∀ (S' : fxS) , (fxfr [(4, 0), (4, 1), (4, 3), (4, 4), (4, 5), (4, 6), (4, 7), (4, 11), (4, 12), (7, 9999)] S S' ∧ (S' 4 (n).toNat 0 = q ∧ S' 4 (n).toNat 1 = o) ∧ (N4 (n).toNat S S')) → k none S') : fC l 14 [.inr (.inr (2, 0)), .inl n, .inl o, .inr (.inl x), .inl q] S k := by
  have n1 : N4 (n).toNat S S := N4_rfl
  refine fxe_14 (Nat.le_of_ble_eq_true rfl) (fxz_14 400 ?_)
  refine And.intro (show 0 ≤ n ∧ n < 60 by omega) ?_
  refine And.intro (by decide) ?_
  refine c_Node_clear (i := (n).toNat)  (fun (S2 : fxS) ⟨(f3 : fxfr [(4, 0), (4, 1), (4, 3), (4, 4), (4, 5), (4, 6), (4, 7), (4, 11), (4, 12), (7, 9999)] S S2), (q4 : S2 4 (n).toNat 0 = 0 ∧ S2 4 (n).toNat 1 = 0), (g5 : N4 (n).toNat S S2)⟩ => ?_)
  refine And.intro (show (0 : Int) ≤ q ∧ q ≤ (2 : Int) by omega) ?_
  have w6 : (fx_up S2 4 (n).toNat 0 q) 4 (n).toNat 0 = q := fx_up_at _ _ _ _ _
  have w7 : (fx_up S2 4 (n).toNat 0 q) 4 (n).toNat 1 = S2 4 (n).toNat 1 := if_neg (fun q => absurd q.2.2 (by decide))
  have g8 : N4 (n).toNat S (fx_up S2 4 (n).toNat 0 q) := N4_up g5
  refine And.intro (show (0 : Int) ≤ o ∧ o ≤ (59 : Int) by omega) ?_
  have w9 : (fx_up (fx_up S2 4 (n).toNat 0 q) 4 (n).toNat 1 o) 4 (n).toNat 0 = (fx_up S2 4 (n).toNat 0 q) 4 (n).toNat 0 := if_neg (fun q => absurd q.2.2 (by decide))
  have w10 : (fx_up (fx_up S2 4 (n).toNat 0 q) 4 (n).toNat 1 o) 4 (n).toNat 1 = o := fx_up_at _ _ _ _ _
  have g11 : N4 (n).toNat S (fx_up (fx_up S2 4 (n).toNat 0 q) 4 (n).toNat 1 o) := N4_up g8
  intro z12 (z12a : (-2147483648 : Int) ≤ z12) (z12b : z12 ≤ (2147483647 : Int)) (z12c : z12 = (fx_up (fx_up S2 4 (n).toNat 0 q) 4 (n).toNat 1 o) 2 0 1)
  refine And.intro (show (-2147483648 : Int) ≤ z12 ∧ z12 ≤ (2147483647 : Int) by omega) ?_
  have w13 : (fx_up (fx_up (fx_up S2 4 (n).toNat 0 q) 4 (n).toNat 1 o) 4 (n).toNat 6 z12) 4 (n).toNat 0 = (fx_up (fx_up S2 4 (n).toNat 0 q) 4 (n).toNat 1 o) 4 (n).toNat 0 := if_neg (fun q => absurd q.2.2 (by decide))
  have w14 : (fx_up (fx_up (fx_up S2 4 (n).toNat 0 q) 4 (n).toNat 1 o) 4 (n).toNat 6 z12) 4 (n).toNat 1 = (fx_up (fx_up S2 4 (n).toNat 0 q) 4 (n).toNat 1 o) 4 (n).toNat 1 := if_neg (fun q => absurd q.2.2 (by decide))
  have g15 : N4 (n).toNat S (fx_up (fx_up (fx_up S2 4 (n).toNat 0 q) 4 (n).toNat 1 o) 4 (n).toNat 6 z12) := fx_pup N4_stab rfl g11
  exact hk (fx_up (fx_up (fx_up S2 4 (n).toNat 0 q) 4 (n).toNat 1 o) 4 (n).toNat 6 z12) ⟨(fxfr_up (fxfr_up (fxfr_up (fxfr_tr fxfr_rfl f3 rfl) rfl) rfl) rfl), by omega, g15⟩
theorem c_Changes_create {l : Launch} {k : fxK} {S : fxS} {o : Int} {x : Int} {q : Int} (p0 : 0 ≤ o ∧ o < 60) (p1 : 0 ≤ q ∧ q ≤ 1) (p2 : S 4 (o).toNat 0 = 1) (p3 : (depF (fun m => S 4 m 1) 60 o : Int) ≤ 4) (p4 : TreeL S) (hk : ∀ (r : Int) (S' : fxS) , (fxfr [(2, 2), (2, 3), (4, 0), (4, 1), (4, 3), (4, 4), (4, 5), (4, 6), (4, 7), (4, 11), (4, 12), (7, 9999), (8, 4), (10, 9999), (11, 9999), (13, 6), (13, 7), (13, 10), (15, 9999), (16, 9999), (17, 9999), (18, 9999), (19, 9999), (20, 0), (20, 1), (20, 3), (20, 4), (20, 5), (20, 6), (20, 7), (20, 11), (20, 12), (21, 9999), (22, 9999), (23, 9999)] S S' ∧ (-2147483648 ≤ r ∧ r < 2147483648) ∧ (TreeL S')) → k (some (.inl r)) S') : fC l 15 [.inr (.inr (24, 0)), .inl o, .inr (.inl x), .inl q] S k := by
  have n1 : NS S S := NS_rfl
  refine fxe_15 (Nat.le_of_ble_eq_true rfl) (fxz_15 400 ?_)
  refine c_Tree_leastAbsent   (fun (z2 : Int) (q3 : -1 ≤ z2 ∧ z2 < 60 ∧ z2 ≠ 0 ∧ (0 ≤ z2 → S 4 (z2).toNat 0 = 0)) => ?_)
  refine And.intro (by decide) ?_
  refine And.intro (fun (h4 : ((0 : Int) ≤ z2 : Prop)) => ?_) (fun (h4 : (z2 < (0 : Int) : Prop)) => ?_)
  ·
    refine c_Log_add (n := z2) (e := (16 : Int)) (d := (0 : Int)) (show 0 ≤ z2 ∧ z2 < 60 by omega) p4 (show -2147483648 ≤ (16 : Int) ∧ (16 : Int) < 2147483648 by omega) (show -2147483648 ≤ (0 : Int) ∧ (0 : Int) < 2147483648 by omega) (fun (S5 : fxS) ⟨(f6 : fxfr [(8, 4), (10, 9999), (11, 9999), (13, 6), (13, 7), (13, 10), (15, 9999), (16, 9999), (17, 9999), (18, 9999), (19, 9999), (20, 0), (20, 1), (20, 3), (20, 4), (20, 5), (20, 6), (20, 7), (20, 11), (20, 12), (21, 9999), (22, 9999), (23, 9999)] S S5), (g7 : TreeO z2 S5)⟩ => ?_)
    have g8 : NS S S5 := fx_pfr NS_stab f6 rfl n1
    refine And.intro (fun (h9 : (q = (0 : Int) : Prop)) => ?_) (fun (h9 : (q ≠ (0 : Int) : Prop)) => ?_)
    ·
      refine c_Tree_settle (n := z2) (o := o) (x := x) (q := (2 : Int)) (show 1 ≤ z2 ∧ z2 < 60 by omega) (show 0 ≤ o ∧ o < 60 by omega) (show 1 ≤ (2 : Int) ∧ (2 : Int) ≤ 2 by omega) (fun (S10 : fxS) ⟨(f11 : fxfr [(4, 0), (4, 1), (4, 3), (4, 4), (4, 5), (4, 6), (4, 7), (4, 11), (4, 12), (7, 9999)] S5 S10), (q12 : S10 4 (z2).toNat 0 = (2 : Int) ∧ S10 4 (z2).toNat 1 = o), (g13 : N4 (z2).toNat S5 S10)⟩ => ?_)
      have g14 : TreeO z2 S10 := TreeO_n4 g13 f11 rfl g7
      have tl : TreeL S10 := Tree_new (S := S) (S1 := S5) (by assumption) (by assumption) (by assumption) q12 (by assumption) (by omega) (by omega) (by omega) (by omega) (by omega) (by omega)
      refine And.intro (fun (h15 : (q ≠ (0 : Int) : Prop)) => ?_) (fun (h15 : (q = (0 : Int) : Prop)) => ?_)
      ·
        exact hk z2 S10 ⟨(fxfr_tr (fxfr_tr fxfr_rfl f6 rfl) f11 rfl), by omega, tl⟩
      ·
        refine And.intro (show 0 ≤ z2 ∧ z2 < 60 by omega) ?_
        intro z16 (z16a : (-2147483648 : Int) ≤ z16) (z16b : z16 ≤ (2147483647 : Int)) (z16c : z16 = S10 2 0 2)
        intro z17 (z17a : -2147483648 ≤ z17) (z17b : z17 < 2147483648) (z17c : -2147483648 ≤ (z16 + (1 : Int)) ∧ (z16 + (1 : Int)) < 2147483648 → z17 = (z16 + (1 : Int)))
        refine And.intro (show (-2147483648 : Int) ≤ z17 ∧ z17 ≤ (2147483647 : Int) by omega) ?_
        have g18 : TreeO z2 (fx_up S10 2 0 2 z17) := fx_pup TreeO_stab rfl g14
        have g19 : TreeL (fx_up S10 2 0 2 z17) := fx_pup TreeL_stab rfl tl
        refine And.intro (show (-2147483648 : Int) ≤ z16 ∧ z16 ≤ (2147483647 : Int) by omega) ?_
        have g20 : TreeO z2 (fx_up (fx_up S10 2 0 2 z17) 4 (z2).toNat 3 z16) := fx_pup TreeO_stab rfl g18
        have g21 : TreeL (fx_up (fx_up S10 2 0 2 z17) 4 (z2).toNat 3 z16) := fx_pup TreeL_stab rfl g19
        refine And.intro (show 0 ≤ z2 ∧ z2 < 60 by omega) ?_
        intro z22 (z22a : (-2147483648 : Int) ≤ z22) (z22b : z22 ≤ (2147483647 : Int)) (z22c : z22 = (fx_up (fx_up S10 2 0 2 z17) 4 (z2).toNat 3 z16) 2 0 3)
        intro z23 (z23a : -2147483648 ≤ z23) (z23b : z23 < 2147483648) (z23c : -2147483648 ≤ (z22 + (1 : Int)) ∧ (z22 + (1 : Int)) < 2147483648 → z23 = (z22 + (1 : Int)))
        refine And.intro (show (-2147483648 : Int) ≤ z23 ∧ z23 ≤ (2147483647 : Int) by omega) ?_
        have g24 : TreeO z2 (fx_up (fx_up (fx_up S10 2 0 2 z17) 4 (z2).toNat 3 z16) 2 0 3 z23) := fx_pup TreeO_stab rfl g20
        have g25 : TreeL (fx_up (fx_up (fx_up S10 2 0 2 z17) 4 (z2).toNat 3 z16) 2 0 3 z23) := fx_pup TreeL_stab rfl g21
        refine And.intro (show (-2147483648 : Int) ≤ z22 ∧ z22 ≤ (2147483647 : Int) by omega) ?_
        have g26 : TreeO z2 (fx_up (fx_up (fx_up (fx_up S10 2 0 2 z17) 4 (z2).toNat 3 z16) 2 0 3 z23) 4 (z2).toNat 5 z22) := fx_pup TreeO_stab rfl g24
        have g27 : TreeL (fx_up (fx_up (fx_up (fx_up S10 2 0 2 z17) 4 (z2).toNat 3 z16) 2 0 3 z23) 4 (z2).toNat 5 z22) := fx_pup TreeL_stab rfl g25
        exact hk z2 (fx_up (fx_up (fx_up (fx_up S10 2 0 2 z17) 4 (z2).toNat 3 z16) 2 0 3 z23) 4 (z2).toNat 5 z22) ⟨(fxfr_up (fxfr_up (fxfr_up (fxfr_up (fxfr_tr (fxfr_tr fxfr_rfl f6 rfl) f11 rfl) rfl) rfl) rfl) rfl), by omega, g27⟩
    ·
      refine c_Tree_settle (n := z2) (o := o) (x := x) (q := (1 : Int)) (show 1 ≤ z2 ∧ z2 < 60 by omega) (show 0 ≤ o ∧ o < 60 by omega) (show 1 ≤ (1 : Int) ∧ (1 : Int) ≤ 2 by omega) (fun (S28 : fxS) ⟨(f29 : fxfr [(4, 0), (4, 1), (4, 3), (4, 4), (4, 5), (4, 6), (4, 7), (4, 11), (4, 12), (7, 9999)] S5 S28), (q30 : S28 4 (z2).toNat 0 = (1 : Int) ∧ S28 4 (z2).toNat 1 = o), (g31 : N4 (z2).toNat S5 S28)⟩ => ?_)
      have g32 : TreeO z2 S28 := TreeO_n4 g31 f29 rfl g7
      have tl : TreeL S28 := Tree_new (S := S) (S1 := S5) (by assumption) (by assumption) (by assumption) q30 (by assumption) (by omega) (by omega) (by omega) (by omega) (by omega) (by omega)
      refine And.intro (fun (h33 : (q ≠ (0 : Int) : Prop)) => ?_) (fun (h33 : (q = (0 : Int) : Prop)) => ?_)
      ·
        exact hk z2 S28 ⟨(fxfr_tr (fxfr_tr fxfr_rfl f6 rfl) f29 rfl), by omega, tl⟩
      ·
        refine And.intro (show 0 ≤ z2 ∧ z2 < 60 by omega) ?_
        intro z34 (z34a : (-2147483648 : Int) ≤ z34) (z34b : z34 ≤ (2147483647 : Int)) (z34c : z34 = S28 2 0 2)
        intro z35 (z35a : -2147483648 ≤ z35) (z35b : z35 < 2147483648) (z35c : -2147483648 ≤ (z34 + (1 : Int)) ∧ (z34 + (1 : Int)) < 2147483648 → z35 = (z34 + (1 : Int)))
        refine And.intro (show (-2147483648 : Int) ≤ z35 ∧ z35 ≤ (2147483647 : Int) by omega) ?_
        have g36 : TreeO z2 (fx_up S28 2 0 2 z35) := fx_pup TreeO_stab rfl g32
        have g37 : TreeL (fx_up S28 2 0 2 z35) := fx_pup TreeL_stab rfl tl
        refine And.intro (show (-2147483648 : Int) ≤ z34 ∧ z34 ≤ (2147483647 : Int) by omega) ?_
        have g38 : TreeO z2 (fx_up (fx_up S28 2 0 2 z35) 4 (z2).toNat 3 z34) := fx_pup TreeO_stab rfl g36
        have g39 : TreeL (fx_up (fx_up S28 2 0 2 z35) 4 (z2).toNat 3 z34) := fx_pup TreeL_stab rfl g37
        refine And.intro (show 0 ≤ z2 ∧ z2 < 60 by omega) ?_
        intro z40 (z40a : (-2147483648 : Int) ≤ z40) (z40b : z40 ≤ (2147483647 : Int)) (z40c : z40 = (fx_up (fx_up S28 2 0 2 z35) 4 (z2).toNat 3 z34) 2 0 3)
        intro z41 (z41a : -2147483648 ≤ z41) (z41b : z41 < 2147483648) (z41c : -2147483648 ≤ (z40 + (1 : Int)) ∧ (z40 + (1 : Int)) < 2147483648 → z41 = (z40 + (1 : Int)))
        refine And.intro (show (-2147483648 : Int) ≤ z41 ∧ z41 ≤ (2147483647 : Int) by omega) ?_
        have g42 : TreeO z2 (fx_up (fx_up (fx_up S28 2 0 2 z35) 4 (z2).toNat 3 z34) 2 0 3 z41) := fx_pup TreeO_stab rfl g38
        have g43 : TreeL (fx_up (fx_up (fx_up S28 2 0 2 z35) 4 (z2).toNat 3 z34) 2 0 3 z41) := fx_pup TreeL_stab rfl g39
        refine And.intro (show (-2147483648 : Int) ≤ z40 ∧ z40 ≤ (2147483647 : Int) by omega) ?_
        have g44 : TreeO z2 (fx_up (fx_up (fx_up (fx_up S28 2 0 2 z35) 4 (z2).toNat 3 z34) 2 0 3 z41) 4 (z2).toNat 5 z40) := fx_pup TreeO_stab rfl g42
        have g45 : TreeL (fx_up (fx_up (fx_up (fx_up S28 2 0 2 z35) 4 (z2).toNat 3 z34) 2 0 3 z41) 4 (z2).toNat 5 z40) := fx_pup TreeL_stab rfl g43
        exact hk z2 (fx_up (fx_up (fx_up (fx_up S28 2 0 2 z35) 4 (z2).toNat 3 z34) 2 0 3 z41) 4 (z2).toNat 5 z40) ⟨(fxfr_up (fxfr_up (fxfr_up (fxfr_up (fxfr_tr (fxfr_tr fxfr_rfl f6 rfl) f29 rfl) rfl) rfl) rfl) rfl), by omega, g45⟩
  ·
    exact hk (-3 : Int) S ⟨fxfr_rfl, by omega, p4⟩
theorem c_StubHouse_make {l : Launch} {k : fxK} {S : fxS} {o : Int} {x : Int} {q : Int} (p0 : 0 ≤ q ∧ q ≤ 1) (p1 : TreeL S) (p2 : LCt S) (p3 : -2147483648 ≤ o ∧ o < 2147483648) (hk : ∀ (r : Int) (S' : fxS) , (fxfr [(2, 2), (2, 3), (4, 0), (4, 1), (4, 3), (4, 4), (4, 5), (4, 6), (4, 7), (4, 11), (4, 12), (7, 9999), (8, 4), (10, 9999), (11, 9999), (13, 6), (13, 7), (13, 10), (15, 9999), (16, 9999), (17, 9999), (18, 9999), (19, 9999), (20, 0), (20, 1), (20, 3), (20, 4), (20, 5), (20, 6), (20, 7), (20, 11), (20, 12), (21, 9999), (22, 9999), (23, 9999)] S S' ∧ (-2147483648 ≤ r ∧ r < 2147483648) ∧ (TreeL S') ∧ (LCt S')) → k (some (.inl r)) S') : fC l 16 [.inr (.inr (0, 0)), .inl o, .inr (.inl x), .inl q] S k := by
  refine fxe_16 (Nat.le_of_ble_eq_true rfl) (fxz_16 400 ?_)
  intro z1 (z1a : (0 : Int) ≤ z1) (z1b : z1 ≤ (1 : Int)) (z1c : z1 = S 0 0 10)
  refine And.intro (fun (h2 : (z1 = (0 : Int) : Prop)) => ?_) (fun (h2 : (z1 ≠ (0 : Int) : Prop)) => ?_)
  ·
    refine c_Tree_isDirectory (n := o) (show -2147483648 ≤ o ∧ o < 2147483648 by omega) (fun (z3 : Int) (q4 : (z3 = 0 ∨ z3 = 1) ∧ (z3 = 1 → 0 ≤ o ∧ o < 60 ∧ S 4 (o).toNat 0 = 1)) => ?_)
    refine And.intro (fun (h5 : (z3 = (0 : Int) : Prop)) => ?_) (fun (h5 : (z3 ≠ (0 : Int) : Prop)) => ?_)
    ·
      exact hk (-1 : Int) S ⟨fxfr_rfl, by omega, p1, p2⟩
    ·
      intro z6 (z6a : 0 ≤ z6) (z6b : z6 ≤ 1)
      refine And.intro (fun (h7 : (z6 ≠ (0 : Int) : Prop)) => ?_) (fun (h7 : (z6 = (0 : Int) : Prop)) => ?_)
      ·
        refine c_Tree_seek (n := o) (x := x) (show -2147483648 ≤ o ∧ o < 2147483648 by omega) (fun (z8 : Int) (q9 : -1 ≤ z8 ∧ z8 < 60 ∧ z8 ≠ 0 ∧ (0 ≤ z8 → S 4 (z8).toNat 0 ≠ 0 ∧ S 4 (z8).toNat 1 = o)) => ?_)
        refine And.intro (fun (h10 : (z8 < (0 : Int) : Prop)) => ?_) (fun (h10 : ((0 : Int) ≤ z8 : Prop)) => ?_)
        ·
          refine c_Tree_leastAbsent   (fun (z11 : Int) (q12 : -1 ≤ z11 ∧ z11 < 60 ∧ z11 ≠ 0 ∧ (0 ≤ z11 → S 4 (z11).toNat 0 = 0)) => ?_)
          refine And.intro (fun (h13 : (z11 < (0 : Int) : Prop)) => ?_) (fun (h13 : ((0 : Int) ≤ z11 : Prop)) => ?_)
          ·
            exact hk (-3 : Int) S ⟨fxfr_rfl, by omega, p1, p2⟩
          ·
            refine c_Tree_depthOf (n := o) (show 0 ≤ o ∧ o < 60 by omega) (fun (z14 : Int) (q15 : 0 ≤ z14 ∧ z14 ≤ 60 ∧ z14 = (depF (fun m => S 4 m 1) 60 o : Int)) => ?_)
            refine And.intro (fun (h16 : (z14 < (5 : Int) : Prop)) => ?_) (fun (h16 : ((5 : Int) ≤ z14 : Prop)) => ?_)
            ·
              refine c_Changes_create (o := o) (x := x) (q := q) (show 0 ≤ o ∧ o < 60 by omega) (show 0 ≤ q ∧ q ≤ 1 by omega) (show S 4 (o).toNat 0 = 1 by omega) (show (depF (fun m => S 4 m 1) 60 o : Int) ≤ 4 by omega) p1 (fun (z17 : Int) (S18 : fxS) ⟨(f19 : fxfr [(2, 2), (2, 3), (4, 0), (4, 1), (4, 3), (4, 4), (4, 5), (4, 6), (4, 7), (4, 11), (4, 12), (7, 9999), (8, 4), (10, 9999), (11, 9999), (13, 6), (13, 7), (13, 10), (15, 9999), (16, 9999), (17, 9999), (18, 9999), (19, 9999), (20, 0), (20, 1), (20, 3), (20, 4), (20, 5), (20, 6), (20, 7), (20, 11), (20, 12), (21, 9999), (22, 9999), (23, 9999)] S S18), (q20 : -2147483648 ≤ z17 ∧ z17 < 2147483648), (g21 : TreeL S18)⟩ => ?_)
              have w22 : S18 0 0 10 = S 0 0 10 := f19 0 0 10 rfl
              exact hk z17 S18 ⟨(fxfr_tr fxfr_rfl f19 rfl), by omega, g21, by first | assumption | exact Tree_keep (by assumption) (by assumption) (by assumption) | exact LCt_of (by omega)⟩
            ·
              exact hk (-3 : Int) S ⟨fxfr_rfl, by omega, p1, p2⟩
        ·
          exact hk (-7 : Int) S ⟨fxfr_rfl, by omega, p1, p2⟩
      ·
        exact hk (-1 : Int) S ⟨fxfr_rfl, by omega, p1, p2⟩
  ·
    exact hk (-8 : Int) S ⟨fxfr_rfl, by omega, p1, p2⟩
theorem c_StubHouse_find {l : Launch} {k : fxK} {S : fxS} {o : Int} {x : Int} (p0 : -2147483648 ≤ o ∧ o < 2147483648) (hk : ∀ (r : Int) , (-2147483648 ≤ r ∧ r < 2147483648) → k (some (.inl r)) S) : fC l 31 [.inr (.inr (0, 0)), .inl o, .inr (.inl x)] S k := by
  refine fxe_31 (Nat.le_of_ble_eq_true rfl) (fxz_31 400 ?_)
  intro z1 (z1a : (0 : Int) ≤ z1) (z1b : z1 ≤ (1 : Int)) (z1c : z1 = S 0 0 10)
  refine And.intro (fun (h2 : (z1 = (0 : Int) : Prop)) => ?_) (fun (h2 : (z1 ≠ (0 : Int) : Prop)) => ?_)
  ·
    refine c_Tree_isDirectory (n := o) (show -2147483648 ≤ o ∧ o < 2147483648 by omega) (fun (z3 : Int) (q4 : (z3 = 0 ∨ z3 = 1) ∧ (z3 = 1 → 0 ≤ o ∧ o < 60 ∧ S 4 (o).toNat 0 = 1)) => ?_)
    refine And.intro (fun (h5 : (z3 ≠ (0 : Int) : Prop)) => ?_) (fun (h5 : (z3 = (0 : Int) : Prop)) => ?_)
    ·
      refine c_Tree_seek (n := o) (x := x) (show -2147483648 ≤ o ∧ o < 2147483648 by omega) (fun (z6 : Int) (q7 : -1 ≤ z6 ∧ z6 < 60 ∧ z6 ≠ 0 ∧ (0 ≤ z6 → S 4 (z6).toNat 0 ≠ 0 ∧ S 4 (z6).toNat 1 = o)) => ?_)
      refine And.intro (by decide) ?_
      refine And.intro (fun (h8 : ((0 : Int) ≤ z6 : Prop)) => ?_) (fun (h8 : (z6 < (0 : Int) : Prop)) => ?_)
      ·
        exact hk z6 (by omega)
      ·
        exact hk (-2 : Int) (by omega)
    ·
      exact hk (-1 : Int) (by omega)
  ·
    exact hk (-8 : Int) (by omega)
