/-! contracts: the reading drive of the class -/
theorem z_Changes_recall {l : Launch} {k : fxK} {S : fxS} {n : Int} {i : Nat} {p : Int} (p0 : 0 ≤ n ∧ n < 60) (p1 : 0 ≤ p ∧ p ≤ 6000 ∧ p + S 4 (n).toNat 4 ≤ 6000) (hk : ∀ (S' : fxS) , (fxfr [(4, 6), (4, 11), (4, 12), (7, 9999), (8, 4), (9, 9999), (10, 9999), (11, 9999), (12, 9999), (13, 6), (13, 7), (13, 10), (15, 9999), (16, 9999), (17, 9999), (18, 9999), (19, 9999), (20, 0), (20, 1), (20, 3), (20, 4), (20, 5), (20, 6), (20, 7), (20, 11), (20, 12), (21, 9999), (22, 9999), (23, 9999), (24, 4), (25, 9999)] S S') → k none S') : ∀ m : Nat, (∀ (u s b : Int) (S1 : fxS), (fxfr [(4, 6), (4, 11), (4, 12), (7, 9999), (8, 4), (9, 9999), (10, 9999), (11, 9999), (12, 9999), (13, 6), (13, 7), (13, 10), (15, 9999), (16, 9999), (17, 9999), (18, 9999), (19, 9999), (20, 0), (20, 1), (20, 3), (20, 4), (20, 5), (20, 6), (20, 7), (20, 11), (20, 12), (21, 9999), (22, 9999), (23, 9999), (24, 4), (25, 9999)] S S1) → (0 ≤ b ∧ b ≤ 32) → (0 ≤ u ∧ u ≤ 32) → (S1 4 (n).toNat 4 = S 4 (n).toNat 4 ∧ 0 ≤ s ∧ s ≤ 1) → 33 - b ≤ (m : Int) → fZ l 214 k 59 [some (.inr (.inr (24, 0))), some (.inl n), some (.inr (.inr (33, i))), some (.inl p), some (.inr (.inr (4, (n).toNat))), some (.inl u), some (.inl s), some (.inl b), none] [] S1) := by
  intro m
  induction m with
  | zero =>
    intro u s b S1 hf i0 i1 i2 hmu
    exfalso
    omega
  | succ m ih =>
    intro u s b S1 hf i0 i1 i2 hmu
    refine fxz_214 400 ?_
    refine And.intro (fun (h1 : (u ≤ b : Prop)) => ?_) (fun (h1 : (b < u : Prop)) => ?_)
    ·
      intro z2 (z2a : (-2147483648 : Int) ≤ z2) (z2b : z2 ≤ (2147483647 : Int)) (z2c : z2 = S1 2 0 1)
      refine And.intro (show (-2147483648 : Int) ≤ z2 ∧ z2 ≤ (2147483647 : Int) by omega) ?_
      have w3 : (fx_up S1 4 (n).toNat 6 z2) 4 (n).toNat 4 = S1 4 (n).toNat 4 := if_neg (fun q => absurd q.2.2 (by decide))
      refine c_Changes_forgetRecall (n := n) (show -2147483648 ≤ n ∧ n < 2147483648 by omega) (fun (S4 : fxS) (f5 : fxfr [(24, 4), (25, 9999)] (fx_up S1 4 (n).toNat 6 z2) S4) => ?_)
      have w6 : S4 4 (n).toNat 4 = (fx_up S1 4 (n).toNat 6 z2) 4 (n).toNat 4 := f5 4 (n).toNat 4 rfl
      exact hk S4 (fxfr_tr (fxfr_up hf rfl) f5 rfl)
    ·
      refine And.intro (fun (h7 : ((32 : Int) ≤ b : Prop)) => ?_) (fun (h7 : (b < (32 : Int) : Prop)) => ?_)
      ·
        intro z8 (z8a : (-2147483648 : Int) ≤ z8) (z8b : z8 ≤ (2147483647 : Int)) (z8c : z8 = S1 2 0 1)
        refine And.intro (show (-2147483648 : Int) ≤ z8 ∧ z8 ≤ (2147483647 : Int) by omega) ?_
        have w9 : (fx_up S1 4 (n).toNat 6 z8) 4 (n).toNat 4 = S1 4 (n).toNat 4 := if_neg (fun q => absurd q.2.2 (by decide))
        refine c_Changes_forgetRecall (n := n) (show -2147483648 ≤ n ∧ n < 2147483648 by omega) (fun (S10 : fxS) (f11 : fxfr [(24, 4), (25, 9999)] (fx_up S1 4 (n).toNat 6 z8) S10) => ?_)
        have w12 : S10 4 (n).toNat 4 = (fx_up S1 4 (n).toNat 6 z8) 4 (n).toNat 4 := f11 4 (n).toNat 4 rfl
        exact hk S10 (fxfr_tr (fxfr_up hf rfl) f11 rfl)
      ·
        refine c_Stores_giveOf (s := s) (show -2147483648 ≤ s ∧ s < 2147483648 by omega) (fun (z13 : Int) (S14 : fxS) ⟨(f15 : fxfr [(10, 9999), (11, 9999), (12, 9999)] S1 S14), (q16 : -1 ≤ z13 ∧ z13 ≤ 207)⟩ => ?_)
        have w17 : S14 4 (n).toNat 4 = S1 4 (n).toNat 4 := f15 4 (n).toNat 4 rfl
        refine And.intro (by decide) ?_
        refine c_Stores_putBlock (o := (-1 : Int)) (b := z13) (n := (0 : Int)) (show -1 ≤ (-1 : Int) ∧ (-1 : Int) ≤ 207 by omega) (show (0 : Int) ≤ 32 by omega) (show -2147483648 ≤ z13 ∧ z13 < 2147483648 by omega) (fun (S18 : fxS) (f19 : fxfr [(9, 9999)] S14 S18) => ?_)
        have w20 : S18 4 (n).toNat 4 = S14 4 (n).toNat 4 := f19 4 (n).toNat 4 rfl
        refine And.intro (show -2147483648 ≤ (b * (32 : Int)) ∧ (b * (32 : Int)) < 2147483648 by omega) ?_
        refine And.intro (show -2147483648 ≤ (p + (b * (32 : Int))) ∧ (p + (b * (32 : Int))) < 2147483648 by omega) ?_
        intro z21 (z21a : (0 : Int) ≤ z21) (z21b : z21 ≤ (1024 : Int)) (z21c : z21 = S18 4 (n).toNat 4)
        refine And.intro (show -2147483648 ≤ (b * (32 : Int)) ∧ (b * (32 : Int)) < 2147483648 by omega) ?_
        refine And.intro (show -2147483648 ≤ (z21 - (b * (32 : Int))) ∧ (z21 - (b * (32 : Int))) < 2147483648 by omega) ?_
        intro z22 (z22a : z22 ≤ (32 : Int)) (z22b : z22 ≤ (z21 - (b * (32 : Int)))) (z22c : z22 = (32 : Int) ∨ z22 = (z21 - (b * (32 : Int))))
        refine c_put33 (i := i) (f := (p + (b * (32 : Int)))) (b := z13) (a := (0 : Int)) (n := z22) (show z22 ≤ 0 ∨ (0 ≤ (p + (b * (32 : Int))) ∧ (p + (b * (32 : Int))) + z22 ≤ 6000 ∧ 0 ≤ (0 : Int) ∧ (0 : Int) + z22 ≤ 32) by omega) (show -2147483648 ≤ z13 ∧ z13 < 2147483648 by omega) (fun (S23 : fxS) (f24 : fxfr [(9, 9999)] S18 S23) => ?_)
        have w25 : S23 4 (n).toNat 4 = S18 4 (n).toNat 4 := f24 4 (n).toNat 4 rfl
        refine c_Node_setHome (i := (n).toNat) (j := b) (b := z13) (show 0 ≤ b ∧ b < 32 by omega) (show -1 ≤ z13 ∧ z13 ≤ 207 by omega) (fun (S26 : fxS) (f27 : fxfr [(4, 11), (4, 12), (7, 9999)] S23 S26) => ?_)
        have w28 : S26 4 (n).toNat 4 = S23 4 (n).toNat 4 := f27 4 (n).toNat 4 rfl
        refine And.intro (by decide) (And.intro (show -2147483648 ≤ b + (1 : Int) ∧ b + (1 : Int) < 2147483648 by omega) ?_)
        exact ih u s (b + (1 : Int)) S26 (fxfr_tr (fxfr_tr (fxfr_tr (fxfr_tr hf f15 rfl) f19 rfl) f24 rfl) f27 rfl) (by omega) (by omega) (by omega) (by omega)
theorem c_Changes_recall {l : Launch} {k : fxK} {S : fxS} {n : Int} {i : Nat} {p : Int} (p0 : 0 ≤ n ∧ n < 60) (p1 : 0 ≤ p ∧ p ≤ 6000 ∧ p + S 4 (n).toNat 4 ≤ 6000) (hk : ∀ (S' : fxS) , (fxfr [(4, 6), (4, 11), (4, 12), (7, 9999), (8, 4), (9, 9999), (10, 9999), (11, 9999), (12, 9999), (13, 6), (13, 7), (13, 10), (15, 9999), (16, 9999), (17, 9999), (18, 9999), (19, 9999), (20, 0), (20, 1), (20, 3), (20, 4), (20, 5), (20, 6), (20, 7), (20, 11), (20, 12), (21, 9999), (22, 9999), (23, 9999), (24, 4), (25, 9999)] S S') → k none S') : fC l 214 [.inr (.inr (24, 0)), .inl n, .inr (.inr (33, i)), .inl p] S k := by
  refine fxe_214 (Nat.le_of_ble_eq_true rfl) (fxz_214 400 ?_)
  refine And.intro (show 0 ≤ n ∧ n < 60 by omega) ?_
  refine And.intro (by decide) ?_
  intro z30 (z30a : (0 : Int) ≤ z30) (z30b : z30 ≤ (1024 : Int)) (z30c : z30 = S 4 (n).toNat 4)
  refine c_Changes_lengthWith (n := z30) (show 0 ≤ z30 ∧ z30 ≤ 1024 by omega) (fun (z31 : Int) (q32 : 0 ≤ z31 ∧ z31 ≤ 200) => ?_)
  refine c_Log_add (n := n) (e := z31) (d := (0 : Int)) (show -1 ≤ n ∧ n < 60 by omega) (show -2147483648 ≤ z31 ∧ z31 < 2147483648 by omega) (show -2147483648 ≤ (0 : Int) ∧ (0 : Int) < 2147483648 by omega) (fun (S33 : fxS) (f34 : fxfr [(8, 4), (10, 9999), (11, 9999), (13, 6), (13, 7), (13, 10), (15, 9999), (16, 9999), (17, 9999), (18, 9999), (19, 9999), (20, 0), (20, 1), (20, 3), (20, 4), (20, 5), (20, 6), (20, 7), (20, 11), (20, 12), (21, 9999), (22, 9999), (23, 9999)] S S33) => ?_)
  have w35 : S33 4 (n).toNat 4 = S 4 (n).toNat 4 := f34 4 (n).toNat 4 rfl
  refine c_Node_blocks (i := (n).toNat)  (fun (z36 : Int) (q37 : 0 ≤ z36 ∧ z36 ≤ 32 ∧ S33 4 (n).toNat 4 ≤ 32 * z36 ∧ 32 * z36 < S33 4 (n).toNat 4 + 32) => ?_)
  refine And.intro (by decide) ?_
  refine And.intro (show 0 ≤ (0 : Int) ∧ (0 : Int) < 2 by omega) ?_
  intro z38 (z38a : (-2147483648 : Int) ≤ z38) (z38b : z38 ≤ (2147483647 : Int)) (z38c : z38 = S33 11 0 ((0 : Int)).toNat)
  refine And.intro (fun (h39 : (z38 < z36 : Prop)) => ?_) (fun (h39 : (z36 ≤ z38 : Prop)) => ?_)
  ·
    refine And.intro (by decide) ?_
    refine And.intro (by decide) ?_
    exact (z_Changes_recall p0 p1 hk (33 - (0 : Int)).toNat) z36 (1 : Int) (0 : Int) S33 (fxfr_tr fxfr_rfl f34 rfl) (by omega) (by omega) (by omega) (by omega)
  ·
    refine And.intro (by decide) ?_
    refine And.intro (by decide) ?_
    exact (z_Changes_recall p0 p1 hk (33 - (0 : Int)).toNat) z36 (0 : Int) (0 : Int) S33 (fxfr_tr fxfr_rfl f34 rfl) (by omega) (by omega) (by omega) (by omega)
theorem c_Reader_goOnReclaiming {l : Launch} {k : fxK} {S : fxS} {c : Int} (p0 : SegA S) (p1 : 0 ≤ S 38 0 12) (p2 : 0 ≤ c ∧ c < 285 ∧ c < S 32 (S 38 0 12).toNat 5) (hk : ∀ (S' : fxS) , (fxfr [(38, 2), (38, 3), (38, 4), (38, 8), (38, 10), (38, 11)] S S' ∧ (SegA S')) → k none S') : fC l 201 [.inr (.inr (38, 0)), .inl c] S k := by
  refine fxe_201 (Nat.le_of_ble_eq_true rfl) (fxz_201 400 ?_)
  intro z1 (z1a : (-1 : Int) ≤ z1) (z1b : z1 ≤ (5 : Int)) (z1c : z1 = S 38 0 12)
  have hc : c < S 32 (z1).toNat 5 := by rw [z1c]; exact p2.2.2
  refine And.intro (show 0 ≤ z1 ∧ z1 < 6 by omega) ?_
  refine And.intro (by decide) ?_
  refine And.intro (show 0 ≤ c ∧ c < 285 by omega) ?_
  intro z2 (z2a : (0 : Int) ≤ z2) (z2b : z2 ≤ (5979 : Int)) (z2c : z2 = S 34 (z1).toNat (c).toNat)
  have s3 : ((z1).toNat < 6 ∧ 0 ≤ c ∧ c < S 32 (z1).toNat 5) → (8 ≤ z2 ∧ z2 + 21 + 8 * (S 33 (z1).toNat (z2 + 14).toNat % 256) ≤ S 32 (z1).toNat 1 ∧ S 32 (z1).toNat 1 ≤ 6000 ∧ (S 33 (z1).toNat (z2 + 14).toNat % 256) ≤ 5 ∧ (S 33 (z1).toNat (z2 + 1).toNat % 256 = 1 ∨ S 33 (z1).toNat (z2 + 1).toNat % 256 = 2) ∧ sN S 33 (z1).toNat (z2 + 15 + 8 * (S 33 (z1).toNat (z2 + 14).toNat % 256)) 2 ≤ 1024 ∧ (S 33 (z1).toNat (z2 + 1).toNat % 256 = 1 → 1 ≤ (S 33 (z1).toNat (z2 + 14).toNat % 256) ∧ z2 + 25 + 8 * (S 33 (z1).toNat (z2 + 14).toNat % 256) + sN S 33 (z1).toNat (z2 + 15 + 8 * (S 33 (z1).toNat (z2 + 14).toNat % 256)) 2 ≤ S 32 (z1).toNat 1)) := SegA_at (by assumption) z2c
  refine And.intro (by decide) ?_
  intro z4 (z4a : (0 : Int) ≤ z4) (z4b : z4 ≤ (7100 : Int)) (z4c : z4 = S 38 0 1)
  refine And.intro (fun (h5 : (z4 = z2 : Prop)) => ?_) (fun (h5 : (z4 ≠ z2 : Prop)) => ?_)
  ·
    refine And.intro (show (-1 : Int) ≤ (-1 : Int) ∧ (-1 : Int) ≤ (59 : Int) by omega) ?_
    have g6 : SegA (fx_up S 38 0 8 (-1 : Int)) := fx_pup SegA_stab rfl (by assumption)
    refine c_Tape_wholeLength (i := (z1).toNat) (p := z2) (show 0 ≤ z2 ∧ z2 < 5986 ∧ z2 + 17 + 8 * (S 33 (z1).toNat (z2 + 14).toNat % 256) ≤ 6000 by omega) (fun (z7 : Int) (q8 : (S 33 (z1).toNat (z2 + 1).toNat % 256 = 1 → z7 = 25 + 8 * (S 33 (z1).toNat (z2 + 14).toNat % 256) + sN S 33 (z1).toNat (z2 + 15 + 8 * (S 33 (z1).toNat (z2 + 14).toNat % 256)) 2) ∧ (S 33 (z1).toNat (z2 + 1).toNat % 256 ≠ 1 → z7 = 21 + 8 * (S 33 (z1).toNat (z2 + 14).toNat % 256)) ∧ 0 ≤ z7 ∧ z7 ≤ 100000) => ?_)
    refine And.intro (show -2147483648 ≤ (z2 + z7) ∧ (z2 + z7) < 2147483648 by omega) ?_
    refine And.intro (show (0 : Int) ≤ (z2 + z7) ∧ (z2 + z7) ≤ (7100 : Int) by omega) ?_
    have g9 : SegA (fx_up (fx_up S 38 0 8 (-1 : Int)) 38 0 11 (z2 + z7)) := fx_pup SegA_stab rfl (by assumption)
    refine c_Tape_sizeAt (i := (z1).toNat) (p := z2) (show 0 ≤ z2 ∧ z2 < 5986 ∧ z2 + 17 + 8 * (S 33 (z1).toNat (z2 + 14).toNat % 256) ≤ 6000 by omega) (fun (z10 : Int) (q11 : z10 = sN S 33 (z1).toNat (z2 + 15 + 8 * (S 33 (z1).toNat (z2 + 14).toNat % 256)) 2 ∧ 0 ≤ z10 ∧ z10 ≤ 65535) => ?_)
    refine c_Reader_beginReading (p := z2) (z := z10) (show 0 ≤ z2 ∧ z2 ≤ 6000 by omega) (show 0 ≤ z10 ∧ z10 ≤ 1024 by omega) (fun S12 f13 => ?_)
    replace f13 : fxfr [(38, 2), (38, 3), (38, 4), (38, 10)] (fx_up (fx_up S 38 0 8 (-1 : Int)) 38 0 11 (z2 + z7)) S12 := f13
    have g14 : SegA S12 := fx_pfr SegA_stab f13 rfl (by assumption)
    exact hk S12 ⟨(fxfr_tr (fxfr_up (fxfr_up fxfr_rfl rfl) rfl) f13 rfl), by assumption⟩
  ·
    refine c_beginWinding38 (p := z2) (show 0 ≤ z2 ∧ z2 ≤ 7100 by omega) (fun (S15 : fxS) (f16 : fxfr [(38, 2), (38, 3), (38, 4)] S S15) => ?_)
    have g17 : SegA S15 := fx_pfr SegA_stab f16 rfl (by assumption)
    exact hk S15 ⟨(fxfr_tr fxfr_rfl f16 rfl), by assumption⟩
theorem c_Reader_blankReclaimed {l : Launch} {k : fxK} {S : fxS}  (p0 : SegA S) (p1 : 0 ≤ S 38 0 12) (hk : ∀ (S' : fxS) , (fxfr [(4, 7), (5, 9999), (6, 9999), (8, 4), (10, 9999), (11, 9999), (13, 6), (13, 7), (13, 10), (15, 9999), (16, 9999), (17, 9999), (18, 9999), (19, 9999), (20, 0), (20, 1), (20, 3), (20, 4), (20, 5), (20, 6), (20, 7), (20, 11), (20, 12), (21, 9999), (22, 9999), (23, 9999), (24, 4), (25, 9999), (26, 3), (32, 1), (32, 2), (32, 3), (32, 4), (32, 5), (38, 1), (38, 12)] S S' ∧ (SegA S')) → k none S') : fC l 207 [.inr (.inr (38, 0))] S k := by
  refine fxe_207 (Nat.le_of_ble_eq_true rfl) (fxz_207 400 ?_)
  intro z1 (z1a : (-1 : Int) ≤ z1) (z1b : z1 ≤ (5 : Int)) (z1c : z1 = S 38 0 12)
  refine And.intro (by decide) ?_
  refine c_Log_keepAll   (fun (z2 : Int) (S3 : fxS) ⟨(f4 : fxfr [(8, 4), (10, 9999), (11, 9999), (13, 6), (13, 7), (19, 9999)] S S3), (q5 : -2147483648 ≤ z2 ∧ z2 < 2147483648 ∧ (S3 13 0 6 = 0))⟩ => ?_)
  have g6 : SegA S3 := fx_pfr SegA_stab f4 rfl (by assumption)
  refine c_Library_wipe (t := z1) (show SegA S3 by assumption) (show 0 ≤ z1 ∧ z1 ≤ 5 by omega) (fun (S7 : fxS) ⟨(f8 : fxfr [(26, 3), (32, 1), (32, 2), (32, 3), (32, 4), (32, 5)] S3 S7), (g9 : SegA S7), (g10 : fxix (z1).toNat S3 S7)⟩ => ?_)
  refine And.intro (show (0 : Int) ≤ (0 : Int) ∧ (0 : Int) ≤ (7100 : Int) by omega) ?_
  have g11 : SegA (fx_up S7 38 0 1 (0 : Int)) := fx_pup SegA_stab rfl (by assumption)
  refine And.intro (show (-1 : Int) ≤ (-1 : Int) ∧ (-1 : Int) ≤ (5 : Int) by omega) ?_
  have g12 : SegA (fx_up (fx_up S7 38 0 1 (0 : Int)) 38 0 12 (-1 : Int)) := fx_pup SegA_stab rfl (by assumption)
  refine c_Changes_dropCopiesOn (t := z1) (show -2147483648 ≤ z1 ∧ z1 < 2147483648 by omega) (fun S13 f14 => ?_)
  replace f14 : fxfr [(4, 7), (5, 9999), (6, 9999), (8, 4), (10, 9999), (11, 9999), (13, 6), (13, 7), (13, 10), (15, 9999), (16, 9999), (17, 9999), (18, 9999), (19, 9999), (20, 0), (20, 1), (20, 3), (20, 4), (20, 5), (20, 6), (20, 7), (20, 11), (20, 12), (21, 9999), (22, 9999), (23, 9999), (24, 4), (25, 9999)] (fx_up (fx_up S7 38 0 1 (0 : Int)) 38 0 12 (-1 : Int)) S13 := f14
  have g15 : SegA S13 := fx_pfr SegA_stab f14 rfl (by assumption)
  exact hk S13 ⟨(fxfr_tr (fxfr_up (fxfr_up (fxfr_tr (fxfr_tr fxfr_rfl f4 rfl) f8 rfl) rfl) rfl) f14 rfl), by assumption⟩
theorem c_Reader_choose {l : Launch} {k : fxK} {S : fxS} {w : Int} (p0 : SegA S) (p1 : -2147483648 ≤ w ∧ w < 2147483648) (hk : ∀ (S' : fxS) , (fxfr [(4, 7), (5, 9999), (6, 9999), (8, 4), (10, 9999), (11, 9999), (13, 6), (13, 7), (13, 10), (15, 9999), (16, 9999), (17, 9999), (18, 9999), (19, 9999), (20, 0), (20, 1), (20, 3), (20, 4), (20, 5), (20, 6), (20, 7), (20, 11), (20, 12), (21, 9999), (22, 9999), (23, 9999), (24, 4), (25, 9999), (26, 3), (32, 1), (32, 2), (32, 3), (32, 4), (32, 5), (38, 0), (38, 1), (38, 2), (38, 3), (38, 4), (38, 7), (38, 8), (38, 9), (38, 10), (38, 11), (38, 12)] S S' ∧ (SegA S')) → k none S') : fC l 211 [.inr (.inr (38, 0)), .inl w] S k := by
  refine fxe_211 (Nat.le_of_ble_eq_true rfl) (fxz_211 400 ?_)
  refine And.intro (by decide) ?_
  refine c_Reader_firstRecall   (fun (z1 : Int) (q2 : -1 ≤ z1 ∧ z1 ≤ 5) => ?_)
  refine And.intro (by decide) ?_
  refine And.intro (fun (h3 : (z1 < (0 : Int) : Prop)) => ?_) (fun (h3 : ((0 : Int) ≤ z1 : Prop)) => ?_)
  ·
    intro z4 (z4a : (-1 : Int) ≤ z4) (z4b : z4 ≤ (5 : Int)) (z4c : z4 = S 38 0 12)
    refine And.intro (fun (h5 : (z4 < (0 : Int) : Prop)) => ?_) (fun (h5 : ((0 : Int) ≤ z4 : Prop)) => ?_)
    ·
      refine c_Reader_changeTape (t := (-1 : Int)) (w := w) (show -1 ≤ (-1 : Int) ∧ (-1 : Int) ≤ 5 by first | omega | (subst_vars; omega)) (show -2147483648 ≤ w ∧ w < 2147483648 by first | omega | (subst_vars; omega)) (fun (S6 : fxS) (f7 : fxfr [(38, 0), (38, 1), (38, 2), (38, 3), (38, 4), (38, 7)] S S6) => ?_)
      have g8 : SegA S6 := fx_pfr SegA_stab f7 rfl (by assumption)
      exact hk S6 ⟨(fxfr_tr fxfr_rfl f7 rfl), by assumption⟩
    ·
      intro z9 (z9a : (0 : Int) ≤ z9) (z9b : z9 ≤ (1089 : Int)) (z9c : z9 = S 38 0 15)
      refine And.intro (fun (h10 : (z9 ≠ (0 : Int) : Prop)) => ?_) (fun (h10 : (z9 = (0 : Int) : Prop)) => ?_)
      ·
        refine c_Reader_changeTape (t := (-1 : Int)) (w := w) (show -1 ≤ (-1 : Int) ∧ (-1 : Int) ≤ 5 by first | omega | (subst_vars; omega)) (show -2147483648 ≤ w ∧ w < 2147483648 by first | omega | (subst_vars; omega)) (fun (S11 : fxS) (f12 : fxfr [(38, 0), (38, 1), (38, 2), (38, 3), (38, 4), (38, 7)] S S11) => ?_)
        have g13 : SegA S11 := fx_pfr SegA_stab f12 rfl (by assumption)
        exact hk S11 ⟨(fxfr_tr fxfr_rfl f12 rfl), by assumption⟩
      ·
        intro z14 (z14a : (-1 : Int) ≤ z14) (z14b : z14 ≤ (5 : Int)) (z14c : z14 = S 38 0 0)
        intro z15 (z15a : (-1 : Int) ≤ z15) (z15b : z15 ≤ (5 : Int)) (z15c : z15 = S 38 0 12)
        obtain rfl : z4 = z15 := by omega
        refine And.intro (fun (h16 : (z14 ≠ z4 : Prop)) => ?_) (fun (h16 : (z14 = z4 : Prop)) => ?_)
        ·
          intro z17 (z17a : (-1 : Int) ≤ z17) (z17b : z17 ≤ (5 : Int)) (z17c : z17 = S 38 0 12)
          obtain rfl : z4 = z17 := by omega
          refine And.intro (by decide) ?_
          refine c_Reader_changeTape (t := z4) (w := w) (show -1 ≤ z4 ∧ z4 ≤ 5 by first | omega | (subst_vars; omega)) (show -2147483648 ≤ w ∧ w < 2147483648 by first | omega | (subst_vars; omega)) (fun (S18 : fxS) (f19 : fxfr [(38, 0), (38, 1), (38, 2), (38, 3), (38, 4), (38, 7)] S S18) => ?_)
          have g20 : SegA S18 := fx_pfr SegA_stab f19 rfl (by assumption)
          exact hk S18 ⟨(fxfr_tr fxfr_rfl f19 rfl), by assumption⟩
        ·
          intro z21 (z21a : (-1 : Int) ≤ z21) (z21b : z21 ≤ (5 : Int)) (z21c : z21 = S 38 0 12)
          obtain rfl : z4 = z21 := by omega
          intro z22 (z22a : (0 : Int) ≤ z22) (z22b : z22 ≤ (7100 : Int)) (z22c : z22 = S 38 0 13)
          refine c_Library_nextLive (t := z4) (p := z22) (show SegA S by assumption) (show 0 ≤ z4 ∧ z4 ≤ 5 by first | omega | (subst_vars; omega)) (show -2147483648 ≤ z22 ∧ z22 < 2147483648 by first | omega | (subst_vars; omega)) (fun (z23 : Int) (q24 : -1 ≤ z23 ∧ z23 < 285 ∧ (0 ≤ z23 → z23 < S 32 z4.toNat 5)) => ?_)
          refine And.intro (by decide) ?_
          refine And.intro (fun (h25 : (z23 < (0 : Int) : Prop)) => ?_) (fun (h25 : ((0 : Int) ≤ z23 : Prop)) => ?_)
          ·
            refine c_Reader_blankReclaimed  (show SegA S by assumption) (show 0 ≤ S 38 0 12 by first | omega | (subst_vars; omega)) (fun (S26 : fxS) ⟨(f27 : fxfr [(4, 7), (5, 9999), (6, 9999), (8, 4), (10, 9999), (11, 9999), (13, 6), (13, 7), (13, 10), (15, 9999), (16, 9999), (17, 9999), (18, 9999), (19, 9999), (20, 0), (20, 1), (20, 3), (20, 4), (20, 5), (20, 6), (20, 7), (20, 11), (20, 12), (21, 9999), (22, 9999), (23, 9999), (24, 4), (25, 9999), (26, 3), (32, 1), (32, 2), (32, 3), (32, 4), (32, 5), (38, 1), (38, 12)] S S26), (g28 : SegA S26)⟩ => ?_)
            exact hk S26 ⟨(fxfr_tr fxfr_rfl f27 rfl), by assumption⟩
          ·
            refine c_Reader_goOnReclaiming (c := z23) (show SegA S by assumption) (show 0 ≤ S 38 0 12 by first | omega | (subst_vars; omega)) (show 0 ≤ z23 ∧ z23 < 285 ∧ z23 < S 32 (S 38 0 12).toNat 5 by first | omega | (subst_vars; omega)) (fun (S29 : fxS) ⟨(f30 : fxfr [(38, 2), (38, 3), (38, 4), (38, 8), (38, 10), (38, 11)] S S29), (g31 : SegA S29)⟩ => ?_)
            exact hk S29 ⟨(fxfr_tr fxfr_rfl f30 rfl), by assumption⟩
  ·
    refine c_Reader_nearestRecall   (fun (z32 : Int) (q33 : -1 ≤ z32 ∧ z32 < 60) => ?_)
    refine And.intro (by decide) ?_
    refine And.intro (fun (h34 : (z32 < (0 : Int) : Prop)) => ?_) (fun (h34 : ((0 : Int) ≤ z32 : Prop)) => ?_)
    ·
      refine And.intro (by decide) ?_
      refine c_Reader_changeTape (t := z1) (w := w) (show -1 ≤ z1 ∧ z1 ≤ 5 by first | omega | (subst_vars; omega)) (show -2147483648 ≤ w ∧ w < 2147483648 by first | omega | (subst_vars; omega)) (fun (S35 : fxS) (f36 : fxfr [(38, 0), (38, 1), (38, 2), (38, 3), (38, 4), (38, 7)] S S35) => ?_)
      have g37 : SegA S35 := fx_pfr SegA_stab f36 rfl (by assumption)
      exact hk S35 ⟨(fxfr_tr fxfr_rfl f36 rfl), by assumption⟩
    ·
      refine c_Reader_goOnRecalling (n := z32) (show 0 ≤ z32 ∧ z32 < 60 by first | omega | (subst_vars; omega)) (fun (S38 : fxS) (f39 : fxfr [(38, 2), (38, 3), (38, 4), (38, 8), (38, 9), (38, 10)] S S38) => ?_)
      have g40 : SegA S38 := fx_pfr SegA_stab f39 rfl (by assumption)
      exact hk S38 ⟨(fxfr_tr fxfr_rfl f39 rfl), by assumption⟩
theorem c_Reader_endRecall {l : Launch} {k : fxK} {S : fxS}  (p0 : SegA S) (p1 : 0 ≤ S 38 0 8) (hk : ∀ (S' : fxS) , (fxfr [(4, 6), (4, 7), (4, 11), (4, 12), (5, 9999), (6, 9999), (7, 9999), (8, 4), (9, 9999), (10, 9999), (11, 9999), (12, 9999), (13, 6), (13, 7), (13, 10), (15, 9999), (16, 9999), (17, 9999), (18, 9999), (19, 9999), (20, 0), (20, 1), (20, 3), (20, 4), (20, 5), (20, 6), (20, 7), (20, 11), (20, 12), (21, 9999), (22, 9999), (23, 9999), (24, 4), (25, 9999)] S S' ∧ (SegA S')) → k none S') : fC l 215 [.inr (.inr (38, 0))] S k := by
  refine fxe_215 (Nat.le_of_ble_eq_true rfl) (fxz_215 400 ?_)
  intro z1 (z1a : (-1 : Int) ≤ z1) (z1b : z1 ≤ (59 : Int)) (z1c : z1 = S 38 0 8)
  refine And.intro (show 0 ≤ z1 ∧ z1 < 60 by omega) ?_
  refine And.intro (by decide) ?_
  intro z2 (z2a : (-2147483648 : Int) ≤ z2) (z2b : z2 ≤ (2147483647 : Int)) (z2c : z2 = S 4 (z1).toNat 3)
  intro z3 (z3a : (-2147483648 : Int) ≤ z3) (z3b : z3 ≤ (2147483647 : Int)) (z3c : z3 = S 38 0 9)
  refine And.intro (fun (h4 : (z2 ≠ z3 : Prop)) => ?_) (fun (h4 : (z2 = z3 : Prop)) => ?_)
  ·
    exact hk S ⟨fxfr_rfl, by assumption⟩
  ·
    refine c_Node_isStub (i := (z1).toNat)  (fun (z5 : Int) (q6 : z5 = 0 ∨ z5 = 1) => ?_)
    refine And.intro (fun (h7 : (z5 = (0 : Int) : Prop)) => ?_) (fun (h7 : (z5 ≠ (0 : Int) : Prop)) => ?_)
    ·
      exact hk S ⟨fxfr_rfl, by assumption⟩
    ·
      intro z8 (z8a : (-1 : Int) ≤ z8) (z8b : z8 ≤ (59 : Int)) (z8c : z8 = S 38 0 8)
      obtain rfl : z1 = z8 := by omega
      refine c_Changes_isRecalled (n := z1) (show -2147483648 ≤ z1 ∧ z1 < 2147483648 by omega) (fun (z9 : Int) (q10 : z9 = 0 ∨ z9 = 1) => ?_)
      refine And.intro (fun (h11 : (z9 ≠ (0 : Int) : Prop)) => ?_) (fun (h11 : (z9 = (0 : Int) : Prop)) => ?_)
      ·
        intro z12 (z12a : (-1 : Int) ≤ z12) (z12b : z12 ≤ (5 : Int)) (z12c : z12 = S 38 0 0)
        intro z13 (z13a : (0 : Int) ≤ z13) (z13b : z13 ≤ (6000 : Int)) (z13c : z13 = S 38 0 10)
        refine c_Node_copyAt (i := (z1).toNat) (t := z12) (p := z13) (show -2147483648 ≤ z12 ∧ z12 < 2147483648 by omega) (show -2147483648 ≤ z13 ∧ z13 < 2147483648 by omega) (fun (z14 : Int) (q15 : -1 ≤ z14 ∧ z14 ≤ 1 ∧ (0 ≤ z14 → z14 < S 4 (z1).toNat 7 ∧ 0 ≤ z12 ∧ z12 ≤ 5)) => ?_)
        refine And.intro (by decide) ?_
        refine And.intro (fun (h16 : ((0 : Int) ≤ z14 : Prop)) => ?_) (fun (h16 : (z14 < (0 : Int) : Prop)) => ?_)
        ·
          intro z17 (z17a : (-1 : Int) ≤ z17) (z17b : z17 ≤ (5 : Int)) (z17c : z17 = S 38 0 0)
          obtain rfl : z12 = z17 := by omega
          refine And.intro (show 0 ≤ z12 ∧ z12 < 6 by omega) ?_
          refine And.intro (by decide) ?_
          intro z18 (z18a : (-1 : Int) ≤ z18) (z18b : z18 ≤ (5 : Int)) (z18c : z18 = S 38 0 0)
          obtain rfl : z12 = z18 := by omega
          intro z19 (z19a : (0 : Int) ≤ z19) (z19b : z19 ≤ (6000 : Int)) (z19c : z19 = S 38 0 10)
          obtain rfl : z13 = z19 := by omega
          refine c_Tape_indexAt (i := (z12).toNat) (p := z13) (show -2147483648 ≤ z13 ∧ z13 < 2147483648 by omega) (fun (z20 : Int) (q21 : -1 ≤ z20 ∧ z20 < 285 ∧ (0 ≤ z20 → z20 < S 32 (z12).toNat 5 ∧ S 34 (z12).toNat z20.toNat = z13)) => ?_)
          refine c_Library_fits (t := z12) (c := z20) (j := (z1).toNat) (show SegA S by assumption) (show 0 ≤ z12 ∧ z12 ≤ 5 by omega) (show -2147483648 ≤ z20 ∧ z20 < 2147483648 by omega) (fun (z22 : Int) (q23 : 0 ≤ z22 ∧ z22 ≤ 1 ∧ (z22 = 1 → 0 ≤ z20 ∧ z20 < S 32 z12.toNat 5 ∧ S 33 z12.toNat (S 34 z12.toNat z20.toNat + 1).toNat % 256 = 1 ∧ sN S 33 z12.toNat (S 34 z12.toNat z20.toNat + 15 + 8 * (S 33 z12.toNat (S 34 z12.toNat z20.toNat + 14).toNat % 256)) 2 = S 4 (z1).toNat 4)) => ?_)
          have ft : z22 = 1 → S 33 (z12).toNat (z13 + 1).toNat % 256 = 1 ∧ sN S 33 (z12).toNat (z13 + 15 + 8 * (S 33 (z12).toNat (z13 + 14).toNat % 256)) 2 = S 4 (z1).toNat 4 ∧ (8 ≤ z13 ∧ z13 + 21 + 8 * (S 33 (z12).toNat (z13 + 14).toNat % 256) ≤ S 32 (z12).toNat 1 ∧ S 32 (z12).toNat 1 ≤ 6000 ∧ (S 33 (z12).toNat (z13 + 14).toNat % 256) ≤ 5 ∧ (S 33 (z12).toNat (z13 + 1).toNat % 256 = 1 ∨ S 33 (z12).toNat (z13 + 1).toNat % 256 = 2) ∧ sN S 33 (z12).toNat (z13 + 15 + 8 * (S 33 (z12).toNat (z13 + 14).toNat % 256)) 2 ≤ 1024 ∧ (S 33 (z12).toNat (z13 + 1).toNat % 256 = 1 → 1 ≤ (S 33 (z12).toNat (z13 + 14).toNat % 256) ∧ z13 + 25 + 8 * (S 33 (z12).toNat (z13 + 14).toNat % 256) + sN S 33 (z12).toNat (z13 + 15 + 8 * (S 33 (z12).toNat (z13 + 14).toNat % 256)) 2 ≤ S 32 (z12).toNat 1)) := fun h => fits_at p0 (by omega) (fun q => (q21.2.2 q).2) (q23.2.2 h)
          refine And.intro (fun (h24 : (z22 ≠ (0 : Int) : Prop)) => ?_) (fun (h24 : (z22 = (0 : Int) : Prop)) => ?_)
          ·
            refine c_Node_blocks (i := (z1).toNat)  (fun (z25 : Int) (q26 : 0 ≤ z25 ∧ z25 ≤ 32 ∧ S 4 (z1).toNat 4 ≤ 32 * z25 ∧ 32 * z25 < S 4 (z1).toNat 4 + 32) => ?_)
            refine c_Stores_hasRoomFor (n := z25) (show -2147483648 ≤ z25 ∧ z25 < 2147483648 by omega) (fun (z27 : Int) (q28 : z27 = 0 ∨ z27 = 1) => ?_)
            refine And.intro (fun (h29 : (z27 = (0 : Int) : Prop)) => ?_) (fun (h29 : (z27 ≠ (0 : Int) : Prop)) => ?_)
            ·
              exact hk S ⟨fxfr_rfl, by assumption⟩
            ·
              intro z30 (z30a : (-1 : Int) ≤ z30) (z30b : z30 ≤ (59 : Int)) (z30c : z30 = S 38 0 8)
              obtain rfl : z1 = z30 := by omega
              intro z31 (z31a : (0 : Int) ≤ z31) (z31b : z31 ≤ (6000 : Int)) (z31c : z31 = S 38 0 10)
              obtain rfl : z13 = z31 := by omega
              refine c_Tape_dataPlace (i := (z12).toNat) (p := z13) (show 0 ≤ z13 ∧ z13 < 5986 by omega) (fun (z32 : Int) (q33 : z32 = z13 + 21 + 8 * (S 33 (z12).toNat (z13 + 14).toNat % 256)) => ?_)
              refine c_Changes_recall (n := z1) (i := (z12).toNat) (p := z32) (show 0 ≤ z1 ∧ z1 < 60 by omega) (show 0 ≤ z32 ∧ z32 ≤ 6000 ∧ z32 + S 4 (z1).toNat 4 ≤ 6000 by omega) (fun (S34 : fxS) (f35 : fxfr [(4, 6), (4, 11), (4, 12), (7, 9999), (8, 4), (9, 9999), (10, 9999), (11, 9999), (12, 9999), (13, 6), (13, 7), (13, 10), (15, 9999), (16, 9999), (17, 9999), (18, 9999), (19, 9999), (20, 0), (20, 1), (20, 3), (20, 4), (20, 5), (20, 6), (20, 7), (20, 11), (20, 12), (21, 9999), (22, 9999), (23, 9999), (24, 4), (25, 9999)] S S34) => ?_)
              have g36 : SegA S34 := fx_pfr SegA_stab f35 rfl (by assumption)
              exact hk S34 ⟨(fxfr_tr fxfr_rfl f35 rfl), by assumption⟩
          ·
            intro z37 (z37a : (-1 : Int) ≤ z37) (z37b : z37 ≤ (59 : Int)) (z37c : z37 = S 38 0 8)
            obtain rfl : z1 = z37 := by omega
            refine c_Changes_dropCopy (n := z1) (q := z14) (show 0 ≤ z1 ∧ z1 < 60 by omega) (show -2147483648 ≤ z14 ∧ z14 < 2147483648 by omega) (fun (S38 : fxS) (f39 : fxfr [(4, 7), (5, 9999), (6, 9999), (8, 4), (10, 9999), (11, 9999), (13, 6), (13, 7), (13, 10), (15, 9999), (16, 9999), (17, 9999), (18, 9999), (19, 9999), (20, 0), (20, 1), (20, 3), (20, 4), (20, 5), (20, 6), (20, 7), (20, 11), (20, 12), (21, 9999), (22, 9999), (23, 9999), (24, 4), (25, 9999)] S S38) => ?_)
            have g40 : SegA S38 := fx_pfr SegA_stab f39 rfl (by assumption)
            exact hk S38 ⟨(fxfr_tr fxfr_rfl f39 rfl), by assumption⟩
        ·
          exact hk S ⟨fxfr_rfl, by assumption⟩
      ·
        exact hk S ⟨fxfr_rfl, by assumption⟩
theorem c_Reader_endReclaim {l : Launch} {k : fxK} {S : fxS}  (p0 : SegA S) (hk : ∀ (S' : fxS) , (fxfr [(38, 13), (38, 15), (38, 16), (39, 9999)] S S' ∧ (SegA S')) → k none S') : fC l 216 [.inr (.inr (38, 0))] S k := by
  refine fxe_216 (Nat.le_of_ble_eq_true rfl) (fxz_216 400 ?_)
  intro z1 (z1a : (-1 : Int) ≤ z1) (z1b : z1 ≤ (5 : Int)) (z1c : z1 = S 38 0 12)
  refine And.intro (fun (h2 : ((0 : Int) ≤ z1 : Prop)) => ?_) (fun (h2 : (z1 < (0 : Int) : Prop)) => ?_)
  ·
    intro z3 (z3a : (-1 : Int) ≤ z3) (z3b : z3 ≤ (5 : Int)) (z3c : z3 = S 38 0 12)
    obtain rfl : z1 = z3 := by omega
    refine And.intro (show 0 ≤ z1 ∧ z1 < 6 by omega) ?_
    refine And.intro (by decide) ?_
    intro z4 (z4a : (0 : Int) ≤ z4) (z4b : z4 ≤ (7100 : Int)) (z4c : z4 = S 38 0 11)
    refine And.intro (show (0 : Int) ≤ z4 ∧ z4 ≤ (7100 : Int) by omega) ?_
    have w5 : (fx_up S 38 0 13 z4) 38 0 12 = S 38 0 12 := if_neg (fun q => absurd q.2.2 (by decide))
    have w6 : (fx_up S 38 0 13 z4) 38 0 10 = S 38 0 10 := if_neg (fun q => absurd q.2.2 (by decide))
    have g7 : SegA (fx_up S 38 0 13 z4) := fx_pup SegA_stab rfl (by assumption)
    intro z8 (z8a : (-1 : Int) ≤ z8) (z8b : z8 ≤ (5 : Int)) (z8c : z8 = S 38 0 12)
    obtain rfl : z1 = z8 := by omega
    intro z9 (z9a : (0 : Int) ≤ z9) (z9b : z9 ≤ (6000 : Int)) (z9c : z9 = S 38 0 10)
    refine c_Tape_indexAt (i := (z1).toNat) (p := z9) (show -2147483648 ≤ z9 ∧ z9 < 2147483648 by omega) (fun (z10 : Int) (q11 : -1 ≤ z10 ∧ z10 < 285 ∧ (0 ≤ z10 → z10 < S 32 (z1).toNat 5 ∧ S 34 (z1).toNat z10.toNat = z9)) => ?_)
    refine c_Library_isLive (t := z1) (c := z10) (show SegA (fx_up S 38 0 13 z4) by assumption) (show 0 ≤ z1 ∧ z1 ≤ 5 by omega) (show -2147483648 ≤ z10 ∧ z10 < 2147483648 by omega) (fun (z12 : Int) (q13 : 0 ≤ z12 ∧ z12 ≤ 1 ∧ (z12 = 1 → 0 ≤ z10 ∧ z10 < S 32 z1.toNat 5)) => ?_)
    have lv : z12 = 1 → (8 ≤ z9 ∧ z9 + 21 + 8 * (S 33 (z1).toNat (z9 + 14).toNat % 256) ≤ S 32 (z1).toNat 1 ∧ S 32 (z1).toNat 1 ≤ 6000 ∧ (S 33 (z1).toNat (z9 + 14).toNat % 256) ≤ 5 ∧ (S 33 (z1).toNat (z9 + 1).toNat % 256 = 1 ∨ S 33 (z1).toNat (z9 + 1).toNat % 256 = 2) ∧ sN S 33 (z1).toNat (z9 + 15 + 8 * (S 33 (z1).toNat (z9 + 14).toNat % 256)) 2 ≤ 1024 ∧ (S 33 (z1).toNat (z9 + 1).toNat % 256 = 1 → 1 ≤ (S 33 (z1).toNat (z9 + 14).toNat % 256) ∧ z9 + 25 + 8 * (S 33 (z1).toNat (z9 + 14).toNat % 256) + sN S 33 (z1).toNat (z9 + 15 + 8 * (S 33 (z1).toNat (z9 + 14).toNat % 256)) 2 ≤ S 32 (z1).toNat 1)) := fun h => SegA_at p0 (q := z10) ((q11.2.2 (q13.2.2 h).1).2).symm ⟨by omega, (q13.2.2 h).1, (q13.2.2 h).2⟩
    refine And.intro (fun (h14 : (z12 ≠ (0 : Int) : Prop)) => ?_) (fun (h14 : (z12 = (0 : Int) : Prop)) => ?_)
    ·
      intro z15 (z15a : (0 : Int) ≤ z15) (z15b : z15 ≤ (6000 : Int)) (z15c : z15 = S 38 0 10)
      obtain rfl : z9 = z15 := by omega
      refine And.intro (show (0 : Int) ≤ z9 ∧ z9 ≤ (6000 : Int) by omega) ?_
      have w16 : (fx_up (fx_up S 38 0 13 z4) 38 0 16 z9) 38 0 12 = (fx_up S 38 0 13 z4) 38 0 12 := if_neg (fun q => absurd q.2.2 (by decide))
      have w17 : (fx_up (fx_up S 38 0 13 z4) 38 0 16 z9) 38 0 10 = (fx_up S 38 0 13 z4) 38 0 10 := if_neg (fun q => absurd q.2.2 (by decide))
      have g18 : SegA (fx_up (fx_up S 38 0 13 z4) 38 0 16 z9) := fx_pup SegA_stab rfl (by assumption)
      intro z19 (z19a : (0 : Int) ≤ z19) (z19b : z19 ≤ (6000 : Int)) (z19c : z19 = S 38 0 10)
      obtain rfl : z9 = z19 := by omega
      refine c_Tape_wholeLength (i := (z1).toNat) (p := z9) (show 0 ≤ z9 ∧ z9 < 5986 ∧ z9 + 17 + 8 * (S 33 (z1).toNat (z9 + 14).toNat % 256) ≤ 6000 by omega) (fun (z20 : Int) (q21 : (S 33 (z1).toNat (z9 + 1).toNat % 256 = 1 → z20 = 25 + 8 * (S 33 (z1).toNat (z9 + 14).toNat % 256) + sN S 33 (z1).toNat (z9 + 15 + 8 * (S 33 (z1).toNat (z9 + 14).toNat % 256)) 2) ∧ (S 33 (z1).toNat (z9 + 1).toNat % 256 ≠ 1 → z20 = 21 + 8 * (S 33 (z1).toNat (z9 + 14).toNat % 256)) ∧ 0 ≤ z20 ∧ z20 ≤ 100000) => ?_)
      intro z22 (z22a : z22 ≤ z20) (z22b : z22 ≤ (1089 : Int)) (z22c : z22 = z20 ∨ z22 = (1089 : Int))
      refine And.intro (show (0 : Int) ≤ z22 ∧ z22 ≤ (1089 : Int) by omega) ?_
      have w23 : (fx_up (fx_up (fx_up S 38 0 13 z4) 38 0 16 z9) 38 0 15 z22) 38 0 12 = (fx_up (fx_up S 38 0 13 z4) 38 0 16 z9) 38 0 12 := if_neg (fun q => absurd q.2.2 (by decide))
      have w24 : (fx_up (fx_up (fx_up S 38 0 13 z4) 38 0 16 z9) 38 0 15 z22) 38 0 10 = (fx_up (fx_up S 38 0 13 z4) 38 0 16 z9) 38 0 10 := if_neg (fun q => absurd q.2.2 (by decide))
      have g25 : SegA (fx_up (fx_up (fx_up S 38 0 13 z4) 38 0 16 z9) 38 0 15 z22) := fx_pup SegA_stab rfl (by assumption)
      intro z26 (z26a : (0 : Int) ≤ z26) (z26b : z26 ≤ (6000 : Int)) (z26c : z26 = S 38 0 10)
      obtain rfl : z9 = z26 := by omega
      intro z27 (z27a : (0 : Int) ≤ z27) (z27b : z27 ≤ (1089 : Int)) (z27c : z27 = z22)
      refine And.intro (show ((-128 : Int) ≤ (-128 : Int) ∧ (127 : Int) ≤ (127 : Int) : Prop) by omega) (And.intro (show (0 ≤ z9 ∧ 0 ≤ (0 : Int)) ∧ (0 ≤ z27 ∧ z9 + z27 ≤ (6000 : Int) ∧ (0 : Int) + z27 ≤ (1089 : Int)) by omega) ?_)
      have w28 : (fx_cpy (fx_up (fx_up (fx_up S 38 0 13 z4) 38 0 16 z9) 38 0 15 z22) 39 0 (0 : Int) z27 33 (z1).toNat z9) 38 0 12 = (fx_up (fx_up (fx_up S 38 0 13 z4) 38 0 16 z9) 38 0 15 z22) 38 0 12 := rfl
      have w29 : (fx_cpy (fx_up (fx_up (fx_up S 38 0 13 z4) 38 0 16 z9) 38 0 15 z22) 39 0 (0 : Int) z27 33 (z1).toNat z9) 38 0 10 = (fx_up (fx_up (fx_up S 38 0 13 z4) 38 0 16 z9) 38 0 15 z22) 38 0 10 := rfl
      have g30 : SegA (fx_cpy (fx_up (fx_up (fx_up S 38 0 13 z4) 38 0 16 z9) 38 0 15 z22) 39 0 (0 : Int) z27 33 (z1).toNat z9) := fx_pcpy SegA_stab (fun _ => rfl) (by assumption)
      exact hk (fx_cpy (fx_up (fx_up (fx_up S 38 0 13 z4) 38 0 16 z9) 38 0 15 z22) 39 0 (0 : Int) z27 33 (z1).toNat z9) ⟨(fxfr_cpy (fxfr_up (fxfr_up (fxfr_up fxfr_rfl rfl) rfl) rfl) (fun _ => rfl)), by assumption⟩
    ·
      exact hk (fx_up S 38 0 13 z4) ⟨(fxfr_up fxfr_rfl rfl), by assumption⟩
  ·
    exact hk S ⟨fxfr_rfl, by assumption⟩
theorem c_Reader_finish {l : Launch} {k : fxK} {S : fxS}  (p0 : SegA S) (hk : ∀ (S' : fxS) , (fxfr [(4, 6), (4, 7), (4, 11), (4, 12), (5, 9999), (6, 9999), (7, 9999), (8, 4), (9, 9999), (10, 9999), (11, 9999), (12, 9999), (13, 6), (13, 7), (13, 10), (15, 9999), (16, 9999), (17, 9999), (18, 9999), (19, 9999), (20, 0), (20, 1), (20, 3), (20, 4), (20, 5), (20, 6), (20, 7), (20, 11), (20, 12), (21, 9999), (22, 9999), (23, 9999), (24, 4), (25, 9999), (38, 13), (38, 15), (38, 16), (39, 9999)] S S' ∧ (SegA S')) → k none S') : fC l 217 [.inr (.inr (38, 0))] S k := by
  refine fxe_217 (Nat.le_of_ble_eq_true rfl) (fxz_217 400 ?_)
  intro z1 (z1a : (-1 : Int) ≤ z1) (z1b : z1 ≤ (59 : Int)) (z1c : z1 = S 38 0 8)
  refine And.intro (fun (h2 : (z1 < (0 : Int) : Prop)) => ?_) (fun (h2 : ((0 : Int) ≤ z1 : Prop)) => ?_)
  ·
    refine c_Reader_endReclaim  (show SegA S by assumption) (fun (S3 : fxS) ⟨(f4 : fxfr [(38, 13), (38, 15), (38, 16), (39, 9999)] S S3), (g5 : SegA S3)⟩ => ?_)
    exact hk S3 ⟨(fxfr_tr fxfr_rfl f4 rfl), by assumption⟩
  ·
    refine c_Reader_endRecall  (show SegA S by assumption) (show 0 ≤ S 38 0 8 by omega) (fun (S6 : fxS) ⟨(f7 : fxfr [(4, 6), (4, 7), (4, 11), (4, 12), (5, 9999), (6, 9999), (7, 9999), (8, 4), (9, 9999), (10, 9999), (11, 9999), (12, 9999), (13, 6), (13, 7), (13, 10), (15, 9999), (16, 9999), (17, 9999), (18, 9999), (19, 9999), (20, 0), (20, 1), (20, 3), (20, 4), (20, 5), (20, 6), (20, 7), (20, 11), (20, 12), (21, 9999), (22, 9999), (23, 9999), (24, 4), (25, 9999)] S S6), (g8 : SegA S6)⟩ => ?_)
    exact hk S6 ⟨(fxfr_tr fxfr_rfl f7 rfl), by assumption⟩
