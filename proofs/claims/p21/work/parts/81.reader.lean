/-! contracts: the reading drive of the class -/
theorem z_Changes_recall {l : Launch} {k : fxK} {S : fxS} {n : Int} {i : Nat} {p : Int} (p0 : 0 ≤ n ∧ n < 60) (p1 : 0 ≤ p ∧ p ≤ 6000 ∧ p + S 4 (n).toNat 4 ≤ 6000) (p2 : TreeL S) (hk : ∀ (S' : fxS) , (fxfr [(4, 6), (4, 11), (4, 12), (7, 9999), (8, 4), (9, 9999), (10, 9999), (11, 9999), (12, 9999), (13, 6), (13, 7), (13, 10), (15, 9999), (16, 9999), (17, 9999), (18, 9999), (19, 9999), (20, 0), (20, 1), (20, 3), (20, 4), (20, 5), (20, 6), (20, 7), (20, 11), (20, 12), (21, 9999), (22, 9999), (23, 9999), (24, 4), (25, 9999)] S S' ∧ (TreeL S')) → k none S') : ∀ m : Nat, (∀ (u s b : Int) (S1 : fxS), (fxfr [(4, 6), (4, 11), (4, 12), (7, 9999), (8, 4), (9, 9999), (10, 9999), (11, 9999), (12, 9999), (13, 6), (13, 7), (13, 10), (15, 9999), (16, 9999), (17, 9999), (18, 9999), (19, 9999), (20, 0), (20, 1), (20, 3), (20, 4), (20, 5), (20, 6), (20, 7), (20, 11), (20, 12), (21, 9999), (22, 9999), (23, 9999), (24, 4), (25, 9999)] S S1) → (0 ≤ b ∧ b ≤ 32) → (0 ≤ u ∧ u ≤ 32) → (S1 4 (n).toNat 4 = S 4 (n).toNat 4 ∧ 0 ≤ s ∧ s ≤ 1) → (TreeO n S1) → (NS S S1) → 33 - b ≤ (m : Int) → fZ l 214 k 59 [some (.inr (.inr (24, 0))), some (.inl n), some (.inr (.inr (33, i))), some (.inl p), some (.inr (.inr (4, (n).toNat))), some (.inl u), some (.inl s), some (.inl b), none] [] S1) := by
  intro m
  induction m with
  | zero =>
    intro u s b S1 hf i0 i1 i2 i3 i4 hmu
    exfalso
    omega
  | succ m ih =>
    intro u s b S1 hf i0 i1 i2 i3 i4 hmu
    refine fxz_214 400 ?_
    refine And.intro (fun (h1 : (u ≤ b : Prop)) => ?_) (fun (h1 : (b < u : Prop)) => ?_)
    ·
      intro z2 (z2a : (-2147483648 : Int) ≤ z2) (z2b : z2 ≤ (2147483647 : Int)) (z2c : z2 = S1 2 0 1)
      refine And.intro (show (-2147483648 : Int) ≤ z2 ∧ z2 ≤ (2147483647 : Int) by omega) ?_
      have w3 : (fx_up S1 4 (n).toNat 6 z2) 4 (n).toNat 4 = S1 4 (n).toNat 4 := if_neg (fun q => absurd q.2.2 (by decide))
      have g4 : TreeO n (fx_up S1 4 (n).toNat 6 z2) := fx_pup TreeO_stab rfl i3
      have g5 : NS S (fx_up S1 4 (n).toNat 6 z2) := fx_pup NS_stab rfl i4
      refine c_Changes_forgetRecall (n := n) (show -2147483648 ≤ n ∧ n < 2147483648 by omega) (fun (S6 : fxS) (f7 : fxfr [(24, 4), (25, 9999)] (fx_up S1 4 (n).toNat 6 z2) S6) => ?_)
      have w8 : S6 4 (n).toNat 4 = (fx_up S1 4 (n).toNat 6 z2) 4 (n).toNat 4 := f7 4 (n).toNat 4 rfl
      have g9 : TreeO n S6 := fx_pfr TreeO_stab f7 rfl g4
      have g10 : NS S S6 := fx_pfr NS_stab f7 rfl g5
      exact hk S6 ⟨(fxfr_tr (fxfr_up hf rfl) f7 rfl), by first | assumption | exact Tree_keep (by assumption) (by assumption) (by assumption) | exact LCt_of (by omega)⟩
    ·
      refine And.intro (fun (h11 : ((32 : Int) ≤ b : Prop)) => ?_) (fun (h11 : (b < (32 : Int) : Prop)) => ?_)
      ·
        intro z12 (z12a : (-2147483648 : Int) ≤ z12) (z12b : z12 ≤ (2147483647 : Int)) (z12c : z12 = S1 2 0 1)
        refine And.intro (show (-2147483648 : Int) ≤ z12 ∧ z12 ≤ (2147483647 : Int) by omega) ?_
        have w13 : (fx_up S1 4 (n).toNat 6 z12) 4 (n).toNat 4 = S1 4 (n).toNat 4 := if_neg (fun q => absurd q.2.2 (by decide))
        have g14 : TreeO n (fx_up S1 4 (n).toNat 6 z12) := fx_pup TreeO_stab rfl i3
        have g15 : NS S (fx_up S1 4 (n).toNat 6 z12) := fx_pup NS_stab rfl i4
        refine c_Changes_forgetRecall (n := n) (show -2147483648 ≤ n ∧ n < 2147483648 by omega) (fun (S16 : fxS) (f17 : fxfr [(24, 4), (25, 9999)] (fx_up S1 4 (n).toNat 6 z12) S16) => ?_)
        have w18 : S16 4 (n).toNat 4 = (fx_up S1 4 (n).toNat 6 z12) 4 (n).toNat 4 := f17 4 (n).toNat 4 rfl
        have g19 : TreeO n S16 := fx_pfr TreeO_stab f17 rfl g14
        have g20 : NS S S16 := fx_pfr NS_stab f17 rfl g15
        exact hk S16 ⟨(fxfr_tr (fxfr_up hf rfl) f17 rfl), by first | assumption | exact Tree_keep (by assumption) (by assumption) (by assumption) | exact LCt_of (by omega)⟩
      ·
        refine c_Stores_giveOf (s := s) (show -2147483648 ≤ s ∧ s < 2147483648 by omega) (fun (z21 : Int) (S22 : fxS) ⟨(f23 : fxfr [(10, 9999), (11, 9999), (12, 9999)] S1 S22), (q24 : -1 ≤ z21 ∧ z21 ≤ 207)⟩ => ?_)
        have w25 : S22 4 (n).toNat 4 = S1 4 (n).toNat 4 := f23 4 (n).toNat 4 rfl
        have g26 : TreeO n S22 := fx_pfr TreeO_stab f23 rfl i3
        have g27 : NS S S22 := fx_pfr NS_stab f23 rfl i4
        refine And.intro (by decide) ?_
        refine c_Stores_putBlock (o := (-1 : Int)) (b := z21) (n := (0 : Int)) (show -1 ≤ (-1 : Int) ∧ (-1 : Int) ≤ 207 by omega) (show (0 : Int) ≤ 32 by omega) (show -2147483648 ≤ z21 ∧ z21 < 2147483648 by omega) (fun (S28 : fxS) (f29 : fxfr [(9, 9999)] S22 S28) => ?_)
        have w30 : S28 4 (n).toNat 4 = S22 4 (n).toNat 4 := f29 4 (n).toNat 4 rfl
        have g31 : TreeO n S28 := fx_pfr TreeO_stab f29 rfl g26
        have g32 : NS S S28 := fx_pfr NS_stab f29 rfl g27
        refine And.intro (show -2147483648 ≤ (b * (32 : Int)) ∧ (b * (32 : Int)) < 2147483648 by omega) ?_
        refine And.intro (show -2147483648 ≤ (p + (b * (32 : Int))) ∧ (p + (b * (32 : Int))) < 2147483648 by omega) ?_
        intro z33 (z33a : (0 : Int) ≤ z33) (z33b : z33 ≤ (1024 : Int)) (z33c : z33 = S28 4 (n).toNat 4)
        refine And.intro (show -2147483648 ≤ (b * (32 : Int)) ∧ (b * (32 : Int)) < 2147483648 by omega) ?_
        refine And.intro (show -2147483648 ≤ (z33 - (b * (32 : Int))) ∧ (z33 - (b * (32 : Int))) < 2147483648 by omega) ?_
        intro z34 (z34a : z34 ≤ (32 : Int)) (z34b : z34 ≤ (z33 - (b * (32 : Int)))) (z34c : z34 = (32 : Int) ∨ z34 = (z33 - (b * (32 : Int))))
        refine c_put33 (i := i) (f := (p + (b * (32 : Int)))) (b := z21) (a := (0 : Int)) (n := z34) (show z34 ≤ 0 ∨ (0 ≤ (p + (b * (32 : Int))) ∧ (p + (b * (32 : Int))) + z34 ≤ 6000 ∧ 0 ≤ (0 : Int) ∧ (0 : Int) + z34 ≤ 32) by omega) (show -2147483648 ≤ z21 ∧ z21 < 2147483648 by omega) (fun (S35 : fxS) (f36 : fxfr [(9, 9999)] S28 S35) => ?_)
        have w37 : S35 4 (n).toNat 4 = S28 4 (n).toNat 4 := f36 4 (n).toNat 4 rfl
        have g38 : TreeO n S35 := fx_pfr TreeO_stab f36 rfl g31
        have g39 : NS S S35 := fx_pfr NS_stab f36 rfl g32
        refine c_Node_setHome (i := (n).toNat) (j := b) (b := z21) (show 0 ≤ b ∧ b < 32 by omega) (show -1 ≤ z21 ∧ z21 ≤ 207 by omega) (fun (S40 : fxS) (f41 : fxfr [(4, 11), (4, 12), (7, 9999)] S35 S40) => ?_)
        have w42 : S40 4 (n).toNat 4 = S35 4 (n).toNat 4 := f41 4 (n).toNat 4 rfl
        have g43 : TreeO n S40 := fx_pfr TreeO_stab f41 rfl g38
        have g44 : NS S S40 := fx_pfr NS_stab f41 rfl g39
        refine And.intro (by decide) (And.intro (show -2147483648 ≤ b + (1 : Int) ∧ b + (1 : Int) < 2147483648 by omega) ?_)
        exact ih u s (b + (1 : Int)) S40 (fxfr_tr (fxfr_tr (fxfr_tr (fxfr_tr hf f23 rfl) f29 rfl) f36 rfl) f41 rfl) (by omega) (by omega) (by omega) g43 g44 (by omega)
theorem c_Changes_recall {l : Launch} {k : fxK} {S : fxS} {n : Int} {i : Nat} {p : Int} (p0 : 0 ≤ n ∧ n < 60) (p1 : 0 ≤ p ∧ p ≤ 6000 ∧ p + S 4 (n).toNat 4 ≤ 6000) (p2 : TreeL S) (hk : ∀ (S' : fxS) , (fxfr [(4, 6), (4, 11), (4, 12), (7, 9999), (8, 4), (9, 9999), (10, 9999), (11, 9999), (12, 9999), (13, 6), (13, 7), (13, 10), (15, 9999), (16, 9999), (17, 9999), (18, 9999), (19, 9999), (20, 0), (20, 1), (20, 3), (20, 4), (20, 5), (20, 6), (20, 7), (20, 11), (20, 12), (21, 9999), (22, 9999), (23, 9999), (24, 4), (25, 9999)] S S' ∧ (TreeL S')) → k none S') : fC l 214 [.inr (.inr (24, 0)), .inl n, .inr (.inr (33, i)), .inl p] S k := by
  have n46 : NS S S := NS_rfl
  refine fxe_214 (Nat.le_of_ble_eq_true rfl) (fxz_214 400 ?_)
  refine And.intro (show 0 ≤ n ∧ n < 60 by omega) ?_
  refine And.intro (by decide) ?_
  intro z47 (z47a : (0 : Int) ≤ z47) (z47b : z47 ≤ (1024 : Int)) (z47c : z47 = S 4 (n).toNat 4)
  refine c_Changes_lengthWith (n := z47) (show 0 ≤ z47 ∧ z47 ≤ 1024 by omega) (fun (z48 : Int) (q49 : 0 ≤ z48 ∧ z48 ≤ 200) => ?_)
  refine c_Log_add (n := n) (e := z48) (d := (0 : Int)) (show 0 ≤ n ∧ n < 60 by omega) p2 (show -2147483648 ≤ z48 ∧ z48 < 2147483648 by omega) (show -2147483648 ≤ (0 : Int) ∧ (0 : Int) < 2147483648 by omega) (fun (S50 : fxS) ⟨(f51 : fxfr [(8, 4), (10, 9999), (11, 9999), (13, 6), (13, 7), (13, 10), (15, 9999), (16, 9999), (17, 9999), (18, 9999), (19, 9999), (20, 0), (20, 1), (20, 3), (20, 4), (20, 5), (20, 6), (20, 7), (20, 11), (20, 12), (21, 9999), (22, 9999), (23, 9999)] S S50), (g52 : TreeO n S50)⟩ => ?_)
  have w53 : S50 4 (n).toNat 4 = S 4 (n).toNat 4 := f51 4 (n).toNat 4 rfl
  have g54 : NS S S50 := fx_pfr NS_stab f51 rfl n46
  refine c_Node_blocks (i := (n).toNat)  (fun (z55 : Int) (q56 : 0 ≤ z55 ∧ z55 ≤ 32 ∧ S50 4 (n).toNat 4 ≤ 32 * z55 ∧ 32 * z55 < S50 4 (n).toNat 4 + 32) => ?_)
  refine And.intro (by decide) ?_
  refine And.intro (show 0 ≤ (0 : Int) ∧ (0 : Int) < 2 by omega) ?_
  intro z57 (z57a : (-2147483648 : Int) ≤ z57) (z57b : z57 ≤ (2147483647 : Int)) (z57c : z57 = S50 11 0 ((0 : Int)).toNat)
  refine And.intro (fun (h58 : (z57 < z55 : Prop)) => ?_) (fun (h58 : (z55 ≤ z57 : Prop)) => ?_)
  ·
    refine And.intro (by decide) ?_
    refine And.intro (by decide) ?_
    exact (z_Changes_recall p0 p1 p2 hk (33 - (0 : Int)).toNat) z55 (1 : Int) (0 : Int) S50 (fxfr_tr fxfr_rfl f51 rfl) (by omega) (by omega) (by omega) g52 g54 (by omega)
  ·
    refine And.intro (by decide) ?_
    refine And.intro (by decide) ?_
    exact (z_Changes_recall p0 p1 p2 hk (33 - (0 : Int)).toNat) z55 (0 : Int) (0 : Int) S50 (fxfr_tr fxfr_rfl f51 rfl) (by omega) (by omega) (by omega) g52 g54 (by omega)
theorem c_Reader_goOnReclaiming {l : Launch} {k : fxK} {S : fxS} {c : Int} (p0 : SegA S) (p1 : 0 ≤ S 38 0 12) (p2 : 0 ≤ c ∧ c < 285 ∧ c < S 32 (S 38 0 12).toNat 5) (hk : ∀ (S' : fxS) , (fxfr [(38, 2), (38, 3), (38, 4), (38, 8), (38, 10), (38, 11)] S S' ∧ (SegA S')) → k none S') : fC l 201 [.inr (.inr (38, 0)), .inl c] S k := by
  refine fxe_201 (Nat.le_of_ble_eq_true rfl) (fxz_201 400 ?_)
  intro z1 (z1a : (-1 : Int) ≤ z1) (z1b : z1 ≤ (5 : Int)) (z1c : z1 = S 38 0 12)
  have hc : c < S 32 (z1).toNat 5 := by rw [z1c]; exact p2.2.2
  refine And.intro (show 0 ≤ z1 ∧ z1 < 6 by omega) ?_
  refine And.intro (by decide) ?_
  refine And.intro (show 0 ≤ c ∧ c < 285 by omega) ?_
  intro z2 (z2a : (0 : Int) ≤ z2) (z2b : z2 ≤ (5979 : Int)) (z2c : z2 = S 34 (z1).toNat (c).toNat)
  have s3 : ((z1).toNat < 6 ∧ 0 ≤ c ∧ c < S 32 (z1).toNat 5) → (8 ≤ z2 ∧ z2 + 21 + 8 * (S 33 (z1).toNat (z2 + 14).toNat % 256) ≤ S 32 (z1).toNat 1 ∧ S 32 (z1).toNat 1 ≤ 6000 ∧ (S 33 (z1).toNat (z2 + 14).toNat % 256) ≤ 5 ∧ (S 33 (z1).toNat (z2 + 1).toNat % 256 = 1 ∨ S 33 (z1).toNat (z2 + 1).toNat % 256 = 2) ∧ sN S 33 (z1).toNat (z2 + 15 + 8 * (S 33 (z1).toNat (z2 + 14).toNat % 256)) 2 ≤ 1024 ∧ (S 33 (z1).toNat (z2 + 1).toNat % 256 = 1 → 1 ≤ (S 33 (z1).toNat (z2 + 14).toNat % 256) ∧ z2 + 25 + 8 * (S 33 (z1).toNat (z2 + 14).toNat % 256) + sN S 33 (z1).toNat (z2 + 15 + 8 * (S 33 (z1).toNat (z2 + 14).toNat % 256)) 2 ≤ S 32 (z1).toNat 1)) := SegA_at (by assumption) z2c
  refine And.intro (by decide) ?_
  intro z4 (z4a : (0 : Int) ≤ z4) (z4b : z4 ≤ (7100 : Int)) (z4c : z4 = S 38 0 1)
  refine And.intro (fun (h5 : (z4 = z2 : Prop)) => ?_) (fun (h5 : (z4 ≠ z2 : Prop)) => ?_)
  ·
    refine And.intro (show (-1 : Int) ≤ (-1 : Int) ∧ (-1 : Int) ≤ (59 : Int) by omega) ?_
    have g6 : SegA (fx_up S 38 0 8 (-1 : Int)) := fx_pup SegA_stab rfl p0
    refine c_Tape_wholeLength (i := (z1).toNat) (p := z2) (show 0 ≤ z2 ∧ z2 < 5986 ∧ z2 + 17 + 8 * (S 33 (z1).toNat (z2 + 14).toNat % 256) ≤ 6000 by omega) (fun (z7 : Int) (q8 : (S 33 (z1).toNat (z2 + 1).toNat % 256 = 1 → z7 = 25 + 8 * (S 33 (z1).toNat (z2 + 14).toNat % 256) + sN S 33 (z1).toNat (z2 + 15 + 8 * (S 33 (z1).toNat (z2 + 14).toNat % 256)) 2) ∧ (S 33 (z1).toNat (z2 + 1).toNat % 256 ≠ 1 → z7 = 21 + 8 * (S 33 (z1).toNat (z2 + 14).toNat % 256)) ∧ 0 ≤ z7 ∧ z7 ≤ 100000) => ?_)
    refine And.intro (show -2147483648 ≤ (z2 + z7) ∧ (z2 + z7) < 2147483648 by omega) ?_
    refine And.intro (show (0 : Int) ≤ (z2 + z7) ∧ (z2 + z7) ≤ (7100 : Int) by omega) ?_
    have g9 : SegA (fx_up (fx_up S 38 0 8 (-1 : Int)) 38 0 11 (z2 + z7)) := fx_pup SegA_stab rfl g6
    refine c_Tape_sizeAt (i := (z1).toNat) (p := z2) (show 0 ≤ z2 ∧ z2 < 5986 ∧ z2 + 17 + 8 * (S 33 (z1).toNat (z2 + 14).toNat % 256) ≤ 6000 by omega) (fun (z10 : Int) (q11 : z10 = sN S 33 (z1).toNat (z2 + 15 + 8 * (S 33 (z1).toNat (z2 + 14).toNat % 256)) 2 ∧ 0 ≤ z10 ∧ z10 ≤ 65535) => ?_)
    refine c_Reader_beginReading (p := z2) (z := z10) (show 0 ≤ z2 ∧ z2 ≤ 6000 by omega) (show 0 ≤ z10 ∧ z10 ≤ 1024 by omega) (fun S12 f13 => ?_)
    replace f13 : fxfr [(38, 2), (38, 3), (38, 4), (38, 10)] (fx_up (fx_up S 38 0 8 (-1 : Int)) 38 0 11 (z2 + z7)) S12 := f13
    have g14 : SegA S12 := fx_pfr SegA_stab f13 rfl g9
    exact hk S12 ⟨(fxfr_tr (fxfr_up (fxfr_up fxfr_rfl rfl) rfl) f13 rfl), g14⟩
  ·
    refine c_beginWinding38 (p := z2) (show 0 ≤ z2 ∧ z2 ≤ 7100 by omega) (fun (S15 : fxS) (f16 : fxfr [(38, 2), (38, 3), (38, 4)] S S15) => ?_)
    have g17 : SegA S15 := fx_pfr SegA_stab f16 rfl p0
    exact hk S15 ⟨(fxfr_tr fxfr_rfl f16 rfl), g17⟩
theorem c_Reader_blankReclaimed {l : Launch} {k : fxK} {S : fxS}  (p0 : SegA S) (p1 : 0 ≤ S 38 0 12) (p2 : TreeL S) (hk : ∀ (S' : fxS) , (fxfr [(4, 7), (5, 9999), (6, 9999), (8, 4), (10, 9999), (11, 9999), (13, 6), (13, 7), (13, 10), (15, 9999), (16, 9999), (17, 9999), (18, 9999), (19, 9999), (20, 0), (20, 1), (20, 3), (20, 4), (20, 5), (20, 6), (20, 7), (20, 11), (20, 12), (21, 9999), (22, 9999), (23, 9999), (24, 4), (25, 9999), (26, 3), (32, 1), (32, 2), (32, 3), (32, 4), (32, 5), (38, 1), (38, 12)] S S' ∧ (SegA S') ∧ (TreeL S')) → k none S') : fC l 207 [.inr (.inr (38, 0))] S k := by
  refine fxe_207 (Nat.le_of_ble_eq_true rfl) (fxz_207 400 ?_)
  intro z1 (z1a : (-1 : Int) ≤ z1) (z1b : z1 ≤ (5 : Int)) (z1c : z1 = S 38 0 12)
  have wt : WTS S := TreeL_wt (by assumption)
  refine And.intro (by decide) ?_
  refine c_Log_keepAll  wt (fun (z2 : Int) (S3 : fxS) ⟨(f4 : fxfr [(8, 4), (10, 9999), (11, 9999), (13, 6), (13, 7), (19, 9999)] S S3), (q5 : -2147483648 ≤ z2 ∧ z2 < 2147483648 ∧ (S3 13 0 6 = 0)), (g6 : TreeL S3)⟩ => ?_)
  have g7 : SegA S3 := fx_pfr SegA_stab f4 rfl p0
  have g8 : WTS S3 := fx_pfr WTS_stab f4 rfl wt
  refine c_Library_wipe (t := z1) g7 (show 0 ≤ z1 ∧ z1 ≤ 5 by omega) (fun (S9 : fxS) ⟨(f10 : fxfr [(26, 3), (32, 1), (32, 2), (32, 3), (32, 4), (32, 5)] S3 S9), (g11 : SegA S9), (g12 : fxix (z1).toNat S3 S9)⟩ => ?_)
  have g13 : TreeL S9 := fx_pfr TreeL_stab f10 rfl g6
  have g14 : WTS S9 := fx_pfr WTS_stab f10 rfl g8
  refine And.intro (show (0 : Int) ≤ (0 : Int) ∧ (0 : Int) ≤ (7100 : Int) by omega) ?_
  have g15 : SegA (fx_up S9 38 0 1 (0 : Int)) := fx_pup SegA_stab rfl g11
  have g16 : TreeL (fx_up S9 38 0 1 (0 : Int)) := fx_pup TreeL_stab rfl g13
  have g17 : WTS (fx_up S9 38 0 1 (0 : Int)) := fx_pup WTS_stab rfl g14
  refine And.intro (show (-1 : Int) ≤ (-1 : Int) ∧ (-1 : Int) ≤ (5 : Int) by omega) ?_
  have g18 : SegA (fx_up (fx_up S9 38 0 1 (0 : Int)) 38 0 12 (-1 : Int)) := fx_pup SegA_stab rfl g15
  have g19 : TreeL (fx_up (fx_up S9 38 0 1 (0 : Int)) 38 0 12 (-1 : Int)) := fx_pup TreeL_stab rfl g16
  have g20 : WTS (fx_up (fx_up S9 38 0 1 (0 : Int)) 38 0 12 (-1 : Int)) := fx_pup WTS_stab rfl g17
  refine c_Changes_dropCopiesOn (t := z1) g19 (show -2147483648 ≤ z1 ∧ z1 < 2147483648 by omega) (fun S21 ⟨f22, g23⟩ => ?_)
  replace f22 : fxfr [(4, 7), (5, 9999), (6, 9999), (8, 4), (10, 9999), (11, 9999), (13, 6), (13, 7), (13, 10), (15, 9999), (16, 9999), (17, 9999), (18, 9999), (19, 9999), (20, 0), (20, 1), (20, 3), (20, 4), (20, 5), (20, 6), (20, 7), (20, 11), (20, 12), (21, 9999), (22, 9999), (23, 9999), (24, 4), (25, 9999)] (fx_up (fx_up S9 38 0 1 (0 : Int)) 38 0 12 (-1 : Int)) S21 := f22
  replace g23 : TreeL S21 := g23
  have g24 : SegA S21 := fx_pfr SegA_stab f22 rfl g18
  have g25 : WTS S21 := fx_pfr WTS_stab f22 rfl g20
  exact hk S21 ⟨(fxfr_tr (fxfr_up (fxfr_up (fxfr_tr (fxfr_tr fxfr_rfl f4 rfl) f10 rfl) rfl) rfl) f22 rfl), g24, g23⟩
theorem c_Reader_choose {l : Launch} {k : fxK} {S : fxS} {w : Int} (p0 : SegA S) (p1 : TreeL S) (p2 : -2147483648 ≤ w ∧ w < 2147483648) (hk : ∀ (S' : fxS) , (fxfr [(4, 7), (5, 9999), (6, 9999), (8, 4), (10, 9999), (11, 9999), (13, 6), (13, 7), (13, 10), (15, 9999), (16, 9999), (17, 9999), (18, 9999), (19, 9999), (20, 0), (20, 1), (20, 3), (20, 4), (20, 5), (20, 6), (20, 7), (20, 11), (20, 12), (21, 9999), (22, 9999), (23, 9999), (24, 4), (25, 9999), (26, 3), (32, 1), (32, 2), (32, 3), (32, 4), (32, 5), (38, 0), (38, 1), (38, 2), (38, 3), (38, 4), (38, 7), (38, 8), (38, 9), (38, 10), (38, 11), (38, 12)] S S' ∧ (SegA S') ∧ (TreeL S')) → k none S') : fC l 211 [.inr (.inr (38, 0)), .inl w] S k := by
  refine fxe_211 (Nat.le_of_ble_eq_true rfl) (fxz_211 400 ?_)
  refine And.intro (by decide) ?_
  refine c_Reader_firstRecall   (fun (z1 : Int) (q2 : -1 ≤ z1 ∧ z1 ≤ 5) => ?_)
  refine And.intro (by decide) ?_
  refine And.intro (fun (h3 : (z1 < (0 : Int) : Prop)) => ?_) (fun (h3 : ((0 : Int) ≤ z1 : Prop)) => ?_)
  ·
    intro z4 (z4a : (-1 : Int) ≤ z4) (z4b : z4 ≤ (5 : Int)) (z4c : z4 = S 38 0 12)
    refine And.intro (fun (h5 : (z4 < (0 : Int) : Prop)) => ?_) (fun (h5 : ((0 : Int) ≤ z4 : Prop)) => ?_)
    ·
      refine c_Reader_changeTape (t := (-1 : Int)) (w := w) (show -1 ≤ (-1 : Int) ∧ (-1 : Int) ≤ 5 by first | omega | (subst_vars; omega)) (show -2147483648 ≤ w ∧ w < 2147483648 by first | omega | (subst_vars; omega)) (fun (S6 : fxS) (f7 : fxfr [(38, 0), (38, 1), (38, 2), (38, 3), (38, 4), (38, 7)] S S6) => ?_)
      have g8 : SegA S6 := fx_pfr SegA_stab f7 rfl p0
      have g9 : TreeL S6 := fx_pfr TreeL_stab f7 rfl p1
      exact hk S6 ⟨(fxfr_tr fxfr_rfl f7 rfl), g8, g9⟩
    ·
      intro z10 (z10a : (0 : Int) ≤ z10) (z10b : z10 ≤ (1089 : Int)) (z10c : z10 = S 38 0 15)
      refine And.intro (fun (h11 : (z10 ≠ (0 : Int) : Prop)) => ?_) (fun (h11 : (z10 = (0 : Int) : Prop)) => ?_)
      ·
        refine c_Reader_changeTape (t := (-1 : Int)) (w := w) (show -1 ≤ (-1 : Int) ∧ (-1 : Int) ≤ 5 by first | omega | (subst_vars; omega)) (show -2147483648 ≤ w ∧ w < 2147483648 by first | omega | (subst_vars; omega)) (fun (S12 : fxS) (f13 : fxfr [(38, 0), (38, 1), (38, 2), (38, 3), (38, 4), (38, 7)] S S12) => ?_)
        have g14 : SegA S12 := fx_pfr SegA_stab f13 rfl p0
        have g15 : TreeL S12 := fx_pfr TreeL_stab f13 rfl p1
        exact hk S12 ⟨(fxfr_tr fxfr_rfl f13 rfl), g14, g15⟩
      ·
        intro z16 (z16a : (-1 : Int) ≤ z16) (z16b : z16 ≤ (5 : Int)) (z16c : z16 = S 38 0 0)
        intro z17 (z17a : (-1 : Int) ≤ z17) (z17b : z17 ≤ (5 : Int)) (z17c : z17 = S 38 0 12)
        obtain rfl : z4 = z17 := by omega
        refine And.intro (fun (h18 : (z16 ≠ z4 : Prop)) => ?_) (fun (h18 : (z16 = z4 : Prop)) => ?_)
        ·
          intro z19 (z19a : (-1 : Int) ≤ z19) (z19b : z19 ≤ (5 : Int)) (z19c : z19 = S 38 0 12)
          obtain rfl : z4 = z19 := by omega
          refine And.intro (by decide) ?_
          refine c_Reader_changeTape (t := z4) (w := w) (show -1 ≤ z4 ∧ z4 ≤ 5 by first | omega | (subst_vars; omega)) (show -2147483648 ≤ w ∧ w < 2147483648 by first | omega | (subst_vars; omega)) (fun (S20 : fxS) (f21 : fxfr [(38, 0), (38, 1), (38, 2), (38, 3), (38, 4), (38, 7)] S S20) => ?_)
          have g22 : SegA S20 := fx_pfr SegA_stab f21 rfl p0
          have g23 : TreeL S20 := fx_pfr TreeL_stab f21 rfl p1
          exact hk S20 ⟨(fxfr_tr fxfr_rfl f21 rfl), g22, g23⟩
        ·
          intro z24 (z24a : (-1 : Int) ≤ z24) (z24b : z24 ≤ (5 : Int)) (z24c : z24 = S 38 0 12)
          obtain rfl : z4 = z24 := by omega
          intro z25 (z25a : (0 : Int) ≤ z25) (z25b : z25 ≤ (7100 : Int)) (z25c : z25 = S 38 0 13)
          refine c_Library_nextLive (t := z4) (p := z25) p0 (show 0 ≤ z4 ∧ z4 ≤ 5 by first | omega | (subst_vars; omega)) (show -2147483648 ≤ z25 ∧ z25 < 2147483648 by first | omega | (subst_vars; omega)) (fun (z26 : Int) (q27 : -1 ≤ z26 ∧ z26 < 285 ∧ (0 ≤ z26 → z26 < S 32 z4.toNat 5)) => ?_)
          refine And.intro (by decide) ?_
          refine And.intro (fun (h28 : (z26 < (0 : Int) : Prop)) => ?_) (fun (h28 : ((0 : Int) ≤ z26 : Prop)) => ?_)
          ·
            refine c_Reader_blankReclaimed  p0 (show 0 ≤ S 38 0 12 by first | omega | (subst_vars; omega)) p1 (fun (S29 : fxS) ⟨(f30 : fxfr [(4, 7), (5, 9999), (6, 9999), (8, 4), (10, 9999), (11, 9999), (13, 6), (13, 7), (13, 10), (15, 9999), (16, 9999), (17, 9999), (18, 9999), (19, 9999), (20, 0), (20, 1), (20, 3), (20, 4), (20, 5), (20, 6), (20, 7), (20, 11), (20, 12), (21, 9999), (22, 9999), (23, 9999), (24, 4), (25, 9999), (26, 3), (32, 1), (32, 2), (32, 3), (32, 4), (32, 5), (38, 1), (38, 12)] S S29), (g31 : SegA S29), (g32 : TreeL S29)⟩ => ?_)
            exact hk S29 ⟨(fxfr_tr fxfr_rfl f30 rfl), g31, g32⟩
          ·
            refine c_Reader_goOnReclaiming (c := z26) p0 (show 0 ≤ S 38 0 12 by first | omega | (subst_vars; omega)) (show 0 ≤ z26 ∧ z26 < 285 ∧ z26 < S 32 (S 38 0 12).toNat 5 by first | omega | (subst_vars; omega)) (fun (S33 : fxS) ⟨(f34 : fxfr [(38, 2), (38, 3), (38, 4), (38, 8), (38, 10), (38, 11)] S S33), (g35 : SegA S33)⟩ => ?_)
            have g36 : TreeL S33 := fx_pfr TreeL_stab f34 rfl p1
            exact hk S33 ⟨(fxfr_tr fxfr_rfl f34 rfl), g35, g36⟩
  ·
    refine c_Reader_nearestRecall   (fun (z37 : Int) (q38 : -1 ≤ z37 ∧ z37 < 60) => ?_)
    refine And.intro (by decide) ?_
    refine And.intro (fun (h39 : (z37 < (0 : Int) : Prop)) => ?_) (fun (h39 : ((0 : Int) ≤ z37 : Prop)) => ?_)
    ·
      refine And.intro (by decide) ?_
      refine c_Reader_changeTape (t := z1) (w := w) (show -1 ≤ z1 ∧ z1 ≤ 5 by first | omega | (subst_vars; omega)) (show -2147483648 ≤ w ∧ w < 2147483648 by first | omega | (subst_vars; omega)) (fun (S40 : fxS) (f41 : fxfr [(38, 0), (38, 1), (38, 2), (38, 3), (38, 4), (38, 7)] S S40) => ?_)
      have g42 : SegA S40 := fx_pfr SegA_stab f41 rfl p0
      have g43 : TreeL S40 := fx_pfr TreeL_stab f41 rfl p1
      exact hk S40 ⟨(fxfr_tr fxfr_rfl f41 rfl), g42, g43⟩
    ·
      refine c_Reader_goOnRecalling (n := z37) (show 0 ≤ z37 ∧ z37 < 60 by first | omega | (subst_vars; omega)) (fun (S44 : fxS) (f45 : fxfr [(38, 2), (38, 3), (38, 4), (38, 8), (38, 9), (38, 10)] S S44) => ?_)
      have g46 : SegA S44 := fx_pfr SegA_stab f45 rfl p0
      have g47 : TreeL S44 := fx_pfr TreeL_stab f45 rfl p1
      exact hk S44 ⟨(fxfr_tr fxfr_rfl f45 rfl), g46, g47⟩
theorem c_Reader_endRecall {l : Launch} {k : fxK} {S : fxS}  (p0 : SegA S) (p1 : 0 ≤ S 38 0 8) (p2 : TreeL S) (hk : ∀ (S' : fxS) , (fxfr [(4, 6), (4, 7), (4, 11), (4, 12), (5, 9999), (6, 9999), (7, 9999), (8, 4), (9, 9999), (10, 9999), (11, 9999), (12, 9999), (13, 6), (13, 7), (13, 10), (15, 9999), (16, 9999), (17, 9999), (18, 9999), (19, 9999), (20, 0), (20, 1), (20, 3), (20, 4), (20, 5), (20, 6), (20, 7), (20, 11), (20, 12), (21, 9999), (22, 9999), (23, 9999), (24, 4), (25, 9999)] S S' ∧ (SegA S') ∧ (TreeL S')) → k none S') : fC l 215 [.inr (.inr (38, 0))] S k := by
  refine fxe_215 (Nat.le_of_ble_eq_true rfl) (fxz_215 400 ?_)
  intro z1 (z1a : (-1 : Int) ≤ z1) (z1b : z1 ≤ (59 : Int)) (z1c : z1 = S 38 0 8)
  refine And.intro (show 0 ≤ z1 ∧ z1 < 60 by omega) ?_
  refine And.intro (by decide) ?_
  intro z2 (z2a : (-2147483648 : Int) ≤ z2) (z2b : z2 ≤ (2147483647 : Int)) (z2c : z2 = S 4 (z1).toNat 3)
  intro z3 (z3a : (-2147483648 : Int) ≤ z3) (z3b : z3 ≤ (2147483647 : Int)) (z3c : z3 = S 38 0 9)
  refine And.intro (fun (h4 : (z2 ≠ z3 : Prop)) => ?_) (fun (h4 : (z2 = z3 : Prop)) => ?_)
  ·
    exact hk S ⟨fxfr_rfl, p0, p2⟩
  ·
    refine c_Node_isStub (i := (z1).toNat)  (fun (z5 : Int) (q6 : z5 = 0 ∨ z5 = 1) => ?_)
    refine And.intro (fun (h7 : (z5 = (0 : Int) : Prop)) => ?_) (fun (h7 : (z5 ≠ (0 : Int) : Prop)) => ?_)
    ·
      exact hk S ⟨fxfr_rfl, p0, p2⟩
    ·
      intro z8 (z8a : (-1 : Int) ≤ z8) (z8b : z8 ≤ (59 : Int)) (z8c : z8 = S 38 0 8)
      obtain rfl : z1 = z8 := by omega
      refine c_Changes_isRecalled (n := z1) (show -2147483648 ≤ z1 ∧ z1 < 2147483648 by omega) (fun (z9 : Int) (q10 : z9 = 0 ∨ z9 = 1) => ?_)
      refine And.intro (fun (h11 : (z9 ≠ (0 : Int) : Prop)) => ?_) (fun (h11 : (z9 = (0 : Int) : Prop)) => ?_)
      ·
        intro z12 (z12a : (-1 : Int) ≤ z12) (z12b : z12 ≤ (5 : Int)) (z12c : z12 = S 38 0 0)
        intro z13 (z13a : (0 : Int) ≤ z13) (z13b : z13 ≤ (6000 : Int)) (z13c : z13 = S 38 0 10)
        refine c_Node_copyAt (i := (z1).toNat) (t := z12) (p := z13) (show -2147483648 ≤ z12 ∧ z12 < 2147483648 by omega) (show -2147483648 ≤ z13 ∧ z13 < 2147483648 by omega) (fun (z14 : Int) (q15 : -1 ≤ z14 ∧ z14 ≤ 1 ∧ (0 ≤ z14 → z14 < S 4 (z1).toNat 7 ∧ 0 ≤ z12 ∧ z12 ≤ 5)) => ?_)
        refine And.intro (by decide) ?_
        refine And.intro (fun (h16 : ((0 : Int) ≤ z14 : Prop)) => ?_) (fun (h16 : (z14 < (0 : Int) : Prop)) => ?_)
        ·
          intro z17 (z17a : (-1 : Int) ≤ z17) (z17b : z17 ≤ (5 : Int)) (z17c : z17 = S 38 0 0)
          obtain rfl : z12 = z17 := by omega
          refine And.intro (show 0 ≤ z12 ∧ z12 < 6 by omega) ?_
          refine And.intro (by decide) ?_
          intro z18 (z18a : (-1 : Int) ≤ z18) (z18b : z18 ≤ (5 : Int)) (z18c : z18 = S 38 0 0)
          obtain rfl : z12 = z18 := by omega
          intro z19 (z19a : (0 : Int) ≤ z19) (z19b : z19 ≤ (6000 : Int)) (z19c : z19 = S 38 0 10)
          obtain rfl : z13 = z19 := by omega
          refine c_Tape_indexAt (i := (z12).toNat) (p := z13) (show -2147483648 ≤ z13 ∧ z13 < 2147483648 by omega) (fun (z20 : Int) (q21 : -1 ≤ z20 ∧ z20 < 285 ∧ (0 ≤ z20 → z20 < S 32 (z12).toNat 5 ∧ S 34 (z12).toNat z20.toNat = z13)) => ?_)
          refine c_Library_fits (t := z12) (c := z20) (j := (z1).toNat) p0 (show 0 ≤ z12 ∧ z12 ≤ 5 by omega) (show -2147483648 ≤ z20 ∧ z20 < 2147483648 by omega) (fun (z22 : Int) (q23 : 0 ≤ z22 ∧ z22 ≤ 1 ∧ (z22 = 1 → 0 ≤ z20 ∧ z20 < S 32 z12.toNat 5 ∧ S 33 z12.toNat (S 34 z12.toNat z20.toNat + 1).toNat % 256 = 1 ∧ sN S 33 z12.toNat (S 34 z12.toNat z20.toNat + 15 + 8 * (S 33 z12.toNat (S 34 z12.toNat z20.toNat + 14).toNat % 256)) 2 = S 4 (z1).toNat 4)) => ?_)
          have ft : z22 = 1 → S 33 (z12).toNat (z13 + 1).toNat % 256 = 1 ∧ sN S 33 (z12).toNat (z13 + 15 + 8 * (S 33 (z12).toNat (z13 + 14).toNat % 256)) 2 = S 4 (z1).toNat 4 ∧ (8 ≤ z13 ∧ z13 + 21 + 8 * (S 33 (z12).toNat (z13 + 14).toNat % 256) ≤ S 32 (z12).toNat 1 ∧ S 32 (z12).toNat 1 ≤ 6000 ∧ (S 33 (z12).toNat (z13 + 14).toNat % 256) ≤ 5 ∧ (S 33 (z12).toNat (z13 + 1).toNat % 256 = 1 ∨ S 33 (z12).toNat (z13 + 1).toNat % 256 = 2) ∧ sN S 33 (z12).toNat (z13 + 15 + 8 * (S 33 (z12).toNat (z13 + 14).toNat % 256)) 2 ≤ 1024 ∧ (S 33 (z12).toNat (z13 + 1).toNat % 256 = 1 → 1 ≤ (S 33 (z12).toNat (z13 + 14).toNat % 256) ∧ z13 + 25 + 8 * (S 33 (z12).toNat (z13 + 14).toNat % 256) + sN S 33 (z12).toNat (z13 + 15 + 8 * (S 33 (z12).toNat (z13 + 14).toNat % 256)) 2 ≤ S 32 (z12).toNat 1)) := fun h => fits_at p0 (by omega) (fun q => (q21.2.2 q).2) (q23.2.2 h)
          refine And.intro (fun (h24 : (z22 ≠ (0 : Int) : Prop)) => ?_) (fun (h24 : (z22 = (0 : Int) : Prop)) => ?_)
          ·
            refine c_Node_blocks (i := (z1).toNat)  (fun (z25 : Int) (q26 : 0 ≤ z25 ∧ z25 ≤ 32 ∧ S 4 (z1).toNat 4 ≤ 32 * z25 ∧ 32 * z25 < S 4 (z1).toNat 4 + 32) => ?_)
            refine c_Stores_hasRoomFor (n := z25) (show -2147483648 ≤ z25 ∧ z25 < 2147483648 by omega) (fun (z27 : Int) (q28 : z27 = 0 ∨ z27 = 1) => ?_)
            refine And.intro (fun (h29 : (z27 = (0 : Int) : Prop)) => ?_) (fun (h29 : (z27 ≠ (0 : Int) : Prop)) => ?_)
            ·
              exact hk S ⟨fxfr_rfl, p0, p2⟩
            ·
              intro z30 (z30a : (-1 : Int) ≤ z30) (z30b : z30 ≤ (59 : Int)) (z30c : z30 = S 38 0 8)
              obtain rfl : z1 = z30 := by omega
              intro z31 (z31a : (0 : Int) ≤ z31) (z31b : z31 ≤ (6000 : Int)) (z31c : z31 = S 38 0 10)
              obtain rfl : z13 = z31 := by omega
              refine c_Tape_dataPlace (i := (z12).toNat) (p := z13) (show 0 ≤ z13 ∧ z13 < 5986 by omega) (fun (z32 : Int) (q33 : z32 = z13 + 21 + 8 * (S 33 (z12).toNat (z13 + 14).toNat % 256)) => ?_)
              refine c_Changes_recall (n := z1) (i := (z12).toNat) (p := z32) (show 0 ≤ z1 ∧ z1 < 60 by omega) (show 0 ≤ z32 ∧ z32 ≤ 6000 ∧ z32 + S 4 (z1).toNat 4 ≤ 6000 by omega) p2 (fun (S34 : fxS) ⟨(f35 : fxfr [(4, 6), (4, 11), (4, 12), (7, 9999), (8, 4), (9, 9999), (10, 9999), (11, 9999), (12, 9999), (13, 6), (13, 7), (13, 10), (15, 9999), (16, 9999), (17, 9999), (18, 9999), (19, 9999), (20, 0), (20, 1), (20, 3), (20, 4), (20, 5), (20, 6), (20, 7), (20, 11), (20, 12), (21, 9999), (22, 9999), (23, 9999), (24, 4), (25, 9999)] S S34), (g36 : TreeL S34)⟩ => ?_)
              have g37 : SegA S34 := fx_pfr SegA_stab f35 rfl p0
              exact hk S34 ⟨(fxfr_tr fxfr_rfl f35 rfl), g37, g36⟩
          ·
            intro z38 (z38a : (-1 : Int) ≤ z38) (z38b : z38 ≤ (59 : Int)) (z38c : z38 = S 38 0 8)
            obtain rfl : z1 = z38 := by omega
            refine c_Changes_dropCopy (n := z1) (q := z14) (show 0 ≤ z1 ∧ z1 < 60 by omega) p2 (show -2147483648 ≤ z14 ∧ z14 < 2147483648 by omega) (fun (S39 : fxS) ⟨(f40 : fxfr [(4, 7), (5, 9999), (6, 9999), (8, 4), (10, 9999), (11, 9999), (13, 6), (13, 7), (13, 10), (15, 9999), (16, 9999), (17, 9999), (18, 9999), (19, 9999), (20, 0), (20, 1), (20, 3), (20, 4), (20, 5), (20, 6), (20, 7), (20, 11), (20, 12), (21, 9999), (22, 9999), (23, 9999), (24, 4), (25, 9999)] S S39), (g41 : TreeL S39)⟩ => ?_)
            have g42 : SegA S39 := fx_pfr SegA_stab f40 rfl p0
            exact hk S39 ⟨(fxfr_tr fxfr_rfl f40 rfl), g42, g41⟩
        ·
          exact hk S ⟨fxfr_rfl, p0, p2⟩
      ·
        exact hk S ⟨fxfr_rfl, p0, p2⟩
theorem c_Reader_endReclaim {l : Launch} {k : fxK} {S : fxS}  (p0 : SegA S) (hk : ∀ (S' : fxS) , (fxfr [(38, 13), (38, 15), (38, 16), (39, 9999)] S S' ∧ (SegA S')) → k none S') : fC l 216 [.inr (.inr (38, 0))] S k := by
  refine fxe_216 (Nat.le_of_ble_eq_true rfl) (fxz_216 400 ?_)
  intro z1 (z1a : (-1 : Int) ≤ z1) (z1b : z1 ≤ (5 : Int)) (z1c : z1 = S 38 0 12)
  refine And.intro (fun (h2 : ((0 : Int) ≤ z1 : Prop)) => ?_) (fun (h2 : (z1 < (0 : Int) : Prop)) => ?_)
  ·
    intro z3 (z3a : (-1 : Int) ≤ z3) (z3b : z3 ≤ (5 : Int)) (z3c : z3 = S 38 0 12)
    obtain rfl : z1 = z3 := by omega
    refine And.intro (show 0 ≤ z1 ∧ z1 < 6 by omega) ?_
    refine And.intro (by decide) ?_
    intro z4 (z4a : (0 : Int) ≤ z4) (z4b : z4 ≤ (7100 : Int)) (z4c : z4 = S 38 0 11)
    refine And.intro (show (0 : Int) ≤ z4 ∧ z4 ≤ (7100 : Int) by omega) ?_
    have w5 : (fx_up S 38 0 13 z4) 38 0 12 = S 38 0 12 := if_neg (fun q => absurd q.2.2 (by decide))
    have w6 : (fx_up S 38 0 13 z4) 38 0 10 = S 38 0 10 := if_neg (fun q => absurd q.2.2 (by decide))
    have g7 : SegA (fx_up S 38 0 13 z4) := fx_pup SegA_stab rfl p0
    intro z8 (z8a : (-1 : Int) ≤ z8) (z8b : z8 ≤ (5 : Int)) (z8c : z8 = S 38 0 12)
    obtain rfl : z1 = z8 := by omega
    intro z9 (z9a : (0 : Int) ≤ z9) (z9b : z9 ≤ (6000 : Int)) (z9c : z9 = S 38 0 10)
    refine c_Tape_indexAt (i := (z1).toNat) (p := z9) (show -2147483648 ≤ z9 ∧ z9 < 2147483648 by omega) (fun (z10 : Int) (q11 : -1 ≤ z10 ∧ z10 < 285 ∧ (0 ≤ z10 → z10 < S 32 (z1).toNat 5 ∧ S 34 (z1).toNat z10.toNat = z9)) => ?_)
    refine c_Library_isLive (t := z1) (c := z10) g7 (show 0 ≤ z1 ∧ z1 ≤ 5 by omega) (show -2147483648 ≤ z10 ∧ z10 < 2147483648 by omega) (fun (z12 : Int) (q13 : 0 ≤ z12 ∧ z12 ≤ 1 ∧ (z12 = 1 → 0 ≤ z10 ∧ z10 < S 32 z1.toNat 5)) => ?_)
    have lv : z12 = 1 → (8 ≤ z9 ∧ z9 + 21 + 8 * (S 33 (z1).toNat (z9 + 14).toNat % 256) ≤ S 32 (z1).toNat 1 ∧ S 32 (z1).toNat 1 ≤ 6000 ∧ (S 33 (z1).toNat (z9 + 14).toNat % 256) ≤ 5 ∧ (S 33 (z1).toNat (z9 + 1).toNat % 256 = 1 ∨ S 33 (z1).toNat (z9 + 1).toNat % 256 = 2) ∧ sN S 33 (z1).toNat (z9 + 15 + 8 * (S 33 (z1).toNat (z9 + 14).toNat % 256)) 2 ≤ 1024 ∧ (S 33 (z1).toNat (z9 + 1).toNat % 256 = 1 → 1 ≤ (S 33 (z1).toNat (z9 + 14).toNat % 256) ∧ z9 + 25 + 8 * (S 33 (z1).toNat (z9 + 14).toNat % 256) + sN S 33 (z1).toNat (z9 + 15 + 8 * (S 33 (z1).toNat (z9 + 14).toNat % 256)) 2 ≤ S 32 (z1).toNat 1)) := fun h => SegA_at p0 (q := z10) ((q11.2.2 (q13.2.2 h).1).2).symm ⟨by omega, (q13.2.2 h).1, (q13.2.2 h).2⟩
    refine And.intro (fun (h14 : (z12 ≠ (0 : Int) : Prop)) => ?_) (fun (h14 : (z12 = (0 : Int) : Prop)) => ?_)
    ·
      intro z15 (z15a : (0 : Int) ≤ z15) (z15b : z15 ≤ (6000 : Int)) (z15c : z15 = S 38 0 10)
      obtain rfl : z9 = z15 := by omega
      refine And.intro (show (0 : Int) ≤ z9 ∧ z9 ≤ (6000 : Int) by omega) ?_
      have w16 : (fx_up (fx_up S 38 0 13 z4) 38 0 16 z9) 38 0 12 = (fx_up S 38 0 13 z4) 38 0 12 := if_neg (fun q => absurd q.2.2 (by decide))
      have w17 : (fx_up (fx_up S 38 0 13 z4) 38 0 16 z9) 38 0 10 = (fx_up S 38 0 13 z4) 38 0 10 := if_neg (fun q => absurd q.2.2 (by decide))
      have g18 : SegA (fx_up (fx_up S 38 0 13 z4) 38 0 16 z9) := fx_pup SegA_stab rfl g7
      intro z19 (z19a : (0 : Int) ≤ z19) (z19b : z19 ≤ (6000 : Int)) (z19c : z19 = S 38 0 10)
      obtain rfl : z9 = z19 := by omega
      refine c_Tape_wholeLength (i := (z1).toNat) (p := z9) (show 0 ≤ z9 ∧ z9 < 5986 ∧ z9 + 17 + 8 * (S 33 (z1).toNat (z9 + 14).toNat % 256) ≤ 6000 by omega) (fun (z20 : Int) (q21 : (S 33 (z1).toNat (z9 + 1).toNat % 256 = 1 → z20 = 25 + 8 * (S 33 (z1).toNat (z9 + 14).toNat % 256) + sN S 33 (z1).toNat (z9 + 15 + 8 * (S 33 (z1).toNat (z9 + 14).toNat % 256)) 2) ∧ (S 33 (z1).toNat (z9 + 1).toNat % 256 ≠ 1 → z20 = 21 + 8 * (S 33 (z1).toNat (z9 + 14).toNat % 256)) ∧ 0 ≤ z20 ∧ z20 ≤ 100000) => ?_)
      intro z22 (z22a : z22 ≤ z20) (z22b : z22 ≤ (1089 : Int)) (z22c : z22 = z20 ∨ z22 = (1089 : Int))
      refine And.intro (show (0 : Int) ≤ z22 ∧ z22 ≤ (1089 : Int) by omega) ?_
      have w23 : (fx_up (fx_up (fx_up S 38 0 13 z4) 38 0 16 z9) 38 0 15 z22) 38 0 12 = (fx_up (fx_up S 38 0 13 z4) 38 0 16 z9) 38 0 12 := if_neg (fun q => absurd q.2.2 (by decide))
      have w24 : (fx_up (fx_up (fx_up S 38 0 13 z4) 38 0 16 z9) 38 0 15 z22) 38 0 10 = (fx_up (fx_up S 38 0 13 z4) 38 0 16 z9) 38 0 10 := if_neg (fun q => absurd q.2.2 (by decide))
      have g25 : SegA (fx_up (fx_up (fx_up S 38 0 13 z4) 38 0 16 z9) 38 0 15 z22) := fx_pup SegA_stab rfl g18
      intro z26 (z26a : (0 : Int) ≤ z26) (z26b : z26 ≤ (6000 : Int)) (z26c : z26 = S 38 0 10)
      obtain rfl : z9 = z26 := by omega
      intro z27 (z27a : (0 : Int) ≤ z27) (z27b : z27 ≤ (1089 : Int)) (z27c : z27 = z22)
      refine And.intro (show ((-128 : Int) ≤ (-128 : Int) ∧ (127 : Int) ≤ (127 : Int) : Prop) by omega) (And.intro (show (0 ≤ z9 ∧ 0 ≤ (0 : Int)) ∧ (0 ≤ z27 ∧ z9 + z27 ≤ (6000 : Int) ∧ (0 : Int) + z27 ≤ (1089 : Int)) by omega) ?_)
      have w28 : (fx_cpy (fx_up (fx_up (fx_up S 38 0 13 z4) 38 0 16 z9) 38 0 15 z22) 39 0 (0 : Int) z27 33 (z1).toNat z9) 38 0 12 = (fx_up (fx_up (fx_up S 38 0 13 z4) 38 0 16 z9) 38 0 15 z22) 38 0 12 := rfl
      have w29 : (fx_cpy (fx_up (fx_up (fx_up S 38 0 13 z4) 38 0 16 z9) 38 0 15 z22) 39 0 (0 : Int) z27 33 (z1).toNat z9) 38 0 10 = (fx_up (fx_up (fx_up S 38 0 13 z4) 38 0 16 z9) 38 0 15 z22) 38 0 10 := rfl
      have g30 : SegA (fx_cpy (fx_up (fx_up (fx_up S 38 0 13 z4) 38 0 16 z9) 38 0 15 z22) 39 0 (0 : Int) z27 33 (z1).toNat z9) := fx_pcpy SegA_stab (fun _ => rfl) g25
      exact hk (fx_cpy (fx_up (fx_up (fx_up S 38 0 13 z4) 38 0 16 z9) 38 0 15 z22) 39 0 (0 : Int) z27 33 (z1).toNat z9) ⟨(fxfr_cpy (fxfr_up (fxfr_up (fxfr_up fxfr_rfl rfl) rfl) rfl) (fun _ => rfl)), g30⟩
    ·
      exact hk (fx_up S 38 0 13 z4) ⟨(fxfr_up fxfr_rfl rfl), g7⟩
  ·
    exact hk S ⟨fxfr_rfl, p0⟩
theorem c_Reader_finish {l : Launch} {k : fxK} {S : fxS}  (p0 : SegA S) (p1 : TreeL S) (hk : ∀ (S' : fxS) , (fxfr [(4, 6), (4, 7), (4, 11), (4, 12), (5, 9999), (6, 9999), (7, 9999), (8, 4), (9, 9999), (10, 9999), (11, 9999), (12, 9999), (13, 6), (13, 7), (13, 10), (15, 9999), (16, 9999), (17, 9999), (18, 9999), (19, 9999), (20, 0), (20, 1), (20, 3), (20, 4), (20, 5), (20, 6), (20, 7), (20, 11), (20, 12), (21, 9999), (22, 9999), (23, 9999), (24, 4), (25, 9999), (38, 13), (38, 15), (38, 16), (39, 9999)] S S' ∧ (SegA S') ∧ (TreeL S')) → k none S') : fC l 217 [.inr (.inr (38, 0))] S k := by
  refine fxe_217 (Nat.le_of_ble_eq_true rfl) (fxz_217 400 ?_)
  intro z1 (z1a : (-1 : Int) ≤ z1) (z1b : z1 ≤ (59 : Int)) (z1c : z1 = S 38 0 8)
  refine And.intro (fun (h2 : (z1 < (0 : Int) : Prop)) => ?_) (fun (h2 : ((0 : Int) ≤ z1 : Prop)) => ?_)
  ·
    refine c_Reader_endReclaim  p0 (fun (S3 : fxS) ⟨(f4 : fxfr [(38, 13), (38, 15), (38, 16), (39, 9999)] S S3), (g5 : SegA S3)⟩ => ?_)
    have g6 : TreeL S3 := fx_pfr TreeL_stab f4 rfl p1
    exact hk S3 ⟨(fxfr_tr fxfr_rfl f4 rfl), g5, g6⟩
  ·
    refine c_Reader_endRecall  p0 (show 0 ≤ S 38 0 8 by omega) p1 (fun (S7 : fxS) ⟨(f8 : fxfr [(4, 6), (4, 7), (4, 11), (4, 12), (5, 9999), (6, 9999), (7, 9999), (8, 4), (9, 9999), (10, 9999), (11, 9999), (12, 9999), (13, 6), (13, 7), (13, 10), (15, 9999), (16, 9999), (17, 9999), (18, 9999), (19, 9999), (20, 0), (20, 1), (20, 3), (20, 4), (20, 5), (20, 6), (20, 7), (20, 11), (20, 12), (21, 9999), (22, 9999), (23, 9999), (24, 4), (25, 9999)] S S7), (g9 : SegA S7), (g10 : TreeL S7)⟩ => ?_)
    exact hk S7 ⟨(fxfr_tr fxfr_rfl f8 rfl), g9, g10⟩
