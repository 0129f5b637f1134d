/-! contracts: copies and step of both, with their answers -/
theorem c_copiesC {l : Launch} {k : fxK} {S : fxS} {n : Int} (p0 : -2147483648 ≤ n ∧ n < 2147483648) (hk : ∀ (r : Int) (S' : fxS) , (fxfr [(2, 4)] S S' ∧ (((1 ≤ n ∧ n ≤ 2) → r = S 2 0 4 ∧ S' 2 0 4 = n) ∧ (¬ (1 ≤ n ∧ n ≤ 2) → r = -1 ∧ S' 2 0 4 = S 2 0 4))) → k (some (.inl r)) S') : fC l 133 [.inr (.inr (0, 0)), .inl n] S k := by
  refine fxe_133 (Nat.le_of_ble_eq_true rfl) (fxz_133 400 ?_)
  refine And.intro (fun (h1 : (n < (1 : Int) : Prop)) => ?_) (fun (h1 : ((1 : Int) ≤ n : Prop)) => ?_)
  ·
    exact hk (-1 : Int) S ⟨fxfr_rfl, by omega⟩
  ·
    refine And.intro (fun (h2 : (n ≤ (2 : Int) : Prop)) => ?_) (fun (h2 : ((2 : Int) < n : Prop)) => ?_)
    ·
      intro z3 (z3a : (1 : Int) ≤ z3) (z3b : z3 ≤ (2 : Int)) (z3c : z3 = S 2 0 4)
      refine And.intro (by decide) ?_
      refine And.intro (show (1 : Int) ≤ n ∧ n ≤ (2 : Int) by omega) ?_
      have w4 : (fx_up S 2 0 4 n) 2 0 4 = n := fx_up_at _ _ _ _ _
      exact hk z3 (fx_up S 2 0 4 n) ⟨(fxfr_up fxfr_rfl rfl), by omega⟩
    ·
      exact hk (-1 : Int) S ⟨fxfr_rfl, by omega⟩
theorem c_copiesM {l : Launch} {k : fxK} {S : fxS} {n : Int} (p0 : -2147483648 ≤ n ∧ n < 2147483648) (hk : ∀ (r : Int) (S' : fxS) , (fxfr [(49, 0), (49, 18)] S S' ∧ (((1 ≤ n ∧ n ≤ 2) → r = S 49 0 18 ∧ S' 49 0 18 = n) ∧ (¬ (1 ≤ n ∧ n ≤ 2) → r = -1 ∧ S' 49 0 18 = S 49 0 18))) → k (some (.inl r)) S') : fC l 134 [.inr (.inr (49, 0)), .inl n] S k := by
  refine fxe_134 (Nat.le_of_ble_eq_true rfl) (fxz_134 400 ?_)
  refine And.intro (show (-2147483648 : Int) ≤ (0 : Int) ∧ (0 : Int) ≤ (2147483647 : Int) by omega) ?_
  have w1 : (fx_up S 49 0 0 (0 : Int)) 49 0 18 = S 49 0 18 := if_neg (fun q => absurd q.2.2 (by decide))
  refine c_StubHouseModel_in (x := n) (a := (1 : Int)) (b := (2 : Int))  (fun (z2 : Int) (q3 : 0 ≤ z2 ∧ z2 ≤ 1 ∧ (z2 = 1 → (1 : Int) ≤ n ∧ n ≤ (2 : Int)) ∧ (z2 = 0 → n < (1 : Int) ∨ (2 : Int) < n)) => ?_)
  refine And.intro (fun (h4 : (z2 ≠ (0 : Int) : Prop)) => ?_) (fun (h4 : (z2 = (0 : Int) : Prop)) => ?_)
  ·
    intro z5 (z5a : (1 : Int) ≤ z5) (z5b : z5 ≤ (2 : Int)) (z5c : z5 = S 49 0 18)
    refine And.intro (by decide) ?_
    refine And.intro (show (1 : Int) ≤ n ∧ n ≤ (2 : Int) by omega) ?_
    have w6 : (fx_up (fx_up S 49 0 0 (0 : Int)) 49 0 18 n) 49 0 18 = n := fx_up_at _ _ _ _ _
    exact hk z5 (fx_up (fx_up S 49 0 0 (0 : Int)) 49 0 18 n) ⟨(fxfr_up (fxfr_up fxfr_rfl rfl) rfl), by omega⟩
  ·
    exact hk (-1 : Int) (fx_up S 49 0 0 (0 : Int)) ⟨(fxfr_up fxfr_rfl rfl), by omega⟩
theorem z_stepC {l : Launch} {k : fxK} {S : fxS} {n : Int} (p0 : ((S 40 0 2 = 4 ∨ S 40 0 2 = 5) → 0 ≤ S 40 0 0 ∧ (S 40 0 13 = 2 → 0 ≤ S 40 0 14))) (p1 : SegA S) (p2 : TreeL S) (p3 : LCt S) (p4 : -2147483648 ≤ n ∧ n < 2147483648) (hk : ∀ (r : Int) (S' : fxS) , (fxfr [(2, 1), (4, 6), (4, 7), (4, 11), (4, 12), (5, 9999), (6, 9999), (7, 9999), (8, 4), (9, 9999), (10, 9999), (11, 9999), (12, 9999), (13, 6), (13, 7), (13, 10), (15, 9999), (16, 9999), (17, 9999), (18, 9999), (19, 9999), (20, 0), (20, 1), (20, 3), (20, 4), (20, 5), (20, 6), (20, 7), (20, 11), (20, 12), (21, 9999), (22, 9999), (23, 9999), (24, 4), (25, 9999), (26, 2), (26, 3), (32, 1), (32, 2), (32, 3), (32, 4), (32, 5), (33, 9999), (34, 9999), (35, 9999), (36, 9999), (37, 9999), (38, 0), (38, 1), (38, 2), (38, 3), (38, 4), (38, 7), (38, 8), (38, 9), (38, 10), (38, 11), (38, 12), (38, 13), (38, 15), (38, 16), (39, 9999), (40, 0), (40, 1), (40, 2), (40, 3), (40, 4), (40, 10), (40, 12), (40, 13), (40, 14), (40, 15), (40, 16), (41, 9999), (42, 9999), (43, 9999), (44, 6), (44, 7), (44, 10), (47, 9999), (48, 9999)] S S' ∧ (((1 ≤ n ∧ n ≤ 500) → r = 0) ∧ (¬ (1 ≤ n ∧ n ≤ 500) → r = -1) ∧ (((S' 40 0 2 = 4 ∨ S' 40 0 2 = 5) → 0 ≤ S' 40 0 0 ∧ (S' 40 0 13 = 2 → 0 ≤ S' 40 0 14)))) ∧ (SegA S') ∧ (TreeL S') ∧ (LCt S')) → k (some (.inl r)) S') : ∀ m : Nat, (∀ (j : Int) (S1 : fxS), (fxfr [(2, 1), (4, 6), (4, 7), (4, 11), (4, 12), (5, 9999), (6, 9999), (7, 9999), (8, 4), (9, 9999), (10, 9999), (11, 9999), (12, 9999), (13, 6), (13, 7), (13, 10), (15, 9999), (16, 9999), (17, 9999), (18, 9999), (19, 9999), (20, 0), (20, 1), (20, 3), (20, 4), (20, 5), (20, 6), (20, 7), (20, 11), (20, 12), (21, 9999), (22, 9999), (23, 9999), (24, 4), (25, 9999), (26, 2), (26, 3), (32, 1), (32, 2), (32, 3), (32, 4), (32, 5), (33, 9999), (34, 9999), (35, 9999), (36, 9999), (37, 9999), (38, 0), (38, 1), (38, 2), (38, 3), (38, 4), (38, 7), (38, 8), (38, 9), (38, 10), (38, 11), (38, 12), (38, 13), (38, 15), (38, 16), (39, 9999), (40, 0), (40, 1), (40, 2), (40, 3), (40, 4), (40, 10), (40, 12), (40, 13), (40, 14), (40, 15), (40, 16), (41, 9999), (42, 9999), (43, 9999), (44, 6), (44, 7), (44, 10), (47, 9999), (48, 9999)] S S1) → (1 ≤ n ∧ n ≤ 500) → (0 ≤ j ∧ j ≤ n) → (((S1 40 0 2 = 4 ∨ S1 40 0 2 = 5) → 0 ≤ S1 40 0 0 ∧ (S1 40 0 13 = 2 → 0 ≤ S1 40 0 14))) → (SegA S1) → (TreeL S1) → (LCt S1) → n + 1 - j ≤ (m : Int) → fZ l 254 k 16 [some (.inr (.inr (0, 0))), some (.inl n), some (.inl j)] [] S1) := by
  intro m
  induction m with
  | zero =>
    intro j S1 hf i0 i1 i2 i3 i4 i5 hmu
    exfalso
    omega
  | succ m ih =>
    intro j S1 hf i0 i1 i2 i3 i4 i5 hmu
    refine fxz_254 400 ?_
    refine And.intro (fun (h1 : (n ≤ j : Prop)) => ?_) (fun (h1 : (j < n : Prop)) => ?_)
    ·
      exact hk (0 : Int) S1 ⟨hf, by omega, i3, i4, i5⟩
    ·
      intro z2 (z2a : (-2147483648 : Int) ≤ z2) (z2b : z2 ≤ (2147483647 : Int)) (z2c : z2 = S1 2 0 1)
      intro z3 (z3a : -2147483648 ≤ z3) (z3b : z3 < 2147483648) (z3c : -2147483648 ≤ (z2 + (1 : Int)) ∧ (z2 + (1 : Int)) < 2147483648 → z3 = (z2 + (1 : Int)))
      refine And.intro (show (-2147483648 : Int) ≤ z3 ∧ z3 ≤ (2147483647 : Int) by omega) ?_
      have w4 : (fx_up S1 2 0 1 z3) 40 0 0 = S1 40 0 0 := rfl
      have w5 : (fx_up S1 2 0 1 z3) 40 0 2 = S1 40 0 2 := rfl
      have w6 : (fx_up S1 2 0 1 z3) 40 0 13 = S1 40 0 13 := rfl
      have w7 : (fx_up S1 2 0 1 z3) 40 0 14 = S1 40 0 14 := rfl
      have w8 : (fx_up S1 2 0 1 z3) 0 0 10 = S1 0 0 10 := rfl
      have g9 : SegA (fx_up S1 2 0 1 z3) := fx_pup SegA_stab rfl i3
      have g10 : TreeL (fx_up S1 2 0 1 z3) := fx_pup TreeL_stab rfl i4
      have g11 : LCt (fx_up S1 2 0 1 z3) := fx_pup LCt_stab rfl i5
      intro z12 (z12a : (0 : Int) ≤ z12) (z12b : z12 ≤ (1 : Int)) (z12c : z12 = S1 0 0 10)
      refine And.intro (fun (h13 : (z12 = (0 : Int) : Prop)) => ?_) (fun (h13 : (z12 ≠ (0 : Int) : Prop)) => ?_)
      ·
        refine c_Library_scanAll  g9 (fun (S14 : fxS) ⟨(f15 : fxfr [(32, 3), (32, 4), (32, 5), (34, 9999), (35, 9999), (36, 9999), (37, 9999)] (fx_up S1 2 0 1 z3) S14), (g16 : SegA S14)⟩ => ?_)
        have w17 : S14 40 0 0 = (fx_up S1 2 0 1 z3) 40 0 0 := f15 40 0 0 rfl
        have w18 : S14 40 0 2 = (fx_up S1 2 0 1 z3) 40 0 2 := f15 40 0 2 rfl
        have w19 : S14 40 0 13 = (fx_up S1 2 0 1 z3) 40 0 13 := f15 40 0 13 rfl
        have w20 : S14 40 0 14 = (fx_up S1 2 0 1 z3) 40 0 14 := f15 40 0 14 rfl
        have w21 : S14 0 0 10 = (fx_up S1 2 0 1 z3) 0 0 10 := f15 0 0 10 rfl
        have g22 : TreeL S14 := fx_pfr TreeL_stab f15 rfl g10
        have g23 : LCt S14 := fx_pfr LCt_stab f15 rfl g11
        refine And.intro (show (-1 : Int) ≤ (-1 : Int) ∧ (-1 : Int) ≤ (5 : Int) by omega) ?_
        have w24 : (fx_up S14 38 0 7 (-1 : Int)) 40 0 0 = S14 40 0 0 := rfl
        have w25 : (fx_up S14 38 0 7 (-1 : Int)) 40 0 2 = S14 40 0 2 := rfl
        have w26 : (fx_up S14 38 0 7 (-1 : Int)) 40 0 13 = S14 40 0 13 := rfl
        have w27 : (fx_up S14 38 0 7 (-1 : Int)) 40 0 14 = S14 40 0 14 := rfl
        have w28 : (fx_up S14 38 0 7 (-1 : Int)) 0 0 10 = S14 0 0 10 := rfl
        have g29 : SegA (fx_up S14 38 0 7 (-1 : Int)) := fx_pup SegA_stab rfl g16
        have g30 : TreeL (fx_up S14 38 0 7 (-1 : Int)) := fx_pup TreeL_stab rfl g22
        have g31 : LCt (fx_up S14 38 0 7 (-1 : Int)) := fx_pup LCt_stab rfl g23
        intro z32 (z32a : (0 : Int) ≤ z32) (z32b : z32 ≤ (5 : Int)) (z32c : z32 = S14 38 0 2)
        refine And.intro (fun (h33 : (z32 ≠ (0 : Int) : Prop)) => ?_) (fun (h33 : (z32 = (0 : Int) : Prop)) => ?_)
        ·
          refine c_spend38   (fun z34 S35 ⟨f36, q37⟩ => ?_)
          replace f36 : fxfr [(38, 0), (38, 1), (38, 2), (38, 3)] (fx_up S14 38 0 7 (-1 : Int)) S35 := f36
          replace q37 : z34 = 0 ∨ z34 = 1 := q37
          have w38 : S35 40 0 0 = (fx_up S14 38 0 7 (-1 : Int)) 40 0 0 := f36 40 0 0 rfl
          have w39 : S35 40 0 2 = (fx_up S14 38 0 7 (-1 : Int)) 40 0 2 := f36 40 0 2 rfl
          have w40 : S35 40 0 13 = (fx_up S14 38 0 7 (-1 : Int)) 40 0 13 := f36 40 0 13 rfl
          have w41 : S35 40 0 14 = (fx_up S14 38 0 7 (-1 : Int)) 40 0 14 := f36 40 0 14 rfl
          have w42 : S35 0 0 10 = (fx_up S14 38 0 7 (-1 : Int)) 0 0 10 := f36 0 0 10 rfl
          have g43 : SegA S35 := fx_pfr SegA_stab f36 rfl g29
          have g44 : TreeL S35 := fx_pfr TreeL_stab f36 rfl g30
          have g45 : LCt S35 := fx_pfr LCt_stab f36 rfl g31
          refine And.intro (fun (h46 : (z34 = (0 : Int) : Prop)) => ?_) (fun (h46 : (z34 ≠ (0 : Int) : Prop)) => ?_)
          ·
            intro z47 (z47a : (0 : Int) ≤ z47) (z47b : z47 ≤ (5 : Int)) (z47c : z47 = S35 40 0 2)
            refine And.intro (fun (h48 : (z47 ≠ (0 : Int) : Prop)) => ?_) (fun (h48 : (z47 = (0 : Int) : Prop)) => ?_)
            ·
              refine c_spend40  (show ((S35 40 0 2 = 4 ∨ S35 40 0 2 = 5) → 0 ≤ S35 40 0 0 ∧ (S35 40 0 13 = 2 → 0 ≤ S35 40 0 14)) by omega) (fun (z49 : Int) (S50 : fxS) ⟨(f51 : fxfr [(40, 0), (40, 1), (40, 2), (40, 3)] S35 S50), (q52 : 0 ≤ z49 ∧ z49 ≤ 1 ∧ ((S50 40 0 2 = 4 ∨ S50 40 0 2 = 5) → 0 ≤ S50 40 0 0 ∧ (S50 40 0 13 = 2 → 0 ≤ S50 40 0 14)) ∧ (z49 = 1 → 0 ≤ S50 40 0 0 ∧ (S50 40 0 13 = 2 → 0 ≤ S50 40 0 14)))⟩ => ?_)
              have w53 : S50 40 0 13 = S35 40 0 13 := f51 40 0 13 rfl
              have w54 : S50 40 0 14 = S35 40 0 14 := f51 40 0 14 rfl
              have w55 : S50 0 0 10 = S35 0 0 10 := f51 0 0 10 rfl
              have g56 : SegA S50 := fx_pfr SegA_stab f51 rfl g43
              have g57 : TreeL S50 := fx_pfr TreeL_stab f51 rfl g44
              have g58 : LCt S50 := fx_pfr LCt_stab f51 rfl g45
              refine And.intro (fun (h59 : (z49 = (0 : Int) : Prop)) => ?_) (fun (h59 : (z49 ≠ (0 : Int) : Prop)) => ?_)
              ·
                refine c_Migrator_work  g57 (fun (S60 : fxS) ⟨(f61 : fxfr [(4, 11), (4, 12), (7, 9999), (8, 4), (9, 9999), (10, 9999), (11, 9999), (12, 9999), (13, 6), (13, 7), (13, 10), (15, 9999), (16, 9999), (17, 9999), (18, 9999), (19, 9999), (20, 0), (20, 1), (20, 3), (20, 4), (20, 5), (20, 6), (20, 7), (20, 11), (20, 12), (21, 9999), (22, 9999), (23, 9999), (40, 10), (41, 9999), (42, 9999), (44, 6), (44, 7), (44, 10), (47, 9999), (48, 9999)] S50 S60), (g62 : TreeL S60)⟩ => ?_)
                have w63 : S60 40 0 0 = S50 40 0 0 := f61 40 0 0 rfl
                have w64 : S60 40 0 2 = S50 40 0 2 := f61 40 0 2 rfl
                have w65 : S60 40 0 13 = S50 40 0 13 := f61 40 0 13 rfl
                have w66 : S60 40 0 14 = S50 40 0 14 := f61 40 0 14 rfl
                have w67 : S60 0 0 10 = S50 0 0 10 := f61 0 0 10 rfl
                have g68 : SegA S60 := fx_pfr SegA_stab f61 rfl g56
                have lc : LCt S60 := LCt_of (by omega)
                refine And.intro (by decide) (And.intro (show -2147483648 ≤ j + (1 : Int) ∧ j + (1 : Int) < 2147483648 by omega) ?_)
                exact ih (j + (1 : Int)) S60 (fxfr_tr (fxfr_tr (fxfr_tr (fxfr_up (fxfr_tr (fxfr_up hf rfl) f15 rfl) rfl) f36 rfl) f51 rfl) f61 rfl) (by omega) (by omega) (by omega) g68 g62 lc (by omega)
              ·
                refine c_Writer_finish  g56 (show 0 ≤ S50 40 0 0 by omega) (show S50 40 0 13 = 2 → 0 ≤ S50 40 0 14 by omega) g57 (fun (S70 : fxS) ⟨(f71 : fxfr [(4, 7), (5, 9999), (6, 9999), (8, 4), (10, 9999), (11, 9999), (13, 6), (13, 7), (13, 10), (15, 9999), (16, 9999), (17, 9999), (18, 9999), (19, 9999), (20, 0), (20, 1), (20, 3), (20, 4), (20, 5), (20, 6), (20, 7), (20, 11), (20, 12), (21, 9999), (22, 9999), (23, 9999), (26, 3), (32, 1), (32, 3), (32, 4), (32, 5), (33, 9999), (38, 15)] S50 S70), (g72 : SegA S70), (g73 : TreeL S70)⟩ => ?_)
                have w74 : S70 40 0 0 = S50 40 0 0 := f71 40 0 0 rfl
                have w75 : S70 40 0 2 = S50 40 0 2 := f71 40 0 2 rfl
                have w76 : S70 40 0 13 = S50 40 0 13 := f71 40 0 13 rfl
                have w77 : S70 40 0 14 = S50 40 0 14 := f71 40 0 14 rfl
                have w78 : S70 0 0 10 = S50 0 0 10 := f71 0 0 10 rfl
                refine c_Migrator_work  g73 (fun (S79 : fxS) ⟨(f80 : fxfr [(4, 11), (4, 12), (7, 9999), (8, 4), (9, 9999), (10, 9999), (11, 9999), (12, 9999), (13, 6), (13, 7), (13, 10), (15, 9999), (16, 9999), (17, 9999), (18, 9999), (19, 9999), (20, 0), (20, 1), (20, 3), (20, 4), (20, 5), (20, 6), (20, 7), (20, 11), (20, 12), (21, 9999), (22, 9999), (23, 9999), (40, 10), (41, 9999), (42, 9999), (44, 6), (44, 7), (44, 10), (47, 9999), (48, 9999)] S70 S79), (g81 : TreeL S79)⟩ => ?_)
                have w82 : S79 40 0 0 = S70 40 0 0 := f80 40 0 0 rfl
                have w83 : S79 40 0 2 = S70 40 0 2 := f80 40 0 2 rfl
                have w84 : S79 40 0 13 = S70 40 0 13 := f80 40 0 13 rfl
                have w85 : S79 40 0 14 = S70 40 0 14 := f80 40 0 14 rfl
                have w86 : S79 0 0 10 = S70 0 0 10 := f80 0 0 10 rfl
                have g87 : SegA S79 := fx_pfr SegA_stab f80 rfl g72
                have lc : LCt S79 := LCt_of (by omega)
                refine And.intro (by decide) (And.intro (show -2147483648 ≤ j + (1 : Int) ∧ j + (1 : Int) < 2147483648 by omega) ?_)
                exact ih (j + (1 : Int)) S79 (fxfr_tr (fxfr_tr (fxfr_tr (fxfr_tr (fxfr_up (fxfr_tr (fxfr_up hf rfl) f15 rfl) rfl) f36 rfl) f51 rfl) f71 rfl) f80 rfl) (by omega) (by omega) (by omega) g87 g81 lc (by omega)
            ·
              refine c_Writer_choose  (show ((S35 40 0 2 = 4 ∨ S35 40 0 2 = 5) → 0 ≤ S35 40 0 0 ∧ (S35 40 0 13 = 2 → 0 ≤ S35 40 0 14)) by omega) g44 (fun (S89 : fxS) ⟨(f90 : fxfr [(26, 2), (40, 0), (40, 1), (40, 2), (40, 3), (40, 4), (40, 10), (40, 12), (40, 13), (40, 14), (40, 15), (40, 16), (41, 9999), (42, 9999), (43, 9999)] S35 S89), (q91 : ((S89 40 0 2 = 4 ∨ S89 40 0 2 = 5) → 0 ≤ S89 40 0 0 ∧ (S89 40 0 13 = 2 → 0 ≤ S89 40 0 14)))⟩ => ?_)
              have w92 : S89 0 0 10 = S35 0 0 10 := f90 0 0 10 rfl
              have g93 : SegA S89 := fx_pfr SegA_stab f90 rfl g43
              have g94 : TreeL S89 := fx_pfr TreeL_stab f90 rfl g44
              have g95 : LCt S89 := fx_pfr LCt_stab f90 rfl g45
              refine c_spend40  (show ((S89 40 0 2 = 4 ∨ S89 40 0 2 = 5) → 0 ≤ S89 40 0 0 ∧ (S89 40 0 13 = 2 → 0 ≤ S89 40 0 14)) by omega) (fun (z96 : Int) (S97 : fxS) ⟨(f98 : fxfr [(40, 0), (40, 1), (40, 2), (40, 3)] S89 S97), (q99 : 0 ≤ z96 ∧ z96 ≤ 1 ∧ ((S97 40 0 2 = 4 ∨ S97 40 0 2 = 5) → 0 ≤ S97 40 0 0 ∧ (S97 40 0 13 = 2 → 0 ≤ S97 40 0 14)) ∧ (z96 = 1 → 0 ≤ S97 40 0 0 ∧ (S97 40 0 13 = 2 → 0 ≤ S97 40 0 14)))⟩ => ?_)
              have w100 : S97 40 0 13 = S89 40 0 13 := f98 40 0 13 rfl
              have w101 : S97 40 0 14 = S89 40 0 14 := f98 40 0 14 rfl
              have w102 : S97 0 0 10 = S89 0 0 10 := f98 0 0 10 rfl
              have g103 : SegA S97 := fx_pfr SegA_stab f98 rfl g93
              have g104 : TreeL S97 := fx_pfr TreeL_stab f98 rfl g94
              have g105 : LCt S97 := fx_pfr LCt_stab f98 rfl g95
              refine And.intro (fun (h106 : (z96 = (0 : Int) : Prop)) => ?_) (fun (h106 : (z96 ≠ (0 : Int) : Prop)) => ?_)
              ·
                refine c_Migrator_work  g104 (fun (S107 : fxS) ⟨(f108 : fxfr [(4, 11), (4, 12), (7, 9999), (8, 4), (9, 9999), (10, 9999), (11, 9999), (12, 9999), (13, 6), (13, 7), (13, 10), (15, 9999), (16, 9999), (17, 9999), (18, 9999), (19, 9999), (20, 0), (20, 1), (20, 3), (20, 4), (20, 5), (20, 6), (20, 7), (20, 11), (20, 12), (21, 9999), (22, 9999), (23, 9999), (40, 10), (41, 9999), (42, 9999), (44, 6), (44, 7), (44, 10), (47, 9999), (48, 9999)] S97 S107), (g109 : TreeL S107)⟩ => ?_)
                have w110 : S107 40 0 0 = S97 40 0 0 := f108 40 0 0 rfl
                have w111 : S107 40 0 2 = S97 40 0 2 := f108 40 0 2 rfl
                have w112 : S107 40 0 13 = S97 40 0 13 := f108 40 0 13 rfl
                have w113 : S107 40 0 14 = S97 40 0 14 := f108 40 0 14 rfl
                have w114 : S107 0 0 10 = S97 0 0 10 := f108 0 0 10 rfl
                have g115 : SegA S107 := fx_pfr SegA_stab f108 rfl g103
                have lc : LCt S107 := LCt_of (by omega)
                refine And.intro (by decide) (And.intro (show -2147483648 ≤ j + (1 : Int) ∧ j + (1 : Int) < 2147483648 by omega) ?_)
                exact ih (j + (1 : Int)) S107 (fxfr_tr (fxfr_tr (fxfr_tr (fxfr_tr (fxfr_up (fxfr_tr (fxfr_up hf rfl) f15 rfl) rfl) f36 rfl) f90 rfl) f98 rfl) f108 rfl) (by omega) (by omega) (by omega) g115 g109 lc (by omega)
              ·
                refine c_Writer_finish  g103 (show 0 ≤ S97 40 0 0 by omega) (show S97 40 0 13 = 2 → 0 ≤ S97 40 0 14 by omega) g104 (fun (S117 : fxS) ⟨(f118 : fxfr [(4, 7), (5, 9999), (6, 9999), (8, 4), (10, 9999), (11, 9999), (13, 6), (13, 7), (13, 10), (15, 9999), (16, 9999), (17, 9999), (18, 9999), (19, 9999), (20, 0), (20, 1), (20, 3), (20, 4), (20, 5), (20, 6), (20, 7), (20, 11), (20, 12), (21, 9999), (22, 9999), (23, 9999), (26, 3), (32, 1), (32, 3), (32, 4), (32, 5), (33, 9999), (38, 15)] S97 S117), (g119 : SegA S117), (g120 : TreeL S117)⟩ => ?_)
                have w121 : S117 40 0 0 = S97 40 0 0 := f118 40 0 0 rfl
                have w122 : S117 40 0 2 = S97 40 0 2 := f118 40 0 2 rfl
                have w123 : S117 40 0 13 = S97 40 0 13 := f118 40 0 13 rfl
                have w124 : S117 40 0 14 = S97 40 0 14 := f118 40 0 14 rfl
                have w125 : S117 0 0 10 = S97 0 0 10 := f118 0 0 10 rfl
                refine c_Migrator_work  g120 (fun (S126 : fxS) ⟨(f127 : fxfr [(4, 11), (4, 12), (7, 9999), (8, 4), (9, 9999), (10, 9999), (11, 9999), (12, 9999), (13, 6), (13, 7), (13, 10), (15, 9999), (16, 9999), (17, 9999), (18, 9999), (19, 9999), (20, 0), (20, 1), (20, 3), (20, 4), (20, 5), (20, 6), (20, 7), (20, 11), (20, 12), (21, 9999), (22, 9999), (23, 9999), (40, 10), (41, 9999), (42, 9999), (44, 6), (44, 7), (44, 10), (47, 9999), (48, 9999)] S117 S126), (g128 : TreeL S126)⟩ => ?_)
                have w129 : S126 40 0 0 = S117 40 0 0 := f127 40 0 0 rfl
                have w130 : S126 40 0 2 = S117 40 0 2 := f127 40 0 2 rfl
                have w131 : S126 40 0 13 = S117 40 0 13 := f127 40 0 13 rfl
                have w132 : S126 40 0 14 = S117 40 0 14 := f127 40 0 14 rfl
                have w133 : S126 0 0 10 = S117 0 0 10 := f127 0 0 10 rfl
                have g134 : SegA S126 := fx_pfr SegA_stab f127 rfl g119
                have lc : LCt S126 := LCt_of (by omega)
                refine And.intro (by decide) (And.intro (show -2147483648 ≤ j + (1 : Int) ∧ j + (1 : Int) < 2147483648 by omega) ?_)
                exact ih (j + (1 : Int)) S126 (fxfr_tr (fxfr_tr (fxfr_tr (fxfr_tr (fxfr_tr (fxfr_up (fxfr_tr (fxfr_up hf rfl) f15 rfl) rfl) f36 rfl) f90 rfl) f98 rfl) f118 rfl) f127 rfl) (by omega) (by omega) (by omega) g134 g128 lc (by omega)
          ·
            refine c_Reader_finish  g43 g44 (fun (S136 : fxS) ⟨(f137 : fxfr [(4, 6), (4, 7), (4, 11), (4, 12), (5, 9999), (6, 9999), (7, 9999), (8, 4), (9, 9999), (10, 9999), (11, 9999), (12, 9999), (13, 6), (13, 7), (13, 10), (15, 9999), (16, 9999), (17, 9999), (18, 9999), (19, 9999), (20, 0), (20, 1), (20, 3), (20, 4), (20, 5), (20, 6), (20, 7), (20, 11), (20, 12), (21, 9999), (22, 9999), (23, 9999), (24, 4), (25, 9999), (38, 13), (38, 15), (38, 16), (39, 9999)] S35 S136), (g138 : SegA S136), (g139 : TreeL S136)⟩ => ?_)
            have w140 : S136 40 0 0 = S35 40 0 0 := f137 40 0 0 rfl
            have w141 : S136 40 0 2 = S35 40 0 2 := f137 40 0 2 rfl
            have w142 : S136 40 0 13 = S35 40 0 13 := f137 40 0 13 rfl
            have w143 : S136 40 0 14 = S35 40 0 14 := f137 40 0 14 rfl
            have w144 : S136 0 0 10 = S35 0 0 10 := f137 0 0 10 rfl
            intro z145 (z145a : (0 : Int) ≤ z145) (z145b : z145 ≤ (5 : Int)) (z145c : z145 = S136 40 0 2)
            refine And.intro (fun (h146 : (z145 ≠ (0 : Int) : Prop)) => ?_) (fun (h146 : (z145 = (0 : Int) : Prop)) => ?_)
            ·
              refine c_spend40  (show ((S136 40 0 2 = 4 ∨ S136 40 0 2 = 5) → 0 ≤ S136 40 0 0 ∧ (S136 40 0 13 = 2 → 0 ≤ S136 40 0 14)) by omega) (fun (z147 : Int) (S148 : fxS) ⟨(f149 : fxfr [(40, 0), (40, 1), (40, 2), (40, 3)] S136 S148), (q150 : 0 ≤ z147 ∧ z147 ≤ 1 ∧ ((S148 40 0 2 = 4 ∨ S148 40 0 2 = 5) → 0 ≤ S148 40 0 0 ∧ (S148 40 0 13 = 2 → 0 ≤ S148 40 0 14)) ∧ (z147 = 1 → 0 ≤ S148 40 0 0 ∧ (S148 40 0 13 = 2 → 0 ≤ S148 40 0 14)))⟩ => ?_)
              have w151 : S148 40 0 13 = S136 40 0 13 := f149 40 0 13 rfl
              have w152 : S148 40 0 14 = S136 40 0 14 := f149 40 0 14 rfl
              have w153 : S148 0 0 10 = S136 0 0 10 := f149 0 0 10 rfl
              have g154 : SegA S148 := fx_pfr SegA_stab f149 rfl g138
              have g155 : TreeL S148 := fx_pfr TreeL_stab f149 rfl g139
              refine And.intro (fun (h156 : (z147 = (0 : Int) : Prop)) => ?_) (fun (h156 : (z147 ≠ (0 : Int) : Prop)) => ?_)
              ·
                refine c_Migrator_work  g155 (fun (S157 : fxS) ⟨(f158 : fxfr [(4, 11), (4, 12), (7, 9999), (8, 4), (9, 9999), (10, 9999), (11, 9999), (12, 9999), (13, 6), (13, 7), (13, 10), (15, 9999), (16, 9999), (17, 9999), (18, 9999), (19, 9999), (20, 0), (20, 1), (20, 3), (20, 4), (20, 5), (20, 6), (20, 7), (20, 11), (20, 12), (21, 9999), (22, 9999), (23, 9999), (40, 10), (41, 9999), (42, 9999), (44, 6), (44, 7), (44, 10), (47, 9999), (48, 9999)] S148 S157), (g159 : TreeL S157)⟩ => ?_)
                have w160 : S157 40 0 0 = S148 40 0 0 := f158 40 0 0 rfl
                have w161 : S157 40 0 2 = S148 40 0 2 := f158 40 0 2 rfl
                have w162 : S157 40 0 13 = S148 40 0 13 := f158 40 0 13 rfl
                have w163 : S157 40 0 14 = S148 40 0 14 := f158 40 0 14 rfl
                have w164 : S157 0 0 10 = S148 0 0 10 := f158 0 0 10 rfl
                have g165 : SegA S157 := fx_pfr SegA_stab f158 rfl g154
                have lc : LCt S157 := LCt_of (by omega)
                refine And.intro (by decide) (And.intro (show -2147483648 ≤ j + (1 : Int) ∧ j + (1 : Int) < 2147483648 by omega) ?_)
                exact ih (j + (1 : Int)) S157 (fxfr_tr (fxfr_tr (fxfr_tr (fxfr_tr (fxfr_up (fxfr_tr (fxfr_up hf rfl) f15 rfl) rfl) f36 rfl) f137 rfl) f149 rfl) f158 rfl) (by omega) (by omega) (by omega) g165 g159 lc (by omega)
              ·
                refine c_Writer_finish  g154 (show 0 ≤ S148 40 0 0 by omega) (show S148 40 0 13 = 2 → 0 ≤ S148 40 0 14 by omega) g155 (fun (S167 : fxS) ⟨(f168 : fxfr [(4, 7), (5, 9999), (6, 9999), (8, 4), (10, 9999), (11, 9999), (13, 6), (13, 7), (13, 10), (15, 9999), (16, 9999), (17, 9999), (18, 9999), (19, 9999), (20, 0), (20, 1), (20, 3), (20, 4), (20, 5), (20, 6), (20, 7), (20, 11), (20, 12), (21, 9999), (22, 9999), (23, 9999), (26, 3), (32, 1), (32, 3), (32, 4), (32, 5), (33, 9999), (38, 15)] S148 S167), (g169 : SegA S167), (g170 : TreeL S167)⟩ => ?_)
                have w171 : S167 40 0 0 = S148 40 0 0 := f168 40 0 0 rfl
                have w172 : S167 40 0 2 = S148 40 0 2 := f168 40 0 2 rfl
                have w173 : S167 40 0 13 = S148 40 0 13 := f168 40 0 13 rfl
                have w174 : S167 40 0 14 = S148 40 0 14 := f168 40 0 14 rfl
                have w175 : S167 0 0 10 = S148 0 0 10 := f168 0 0 10 rfl
                refine c_Migrator_work  g170 (fun (S176 : fxS) ⟨(f177 : fxfr [(4, 11), (4, 12), (7, 9999), (8, 4), (9, 9999), (10, 9999), (11, 9999), (12, 9999), (13, 6), (13, 7), (13, 10), (15, 9999), (16, 9999), (17, 9999), (18, 9999), (19, 9999), (20, 0), (20, 1), (20, 3), (20, 4), (20, 5), (20, 6), (20, 7), (20, 11), (20, 12), (21, 9999), (22, 9999), (23, 9999), (40, 10), (41, 9999), (42, 9999), (44, 6), (44, 7), (44, 10), (47, 9999), (48, 9999)] S167 S176), (g178 : TreeL S176)⟩ => ?_)
                have w179 : S176 40 0 0 = S167 40 0 0 := f177 40 0 0 rfl
                have w180 : S176 40 0 2 = S167 40 0 2 := f177 40 0 2 rfl
                have w181 : S176 40 0 13 = S167 40 0 13 := f177 40 0 13 rfl
                have w182 : S176 40 0 14 = S167 40 0 14 := f177 40 0 14 rfl
                have w183 : S176 0 0 10 = S167 0 0 10 := f177 0 0 10 rfl
                have g184 : SegA S176 := fx_pfr SegA_stab f177 rfl g169
                have lc : LCt S176 := LCt_of (by omega)
                refine And.intro (by decide) (And.intro (show -2147483648 ≤ j + (1 : Int) ∧ j + (1 : Int) < 2147483648 by omega) ?_)
                exact ih (j + (1 : Int)) S176 (fxfr_tr (fxfr_tr (fxfr_tr (fxfr_tr (fxfr_tr (fxfr_up (fxfr_tr (fxfr_up hf rfl) f15 rfl) rfl) f36 rfl) f137 rfl) f149 rfl) f168 rfl) f177 rfl) (by omega) (by omega) (by omega) g184 g178 lc (by omega)
            ·
              refine c_Writer_choose  (show ((S136 40 0 2 = 4 ∨ S136 40 0 2 = 5) → 0 ≤ S136 40 0 0 ∧ (S136 40 0 13 = 2 → 0 ≤ S136 40 0 14)) by omega) g139 (fun (S186 : fxS) ⟨(f187 : fxfr [(26, 2), (40, 0), (40, 1), (40, 2), (40, 3), (40, 4), (40, 10), (40, 12), (40, 13), (40, 14), (40, 15), (40, 16), (41, 9999), (42, 9999), (43, 9999)] S136 S186), (q188 : ((S186 40 0 2 = 4 ∨ S186 40 0 2 = 5) → 0 ≤ S186 40 0 0 ∧ (S186 40 0 13 = 2 → 0 ≤ S186 40 0 14)))⟩ => ?_)
              have w189 : S186 0 0 10 = S136 0 0 10 := f187 0 0 10 rfl
              have g190 : SegA S186 := fx_pfr SegA_stab f187 rfl g138
              have g191 : TreeL S186 := fx_pfr TreeL_stab f187 rfl g139
              refine c_spend40  (show ((S186 40 0 2 = 4 ∨ S186 40 0 2 = 5) → 0 ≤ S186 40 0 0 ∧ (S186 40 0 13 = 2 → 0 ≤ S186 40 0 14)) by omega) (fun (z192 : Int) (S193 : fxS) ⟨(f194 : fxfr [(40, 0), (40, 1), (40, 2), (40, 3)] S186 S193), (q195 : 0 ≤ z192 ∧ z192 ≤ 1 ∧ ((S193 40 0 2 = 4 ∨ S193 40 0 2 = 5) → 0 ≤ S193 40 0 0 ∧ (S193 40 0 13 = 2 → 0 ≤ S193 40 0 14)) ∧ (z192 = 1 → 0 ≤ S193 40 0 0 ∧ (S193 40 0 13 = 2 → 0 ≤ S193 40 0 14)))⟩ => ?_)
              have w196 : S193 40 0 13 = S186 40 0 13 := f194 40 0 13 rfl
              have w197 : S193 40 0 14 = S186 40 0 14 := f194 40 0 14 rfl
              have w198 : S193 0 0 10 = S186 0 0 10 := f194 0 0 10 rfl
              have g199 : SegA S193 := fx_pfr SegA_stab f194 rfl g190
              have g200 : TreeL S193 := fx_pfr TreeL_stab f194 rfl g191
              refine And.intro (fun (h201 : (z192 = (0 : Int) : Prop)) => ?_) (fun (h201 : (z192 ≠ (0 : Int) : Prop)) => ?_)
              ·
                refine c_Migrator_work  g200 (fun (S202 : fxS) ⟨(f203 : fxfr [(4, 11), (4, 12), (7, 9999), (8, 4), (9, 9999), (10, 9999), (11, 9999), (12, 9999), (13, 6), (13, 7), (13, 10), (15, 9999), (16, 9999), (17, 9999), (18, 9999), (19, 9999), (20, 0), (20, 1), (20, 3), (20, 4), (20, 5), (20, 6), (20, 7), (20, 11), (20, 12), (21, 9999), (22, 9999), (23, 9999), (40, 10), (41, 9999), (42, 9999), (44, 6), (44, 7), (44, 10), (47, 9999), (48, 9999)] S193 S202), (g204 : TreeL S202)⟩ => ?_)
                have w205 : S202 40 0 0 = S193 40 0 0 := f203 40 0 0 rfl
                have w206 : S202 40 0 2 = S193 40 0 2 := f203 40 0 2 rfl
                have w207 : S202 40 0 13 = S193 40 0 13 := f203 40 0 13 rfl
                have w208 : S202 40 0 14 = S193 40 0 14 := f203 40 0 14 rfl
                have w209 : S202 0 0 10 = S193 0 0 10 := f203 0 0 10 rfl
                have g210 : SegA S202 := fx_pfr SegA_stab f203 rfl g199
                have lc : LCt S202 := LCt_of (by omega)
                refine And.intro (by decide) (And.intro (show -2147483648 ≤ j + (1 : Int) ∧ j + (1 : Int) < 2147483648 by omega) ?_)
                exact ih (j + (1 : Int)) S202 (fxfr_tr (fxfr_tr (fxfr_tr (fxfr_tr (fxfr_tr (fxfr_up (fxfr_tr (fxfr_up hf rfl) f15 rfl) rfl) f36 rfl) f137 rfl) f187 rfl) f194 rfl) f203 rfl) (by omega) (by omega) (by omega) g210 g204 lc (by omega)
              ·
                refine c_Writer_finish  g199 (show 0 ≤ S193 40 0 0 by omega) (show S193 40 0 13 = 2 → 0 ≤ S193 40 0 14 by omega) g200 (fun (S212 : fxS) ⟨(f213 : fxfr [(4, 7), (5, 9999), (6, 9999), (8, 4), (10, 9999), (11, 9999), (13, 6), (13, 7), (13, 10), (15, 9999), (16, 9999), (17, 9999), (18, 9999), (19, 9999), (20, 0), (20, 1), (20, 3), (20, 4), (20, 5), (20, 6), (20, 7), (20, 11), (20, 12), (21, 9999), (22, 9999), (23, 9999), (26, 3), (32, 1), (32, 3), (32, 4), (32, 5), (33, 9999), (38, 15)] S193 S212), (g214 : SegA S212), (g215 : TreeL S212)⟩ => ?_)
                have w216 : S212 40 0 0 = S193 40 0 0 := f213 40 0 0 rfl
                have w217 : S212 40 0 2 = S193 40 0 2 := f213 40 0 2 rfl
                have w218 : S212 40 0 13 = S193 40 0 13 := f213 40 0 13 rfl
                have w219 : S212 40 0 14 = S193 40 0 14 := f213 40 0 14 rfl
                have w220 : S212 0 0 10 = S193 0 0 10 := f213 0 0 10 rfl
                refine c_Migrator_work  g215 (fun (S221 : fxS) ⟨(f222 : fxfr [(4, 11), (4, 12), (7, 9999), (8, 4), (9, 9999), (10, 9999), (11, 9999), (12, 9999), (13, 6), (13, 7), (13, 10), (15, 9999), (16, 9999), (17, 9999), (18, 9999), (19, 9999), (20, 0), (20, 1), (20, 3), (20, 4), (20, 5), (20, 6), (20, 7), (20, 11), (20, 12), (21, 9999), (22, 9999), (23, 9999), (40, 10), (41, 9999), (42, 9999), (44, 6), (44, 7), (44, 10), (47, 9999), (48, 9999)] S212 S221), (g223 : TreeL S221)⟩ => ?_)
                have w224 : S221 40 0 0 = S212 40 0 0 := f222 40 0 0 rfl
                have w225 : S221 40 0 2 = S212 40 0 2 := f222 40 0 2 rfl
                have w226 : S221 40 0 13 = S212 40 0 13 := f222 40 0 13 rfl
                have w227 : S221 40 0 14 = S212 40 0 14 := f222 40 0 14 rfl
                have w228 : S221 0 0 10 = S212 0 0 10 := f222 0 0 10 rfl
                have g229 : SegA S221 := fx_pfr SegA_stab f222 rfl g214
                have lc : LCt S221 := LCt_of (by omega)
                refine And.intro (by decide) (And.intro (show -2147483648 ≤ j + (1 : Int) ∧ j + (1 : Int) < 2147483648 by omega) ?_)
                exact ih (j + (1 : Int)) S221 (fxfr_tr (fxfr_tr (fxfr_tr (fxfr_tr (fxfr_tr (fxfr_tr (fxfr_up (fxfr_tr (fxfr_up hf rfl) f15 rfl) rfl) f36 rfl) f137 rfl) f187 rfl) f194 rfl) f213 rfl) f222 rfl) (by omega) (by omega) (by omega) g229 g223 lc (by omega)
        ·
          intro z231 (z231a : (-1 : Int) ≤ z231) (z231b : z231 ≤ (5 : Int)) (z231c : z231 = S14 40 0 0)
          refine c_Reader_choose (w := z231) g29 g30 (show -2147483648 ≤ z231 ∧ z231 < 2147483648 by omega) (fun S232 ⟨f233, g234, g235⟩ => ?_)
          replace f233 : fxfr [(4, 7), (5, 9999), (6, 9999), (8, 4), (10, 9999), (11, 9999), (13, 6), (13, 7), (13, 10), (15, 9999), (16, 9999), (17, 9999), (18, 9999), (19, 9999), (20, 0), (20, 1), (20, 3), (20, 4), (20, 5), (20, 6), (20, 7), (20, 11), (20, 12), (21, 9999), (22, 9999), (23, 9999), (24, 4), (25, 9999), (26, 3), (32, 1), (32, 2), (32, 3), (32, 4), (32, 5), (38, 0), (38, 1), (38, 2), (38, 3), (38, 4), (38, 7), (38, 8), (38, 9), (38, 10), (38, 11), (38, 12)] (fx_up S14 38 0 7 (-1 : Int)) S232 := f233
          replace g234 : SegA S232 := g234
          replace g235 : TreeL S232 := g235
          have w236 : S232 40 0 0 = (fx_up S14 38 0 7 (-1 : Int)) 40 0 0 := f233 40 0 0 rfl
          have w237 : S232 40 0 2 = (fx_up S14 38 0 7 (-1 : Int)) 40 0 2 := f233 40 0 2 rfl
          have w238 : S232 40 0 13 = (fx_up S14 38 0 7 (-1 : Int)) 40 0 13 := f233 40 0 13 rfl
          have w239 : S232 40 0 14 = (fx_up S14 38 0 7 (-1 : Int)) 40 0 14 := f233 40 0 14 rfl
          have w240 : S232 0 0 10 = (fx_up S14 38 0 7 (-1 : Int)) 0 0 10 := f233 0 0 10 rfl
          refine c_spend38   (fun (z241 : Int) (S242 : fxS) ⟨(f243 : fxfr [(38, 0), (38, 1), (38, 2), (38, 3)] S232 S242), (q244 : z241 = 0 ∨ z241 = 1)⟩ => ?_)
          have w245 : S242 40 0 0 = S232 40 0 0 := f243 40 0 0 rfl
          have w246 : S242 40 0 2 = S232 40 0 2 := f243 40 0 2 rfl
          have w247 : S242 40 0 13 = S232 40 0 13 := f243 40 0 13 rfl
          have w248 : S242 40 0 14 = S232 40 0 14 := f243 40 0 14 rfl
          have w249 : S242 0 0 10 = S232 0 0 10 := f243 0 0 10 rfl
          have g250 : SegA S242 := fx_pfr SegA_stab f243 rfl g234
          have g251 : TreeL S242 := fx_pfr TreeL_stab f243 rfl g235
          refine And.intro (fun (h252 : (z241 = (0 : Int) : Prop)) => ?_) (fun (h252 : (z241 ≠ (0 : Int) : Prop)) => ?_)
          ·
            intro z253 (z253a : (0 : Int) ≤ z253) (z253b : z253 ≤ (5 : Int)) (z253c : z253 = S242 40 0 2)
            refine And.intro (fun (h254 : (z253 ≠ (0 : Int) : Prop)) => ?_) (fun (h254 : (z253 = (0 : Int) : Prop)) => ?_)
            ·
              refine c_spend40  (show ((S242 40 0 2 = 4 ∨ S242 40 0 2 = 5) → 0 ≤ S242 40 0 0 ∧ (S242 40 0 13 = 2 → 0 ≤ S242 40 0 14)) by omega) (fun (z255 : Int) (S256 : fxS) ⟨(f257 : fxfr [(40, 0), (40, 1), (40, 2), (40, 3)] S242 S256), (q258 : 0 ≤ z255 ∧ z255 ≤ 1 ∧ ((S256 40 0 2 = 4 ∨ S256 40 0 2 = 5) → 0 ≤ S256 40 0 0 ∧ (S256 40 0 13 = 2 → 0 ≤ S256 40 0 14)) ∧ (z255 = 1 → 0 ≤ S256 40 0 0 ∧ (S256 40 0 13 = 2 → 0 ≤ S256 40 0 14)))⟩ => ?_)
              have w259 : S256 40 0 13 = S242 40 0 13 := f257 40 0 13 rfl
              have w260 : S256 40 0 14 = S242 40 0 14 := f257 40 0 14 rfl
              have w261 : S256 0 0 10 = S242 0 0 10 := f257 0 0 10 rfl
              have g262 : SegA S256 := fx_pfr SegA_stab f257 rfl g250
              have g263 : TreeL S256 := fx_pfr TreeL_stab f257 rfl g251
              refine And.intro (fun (h264 : (z255 = (0 : Int) : Prop)) => ?_) (fun (h264 : (z255 ≠ (0 : Int) : Prop)) => ?_)
              ·
                refine c_Migrator_work  g263 (fun (S265 : fxS) ⟨(f266 : fxfr [(4, 11), (4, 12), (7, 9999), (8, 4), (9, 9999), (10, 9999), (11, 9999), (12, 9999), (13, 6), (13, 7), (13, 10), (15, 9999), (16, 9999), (17, 9999), (18, 9999), (19, 9999), (20, 0), (20, 1), (20, 3), (20, 4), (20, 5), (20, 6), (20, 7), (20, 11), (20, 12), (21, 9999), (22, 9999), (23, 9999), (40, 10), (41, 9999), (42, 9999), (44, 6), (44, 7), (44, 10), (47, 9999), (48, 9999)] S256 S265), (g267 : TreeL S265)⟩ => ?_)
                have w268 : S265 40 0 0 = S256 40 0 0 := f266 40 0 0 rfl
                have w269 : S265 40 0 2 = S256 40 0 2 := f266 40 0 2 rfl
                have w270 : S265 40 0 13 = S256 40 0 13 := f266 40 0 13 rfl
                have w271 : S265 40 0 14 = S256 40 0 14 := f266 40 0 14 rfl
                have w272 : S265 0 0 10 = S256 0 0 10 := f266 0 0 10 rfl
                have g273 : SegA S265 := fx_pfr SegA_stab f266 rfl g262
                have lc : LCt S265 := LCt_of (by omega)
                refine And.intro (by decide) (And.intro (show -2147483648 ≤ j + (1 : Int) ∧ j + (1 : Int) < 2147483648 by omega) ?_)
                exact ih (j + (1 : Int)) S265 (fxfr_tr (fxfr_tr (fxfr_tr (fxfr_tr (fxfr_up (fxfr_tr (fxfr_up hf rfl) f15 rfl) rfl) f233 rfl) f243 rfl) f257 rfl) f266 rfl) (by omega) (by omega) (by omega) g273 g267 lc (by omega)
              ·
                refine c_Writer_finish  g262 (show 0 ≤ S256 40 0 0 by omega) (show S256 40 0 13 = 2 → 0 ≤ S256 40 0 14 by omega) g263 (fun (S275 : fxS) ⟨(f276 : fxfr [(4, 7), (5, 9999), (6, 9999), (8, 4), (10, 9999), (11, 9999), (13, 6), (13, 7), (13, 10), (15, 9999), (16, 9999), (17, 9999), (18, 9999), (19, 9999), (20, 0), (20, 1), (20, 3), (20, 4), (20, 5), (20, 6), (20, 7), (20, 11), (20, 12), (21, 9999), (22, 9999), (23, 9999), (26, 3), (32, 1), (32, 3), (32, 4), (32, 5), (33, 9999), (38, 15)] S256 S275), (g277 : SegA S275), (g278 : TreeL S275)⟩ => ?_)
                have w279 : S275 40 0 0 = S256 40 0 0 := f276 40 0 0 rfl
                have w280 : S275 40 0 2 = S256 40 0 2 := f276 40 0 2 rfl
                have w281 : S275 40 0 13 = S256 40 0 13 := f276 40 0 13 rfl
                have w282 : S275 40 0 14 = S256 40 0 14 := f276 40 0 14 rfl
                have w283 : S275 0 0 10 = S256 0 0 10 := f276 0 0 10 rfl
                refine c_Migrator_work  g278 (fun (S284 : fxS) ⟨(f285 : fxfr [(4, 11), (4, 12), (7, 9999), (8, 4), (9, 9999), (10, 9999), (11, 9999), (12, 9999), (13, 6), (13, 7), (13, 10), (15, 9999), (16, 9999), (17, 9999), (18, 9999), (19, 9999), (20, 0), (20, 1), (20, 3), (20, 4), (20, 5), (20, 6), (20, 7), (20, 11), (20, 12), (21, 9999), (22, 9999), (23, 9999), (40, 10), (41, 9999), (42, 9999), (44, 6), (44, 7), (44, 10), (47, 9999), (48, 9999)] S275 S284), (g286 : TreeL S284)⟩ => ?_)
                have w287 : S284 40 0 0 = S275 40 0 0 := f285 40 0 0 rfl
                have w288 : S284 40 0 2 = S275 40 0 2 := f285 40 0 2 rfl
                have w289 : S284 40 0 13 = S275 40 0 13 := f285 40 0 13 rfl
                have w290 : S284 40 0 14 = S275 40 0 14 := f285 40 0 14 rfl
                have w291 : S284 0 0 10 = S275 0 0 10 := f285 0 0 10 rfl
                have g292 : SegA S284 := fx_pfr SegA_stab f285 rfl g277
                have lc : LCt S284 := LCt_of (by omega)
                refine And.intro (by decide) (And.intro (show -2147483648 ≤ j + (1 : Int) ∧ j + (1 : Int) < 2147483648 by omega) ?_)
                exact ih (j + (1 : Int)) S284 (fxfr_tr (fxfr_tr (fxfr_tr (fxfr_tr (fxfr_tr (fxfr_up (fxfr_tr (fxfr_up hf rfl) f15 rfl) rfl) f233 rfl) f243 rfl) f257 rfl) f276 rfl) f285 rfl) (by omega) (by omega) (by omega) g292 g286 lc (by omega)
            ·
              refine c_Writer_choose  (show ((S242 40 0 2 = 4 ∨ S242 40 0 2 = 5) → 0 ≤ S242 40 0 0 ∧ (S242 40 0 13 = 2 → 0 ≤ S242 40 0 14)) by omega) g251 (fun (S294 : fxS) ⟨(f295 : fxfr [(26, 2), (40, 0), (40, 1), (40, 2), (40, 3), (40, 4), (40, 10), (40, 12), (40, 13), (40, 14), (40, 15), (40, 16), (41, 9999), (42, 9999), (43, 9999)] S242 S294), (q296 : ((S294 40 0 2 = 4 ∨ S294 40 0 2 = 5) → 0 ≤ S294 40 0 0 ∧ (S294 40 0 13 = 2 → 0 ≤ S294 40 0 14)))⟩ => ?_)
              have w297 : S294 0 0 10 = S242 0 0 10 := f295 0 0 10 rfl
              have g298 : SegA S294 := fx_pfr SegA_stab f295 rfl g250
              have g299 : TreeL S294 := fx_pfr TreeL_stab f295 rfl g251
              refine c_spend40  (show ((S294 40 0 2 = 4 ∨ S294 40 0 2 = 5) → 0 ≤ S294 40 0 0 ∧ (S294 40 0 13 = 2 → 0 ≤ S294 40 0 14)) by omega) (fun (z300 : Int) (S301 : fxS) ⟨(f302 : fxfr [(40, 0), (40, 1), (40, 2), (40, 3)] S294 S301), (q303 : 0 ≤ z300 ∧ z300 ≤ 1 ∧ ((S301 40 0 2 = 4 ∨ S301 40 0 2 = 5) → 0 ≤ S301 40 0 0 ∧ (S301 40 0 13 = 2 → 0 ≤ S301 40 0 14)) ∧ (z300 = 1 → 0 ≤ S301 40 0 0 ∧ (S301 40 0 13 = 2 → 0 ≤ S301 40 0 14)))⟩ => ?_)
              have w304 : S301 40 0 13 = S294 40 0 13 := f302 40 0 13 rfl
              have w305 : S301 40 0 14 = S294 40 0 14 := f302 40 0 14 rfl
              have w306 : S301 0 0 10 = S294 0 0 10 := f302 0 0 10 rfl
              have g307 : SegA S301 := fx_pfr SegA_stab f302 rfl g298
              have g308 : TreeL S301 := fx_pfr TreeL_stab f302 rfl g299
              refine And.intro (fun (h309 : (z300 = (0 : Int) : Prop)) => ?_) (fun (h309 : (z300 ≠ (0 : Int) : Prop)) => ?_)
              ·
                refine c_Migrator_work  g308 (fun (S310 : fxS) ⟨(f311 : fxfr [(4, 11), (4, 12), (7, 9999), (8, 4), (9, 9999), (10, 9999), (11, 9999), (12, 9999), (13, 6), (13, 7), (13, 10), (15, 9999), (16, 9999), (17, 9999), (18, 9999), (19, 9999), (20, 0), (20, 1), (20, 3), (20, 4), (20, 5), (20, 6), (20, 7), (20, 11), (20, 12), (21, 9999), (22, 9999), (23, 9999), (40, 10), (41, 9999), (42, 9999), (44, 6), (44, 7), (44, 10), (47, 9999), (48, 9999)] S301 S310), (g312 : TreeL S310)⟩ => ?_)
                have w313 : S310 40 0 0 = S301 40 0 0 := f311 40 0 0 rfl
                have w314 : S310 40 0 2 = S301 40 0 2 := f311 40 0 2 rfl
                have w315 : S310 40 0 13 = S301 40 0 13 := f311 40 0 13 rfl
                have w316 : S310 40 0 14 = S301 40 0 14 := f311 40 0 14 rfl
                have w317 : S310 0 0 10 = S301 0 0 10 := f311 0 0 10 rfl
                have g318 : SegA S310 := fx_pfr SegA_stab f311 rfl g307
                have lc : LCt S310 := LCt_of (by omega)
                refine And.intro (by decide) (And.intro (show -2147483648 ≤ j + (1 : Int) ∧ j + (1 : Int) < 2147483648 by omega) ?_)
                exact ih (j + (1 : Int)) S310 (fxfr_tr (fxfr_tr (fxfr_tr (fxfr_tr (fxfr_tr (fxfr_up (fxfr_tr (fxfr_up hf rfl) f15 rfl) rfl) f233 rfl) f243 rfl) f295 rfl) f302 rfl) f311 rfl) (by omega) (by omega) (by omega) g318 g312 lc (by omega)
              ·
                refine c_Writer_finish  g307 (show 0 ≤ S301 40 0 0 by omega) (show S301 40 0 13 = 2 → 0 ≤ S301 40 0 14 by omega) g308 (fun (S320 : fxS) ⟨(f321 : fxfr [(4, 7), (5, 9999), (6, 9999), (8, 4), (10, 9999), (11, 9999), (13, 6), (13, 7), (13, 10), (15, 9999), (16, 9999), (17, 9999), (18, 9999), (19, 9999), (20, 0), (20, 1), (20, 3), (20, 4), (20, 5), (20, 6), (20, 7), (20, 11), (20, 12), (21, 9999), (22, 9999), (23, 9999), (26, 3), (32, 1), (32, 3), (32, 4), (32, 5), (33, 9999), (38, 15)] S301 S320), (g322 : SegA S320), (g323 : TreeL S320)⟩ => ?_)
                have w324 : S320 40 0 0 = S301 40 0 0 := f321 40 0 0 rfl
                have w325 : S320 40 0 2 = S301 40 0 2 := f321 40 0 2 rfl
                have w326 : S320 40 0 13 = S301 40 0 13 := f321 40 0 13 rfl
                have w327 : S320 40 0 14 = S301 40 0 14 := f321 40 0 14 rfl
                have w328 : S320 0 0 10 = S301 0 0 10 := f321 0 0 10 rfl
                refine c_Migrator_work  g323 (fun (S329 : fxS) ⟨(f330 : fxfr [(4, 11), (4, 12), (7, 9999), (8, 4), (9, 9999), (10, 9999), (11, 9999), (12, 9999), (13, 6), (13, 7), (13, 10), (15, 9999), (16, 9999), (17, 9999), (18, 9999), (19, 9999), (20, 0), (20, 1), (20, 3), (20, 4), (20, 5), (20, 6), (20, 7), (20, 11), (20, 12), (21, 9999), (22, 9999), (23, 9999), (40, 10), (41, 9999), (42, 9999), (44, 6), (44, 7), (44, 10), (47, 9999), (48, 9999)] S320 S329), (g331 : TreeL S329)⟩ => ?_)
                have w332 : S329 40 0 0 = S320 40 0 0 := f330 40 0 0 rfl
                have w333 : S329 40 0 2 = S320 40 0 2 := f330 40 0 2 rfl
                have w334 : S329 40 0 13 = S320 40 0 13 := f330 40 0 13 rfl
                have w335 : S329 40 0 14 = S320 40 0 14 := f330 40 0 14 rfl
                have w336 : S329 0 0 10 = S320 0 0 10 := f330 0 0 10 rfl
                have g337 : SegA S329 := fx_pfr SegA_stab f330 rfl g322
                have lc : LCt S329 := LCt_of (by omega)
                refine And.intro (by decide) (And.intro (show -2147483648 ≤ j + (1 : Int) ∧ j + (1 : Int) < 2147483648 by omega) ?_)
                exact ih (j + (1 : Int)) S329 (fxfr_tr (fxfr_tr (fxfr_tr (fxfr_tr (fxfr_tr (fxfr_tr (fxfr_up (fxfr_tr (fxfr_up hf rfl) f15 rfl) rfl) f233 rfl) f243 rfl) f295 rfl) f302 rfl) f321 rfl) f330 rfl) (by omega) (by omega) (by omega) g337 g331 lc (by omega)
          ·
            refine c_Reader_finish  g250 g251 (fun (S339 : fxS) ⟨(f340 : fxfr [(4, 6), (4, 7), (4, 11), (4, 12), (5, 9999), (6, 9999), (7, 9999), (8, 4), (9, 9999), (10, 9999), (11, 9999), (12, 9999), (13, 6), (13, 7), (13, 10), (15, 9999), (16, 9999), (17, 9999), (18, 9999), (19, 9999), (20, 0), (20, 1), (20, 3), (20, 4), (20, 5), (20, 6), (20, 7), (20, 11), (20, 12), (21, 9999), (22, 9999), (23, 9999), (24, 4), (25, 9999), (38, 13), (38, 15), (38, 16), (39, 9999)] S242 S339), (g341 : SegA S339), (g342 : TreeL S339)⟩ => ?_)
            have w343 : S339 40 0 0 = S242 40 0 0 := f340 40 0 0 rfl
            have w344 : S339 40 0 2 = S242 40 0 2 := f340 40 0 2 rfl
            have w345 : S339 40 0 13 = S242 40 0 13 := f340 40 0 13 rfl
            have w346 : S339 40 0 14 = S242 40 0 14 := f340 40 0 14 rfl
            have w347 : S339 0 0 10 = S242 0 0 10 := f340 0 0 10 rfl
            intro z348 (z348a : (0 : Int) ≤ z348) (z348b : z348 ≤ (5 : Int)) (z348c : z348 = S339 40 0 2)
            refine And.intro (fun (h349 : (z348 ≠ (0 : Int) : Prop)) => ?_) (fun (h349 : (z348 = (0 : Int) : Prop)) => ?_)
            ·
              refine c_spend40  (show ((S339 40 0 2 = 4 ∨ S339 40 0 2 = 5) → 0 ≤ S339 40 0 0 ∧ (S339 40 0 13 = 2 → 0 ≤ S339 40 0 14)) by omega) (fun (z350 : Int) (S351 : fxS) ⟨(f352 : fxfr [(40, 0), (40, 1), (40, 2), (40, 3)] S339 S351), (q353 : 0 ≤ z350 ∧ z350 ≤ 1 ∧ ((S351 40 0 2 = 4 ∨ S351 40 0 2 = 5) → 0 ≤ S351 40 0 0 ∧ (S351 40 0 13 = 2 → 0 ≤ S351 40 0 14)) ∧ (z350 = 1 → 0 ≤ S351 40 0 0 ∧ (S351 40 0 13 = 2 → 0 ≤ S351 40 0 14)))⟩ => ?_)
              have w354 : S351 40 0 13 = S339 40 0 13 := f352 40 0 13 rfl
              have w355 : S351 40 0 14 = S339 40 0 14 := f352 40 0 14 rfl
              have w356 : S351 0 0 10 = S339 0 0 10 := f352 0 0 10 rfl
              have g357 : SegA S351 := fx_pfr SegA_stab f352 rfl g341
              have g358 : TreeL S351 := fx_pfr TreeL_stab f352 rfl g342
              refine And.intro (fun (h359 : (z350 = (0 : Int) : Prop)) => ?_) (fun (h359 : (z350 ≠ (0 : Int) : Prop)) => ?_)
              ·
                refine c_Migrator_work  g358 (fun (S360 : fxS) ⟨(f361 : fxfr [(4, 11), (4, 12), (7, 9999), (8, 4), (9, 9999), (10, 9999), (11, 9999), (12, 9999), (13, 6), (13, 7), (13, 10), (15, 9999), (16, 9999), (17, 9999), (18, 9999), (19, 9999), (20, 0), (20, 1), (20, 3), (20, 4), (20, 5), (20, 6), (20, 7), (20, 11), (20, 12), (21, 9999), (22, 9999), (23, 9999), (40, 10), (41, 9999), (42, 9999), (44, 6), (44, 7), (44, 10), (47, 9999), (48, 9999)] S351 S360), (g362 : TreeL S360)⟩ => ?_)
                have w363 : S360 40 0 0 = S351 40 0 0 := f361 40 0 0 rfl
                have w364 : S360 40 0 2 = S351 40 0 2 := f361 40 0 2 rfl
                have w365 : S360 40 0 13 = S351 40 0 13 := f361 40 0 13 rfl
                have w366 : S360 40 0 14 = S351 40 0 14 := f361 40 0 14 rfl
                have w367 : S360 0 0 10 = S351 0 0 10 := f361 0 0 10 rfl
                have g368 : SegA S360 := fx_pfr SegA_stab f361 rfl g357
                have lc : LCt S360 := LCt_of (by omega)
                refine And.intro (by decide) (And.intro (show -2147483648 ≤ j + (1 : Int) ∧ j + (1 : Int) < 2147483648 by omega) ?_)
                exact ih (j + (1 : Int)) S360 (fxfr_tr (fxfr_tr (fxfr_tr (fxfr_tr (fxfr_tr (fxfr_up (fxfr_tr (fxfr_up hf rfl) f15 rfl) rfl) f233 rfl) f243 rfl) f340 rfl) f352 rfl) f361 rfl) (by omega) (by omega) (by omega) g368 g362 lc (by omega)
              ·
                refine c_Writer_finish  g357 (show 0 ≤ S351 40 0 0 by omega) (show S351 40 0 13 = 2 → 0 ≤ S351 40 0 14 by omega) g358 (fun (S370 : fxS) ⟨(f371 : fxfr [(4, 7), (5, 9999), (6, 9999), (8, 4), (10, 9999), (11, 9999), (13, 6), (13, 7), (13, 10), (15, 9999), (16, 9999), (17, 9999), (18, 9999), (19, 9999), (20, 0), (20, 1), (20, 3), (20, 4), (20, 5), (20, 6), (20, 7), (20, 11), (20, 12), (21, 9999), (22, 9999), (23, 9999), (26, 3), (32, 1), (32, 3), (32, 4), (32, 5), (33, 9999), (38, 15)] S351 S370), (g372 : SegA S370), (g373 : TreeL S370)⟩ => ?_)
                have w374 : S370 40 0 0 = S351 40 0 0 := f371 40 0 0 rfl
                have w375 : S370 40 0 2 = S351 40 0 2 := f371 40 0 2 rfl
                have w376 : S370 40 0 13 = S351 40 0 13 := f371 40 0 13 rfl
                have w377 : S370 40 0 14 = S351 40 0 14 := f371 40 0 14 rfl
                have w378 : S370 0 0 10 = S351 0 0 10 := f371 0 0 10 rfl
                refine c_Migrator_work  g373 (fun (S379 : fxS) ⟨(f380 : fxfr [(4, 11), (4, 12), (7, 9999), (8, 4), (9, 9999), (10, 9999), (11, 9999), (12, 9999), (13, 6), (13, 7), (13, 10), (15, 9999), (16, 9999), (17, 9999), (18, 9999), (19, 9999), (20, 0), (20, 1), (20, 3), (20, 4), (20, 5), (20, 6), (20, 7), (20, 11), (20, 12), (21, 9999), (22, 9999), (23, 9999), (40, 10), (41, 9999), (42, 9999), (44, 6), (44, 7), (44, 10), (47, 9999), (48, 9999)] S370 S379), (g381 : TreeL S379)⟩ => ?_)
                have w382 : S379 40 0 0 = S370 40 0 0 := f380 40 0 0 rfl
                have w383 : S379 40 0 2 = S370 40 0 2 := f380 40 0 2 rfl
                have w384 : S379 40 0 13 = S370 40 0 13 := f380 40 0 13 rfl
                have w385 : S379 40 0 14 = S370 40 0 14 := f380 40 0 14 rfl
                have w386 : S379 0 0 10 = S370 0 0 10 := f380 0 0 10 rfl
                have g387 : SegA S379 := fx_pfr SegA_stab f380 rfl g372
                have lc : LCt S379 := LCt_of (by omega)
                refine And.intro (by decide) (And.intro (show -2147483648 ≤ j + (1 : Int) ∧ j + (1 : Int) < 2147483648 by omega) ?_)
                exact ih (j + (1 : Int)) S379 (fxfr_tr (fxfr_tr (fxfr_tr (fxfr_tr (fxfr_tr (fxfr_tr (fxfr_up (fxfr_tr (fxfr_up hf rfl) f15 rfl) rfl) f233 rfl) f243 rfl) f340 rfl) f352 rfl) f371 rfl) f380 rfl) (by omega) (by omega) (by omega) g387 g381 lc (by omega)
            ·
              refine c_Writer_choose  (show ((S339 40 0 2 = 4 ∨ S339 40 0 2 = 5) → 0 ≤ S339 40 0 0 ∧ (S339 40 0 13 = 2 → 0 ≤ S339 40 0 14)) by omega) g342 (fun (S389 : fxS) ⟨(f390 : fxfr [(26, 2), (40, 0), (40, 1), (40, 2), (40, 3), (40, 4), (40, 10), (40, 12), (40, 13), (40, 14), (40, 15), (40, 16), (41, 9999), (42, 9999), (43, 9999)] S339 S389), (q391 : ((S389 40 0 2 = 4 ∨ S389 40 0 2 = 5) → 0 ≤ S389 40 0 0 ∧ (S389 40 0 13 = 2 → 0 ≤ S389 40 0 14)))⟩ => ?_)
              have w392 : S389 0 0 10 = S339 0 0 10 := f390 0 0 10 rfl
              have g393 : SegA S389 := fx_pfr SegA_stab f390 rfl g341
              have g394 : TreeL S389 := fx_pfr TreeL_stab f390 rfl g342
              refine c_spend40  (show ((S389 40 0 2 = 4 ∨ S389 40 0 2 = 5) → 0 ≤ S389 40 0 0 ∧ (S389 40 0 13 = 2 → 0 ≤ S389 40 0 14)) by omega) (fun (z395 : Int) (S396 : fxS) ⟨(f397 : fxfr [(40, 0), (40, 1), (40, 2), (40, 3)] S389 S396), (q398 : 0 ≤ z395 ∧ z395 ≤ 1 ∧ ((S396 40 0 2 = 4 ∨ S396 40 0 2 = 5) → 0 ≤ S396 40 0 0 ∧ (S396 40 0 13 = 2 → 0 ≤ S396 40 0 14)) ∧ (z395 = 1 → 0 ≤ S396 40 0 0 ∧ (S396 40 0 13 = 2 → 0 ≤ S396 40 0 14)))⟩ => ?_)
              have w399 : S396 40 0 13 = S389 40 0 13 := f397 40 0 13 rfl
              have w400 : S396 40 0 14 = S389 40 0 14 := f397 40 0 14 rfl
              have w401 : S396 0 0 10 = S389 0 0 10 := f397 0 0 10 rfl
              have g402 : SegA S396 := fx_pfr SegA_stab f397 rfl g393
              have g403 : TreeL S396 := fx_pfr TreeL_stab f397 rfl g394
              refine And.intro (fun (h404 : (z395 = (0 : Int) : Prop)) => ?_) (fun (h404 : (z395 ≠ (0 : Int) : Prop)) => ?_)
              ·
                refine c_Migrator_work  g403 (fun (S405 : fxS) ⟨(f406 : fxfr [(4, 11), (4, 12), (7, 9999), (8, 4), (9, 9999), (10, 9999), (11, 9999), (12, 9999), (13, 6), (13, 7), (13, 10), (15, 9999), (16, 9999), (17, 9999), (18, 9999), (19, 9999), (20, 0), (20, 1), (20, 3), (20, 4), (20, 5), (20, 6), (20, 7), (20, 11), (20, 12), (21, 9999), (22, 9999), (23, 9999), (40, 10), (41, 9999), (42, 9999), (44, 6), (44, 7), (44, 10), (47, 9999), (48, 9999)] S396 S405), (g407 : TreeL S405)⟩ => ?_)
                have w408 : S405 40 0 0 = S396 40 0 0 := f406 40 0 0 rfl
                have w409 : S405 40 0 2 = S396 40 0 2 := f406 40 0 2 rfl
                have w410 : S405 40 0 13 = S396 40 0 13 := f406 40 0 13 rfl
                have w411 : S405 40 0 14 = S396 40 0 14 := f406 40 0 14 rfl
                have w412 : S405 0 0 10 = S396 0 0 10 := f406 0 0 10 rfl
                have g413 : SegA S405 := fx_pfr SegA_stab f406 rfl g402
                have lc : LCt S405 := LCt_of (by omega)
                refine And.intro (by decide) (And.intro (show -2147483648 ≤ j + (1 : Int) ∧ j + (1 : Int) < 2147483648 by omega) ?_)
                exact ih (j + (1 : Int)) S405 (fxfr_tr (fxfr_tr (fxfr_tr (fxfr_tr (fxfr_tr (fxfr_tr (fxfr_up (fxfr_tr (fxfr_up hf rfl) f15 rfl) rfl) f233 rfl) f243 rfl) f340 rfl) f390 rfl) f397 rfl) f406 rfl) (by omega) (by omega) (by omega) g413 g407 lc (by omega)
              ·
                refine c_Writer_finish  g402 (show 0 ≤ S396 40 0 0 by omega) (show S396 40 0 13 = 2 → 0 ≤ S396 40 0 14 by omega) g403 (fun (S415 : fxS) ⟨(f416 : fxfr [(4, 7), (5, 9999), (6, 9999), (8, 4), (10, 9999), (11, 9999), (13, 6), (13, 7), (13, 10), (15, 9999), (16, 9999), (17, 9999), (18, 9999), (19, 9999), (20, 0), (20, 1), (20, 3), (20, 4), (20, 5), (20, 6), (20, 7), (20, 11), (20, 12), (21, 9999), (22, 9999), (23, 9999), (26, 3), (32, 1), (32, 3), (32, 4), (32, 5), (33, 9999), (38, 15)] S396 S415), (g417 : SegA S415), (g418 : TreeL S415)⟩ => ?_)
                have w419 : S415 40 0 0 = S396 40 0 0 := f416 40 0 0 rfl
                have w420 : S415 40 0 2 = S396 40 0 2 := f416 40 0 2 rfl
                have w421 : S415 40 0 13 = S396 40 0 13 := f416 40 0 13 rfl
                have w422 : S415 40 0 14 = S396 40 0 14 := f416 40 0 14 rfl
                have w423 : S415 0 0 10 = S396 0 0 10 := f416 0 0 10 rfl
                refine c_Migrator_work  g418 (fun (S424 : fxS) ⟨(f425 : fxfr [(4, 11), (4, 12), (7, 9999), (8, 4), (9, 9999), (10, 9999), (11, 9999), (12, 9999), (13, 6), (13, 7), (13, 10), (15, 9999), (16, 9999), (17, 9999), (18, 9999), (19, 9999), (20, 0), (20, 1), (20, 3), (20, 4), (20, 5), (20, 6), (20, 7), (20, 11), (20, 12), (21, 9999), (22, 9999), (23, 9999), (40, 10), (41, 9999), (42, 9999), (44, 6), (44, 7), (44, 10), (47, 9999), (48, 9999)] S415 S424), (g426 : TreeL S424)⟩ => ?_)
                have w427 : S424 40 0 0 = S415 40 0 0 := f425 40 0 0 rfl
                have w428 : S424 40 0 2 = S415 40 0 2 := f425 40 0 2 rfl
                have w429 : S424 40 0 13 = S415 40 0 13 := f425 40 0 13 rfl
                have w430 : S424 40 0 14 = S415 40 0 14 := f425 40 0 14 rfl
                have w431 : S424 0 0 10 = S415 0 0 10 := f425 0 0 10 rfl
                have g432 : SegA S424 := fx_pfr SegA_stab f425 rfl g417
                have lc : LCt S424 := LCt_of (by omega)
                refine And.intro (by decide) (And.intro (show -2147483648 ≤ j + (1 : Int) ∧ j + (1 : Int) < 2147483648 by omega) ?_)
                exact ih (j + (1 : Int)) S424 (fxfr_tr (fxfr_tr (fxfr_tr (fxfr_tr (fxfr_tr (fxfr_tr (fxfr_tr (fxfr_up (fxfr_tr (fxfr_up hf rfl) f15 rfl) rfl) f233 rfl) f243 rfl) f340 rfl) f390 rfl) f397 rfl) f416 rfl) f425 rfl) (by omega) (by omega) (by omega) g432 g426 lc (by omega)
      ·
        refine And.intro (by decide) (And.intro (show -2147483648 ≤ j + (1 : Int) ∧ j + (1 : Int) < 2147483648 by omega) ?_)
        exact ih (j + (1 : Int)) (fx_up S1 2 0 1 z3) (fxfr_up hf rfl) (by omega) (by omega) (by omega) g9 g10 g11 (by omega)
theorem c_stepC {l : Launch} {k : fxK} {S : fxS} {n : Int} (p0 : ((S 40 0 2 = 4 ∨ S 40 0 2 = 5) → 0 ≤ S 40 0 0 ∧ (S 40 0 13 = 2 → 0 ≤ S 40 0 14))) (p1 : SegA S) (p2 : TreeL S) (p3 : LCt S) (p4 : -2147483648 ≤ n ∧ n < 2147483648) (hk : ∀ (r : Int) (S' : fxS) , (fxfr [(2, 1), (4, 6), (4, 7), (4, 11), (4, 12), (5, 9999), (6, 9999), (7, 9999), (8, 4), (9, 9999), (10, 9999), (11, 9999), (12, 9999), (13, 6), (13, 7), (13, 10), (15, 9999), (16, 9999), (17, 9999), (18, 9999), (19, 9999), (20, 0), (20, 1), (20, 3), (20, 4), (20, 5), (20, 6), (20, 7), (20, 11), (20, 12), (21, 9999), (22, 9999), (23, 9999), (24, 4), (25, 9999), (26, 2), (26, 3), (32, 1), (32, 2), (32, 3), (32, 4), (32, 5), (33, 9999), (34, 9999), (35, 9999), (36, 9999), (37, 9999), (38, 0), (38, 1), (38, 2), (38, 3), (38, 4), (38, 7), (38, 8), (38, 9), (38, 10), (38, 11), (38, 12), (38, 13), (38, 15), (38, 16), (39, 9999), (40, 0), (40, 1), (40, 2), (40, 3), (40, 4), (40, 10), (40, 12), (40, 13), (40, 14), (40, 15), (40, 16), (41, 9999), (42, 9999), (43, 9999), (44, 6), (44, 7), (44, 10), (47, 9999), (48, 9999)] S S' ∧ (((1 ≤ n ∧ n ≤ 500) → r = 0) ∧ (¬ (1 ≤ n ∧ n ≤ 500) → r = -1) ∧ (((S' 40 0 2 = 4 ∨ S' 40 0 2 = 5) → 0 ≤ S' 40 0 0 ∧ (S' 40 0 13 = 2 → 0 ≤ S' 40 0 14)))) ∧ (SegA S') ∧ (TreeL S') ∧ (LCt S')) → k (some (.inl r)) S') : fC l 254 [.inr (.inr (0, 0)), .inl n] S k := by
  refine fxe_254 (Nat.le_of_ble_eq_true rfl) (fxz_254 400 ?_)
  refine And.intro (fun (h435 : (n < (1 : Int) : Prop)) => ?_) (fun (h435 : ((1 : Int) ≤ n : Prop)) => ?_)
  ·
    exact hk (-1 : Int) S ⟨fxfr_rfl, by omega, p1, p2, p3⟩
  ·
    refine And.intro (fun (h436 : (n ≤ (500 : Int) : Prop)) => ?_) (fun (h436 : ((500 : Int) < n : Prop)) => ?_)
    ·
      refine And.intro (by decide) ?_
      exact (z_stepC p0 p1 p2 p3 p4 hk (n + 1 - (0 : Int)).toNat) (0 : Int) S fxfr_rfl (by omega) (by omega) (by omega) p1 p2 p3 (by omega)
    ·
      exact hk (-1 : Int) S ⟨fxfr_rfl, by omega, p1, p2, p3⟩
theorem z_stepM {l : Launch} {k : fxK} {S : fxS} {n : Int} (p0 : COL S) (p1 : WTM S) (p2 : INJ S) (p3 : AON S) (p4 : USE S) (p5 : SNP S) (p6 : REC S) (p7 : SGM S) (p8 : WNW S) (p9 : WNR S) (p10 : LCM S) (p11 : -2147483648 ≤ n ∧ n < 2147483648) (hk : ∀ (r : Int) (S' : fxS) , (fxfr [(49, 0), (49, 7), (49, 11), (49, 13), (49, 36), (49, 38), (49, 39), (49, 40), (49, 41), (49, 42), (49, 43), (49, 45), (49, 46), (49, 47), (49, 48), (49, 49), (49, 51), (49, 53), (49, 54), (49, 55), (50, 9999), (52, 9999), (53, 9999), (55, 9999), (56, 9999), (57, 9999), (58, 9999), (62, 9999), (63, 9999), (64, 9999), (65, 9999), (66, 9999), (67, 9999), (70, 9999), (71, 9999), (72, 9999), (73, 9999), (74, 9999), (75, 9999), (76, 9999), (77, 9999), (78, 9999), (79, 9999)] S S' ∧ (((1 ≤ n ∧ n ≤ 500) → r = 0) ∧ (¬ (1 ≤ n ∧ n ≤ 500) → r = -1)) ∧ (COL S') ∧ (WTM S') ∧ (INJ S') ∧ (AON S') ∧ (USE S') ∧ (SNP S') ∧ (REC S') ∧ (SGM S') ∧ (WNW S') ∧ (WNR S') ∧ (LCM S')) → k (some (.inl r)) S') : ∀ m : Nat, (∀ (j : Int) (S1 : fxS), (fxfr [(49, 0), (49, 7), (49, 11), (49, 13), (49, 36), (49, 38), (49, 39), (49, 40), (49, 41), (49, 42), (49, 43), (49, 45), (49, 46), (49, 47), (49, 48), (49, 49), (49, 51), (49, 53), (49, 54), (49, 55), (50, 9999), (52, 9999), (53, 9999), (55, 9999), (56, 9999), (57, 9999), (58, 9999), (62, 9999), (63, 9999), (64, 9999), (65, 9999), (66, 9999), (67, 9999), (70, 9999), (71, 9999), (72, 9999), (73, 9999), (74, 9999), (75, 9999), (76, 9999), (77, 9999), (78, 9999), (79, 9999)] S S1) → (1 ≤ n ∧ n ≤ 500) → (0 ≤ j ∧ j ≤ n) → (COL S1) → (WTM S1) → (INJ S1) → (AON S1) → (USE S1) → (SNP S1) → (REC S1) → (SGM S1) → (WNW S1) → (WNR S1) → (LCM S1) → n + 1 - j ≤ (m : Int) → fZ l 290 k 21 [some (.inr (.inr (49, 0))), some (.inl n), some (.inl j)] [] S1) := by
  intro m
  induction m with
  | zero =>
    intro j S1 hf i0 i1 i2 i3 i4 i5 i6 i7 i8 i9 i10 i11 i12 hmu
    exfalso
    omega
  | succ m ih =>
    intro j S1 hf i0 i1 i2 i3 i4 i5 i6 i7 i8 i9 i10 i11 i12 hmu
    refine fxz_290 400 ?_
    refine And.intro (fun (h1 : (n ≤ j : Prop)) => ?_) (fun (h1 : (j < n : Prop)) => ?_)
    ·
      exact hk (0 : Int) S1 ⟨hf, by omega, i2, i3, i4, i5, i6, i7, i8, i9, i10, i11, i12⟩
    ·
      intro z2 (z2a : (-2147483648 : Int) ≤ z2) (z2b : z2 ≤ (2147483647 : Int)) (z2c : z2 = S1 49 0 11)
      intro z3 (z3a : -2147483648 ≤ z3) (z3b : z3 < 2147483648) (z3c : -2147483648 ≤ (z2 + (1 : Int)) ∧ (z2 + (1 : Int)) < 2147483648 → z3 = (z2 + (1 : Int)))
      refine And.intro (show (-2147483648 : Int) ≤ z3 ∧ z3 ≤ (2147483647 : Int) by omega) ?_
      have w4 : (fx_up S1 49 0 11 z3) 49 0 15 = S1 49 0 15 := if_neg (fun q => absurd q.2.2 (by decide))
      have g5 : COL (fx_up S1 49 0 11 z3) := fx_pup COL_stab rfl i2
      have g6 : WTM (fx_up S1 49 0 11 z3) := fx_pup WTM_stab rfl i3
      have g7 : INJ (fx_up S1 49 0 11 z3) := fx_pup INJ_stab rfl i4
      have g8 : AON (fx_up S1 49 0 11 z3) := fx_pup AON_stab rfl i5
      have g9 : USE (fx_up S1 49 0 11 z3) := fx_pup USE_stab rfl i6
      have g10 : SNP (fx_up S1 49 0 11 z3) := fx_pup SNP_stab rfl i7
      have g11 : REC (fx_up S1 49 0 11 z3) := fx_pup REC_stab rfl i8
      have g12 : SGM (fx_up S1 49 0 11 z3) := fx_pup SGM_stab rfl i9
      have g13 : WNW (fx_up S1 49 0 11 z3) := fx_pup WNW_stab rfl i10
      have g14 : WNR (fx_up S1 49 0 11 z3) := fx_pup WNR_stab rfl i11
      have g15 : LCM (fx_up S1 49 0 11 z3) := fx_pup LCM_stab rfl i12
      intro z16 (z16a : (0 : Int) ≤ z16) (z16b : z16 ≤ (1 : Int)) (z16c : z16 = S1 49 0 15)
      refine And.intro (fun (h17 : (z16 ≠ (0 : Int) : Prop)) => ?_) (fun (h17 : (z16 = (0 : Int) : Prop)) => ?_)
      ·
        refine And.intro (by decide) (And.intro (show -2147483648 ≤ j + (1 : Int) ∧ j + (1 : Int) < 2147483648 by omega) ?_)
        exact ih (j + (1 : Int)) (fx_up S1 49 0 11 z3) (fxfr_up hf rfl) (by omega) (by omega) g5 g6 g7 g8 g9 g10 g11 g12 g13 g14 g15 (by omega)
      ·
        refine And.intro (show (0 : Int) ≤ (0 : Int) ∧ (0 : Int) ≤ (1 : Int) by omega) ?_
        have w19 : (fx_up (fx_up S1 49 0 11 z3) 49 0 55 (0 : Int)) 49 0 15 = (fx_up S1 49 0 11 z3) 49 0 15 := if_neg (fun q => absurd q.2.2 (by decide))
        have g20 : COL (fx_up (fx_up S1 49 0 11 z3) 49 0 55 (0 : Int)) := fx_pup COL_stab rfl g5
        have g21 : WTM (fx_up (fx_up S1 49 0 11 z3) 49 0 55 (0 : Int)) := fx_pup WTM_stab rfl g6
        have g22 : INJ (fx_up (fx_up S1 49 0 11 z3) 49 0 55 (0 : Int)) := fx_pup INJ_stab rfl g7
        have g23 : AON (fx_up (fx_up S1 49 0 11 z3) 49 0 55 (0 : Int)) := fx_pup AON_stab rfl g8
        have g24 : USE (fx_up (fx_up S1 49 0 11 z3) 49 0 55 (0 : Int)) := fx_pup USE_stab rfl g9
        have g25 : SNP (fx_up (fx_up S1 49 0 11 z3) 49 0 55 (0 : Int)) := fx_pup SNP_stab rfl g10
        have g26 : REC (fx_up (fx_up S1 49 0 11 z3) 49 0 55 (0 : Int)) := fx_pup REC_stab rfl g11
        have g27 : SGM (fx_up (fx_up S1 49 0 11 z3) 49 0 55 (0 : Int)) := fx_pup SGM_stab rfl g12
        have g28 : WNW (fx_up (fx_up S1 49 0 11 z3) 49 0 55 (0 : Int)) := fx_pup WNW_stab rfl g13
        have g29 : WNR (fx_up (fx_up S1 49 0 11 z3) 49 0 55 (0 : Int)) := fx_pup WNR_stab rfl g14
        have g30 : LCM (fx_up (fx_up S1 49 0 11 z3) 49 0 55 (0 : Int)) := fx_pup LCM_stab rfl g15
        refine c_goOn_1  g20 g21 g22 g23 g24 g25 g26 g27 g28 g29 (fun (S31 : fxS) ⟨(f32 : fxfr [(49, 7), (49, 36), (49, 39), (49, 40), (49, 41), (49, 42), (49, 43), (49, 45), (49, 46), (49, 47), (49, 48), (49, 55), (50, 9999), (52, 9999), (53, 9999), (55, 9999), (56, 9999), (57, 9999), (58, 9999), (62, 9999), (63, 9999), (64, 9999), (65, 9999), (66, 9999), (67, 9999), (70, 9999), (71, 9999), (72, 9999), (73, 9999), (74, 9999), (75, 9999), (77, 9999)] (fx_up (fx_up S1 49 0 11 z3) 49 0 55 (0 : Int)) S31), (g33 : COL S31), (g34 : WTM S31), (g35 : INJ S31), (g36 : AON S31), (g37 : USE S31), (g38 : SNP S31), (g39 : REC S31), (g40 : SGM S31), (g41 : WNW S31), (g42 : WNR S31)⟩ => ?_)
        have w43 : S31 49 0 15 = (fx_up (fx_up S1 49 0 11 z3) 49 0 55 (0 : Int)) 49 0 15 := f32 49 0 15 rfl
        refine c_goOn_0  g33 g34 g35 g36 g37 g38 g39 g40 g41 g42 (fun (S44 : fxS) ⟨(f45 : fxfr [(49, 7), (49, 13), (49, 36), (49, 38), (49, 42), (49, 43), (49, 45), (49, 46), (49, 47), (49, 48), (49, 49), (49, 51), (49, 53), (49, 54), (50, 9999), (52, 9999), (53, 9999), (55, 9999), (56, 9999), (57, 9999), (58, 9999), (62, 9999), (63, 9999), (65, 9999), (66, 9999), (67, 9999), (70, 9999), (71, 9999), (72, 9999), (73, 9999), (74, 9999), (75, 9999), (76, 9999), (77, 9999), (78, 9999)] S31 S44), (g46 : COL S44), (g47 : WTM S44), (g48 : INJ S44), (g49 : AON S44), (g50 : USE S44), (g51 : SNP S44), (g52 : REC S44), (g53 : SGM S44), (g54 : WNW S44), (g55 : WNR S44)⟩ => ?_)
        have w56 : S44 49 0 15 = S31 49 0 15 := f45 49 0 15 rfl
        refine c_StubHouseModel_migrate  g46 g47 g48 g49 g50 g51 g52 (fun (S57 : fxS) ⟨(f58 : fxfr [(49, 7), (49, 38), (50, 9999), (53, 9999), (55, 9999), (56, 9999), (57, 9999), (58, 9999), (76, 9999), (79, 9999)] S44 S57), (g59 : COL S57), (g60 : WTM S57), (g61 : INJ S57), (g62 : AON S57), (g63 : USE S57), (g64 : SNP S57), (g65 : REC S57)⟩ => ?_)
        have w66 : S57 49 0 15 = S44 49 0 15 := f58 49 0 15 rfl
        have g67 : SGM S57 := fx_pfr SGM_stab f58 rfl g53
        have g68 : WNW S57 := fx_pfr WNW_stab f58 rfl g54
        have g69 : WNR S57 := fx_pfr WNR_stab f58 rfl g55
        have lc : LCM S57 := LCM_of (by omega)
        refine And.intro (by decide) (And.intro (show -2147483648 ≤ j + (1 : Int) ∧ j + (1 : Int) < 2147483648 by omega) ?_)
        exact ih (j + (1 : Int)) S57 (fxfr_tr (fxfr_tr (fxfr_tr (fxfr_up (fxfr_up hf rfl) rfl) f32 rfl) f45 rfl) f58 rfl) (by omega) (by omega) g59 g60 g61 g62 g63 g64 g65 g67 g68 g69 lc (by omega)
theorem c_stepM {l : Launch} {k : fxK} {S : fxS} {n : Int} (p0 : COL S) (p1 : WTM S) (p2 : INJ S) (p3 : AON S) (p4 : USE S) (p5 : SNP S) (p6 : REC S) (p7 : SGM S) (p8 : WNW S) (p9 : WNR S) (p10 : LCM S) (p11 : -2147483648 ≤ n ∧ n < 2147483648) (hk : ∀ (r : Int) (S' : fxS) , (fxfr [(49, 0), (49, 7), (49, 11), (49, 13), (49, 36), (49, 38), (49, 39), (49, 40), (49, 41), (49, 42), (49, 43), (49, 45), (49, 46), (49, 47), (49, 48), (49, 49), (49, 51), (49, 53), (49, 54), (49, 55), (50, 9999), (52, 9999), (53, 9999), (55, 9999), (56, 9999), (57, 9999), (58, 9999), (62, 9999), (63, 9999), (64, 9999), (65, 9999), (66, 9999), (67, 9999), (70, 9999), (71, 9999), (72, 9999), (73, 9999), (74, 9999), (75, 9999), (76, 9999), (77, 9999), (78, 9999), (79, 9999)] S S' ∧ (((1 ≤ n ∧ n ≤ 500) → r = 0) ∧ (¬ (1 ≤ n ∧ n ≤ 500) → r = -1)) ∧ (COL S') ∧ (WTM S') ∧ (INJ S') ∧ (AON S') ∧ (USE S') ∧ (SNP S') ∧ (REC S') ∧ (SGM S') ∧ (WNW S') ∧ (WNR S') ∧ (LCM S')) → k (some (.inl r)) S') : fC l 290 [.inr (.inr (49, 0)), .inl n] S k := by
  refine fxe_290 (Nat.le_of_ble_eq_true rfl) (fxz_290 400 ?_)
  refine And.intro (show (-2147483648 : Int) ≤ (0 : Int) ∧ (0 : Int) ≤ (2147483647 : Int) by omega) ?_
  have w71 : (fx_up S 49 0 0 (0 : Int)) 49 0 15 = S 49 0 15 := if_neg (fun q => absurd q.2.2 (by decide))
  have g72 : COL (fx_up S 49 0 0 (0 : Int)) := fx_pup COL_stab rfl p0
  have g73 : WTM (fx_up S 49 0 0 (0 : Int)) := fx_pup WTM_stab rfl p1
  have g74 : INJ (fx_up S 49 0 0 (0 : Int)) := fx_pup INJ_stab rfl p2
  have g75 : AON (fx_up S 49 0 0 (0 : Int)) := fx_pup AON_stab rfl p3
  have g76 : USE (fx_up S 49 0 0 (0 : Int)) := fx_pup USE_stab rfl p4
  have g77 : SNP (fx_up S 49 0 0 (0 : Int)) := fx_pup SNP_stab rfl p5
  have g78 : REC (fx_up S 49 0 0 (0 : Int)) := fx_pup REC_stab rfl p6
  have g79 : SGM (fx_up S 49 0 0 (0 : Int)) := fx_pup SGM_stab rfl p7
  have g80 : WNW (fx_up S 49 0 0 (0 : Int)) := fx_pup WNW_stab rfl p8
  have g81 : WNR (fx_up S 49 0 0 (0 : Int)) := fx_pup WNR_stab rfl p9
  have g82 : LCM (fx_up S 49 0 0 (0 : Int)) := fx_pup LCM_stab rfl p10
  refine c_StubHouseModel_in (x := n) (a := (1 : Int)) (b := (500 : Int))  (fun (z83 : Int) (q84 : 0 ≤ z83 ∧ z83 ≤ 1 ∧ (z83 = 1 → (1 : Int) ≤ n ∧ n ≤ (500 : Int)) ∧ (z83 = 0 → n < (1 : Int) ∨ (500 : Int) < n)) => ?_)
  refine And.intro (fun (h85 : (z83 ≠ (0 : Int) : Prop)) => ?_) (fun (h85 : (z83 = (0 : Int) : Prop)) => ?_)
  ·
    refine And.intro (by decide) ?_
    exact (z_stepM p0 p1 p2 p3 p4 p5 p6 p7 p8 p9 p10 p11 hk (n + 1 - (0 : Int)).toNat) (0 : Int) (fx_up S 49 0 0 (0 : Int)) (fxfr_up fxfr_rfl rfl) (by omega) (by omega) g72 g73 g74 g75 g76 g77 g78 g79 g80 g81 g82 (by omega)
  ·
    exact hk (-1 : Int) (fx_up S 49 0 0 (0 : Int)) ⟨(fxfr_up fxfr_rfl rfl), by omega, g72, g73, g74, g75, g76, g77, g78, g79, g80, g81, g82⟩
