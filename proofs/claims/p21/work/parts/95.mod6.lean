/-! contracts of the reference: crashes, losses, what is live -/
theorem z_StubHouseModel_crash {l : Launch} {k : fxK} {S : fxS} {n : Int} (p0 : COL S) (p1 : WTM S) (p2 : INJ S) (p3 : AON S) (p4 : USE S) (p5 : SNP S) (p6 : REC S) (p7 : WNW S) (p8 : WNR S) (p9 : LCM S) (p10 : -2147483648 ≤ n ∧ n < 2147483648) (hk : ∀ (r : Int) (S' : fxS) , (fxfr [(49, 0), (49, 7), (49, 36), (49, 38), (49, 39), (49, 43), (50, 9999), (52, 9999), (53, 9999), (56, 9999), (58, 9999), (70, 9999), (71, 9999), (72, 9999), (73, 9999), (79, 9999)] S S' ∧ (-2147483648 ≤ r ∧ r < 2147483648) ∧ (COL S') ∧ (WTM S') ∧ (INJ S') ∧ (AON S') ∧ (USE S') ∧ (SNP S') ∧ (REC S') ∧ (WNW S') ∧ (WNR S') ∧ (LCM S')) → k (some (.inl r)) S') : ∀ m : Nat, (∀ (c e : Int) (S1 : fxS), (fxfr [(49, 0), (49, 7), (49, 36), (49, 38), (49, 39), (49, 43), (50, 9999), (52, 9999), (53, 9999), (56, 9999), (58, 9999), (70, 9999), (71, 9999), (72, 9999), (73, 9999), (79, 9999)] S S1) → (0 ≤ c ∧ (c ≤ 0 ∨ c ≤ S1 49 0 7) ∧ c ≤ 200) → (0 ≤ e ∧ e < 2147483648) → (COL S1) → (WTM S1) → (INJ S1) → (AON S1) → (USE S1) → (SNP S1) → (REC S1) → 100000 - c ≤ (m : Int) → fZ l 150 k 25 [some (.inr (.inr (49, 0))), none, some (.inl c), some (.inl e), none, none] [] S1) ∧ (∀ (c j : Int) (S1 : fxS), (fxfr [(49, 0), (49, 7), (49, 36), (49, 38), (49, 39), (49, 43), (50, 9999), (52, 9999), (53, 9999), (56, 9999), (58, 9999), (70, 9999), (71, 9999), (72, 9999), (73, 9999), (79, 9999)] S S1) → (0 ≤ c ∧ c ≤ S1 49 0 7 ∧ S1 49 0 7 ≤ 200) → (0 ≤ j ∧ j ≤ 2561) → (SNP S1) → (CRJ j c S1) → 90000 - j ≤ (m : Int) → fZ l 150 k 61 [some (.inr (.inr (49, 0))), none, some (.inl c), none, some (.inl j), none] [] S1) ∧ (∀ (c j : Int) (S1 : fxS), (fxfr [(49, 0), (49, 7), (49, 36), (49, 38), (49, 39), (49, 43), (50, 9999), (52, 9999), (53, 9999), (56, 9999), (58, 9999), (70, 9999), (71, 9999), (72, 9999), (73, 9999), (79, 9999)] S S1) → (0 ≤ c ∧ c ≤ 200) → (0 ≤ j ∧ j ≤ 60) → (COL S1) → (WTM S1) → (INJ S1) → (AON S1) → (SNP S1) → 80000 - j ≤ (m : Int) → fZ l 150 k 98 [some (.inr (.inr (49, 0))), none, some (.inl c), none, some (.inl j), none] [] S1) ∧ (∀ (c j : Int) (S1 : fxS), (fxfr [(49, 0), (49, 7), (49, 36), (49, 38), (49, 39), (49, 43), (50, 9999), (52, 9999), (53, 9999), (56, 9999), (58, 9999), (70, 9999), (71, 9999), (72, 9999), (73, 9999), (79, 9999)] S S1) → (0 ≤ c ∧ c ≤ 200) → (0 ≤ j ∧ j ≤ 208) → (COL S1) → (WTM S1) → (INJ S1) → (AON S1) → (SNP S1) → 70000 - j ≤ (m : Int) → fZ l 150 k 144 [some (.inr (.inr (49, 0))), none, some (.inl c), none, some (.inl j), none] [] S1) ∧ (∀ (c j : Int) (S1 : fxS), (fxfr [(49, 0), (49, 7), (49, 36), (49, 38), (49, 39), (49, 43), (50, 9999), (52, 9999), (53, 9999), (56, 9999), (58, 9999), (70, 9999), (71, 9999), (72, 9999), (73, 9999), (79, 9999)] S S1) → (0 ≤ c ∧ c ≤ 200) → (1 ≤ j ∧ j ≤ 60) → (COL S1) → (WTM S1) → (INJ S1) → (AON S1) → (SNP S1) → (UJ j (0 : Int) S1) → (61 - j) * 100 + 99 ≤ (m : Int) → fZ l 150 k 169 [some (.inr (.inr (49, 0))), none, some (.inl c), none, some (.inl j), none] [] S1) ∧ (∀ (c j i : Int) (S1 : fxS), (fxfr [(49, 0), (49, 7), (49, 36), (49, 38), (49, 39), (49, 43), (50, 9999), (52, 9999), (53, 9999), (56, 9999), (58, 9999), (70, 9999), (71, 9999), (72, 9999), (73, 9999), (79, 9999)] S S1) → (0 ≤ c ∧ c ≤ 200) → (1 ≤ j ∧ j < 60) → (0 ≤ i ∧ i ≤ 32) → (COL S1) → (WTM S1) → (INJ S1) → (AON S1) → (SNP S1) → (UJ j i S1) → (61 - j) * 100 + 50 - i ≤ (m : Int) → fZ l 150 k 179 [some (.inr (.inr (49, 0))), none, some (.inl c), none, some (.inl j), some (.inl i)] [] S1) := by
  intro m
  induction m with
  | zero =>
    refine ⟨?_, ?_, ?_, ?_, ?_, ?_⟩
    · intro c e S1 hf i0 i1 i2 i3 i4 i5 i6 i7 i8 hmu
      exfalso
      omega
    · intro c j S1 hf i0 i1 i2 i3 hmu
      exfalso
      omega
    · intro c j S1 hf i0 i1 i2 i3 i4 i5 i6 hmu
      exfalso
      omega
    · intro c j S1 hf i0 i1 i2 i3 i4 i5 i6 hmu
      exfalso
      omega
    · intro c j S1 hf i0 i1 i2 i3 i4 i5 i6 i7 hmu
      exfalso
      omega
    · intro c j i S1 hf i0 i1 i2 i3 i4 i5 i6 i7 i8 hmu
      exfalso
      omega
  | succ m ih =>
    refine ⟨?_, ?_, ?_, ?_, ?_, ?_⟩
    · intro c e S1 hf i0 i1 i2 i3 i4 i5 i6 i7 i8 hmu
      refine fxz_150 400 ?_
      intro z1 (z1a : (0 : Int) ≤ z1) (z1b : z1 ≤ (200 : Int)) (z1c : z1 = S1 49 0 7)
      refine And.intro (fun (h2 : (z1 ≤ c : Prop)) => ?_) (fun (h2 : (c < z1 : Prop)) => ?_)
      ·
        refine And.intro (by decide) ?_
        have c0 : CRJ (0 : Int) c S1 := CRJ_0
        exact ih.2.1 c (0 : Int) S1 hf (by omega) (by omega) i7 c0 (by omega)
      ·
        refine And.intro (show 0 ≤ c ∧ c < 200 by omega) ?_
        intro z3 (z3a : (0 : Int) ≤ z3) (z3b : z3 ≤ (1000 : Int)) (z3c : z3 = S1 55 0 (c).toNat)
        refine And.intro (fun (h4 : (e < z3 : Prop)) => ?_) (fun (h4 : (z3 ≤ e : Prop)) => ?_)
        ·
          refine And.intro (by decide) ?_
          have c0 : CRJ (0 : Int) c S1 := CRJ_0
          exact ih.2.1 c (0 : Int) S1 hf (by omega) (by omega) i7 c0 (by omega)
        ·
          refine And.intro (show 0 ≤ c ∧ c < 200 by omega) ?_
          intro z5 (z5a : (0 : Int) ≤ z5) (z5b : z5 ≤ (1000 : Int)) (z5c : z5 = S1 55 0 (c).toNat)
          refine And.intro (show -2147483648 ≤ (e - z5) ∧ (e - z5) < 2147483648 by omega) ?_
          refine And.intro (by decide) ?_
          refine And.intro (by decide) (And.intro (show -2147483648 ≤ c + (1 : Int) ∧ c + (1 : Int) < 2147483648 by omega) ?_)
          exact ih.1 (c + (1 : Int)) (e - z5) S1 hf (by omega) (by omega) i2 i3 i4 i5 i6 i7 i8 (by omega)
    · intro c j S1 hf i0 i1 i2 i3 hmu
      refine fxz_150 400 ?_
      refine And.intro (fun (h7 : ((2561 : Int) ≤ j : Prop)) => ?_) (fun (h7 : (j < (2561 : Int) : Prop)) => ?_)
      ·
        refine And.intro (by decide) ?_
        have gd : GOODf (S1 50 0) := CRJ_good i3 (by omega) i2 (by omega)
        have h1 : COL S1 := gd.1
        have h2 : WTM S1 := gd.2.1
        have h3 : INJ S1 := gd.2.2.1
        have h4 : AON S1 := gd.2.2.2
        exact ih.2.2.1 c (0 : Int) S1 hf (by omega) (by omega) h1 h2 h3 h4 i2 (by omega)
      ·
        refine And.intro (show -2147483648 ≤ ((2561 : Int) * c) ∧ ((2561 : Int) * c) < 2147483648 by omega) ?_
        refine And.intro (show -2147483648 ≤ (((2561 : Int) * c) + j) ∧ (((2561 : Int) * c) + j) < 2147483648 by omega) ?_
        refine And.intro (show 0 ≤ (((2561 : Int) * c) + j) ∧ (((2561 : Int) * c) + j) < 514761 by omega) ?_
        intro z8 (z8a : (-2147483648 : Int) ≤ z8) (z8b : z8 ≤ (2147483647 : Int)) (z8c : z8 = S1 53 0 ((((2561 : Int) * c) + j)).toNat)
        refine And.intro (show 0 ≤ j ∧ j < 2561 by omega) ?_
        refine And.intro (show (-2147483648 : Int) ≤ z8 ∧ z8 ≤ (2147483647 : Int) by omega) ?_
        have w9 : (fx_up S1 50 0 (j).toNat z8) 49 0 36 = S1 49 0 36 := rfl
        have w10 : (fx_up S1 50 0 (j).toNat z8) 49 0 7 = S1 49 0 7 := rfl
        have g11 : SNP (fx_up S1 50 0 (j).toNat z8) := fx_pup SNP_stab rfl i2
        have cj : CRJ (j + (1 : Int)) c (fx_up S1 50 0 (j).toNat z8) := CRJ_step i3 (by omega) (by omega) (by omega)
        refine And.intro (by decide) (And.intro (show -2147483648 ≤ j + (1 : Int) ∧ j + (1 : Int) < 2147483648 by omega) ?_)
        exact ih.2.1 c (j + (1 : Int)) (fx_up S1 50 0 (j).toNat z8) (fxfr_up hf rfl) (by omega) (by omega) g11 cj (by omega)
    · intro c j S1 hf i0 i1 i2 i3 i4 i5 i6 hmu
      refine fxz_150 400 ?_
      refine And.intro (fun (h13 : ((60 : Int) ≤ j : Prop)) => ?_) (fun (h13 : (j < (60 : Int) : Prop)) => ?_)
      ·
        refine And.intro (by decide) ?_
        exact ih.2.2.2.1 c (0 : Int) S1 hf (by omega) (by omega) i2 i3 i4 i5 i6 (by omega)
      ·
        refine And.intro (show -2147483648 ≤ ((60 : Int) * c) ∧ ((60 : Int) * c) < 2147483648 by omega) ?_
        refine And.intro (show -2147483648 ≤ (((60 : Int) * c) + j) ∧ (((60 : Int) * c) + j) < 2147483648 by omega) ?_
        refine And.intro (show 0 ≤ (((60 : Int) * c) + j) ∧ (((60 : Int) * c) + j) < 12060 by omega) ?_
        intro z14
        refine And.intro (show 0 ≤ j ∧ j < 60 by omega) ?_
        intro z15 (z15a : (-2147483648 : Int) ≤ z15) (z15b : z15 ≤ (2147483647 : Int)) (z15c : z15 = S1 49 0 11)
        refine And.intro (show 0 ≤ j ∧ j < 60 by omega) ?_
        refine And.intro (show (-2147483648 : Int) ≤ z15 ∧ z15 ≤ (2147483647 : Int) by omega) ?_
        have w16 : (fx_up S1 52 0 (j).toNat z15) 49 0 36 = S1 49 0 36 := rfl
        have w17 : (fx_up S1 52 0 (j).toNat z15) 49 0 7 = S1 49 0 7 := rfl
        have g18 : COL (fx_up S1 52 0 (j).toNat z15) := fx_pup COL_stab rfl i2
        have g19 : WTM (fx_up S1 52 0 (j).toNat z15) := fx_pup WTM_stab rfl i3
        have g20 : INJ (fx_up S1 52 0 (j).toNat z15) := fx_pup INJ_stab rfl i4
        have g21 : AON (fx_up S1 52 0 (j).toNat z15) := fx_pup AON_stab rfl i5
        have g22 : SNP (fx_up S1 52 0 (j).toNat z15) := fx_pup SNP_stab rfl i6
        refine And.intro (by decide) (And.intro (show -2147483648 ≤ j + (1 : Int) ∧ j + (1 : Int) < 2147483648 by omega) ?_)
        exact ih.2.2.1 c (j + (1 : Int)) (fx_up S1 52 0 (j).toNat z15) (fxfr_up hf rfl) (by omega) (by omega) g18 g19 g20 g21 g22 (by omega)
    · intro c j S1 hf i0 i1 i2 i3 i4 i5 i6 hmu
      refine fxz_150 400 ?_
      refine And.intro (fun (h24 : ((208 : Int) ≤ j : Prop)) => ?_) (fun (h24 : (j < (208 : Int) : Prop)) => ?_)
      ·
        refine And.intro (by decide) ?_
        have u0 : UJ (1 : Int) (0 : Int) S1 := UJ_0 i3
        exact ih.2.2.2.2.1 c (1 : Int) S1 hf (by omega) (by omega) i2 i3 i4 i5 i6 u0 (by omega)
      ·
        refine And.intro (show 0 ≤ j ∧ j < 208 by omega) ?_
        refine And.intro (show (0 : Int) ≤ (0 : Int) ∧ (0 : Int) ≤ (2 : Int) by omega) ?_
        have w25 : (fx_up S1 56 0 (j).toNat (0 : Int)) 49 0 36 = S1 49 0 36 := rfl
        have w26 : (fx_up S1 56 0 (j).toNat (0 : Int)) 49 0 7 = S1 49 0 7 := rfl
        have g27 : COL (fx_up S1 56 0 (j).toNat (0 : Int)) := fx_pup COL_stab rfl i2
        have g28 : WTM (fx_up S1 56 0 (j).toNat (0 : Int)) := fx_pup WTM_stab rfl i3
        have g29 : INJ (fx_up S1 56 0 (j).toNat (0 : Int)) := fx_pup INJ_stab rfl i4
        have g30 : AON (fx_up S1 56 0 (j).toNat (0 : Int)) := fx_pup AON_stab rfl i5
        have g31 : SNP (fx_up S1 56 0 (j).toNat (0 : Int)) := fx_pup SNP_stab rfl i6
        refine And.intro (by decide) (And.intro (show -2147483648 ≤ j + (1 : Int) ∧ j + (1 : Int) < 2147483648 by omega) ?_)
        exact ih.2.2.2.1 c (j + (1 : Int)) (fx_up S1 56 0 (j).toNat (0 : Int)) (fxfr_up hf rfl) (by omega) (by omega) g27 g28 g29 g30 g31 (by omega)
    · intro c j S1 hf i0 i1 i2 i3 i4 i5 i6 i7 hmu
      refine fxz_150 400 ?_
      refine And.intro (fun (h33 : ((60 : Int) ≤ j : Prop)) => ?_) (fun (h33 : (j < (60 : Int) : Prop)) => ?_)
      ·
        have u9 : USE S1 := UJ_use i7 (by omega)
        refine c_StubHouseModel_syncAll  i2 i3 i4 i5 u9 (fun (z34 : Int) (S35 : fxS) ⟨(f36 : fxfr [(49, 7), (53, 9999), (56, 9999), (58, 9999)] S1 S35), (q37 : 0 ≤ z34 ∧ z34 ≤ 200 ∧ S35 49 0 7 = 0), (g38 : SNP S35), (g39 : USE S35), (g40 : UZ S1 S35)⟩ => ?_)
        have w41 : S35 49 0 36 = S1 49 0 36 := f36 49 0 36 rfl
        have g42 : COL S35 := fx_pfr COL_stab f36 rfl i2
        have g43 : WTM S35 := fx_pfr WTM_stab f36 rfl i3
        have g44 : INJ S35 := fx_pfr INJ_stab f36 rfl i4
        have g45 : AON S35 := fx_pfr AON_stab f36 rfl i5
        refine And.intro (by decide) ?_
        refine c_StubHouseModel_stopAll   (fun (S46 : fxS) ⟨(f47 : fxfr [(49, 36), (49, 38), (49, 39), (49, 43), (70, 9999), (71, 9999), (72, 9999), (73, 9999), (79, 9999)] S35 S46), (q48 : S46 49 0 36 = 0), (g49 : WNW S46), (g50 : WNR S46)⟩ => ?_)
        have w51 : S46 49 0 7 = S35 49 0 7 := f47 49 0 7 rfl
        have g52 : COL S46 := fx_pfr COL_stab f47 rfl g42
        have g53 : WTM S46 := fx_pfr WTM_stab f47 rfl g43
        have g54 : INJ S46 := fx_pfr INJ_stab f47 rfl g44
        have g55 : AON S46 := fx_pfr AON_stab f47 rfl g45
        have g56 : SNP S46 := fx_pfr SNP_stab f47 rfl g38
        have g57 : USE S46 := fx_pfr USE_stab f47 rfl g39
        have g58 : UZ S1 S46 := fx_pfr UZ_stab f47 rfl g40
        exact hk c S46 ⟨(fxfr_tr (fxfr_tr hf f36 rfl) f47 rfl), by omega, g52, g53, g54, g55, g57, g56, by first | exact REC_0 (by omega) | exact LCM_0 (by omega), g49, g50, by first | exact REC_0 (by omega) | exact LCM_0 (by omega)⟩
      ·
        refine And.intro (by decide) ?_
        exact ih.2.2.2.2.2 c j (0 : Int) S1 hf (by omega) (by omega) (by omega) i2 i3 i4 i5 i6 i7 (by omega)
    · intro c j i S1 hf i0 i1 i2 i3 i4 i5 i6 i7 i8 hmu
      refine fxz_150 400 ?_
      refine And.intro (fun (h59 : ((32 : Int) ≤ i : Prop)) => ?_) (fun (h59 : (i < (32 : Int) : Prop)) => ?_)
      ·
        refine And.intro (by decide) (And.intro (show -2147483648 ≤ j + (1 : Int) ∧ j + (1 : Int) < 2147483648 by omega) ?_)
        have un : UJ (j + (1 : Int)) (0 : Int) S1 := UJ_next i8 (by omega)
        exact ih.2.2.2.2.1 c (j + (1 : Int)) S1 hf (by omega) (by omega) i3 i4 i5 i6 i7 un (by omega)
      ·
        refine c_at0 (n := j) i3 (show 0 ≤ j ∧ j < 60 by omega) (fun (z61 : Int) (q62 : z61 = aN S1 j 0 ∧ 0 ≤ z61 ∧ z61 ≤ 2) => ?_)
        refine And.intro (fun (h63 : (z61 ≠ (2 : Int) : Prop)) => ?_) (fun (h63 : (z61 = (2 : Int) : Prop)) => ?_)
        ·
          refine And.intro (by decide) (And.intro (show -2147483648 ≤ j + (1 : Int) ∧ j + (1 : Int) < 2147483648 by omega) ?_)
          have un : UJ (j + (1 : Int)) (0 : Int) S1 := UJ_next i8 (by omega)
          exact ih.2.2.2.2.1 c (j + (1 : Int)) S1 hf (by omega) (by omega) i3 i4 i5 i6 i7 un (by omega)
        ·
          refine And.intro (show -2147483648 ≤ ((10 : Int) + i) ∧ ((10 : Int) + i) < 2147483648 by omega) ?_
          refine c_atb (n := j) (w := ((10 : Int) + i)) i3 (show 0 ≤ j ∧ j < 60 by omega) (show 10 ≤ ((10 : Int) + i) ∧ ((10 : Int) + i) < 42 by omega) (fun (z65 : Int) (q66 : z65 = aN S1 j ((10 : Int) + i) ∧ -1 ≤ z65 ∧ z65 ≤ 207) => ?_)
          have us : z65 < 0 → UJ j (i + (1 : Int)) S1 := fun h => UJ_no i8 q66.1 h
          refine And.intro (fun (h67 : (z65 < (0 : Int) : Prop)) => ?_) (fun (h67 : ((0 : Int) ≤ z65 : Prop)) => ?_)
          ·
            refine And.intro (by decide) (And.intro (show -2147483648 ≤ i + (1 : Int) ∧ i + (1 : Int) < 2147483648 by omega) ?_)
            have uq : UJ j (i + (1 : Int)) S1 := us (by omega)
            exact ih.2.2.2.2.2 c j (i + (1 : Int)) S1 hf (by omega) (by omega) (by omega) i3 i4 i5 i6 i7 uq (by omega)
          ·
            refine And.intro (show -2147483648 ≤ ((10 : Int) + i) ∧ ((10 : Int) + i) < 2147483648 by omega) ?_
            refine c_atb (n := j) (w := ((10 : Int) + i)) i3 (show 0 ≤ j ∧ j < 60 by omega) (show 10 ≤ ((10 : Int) + i) ∧ ((10 : Int) + i) < 42 by omega) (fun (z69 : Int) (q70 : z69 = aN S1 j ((10 : Int) + i) ∧ -1 ≤ z69 ∧ z69 ≤ 207) => ?_)
            refine And.intro (show 0 ≤ z69 ∧ z69 < 208 by omega) ?_
            refine And.intro (show (0 : Int) ≤ (1 : Int) ∧ (1 : Int) ≤ (2 : Int) by omega) ?_
            have w71 : (fx_up S1 56 0 (z69).toNat (1 : Int)) 49 0 36 = S1 49 0 36 := rfl
            have w72 : (fx_up S1 56 0 (z69).toNat (1 : Int)) 49 0 7 = S1 49 0 7 := rfl
            have g73 : COL (fx_up S1 56 0 (z69).toNat (1 : Int)) := fx_pup COL_stab rfl i3
            have g74 : WTM (fx_up S1 56 0 (z69).toNat (1 : Int)) := fx_pup WTM_stab rfl i4
            have g75 : INJ (fx_up S1 56 0 (z69).toNat (1 : Int)) := fx_pup INJ_stab rfl i5
            have g76 : AON (fx_up S1 56 0 (z69).toNat (1 : Int)) := fx_pup AON_stab rfl i6
            have g77 : SNP (fx_up S1 56 0 (z69).toNat (1 : Int)) := fx_pup SNP_stab rfl i7
            have up : UJ j (i + (1 : Int)) (fx_up S1 56 0 (z69).toNat (1 : Int)) := UJ_put i8 (by omega) (by omega)
            refine And.intro (by decide) (And.intro (show -2147483648 ≤ i + (1 : Int) ∧ i + (1 : Int) < 2147483648 by omega) ?_)
            have uq : UJ j (i + (1 : Int)) (fx_up S1 56 0 (z69).toNat (1 : Int)) := up
            exact ih.2.2.2.2.2 c j (i + (1 : Int)) (fx_up S1 56 0 (z69).toNat (1 : Int)) (fxfr_up hf rfl) (by omega) (by omega) (by omega) g73 g74 g75 g76 g77 uq (by omega)
theorem c_StubHouseModel_crash {l : Launch} {k : fxK} {S : fxS} {n : Int} (p0 : COL S) (p1 : WTM S) (p2 : INJ S) (p3 : AON S) (p4 : USE S) (p5 : SNP S) (p6 : REC S) (p7 : WNW S) (p8 : WNR S) (p9 : LCM S) (p10 : -2147483648 ≤ n ∧ n < 2147483648) (hk : ∀ (r : Int) (S' : fxS) , (fxfr [(49, 0), (49, 7), (49, 36), (49, 38), (49, 39), (49, 43), (50, 9999), (52, 9999), (53, 9999), (56, 9999), (58, 9999), (70, 9999), (71, 9999), (72, 9999), (73, 9999), (79, 9999)] S S' ∧ (-2147483648 ≤ r ∧ r < 2147483648) ∧ (COL S') ∧ (WTM S') ∧ (INJ S') ∧ (AON S') ∧ (USE S') ∧ (SNP S') ∧ (REC S') ∧ (WNW S') ∧ (WNR S') ∧ (LCM S')) → k (some (.inl r)) S') : fC l 150 [.inr (.inr (49, 0)), .inl n] S k := by
  refine fxe_150 (Nat.le_of_ble_eq_true rfl) (fxz_150 400 ?_)
  refine And.intro (show (-2147483648 : Int) ≤ (0 : Int) ∧ (0 : Int) ≤ (2147483647 : Int) by omega) ?_
  have w79 : (fx_up S 49 0 0 (0 : Int)) 49 0 36 = S 49 0 36 := if_neg (fun q => absurd q.2.2 (by decide))
  have w80 : (fx_up S 49 0 0 (0 : Int)) 49 0 7 = S 49 0 7 := if_neg (fun q => absurd q.2.2 (by decide))
  have g81 : COL (fx_up S 49 0 0 (0 : Int)) := fx_pup COL_stab rfl p0
  have g82 : WTM (fx_up S 49 0 0 (0 : Int)) := fx_pup WTM_stab rfl p1
  have g83 : INJ (fx_up S 49 0 0 (0 : Int)) := fx_pup INJ_stab rfl p2
  have g84 : AON (fx_up S 49 0 0 (0 : Int)) := fx_pup AON_stab rfl p3
  have g85 : USE (fx_up S 49 0 0 (0 : Int)) := fx_pup USE_stab rfl p4
  have g86 : SNP (fx_up S 49 0 0 (0 : Int)) := fx_pup SNP_stab rfl p5
  have g87 : REC (fx_up S 49 0 0 (0 : Int)) := fx_pup REC_stab rfl p6
  have g88 : WNW (fx_up S 49 0 0 (0 : Int)) := fx_pup WNW_stab rfl p7
  have g89 : WNR (fx_up S 49 0 0 (0 : Int)) := fx_pup WNR_stab rfl p8
  have g90 : LCM (fx_up S 49 0 0 (0 : Int)) := fx_pup LCM_stab rfl p9
  intro z91 (z91a : (0 : Int) ≤ z91) (z91b : z91 ≤ (1 : Int)) (z91c : z91 = S 49 0 15)
  refine And.intro (fun (h92 : (z91 = (0 : Int) : Prop)) => ?_) (fun (h92 : (z91 ≠ (0 : Int) : Prop)) => ?_)
  ·
    refine And.intro (fun (h93 : ((0 : Int) ≤ n : Prop)) => ?_) (fun (h93 : (n < (0 : Int) : Prop)) => ?_)
    ·
      refine And.intro (by decide) ?_
      refine And.intro (by decide) ?_
      exact (z_StubHouseModel_crash p0 p1 p2 p3 p4 p5 p6 p7 p8 p9 p10 hk (100000 - (0 : Int)).toNat).1 (0 : Int) n (fx_up S 49 0 0 (0 : Int)) (fxfr_up fxfr_rfl rfl) (by omega) (by omega) g81 g82 g83 g84 g85 g86 g87 (by omega)
    ·
      exact hk (-1 : Int) (fx_up S 49 0 0 (0 : Int)) ⟨(fxfr_up fxfr_rfl rfl), by omega, g81, g82, g83, g84, g85, g86, g87, g88, g89, g90⟩
  ·
    exact hk (-8 : Int) (fx_up S 49 0 0 (0 : Int)) ⟨(fxfr_up fxfr_rfl rfl), by omega, g81, g82, g83, g84, g85, g86, g87, g88, g89, g90⟩
theorem c_StubHouseModel_lose {l : Launch} {k : fxK} {S : fxS}  (p0 : COL S) (p1 : WTM S) (p2 : INJ S) (p3 : AON S) (p4 : USE S) (p5 : SNP S) (p6 : REC S) (p7 : WNW S) (p8 : WNR S) (p9 : LCM S) (hk : ∀ (r : Int) (S' : fxS) , (fxfr [(49, 0), (49, 7), (49, 15), (49, 36), (49, 38), (49, 39), (49, 43), (50, 9999), (53, 9999), (56, 9999), (70, 9999), (71, 9999), (72, 9999), (73, 9999), (79, 9999)] S S' ∧ (-2147483648 ≤ r ∧ r < 2147483648) ∧ (COL S') ∧ (WTM S') ∧ (INJ S') ∧ (AON S') ∧ (USE S') ∧ (SNP S') ∧ (REC S') ∧ (WNW S') ∧ (WNR S') ∧ (LCM S')) → k (some (.inl r)) S') : fC l 157 [.inr (.inr (49, 0))] S k := by
  refine fxe_157 (Nat.le_of_ble_eq_true rfl) (fxz_157 400 ?_)
  refine And.intro (show (-2147483648 : Int) ≤ (0 : Int) ∧ (0 : Int) ≤ (2147483647 : Int) by omega) ?_
  have w1 : (fx_up S 49 0 0 (0 : Int)) 49 0 36 = S 49 0 36 := if_neg (fun q => absurd q.2.2 (by decide))
  have g2 : COL (fx_up S 49 0 0 (0 : Int)) := fx_pup COL_stab rfl p0
  have g3 : WTM (fx_up S 49 0 0 (0 : Int)) := fx_pup WTM_stab rfl p1
  have g4 : INJ (fx_up S 49 0 0 (0 : Int)) := fx_pup INJ_stab rfl p2
  have g5 : AON (fx_up S 49 0 0 (0 : Int)) := fx_pup AON_stab rfl p3
  have g6 : USE (fx_up S 49 0 0 (0 : Int)) := fx_pup USE_stab rfl p4
  have g7 : SNP (fx_up S 49 0 0 (0 : Int)) := fx_pup SNP_stab rfl p5
  have g8 : REC (fx_up S 49 0 0 (0 : Int)) := fx_pup REC_stab rfl p6
  have g9 : WNW (fx_up S 49 0 0 (0 : Int)) := fx_pup WNW_stab rfl p7
  have g10 : WNR (fx_up S 49 0 0 (0 : Int)) := fx_pup WNR_stab rfl p8
  have g11 : LCM (fx_up S 49 0 0 (0 : Int)) := fx_pup LCM_stab rfl p9
  intro z12 (z12a : (0 : Int) ≤ z12) (z12b : z12 ≤ (1 : Int)) (z12c : z12 = S 49 0 15)
  refine And.intro (fun (h13 : (z12 = (0 : Int) : Prop)) => ?_) (fun (h13 : (z12 ≠ (0 : Int) : Prop)) => ?_)
  ·
    refine c_StubHouseModel_files  g2 (fun (z14 : Int) (q15 : 0 ≤ z14 ∧ z14 ≤ 60) => ?_)
    refine And.intro (by decide) ?_
    refine c_StubHouseModel_empty   (fun (S16 : fxS) ⟨(f17 : fxfr [(49, 7), (50, 9999), (53, 9999), (56, 9999)] (fx_up S 49 0 0 (0 : Int)) S16), (g18 : COL S16), (g19 : WTM S16), (g20 : INJ S16), (g21 : AON S16), (g22 : USE S16), (g23 : SNP S16)⟩ => ?_)
    have w24 : S16 49 0 36 = (fx_up S 49 0 0 (0 : Int)) 49 0 36 := f17 49 0 36 rfl
    have g25 : WNW S16 := fx_pfr WNW_stab f17 rfl g9
    have g26 : WNR S16 := fx_pfr WNR_stab f17 rfl g10
    have g27 : LCM S16 := fx_pfr LCM_stab f17 rfl g11
    refine c_StubHouseModel_stopAll   (fun (S28 : fxS) ⟨(f29 : fxfr [(49, 36), (49, 38), (49, 39), (49, 43), (70, 9999), (71, 9999), (72, 9999), (73, 9999), (79, 9999)] S16 S28), (q30 : S28 49 0 36 = 0), (g31 : WNW S28), (g32 : WNR S28)⟩ => ?_)
    have g33 : COL S28 := fx_pfr COL_stab f29 rfl g18
    have g34 : WTM S28 := fx_pfr WTM_stab f29 rfl g19
    have g35 : INJ S28 := fx_pfr INJ_stab f29 rfl g20
    have g36 : AON S28 := fx_pfr AON_stab f29 rfl g21
    have g37 : USE S28 := fx_pfr USE_stab f29 rfl g22
    have g38 : SNP S28 := fx_pfr SNP_stab f29 rfl g23
    refine And.intro (show (0 : Int) ≤ (1 : Int) ∧ (1 : Int) ≤ (1 : Int) by omega) ?_
    have w39 : (fx_up S28 49 0 15 (1 : Int)) 49 0 36 = S28 49 0 36 := if_neg (fun q => absurd q.2.2 (by decide))
    have g40 : COL (fx_up S28 49 0 15 (1 : Int)) := fx_pup COL_stab rfl g33
    have g41 : WTM (fx_up S28 49 0 15 (1 : Int)) := fx_pup WTM_stab rfl g34
    have g42 : INJ (fx_up S28 49 0 15 (1 : Int)) := fx_pup INJ_stab rfl g35
    have g43 : AON (fx_up S28 49 0 15 (1 : Int)) := fx_pup AON_stab rfl g36
    have g44 : USE (fx_up S28 49 0 15 (1 : Int)) := fx_pup USE_stab rfl g37
    have g45 : SNP (fx_up S28 49 0 15 (1 : Int)) := fx_pup SNP_stab rfl g38
    have g46 : WNW (fx_up S28 49 0 15 (1 : Int)) := fx_pup WNW_stab rfl g31
    have g47 : WNR (fx_up S28 49 0 15 (1 : Int)) := fx_pup WNR_stab rfl g32
    exact hk z14 (fx_up S28 49 0 15 (1 : Int)) ⟨(fxfr_up (fxfr_tr (fxfr_tr (fxfr_up fxfr_rfl rfl) f17 rfl) f29 rfl) rfl), by omega, g40, g41, g42, g43, g44, g45, by first | exact REC_0 (by omega) | exact LCM_0 (by omega), g46, g47, by first | exact REC_0 (by omega) | exact LCM_0 (by omega)⟩
  ·
    exact hk (-8 : Int) (fx_up S 49 0 0 (0 : Int)) ⟨(fxfr_up fxfr_rfl rfl), by omega, g2, g3, g4, g5, g6, g7, g8, g9, g10, g11⟩
theorem z_StubHouseModel_remove {l : Launch} {k : fxK} {S : fxS} {n : Int} (p0 : COL S) (p1 : WTM S) (p2 : INJ S) (p3 : AON S) (p4 : USE S) (p5 : SNP S) (p6 : REC S) (p7 : SGM S) (p8 : LCM S) (p9 : -2147483648 ≤ n ∧ n < 2147483648) (hk : ∀ (r : Int) (S' : fxS) , (fxfr [(49, 0), (49, 7), (49, 36), (50, 9999), (53, 9999), (55, 9999), (56, 9999), (58, 9999), (65, 9999), (66, 9999), (67, 9999), (75, 9999)] S S' ∧ (-2147483648 ≤ r ∧ r < 2147483648) ∧ (COL S') ∧ (WTM S') ∧ (INJ S') ∧ (AON S') ∧ (USE S') ∧ (SNP S') ∧ (REC S') ∧ (SGM S') ∧ (LCM S')) → k (some (.inl r)) S') : ∀ m : Nat, (∀ (j : Int) (S1 : fxS), (fxfr [(49, 0), (49, 7), (49, 36), (50, 9999), (53, 9999), (55, 9999), (56, 9999), (58, 9999), (65, 9999), (66, 9999), (67, 9999), (75, 9999)] S S1) → (1 ≤ n ∧ n < 60) → (0 ≤ j ∧ j ≤ 42) → (S1 49 0 7 ≤ 199) → (S1 49 0 15 = 0) → (COL S1) → (SNP S1) → (RECd S1) → (DLE n S1) → (ZRW n j S1) → (SGM S1) → 43 - j ≤ (m : Int) → fZ l 78 k 148 [some (.inr (.inr (49, 0))), some (.inl n), some (.inl j), none] [] S1) := by
  intro m
  induction m with
  | zero =>
    intro j S1 hf i0 i1 i2 i3 i4 i5 i6 i7 i8 i9 hmu
    exfalso
    omega
  | succ m ih =>
    intro j S1 hf i0 i1 i2 i3 i4 i5 i6 i7 i8 i9 hmu
    refine fxz_78 400 ?_
    refine And.intro (fun (h1 : ((42 : Int) ≤ j : Prop)) => ?_) (fun (h1 : (j < (42 : Int) : Prop)) => ?_)
    ·
      have zz := ZRW_1 i8 (by omega)
      have wt : WTM S1 := DLE_wt i7 (by omega) zz.2
      have ij : INJ S1 := DLE_inj i7 zz.1
      have ao : AON S1 := DLE_aon i7 zz.1
      have us : USE S1 := DLE_use i7 zz.1
      refine And.intro (show 0 ≤ n ∧ n < 60 by omega) ?_
      refine c_StubHouseModel_record (e := (6 : Int)) i4 wt ij ao i5 (show S1 49 0 7 ≤ 199 by omega) (show 0 ≤ (6 : Int) ∧ (6 : Int) ≤ 1000 by omega) (fun (S2 : fxS) ⟨(f3 : fxfr [(49, 7), (53, 9999), (55, 9999)] S1 S2), (g4 : SNP S2)⟩ => ?_)
      have w5 : S2 50 0 2520 = S1 50 0 2520 := f3 50 0 2520 rfl
      have w6 : S2 49 0 15 = S1 49 0 15 := f3 49 0 15 rfl
      have g7 : COL S2 := fx_pfr COL_stab f3 rfl i4
      have g8 : RECd S2 := fx_pfr RECd_stab f3 rfl i6
      have g9 : DLE n S2 := fx_pfr DLE_stab f3 rfl i7
      have g10 : ZRW n j S2 := fx_pfr ZRW_stab f3 rfl i8
      have g11 : SGM S2 := fx_pfr SGM_stab f3 rfl i9
      have g12 : WTM S2 := fx_pfr WTM_stab f3 rfl wt
      have g13 : INJ S2 := fx_pfr INJ_stab f3 rfl ij
      have g14 : AON S2 := fx_pfr AON_stab f3 rfl ao
      have g15 : USE S2 := fx_pfr USE_stab f3 rfl us
      refine c_StubHouseModel_purge  g7 g8 (fun (S16 : fxS) ⟨(f17 : fxfr [(49, 36), (75, 9999)] S2 S16), (g18 : REC S16)⟩ => ?_)
      have w19 : S16 49 0 7 = S2 49 0 7 := f17 49 0 7 rfl
      have w20 : S16 50 0 2520 = S2 50 0 2520 := f17 50 0 2520 rfl
      have w21 : S16 49 0 15 = S2 49 0 15 := f17 49 0 15 rfl
      have g22 : COL S16 := fx_pfr COL_stab f17 rfl g7
      have g23 : SNP S16 := fx_pfr SNP_stab f17 rfl g4
      have g24 : DLE n S16 := fx_pfr DLE_stab f17 rfl g9
      have g25 : ZRW n j S16 := fx_pfr ZRW_stab f17 rfl g10
      have g26 : SGM S16 := fx_pfr SGM_stab f17 rfl g11
      have g27 : WTM S16 := fx_pfr WTM_stab f17 rfl g12
      have g28 : INJ S16 := fx_pfr INJ_stab f17 rfl g13
      have g29 : AON S16 := fx_pfr AON_stab f17 rfl g14
      have g30 : USE S16 := fx_pfr USE_stab f17 rfl g15
      exact hk (0 : Int) S16 ⟨(fxfr_tr (fxfr_tr hf f3 rfl) f17 rfl), by omega, g22, g27, g28, g29, g30, g23, g18, g26, by first | assumption | exact LCM_of (by omega)⟩
    ·
      refine c_set (n := n) (w := j) (v := (0 : Int)) (show 0 ≤ n ∧ n < 60 by omega) (show 0 ≤ j ∧ j < 42 by omega) (show -2147483648 ≤ (0 : Int) ∧ (0 : Int) < 2147483648 by omega) ?_
      have w31 : (fx_up S1 50 0 (42 * n + j).toNat (0 : Int)) 49 0 7 = S1 49 0 7 := rfl
      have w32 : (fx_up S1 50 0 (42 * n + j).toNat (0 : Int)) 49 0 15 = S1 49 0 15 := rfl
      have g33 : COL (fx_up S1 50 0 (42 * n + j).toNat (0 : Int)) := COL_set i4 (by omega) (by omega) (by omega)
      have g34 : SNP (fx_up S1 50 0 (42 * n + j).toNat (0 : Int)) := fx_pup SNP_stab rfl i5
      have g35 : RECd (fx_up S1 50 0 (42 * n + j).toNat (0 : Int)) := fx_pup RECd_stab rfl i6
      have g36 : DLE n (fx_up S1 50 0 (42 * n + j).toNat (0 : Int)) := DLE_set i7 (by omega) (by omega)
      have g37 : SGM (fx_up S1 50 0 (42 * n + j).toNat (0 : Int)) := fx_pup SGM_stab rfl i9
      have zs : ZRW n (j + (1 : Int)) (fx_up S1 50 0 (42 * n + j).toNat (0 : Int)) := ZRW_step i8 (by omega) (by omega)
      refine And.intro (by decide) (And.intro (show -2147483648 ≤ j + (1 : Int) ∧ j + (1 : Int) < 2147483648 by omega) ?_)
      exact ih (j + (1 : Int)) (fx_up S1 50 0 (42 * n + j).toNat (0 : Int)) (fxfr_up hf rfl) (by omega) (by omega) (by omega) (by omega) g33 g34 g35 g36 zs g37 (by omega)
theorem c_StubHouseModel_remove {l : Launch} {k : fxK} {S : fxS} {n : Int} (p0 : COL S) (p1 : WTM S) (p2 : INJ S) (p3 : AON S) (p4 : USE S) (p5 : SNP S) (p6 : REC S) (p7 : SGM S) (p8 : LCM S) (p9 : -2147483648 ≤ n ∧ n < 2147483648) (hk : ∀ (r : Int) (S' : fxS) , (fxfr [(49, 0), (49, 7), (49, 36), (50, 9999), (53, 9999), (55, 9999), (56, 9999), (58, 9999), (65, 9999), (66, 9999), (67, 9999), (75, 9999)] S S' ∧ (-2147483648 ≤ r ∧ r < 2147483648) ∧ (COL S') ∧ (WTM S') ∧ (INJ S') ∧ (AON S') ∧ (USE S') ∧ (SNP S') ∧ (REC S') ∧ (SGM S') ∧ (LCM S')) → k (some (.inl r)) S') : fC l 78 [.inr (.inr (49, 0)), .inl n] S k := by
  refine fxe_78 (Nat.le_of_ble_eq_true rfl) (fxz_78 400 ?_)
  refine And.intro (show (-2147483648 : Int) ≤ (0 : Int) ∧ (0 : Int) ≤ (2147483647 : Int) by omega) ?_
  have w39 : (fx_up S 49 0 0 (0 : Int)) 49 0 7 = S 49 0 7 := if_neg (fun q => absurd q.2.2 (by decide))
  have w40 : (fx_up S 49 0 0 (0 : Int)) 50 0 2520 = S 50 0 2520 := rfl
  have w41 : (fx_up S 49 0 0 (0 : Int)) 49 0 15 = S 49 0 15 := if_neg (fun q => absurd q.2.2 (by decide))
  have g42 : COL (fx_up S 49 0 0 (0 : Int)) := fx_pup COL_stab rfl p0
  have g43 : WTM (fx_up S 49 0 0 (0 : Int)) := fx_pup WTM_stab rfl p1
  have g44 : INJ (fx_up S 49 0 0 (0 : Int)) := fx_pup INJ_stab rfl p2
  have g45 : AON (fx_up S 49 0 0 (0 : Int)) := fx_pup AON_stab rfl p3
  have g46 : USE (fx_up S 49 0 0 (0 : Int)) := fx_pup USE_stab rfl p4
  have g47 : SNP (fx_up S 49 0 0 (0 : Int)) := fx_pup SNP_stab rfl p5
  have g48 : REC (fx_up S 49 0 0 (0 : Int)) := fx_pup REC_stab rfl p6
  have g49 : SGM (fx_up S 49 0 0 (0 : Int)) := fx_pup SGM_stab rfl p7
  have g50 : LCM (fx_up S 49 0 0 (0 : Int)) := fx_pup LCM_stab rfl p8
  intro z51 (z51a : (0 : Int) ≤ z51) (z51b : z51 ≤ (1 : Int)) (z51c : z51 = S 49 0 15)
  refine And.intro (fun (h52 : (z51 = (0 : Int) : Prop)) => ?_) (fun (h52 : (z51 ≠ (0 : Int) : Prop)) => ?_)
  ·
    refine c_StubHouseModel_in (x := n) (a := (1 : Int)) (b := (59 : Int))  (fun (z53 : Int) (q54 : 0 ≤ z53 ∧ z53 ≤ 1 ∧ (z53 = 1 → (1 : Int) ≤ n ∧ n ≤ (59 : Int)) ∧ (z53 = 0 → n < (1 : Int) ∨ (59 : Int) < n)) => ?_)
    refine And.intro (fun (h55 : (z53 = (0 : Int) : Prop)) => ?_) (fun (h55 : (z53 ≠ (0 : Int) : Prop)) => ?_)
    ·
      exact hk (-1 : Int) (fx_up S 49 0 0 (0 : Int)) ⟨(fxfr_up fxfr_rfl rfl), by omega, g42, g43, g44, g45, g46, g47, g48, g49, g50⟩
    ·
      refine c_at0 (n := n) g42 (show 0 ≤ n ∧ n < 60 by omega) (fun (z56 : Int) (q57 : z56 = aN S n 0 ∧ 0 ≤ z56 ∧ z56 ≤ 2) => ?_)
      refine And.intro (fun (h58 : (z56 ≠ (0 : Int) : Prop)) => ?_) (fun (h58 : (z56 = (0 : Int) : Prop)) => ?_)
      ·
        refine c_at0 (n := n) g42 (show 0 ≤ n ∧ n < 60 by omega) (fun (z59 : Int) (q60 : z59 = aN S n 0 ∧ 0 ≤ z59 ∧ z59 ≤ 2) => ?_)
        refine And.intro (fun (h61 : (z59 ≠ (1 : Int) : Prop)) => ?_) (fun (h61 : (z59 = (1 : Int) : Prop)) => ?_)
        ·
          have nm : NMC n (fx_up S 49 0 0 (0 : Int)) := fun h => by first | exact nq (by omega) | (exfalso; have h : aN S n 0 = 1 := h; omega)
          refine c_StubHouseModel_ahead  g42 g43 g44 g45 g46 g47 (fun (S62 : fxS) ⟨(f63 : fxfr [(49, 7), (53, 9999), (56, 9999), (58, 9999)] (fx_up S 49 0 0 (0 : Int)) S62), (q64 : 0 ≤ S62 49 0 7 ∧ S62 49 0 7 ≤ 199), (g65 : SNP S62), (g66 : USE S62), (g67 : UZ (fx_up S 49 0 0 (0 : Int)) S62)⟩ => ?_)
          have w68 : S62 50 0 2520 = (fx_up S 49 0 0 (0 : Int)) 50 0 2520 := f63 50 0 2520 rfl
          have w69 : S62 49 0 15 = (fx_up S 49 0 0 (0 : Int)) 49 0 15 := f63 49 0 15 rfl
          have g70 : COL S62 := fx_pfr COL_stab f63 rfl g42
          have g71 : WTM S62 := fx_pfr WTM_stab f63 rfl g43
          have g72 : INJ S62 := fx_pfr INJ_stab f63 rfl g44
          have g73 : AON S62 := fx_pfr AON_stab f63 rfl g45
          have g74 : REC S62 := fx_pfr REC_stab f63 rfl g48
          have g75 : SGM S62 := fx_pfr SGM_stab f63 rfl g49
          have g76 : LCM S62 := fx_pfr LCM_stab f63 rfl g50
          have g77 : NMC n S62 := fx_pfr NMC_stab f63 rfl nm
          refine c_at0 (n := n) g70 (show 0 ≤ n ∧ n < 60 by omega) (fun (z78 : Int) (q79 : z78 = aN S62 n 0 ∧ 0 ≤ z78 ∧ z78 ≤ 2) => ?_)
          refine And.intro (fun (h80 : (z78 ≠ (2 : Int) : Prop)) => ?_) (fun (h80 : (z78 = (2 : Int) : Prop)) => ?_)
          ·
            refine And.intro (by decide) ?_
            have dl : DLE n S62 := ⟨S62, DLT_0 g71 g72 g73 g66 g77⟩
            have rd : RECd S62 := g74.1
            have z0 : ZRW n (0 : Int) S62 := ZRW_0
            exact (z_StubHouseModel_remove p0 p1 p2 p3 p4 p5 p6 p7 p8 p9 hk (43 - (0 : Int)).toNat) (0 : Int) S62 (fxfr_tr (fxfr_up fxfr_rfl rfl) f63 rfl) (by omega) (by omega) (by omega) (by omega) g70 g65 rd dl z0 g75 (by omega)
          ·
            refine c_StubHouseModel_hold (f := n) g70 g71 g72 g73 g66 g74 (show 0 ≤ n ∧ n < 60 by omega) (show aN S62 n 0 = 2 by omega) (fun (S81 : fxS) ⟨(f82 : fxfr [(50, 9999), (56, 9999)] S62 S81), (q83 : aN S81 n 0 = 2), (g84 : COL S81), (g85 : WTM S81), (g86 : INJ S81), (g87 : AON S81), (g88 : USE S81), (g89 : REC S81), (g90 : EQR n S62 S81)⟩ => ?_)
            have w91 : S81 49 0 7 = S62 49 0 7 := f82 49 0 7 rfl
            have w92 : S81 49 0 15 = S62 49 0 15 := f82 49 0 15 rfl
            have g93 : SNP S81 := fx_pfr SNP_stab f82 rfl g65
            have g94 : SGM S81 := fx_pfr SGM_stab f82 rfl g75
            have g95 : LCM S81 := fx_pfr LCM_stab f82 rfl g76
            have nm : NMC n S81 := fun h => by exfalso; omega
            refine c_at2 (n := n) g84 (show 0 ≤ n ∧ n < 60 by omega) (fun (z96 : Int) (q97 : z96 = aN S81 n 2 ∧ -2147483648 ≤ z96 ∧ z96 < 2147483648) => ?_)
            refine And.intro (by decide) ?_
            refine And.intro (show 0 ≤ (2520 : Int) ∧ (2520 : Int) < 2561 by omega) ?_
            intro z98 (z98a : (-2147483648 : Int) ≤ z98) (z98b : z98 ≤ (2147483647 : Int)) (z98c : z98 = S81 50 0 2520)
            have dl0 := COL_dels g84
            refine And.intro (by decide) ?_
            refine And.intro (fun (h99 : ((40 : Int) ≤ z98 : Prop)) => ?_) (fun (h99 : (z98 < (40 : Int) : Prop)) => ?_)
            ·
              refine And.intro (by decide) ?_
              have dl : DLE n S81 := ⟨S81, DLT_0 g85 g86 g87 g88 nm⟩
              have rd : RECd S81 := g89.1
              have z0 : ZRW n (0 : Int) S81 := ZRW_0
              exact (z_StubHouseModel_remove p0 p1 p2 p3 p4 p5 p6 p7 p8 p9 hk (43 - (0 : Int)).toNat) (0 : Int) S81 (fxfr_tr (fxfr_tr (fxfr_up fxfr_rfl rfl) f63 rfl) f82 rfl) (by omega) (by omega) (by omega) (by omega) g84 g93 rd dl z0 g94 (by omega)
            ·
              refine c_StubHouseModel_isOnTape (d := z96) g94 (show -2147483648 ≤ z96 ∧ z96 < 2147483648 by omega) (fun (z100 : Int) (S101 : fxS) ⟨(f102 : fxfr [(65, 9999), (66, 9999), (67, 9999)] S81 S101), (q103 : 0 ≤ z100 ∧ z100 ≤ 1), (g104 : SGM S101)⟩ => ?_)
              have w105 : S101 49 0 7 = S81 49 0 7 := f102 49 0 7 rfl
              have w106 : S101 50 0 2520 = S81 50 0 2520 := f102 50 0 2520 rfl
              have w107 : S101 49 0 15 = S81 49 0 15 := f102 49 0 15 rfl
              have g108 : COL S101 := fx_pfr COL_stab f102 rfl g84
              have g109 : WTM S101 := fx_pfr WTM_stab f102 rfl g85
              have g110 : INJ S101 := fx_pfr INJ_stab f102 rfl g86
              have g111 : AON S101 := fx_pfr AON_stab f102 rfl g87
              have g112 : USE S101 := fx_pfr USE_stab f102 rfl g88
              have g113 : SNP S101 := fx_pfr SNP_stab f102 rfl g93
              have g114 : REC S101 := fx_pfr REC_stab f102 rfl g89
              have g115 : LCM S101 := fx_pfr LCM_stab f102 rfl g95
              have g116 : EQR n S62 S101 := fx_pfr EQR_stab f102 rfl g90
              have g117 : NMC n S101 := fx_pfr NMC_stab f102 rfl nm
              refine And.intro (fun (h118 : (z100 ≠ (0 : Int) : Prop)) => ?_) (fun (h118 : (z100 = (0 : Int) : Prop)) => ?_)
              ·
                intro z119 (z119a : -2147483648 ≤ z119) (z119b : z119 < 2147483648) (z119c : -2147483648 ≤ ((2521 : Int) + z98) ∧ ((2521 : Int) + z98) < 2147483648 → z119 = ((2521 : Int) + z98))
                refine And.intro (show 0 ≤ z119 ∧ z119 < 2561 by omega) ?_
                refine And.intro (show (-2147483648 : Int) ≤ z96 ∧ z96 ≤ (2147483647 : Int) by omega) ?_
                have w120 : (fx_up S101 50 0 (z119).toNat z96) 49 0 7 = S101 49 0 7 := rfl
                have w121 : (fx_up S101 50 0 (z119).toNat z96) 49 0 15 = S101 49 0 15 := rfl
                have g122 : COL (fx_up S101 50 0 (z119).toNat z96) := COL_tail g108 (by omega)
                have g123 : WTM (fx_up S101 50 0 (z119).toNat z96) := WTM_tail g109 (by omega)
                have g124 : INJ (fx_up S101 50 0 (z119).toNat z96) := INJ_tail g110 (by omega)
                have g125 : AON (fx_up S101 50 0 (z119).toNat z96) := AON_tail g111 (by omega)
                have g126 : USE (fx_up S101 50 0 (z119).toNat z96) := USE_tail g112 (by omega)
                have g127 : SNP (fx_up S101 50 0 (z119).toNat z96) := fx_pup SNP_stab rfl g113
                have g128 : REC (fx_up S101 50 0 (z119).toNat z96) := REC_tail g114 (by omega)
                have g129 : SGM (fx_up S101 50 0 (z119).toNat z96) := fx_pup SGM_stab rfl g104
                have g130 : LCM (fx_up S101 50 0 (z119).toNat z96) := fx_pup LCM_stab rfl g115
                have g131 : EQR n S62 (fx_up S101 50 0 (z119).toNat z96) := EQR_tail g116 (by omega)
                have g132 : NMC n (fx_up S101 50 0 (z119).toNat z96) := NMC_tail g117 (by omega) (by omega)
                have d2 : (fx_up S101 50 0 (z119).toNat z96) 50 0 2520 = z98 := by rw [up_ne (by omega)]; omega
                refine And.intro (show 0 ≤ z98 ∧ z98 < 40 by omega) ?_
                refine And.intro (show (0 : Int) ≤ (0 : Int) ∧ (0 : Int) ≤ (1 : Int) by omega) ?_
                have w133 : (fx_up (fx_up S101 50 0 (z119).toNat z96) 58 0 (z98).toNat (0 : Int)) 49 0 7 = (fx_up S101 50 0 (z119).toNat z96) 49 0 7 := rfl
                have w134 : (fx_up (fx_up S101 50 0 (z119).toNat z96) 58 0 (z98).toNat (0 : Int)) 50 0 2520 = (fx_up S101 50 0 (z119).toNat z96) 50 0 2520 := rfl
                have w135 : (fx_up (fx_up S101 50 0 (z119).toNat z96) 58 0 (z98).toNat (0 : Int)) 49 0 15 = (fx_up S101 50 0 (z119).toNat z96) 49 0 15 := rfl
                have g136 : COL (fx_up (fx_up S101 50 0 (z119).toNat z96) 58 0 (z98).toNat (0 : Int)) := fx_pup COL_stab rfl g122
                have g137 : WTM (fx_up (fx_up S101 50 0 (z119).toNat z96) 58 0 (z98).toNat (0 : Int)) := fx_pup WTM_stab rfl g123
                have g138 : INJ (fx_up (fx_up S101 50 0 (z119).toNat z96) 58 0 (z98).toNat (0 : Int)) := fx_pup INJ_stab rfl g124
                have g139 : AON (fx_up (fx_up S101 50 0 (z119).toNat z96) 58 0 (z98).toNat (0 : Int)) := fx_pup AON_stab rfl g125
                have g140 : USE (fx_up (fx_up S101 50 0 (z119).toNat z96) 58 0 (z98).toNat (0 : Int)) := fx_pup USE_stab rfl g126
                have g141 : SNP (fx_up (fx_up S101 50 0 (z119).toNat z96) 58 0 (z98).toNat (0 : Int)) := fx_pup SNP_stab rfl g127
                have g142 : REC (fx_up (fx_up S101 50 0 (z119).toNat z96) 58 0 (z98).toNat (0 : Int)) := fx_pup REC_stab rfl g128
                have g143 : SGM (fx_up (fx_up S101 50 0 (z119).toNat z96) 58 0 (z98).toNat (0 : Int)) := fx_pup SGM_stab rfl g129
                have g144 : LCM (fx_up (fx_up S101 50 0 (z119).toNat z96) 58 0 (z98).toNat (0 : Int)) := fx_pup LCM_stab rfl g130
                have g145 : EQR n S62 (fx_up (fx_up S101 50 0 (z119).toNat z96) 58 0 (z98).toNat (0 : Int)) := fx_pup EQR_stab rfl g131
                have g146 : NMC n (fx_up (fx_up S101 50 0 (z119).toNat z96) 58 0 (z98).toNat (0 : Int)) := fx_pup NMC_stab rfl g132
                refine And.intro (show 0 ≤ (2520 : Int) ∧ (2520 : Int) < 2561 by omega) ?_
                intro z147 (z147a : (-2147483648 : Int) ≤ z147) (z147b : z147 ≤ (2147483647 : Int)) (z147c : z147 = (fx_up S101 50 0 (z119).toNat z96) 50 0 2520)
                intro z148 (z148a : -2147483648 ≤ z148) (z148b : z148 < 2147483648) (z148c : -2147483648 ≤ (z147 + (1 : Int)) ∧ (z147 + (1 : Int)) < 2147483648 → z148 = (z147 + (1 : Int)))
                refine And.intro (show 0 ≤ (2520 : Int) ∧ (2520 : Int) < 2561 by omega) ?_
                refine And.intro (show (-2147483648 : Int) ≤ z148 ∧ z148 ≤ (2147483647 : Int) by omega) ?_
                have w149 : (fx_up (fx_up (fx_up S101 50 0 (z119).toNat z96) 58 0 (z98).toNat (0 : Int)) 50 0 2520 z148) 49 0 7 = (fx_up (fx_up S101 50 0 (z119).toNat z96) 58 0 (z98).toNat (0 : Int)) 49 0 7 := rfl
                have w150 : (fx_up (fx_up (fx_up S101 50 0 (z119).toNat z96) 58 0 (z98).toNat (0 : Int)) 50 0 2520 z148) 50 0 2520 = z148 := fx_up_at _ _ _ _ _
                have w151 : (fx_up (fx_up (fx_up S101 50 0 (z119).toNat z96) 58 0 (z98).toNat (0 : Int)) 50 0 2520 z148) 49 0 15 = (fx_up (fx_up S101 50 0 (z119).toNat z96) 58 0 (z98).toNat (0 : Int)) 49 0 15 := rfl
                have g152 : COL (fx_up (fx_up (fx_up S101 50 0 (z119).toNat z96) 58 0 (z98).toNat (0 : Int)) 50 0 2520 z148) := COL_del g136 (by omega)
                have g153 : WTM (fx_up (fx_up (fx_up S101 50 0 (z119).toNat z96) 58 0 (z98).toNat (0 : Int)) 50 0 2520 z148) := WTM_tail g137 (by omega)
                have g154 : INJ (fx_up (fx_up (fx_up S101 50 0 (z119).toNat z96) 58 0 (z98).toNat (0 : Int)) 50 0 2520 z148) := INJ_tail g138 (by omega)
                have g155 : AON (fx_up (fx_up (fx_up S101 50 0 (z119).toNat z96) 58 0 (z98).toNat (0 : Int)) 50 0 2520 z148) := AON_tail g139 (by omega)
                have g156 : USE (fx_up (fx_up (fx_up S101 50 0 (z119).toNat z96) 58 0 (z98).toNat (0 : Int)) 50 0 2520 z148) := USE_tail g140 (by omega)
                have g157 : SNP (fx_up (fx_up (fx_up S101 50 0 (z119).toNat z96) 58 0 (z98).toNat (0 : Int)) 50 0 2520 z148) := fx_pup SNP_stab rfl g141
                have g158 : REC (fx_up (fx_up (fx_up S101 50 0 (z119).toNat z96) 58 0 (z98).toNat (0 : Int)) 50 0 2520 z148) := REC_tail g142 (by omega)
                have g159 : SGM (fx_up (fx_up (fx_up S101 50 0 (z119).toNat z96) 58 0 (z98).toNat (0 : Int)) 50 0 2520 z148) := fx_pup SGM_stab rfl g143
                have g160 : LCM (fx_up (fx_up (fx_up S101 50 0 (z119).toNat z96) 58 0 (z98).toNat (0 : Int)) 50 0 2520 z148) := fx_pup LCM_stab rfl g144
                have g161 : EQR n S62 (fx_up (fx_up (fx_up S101 50 0 (z119).toNat z96) 58 0 (z98).toNat (0 : Int)) 50 0 2520 z148) := EQR_tail g145 (by omega)
                have g162 : NMC n (fx_up (fx_up (fx_up S101 50 0 (z119).toNat z96) 58 0 (z98).toNat (0 : Int)) 50 0 2520 z148) := NMC_tail g146 (by omega) (by omega)
                refine And.intro (by decide) ?_
                have dl : DLE n (fx_up (fx_up (fx_up S101 50 0 (z119).toNat z96) 58 0 (z98).toNat (0 : Int)) 50 0 2520 z148) := ⟨(fx_up (fx_up (fx_up S101 50 0 (z119).toNat z96) 58 0 (z98).toNat (0 : Int)) 50 0 2520 z148), DLT_0 g153 g154 g155 g156 g162⟩
                have rd : RECd (fx_up (fx_up (fx_up S101 50 0 (z119).toNat z96) 58 0 (z98).toNat (0 : Int)) 50 0 2520 z148) := g158.1
                have z0 : ZRW n (0 : Int) (fx_up (fx_up (fx_up S101 50 0 (z119).toNat z96) 58 0 (z98).toNat (0 : Int)) 50 0 2520 z148) := ZRW_0
                exact (z_StubHouseModel_remove p0 p1 p2 p3 p4 p5 p6 p7 p8 p9 hk (43 - (0 : Int)).toNat) (0 : Int) (fx_up (fx_up (fx_up S101 50 0 (z119).toNat z96) 58 0 (z98).toNat (0 : Int)) 50 0 2520 z148) (fxfr_up (fxfr_up (fxfr_up (fxfr_tr (fxfr_tr (fxfr_tr (fxfr_up fxfr_rfl rfl) f63 rfl) f82 rfl) f102 rfl) rfl) rfl) rfl) (by omega) (by omega) (by omega) (by omega) g152 g157 rd dl z0 g159 (by omega)
              ·
                refine c_StubHouseModel_isBeingWritten (d := z96) (show -2147483648 ≤ z96 ∧ z96 < 2147483648 by omega) (fun (z163 : Int) (q164 : 0 ≤ z163 ∧ z163 ≤ 1) => ?_)
                refine And.intro (fun (h165 : (z163 = (0 : Int) : Prop)) => ?_) (fun (h165 : (z163 ≠ (0 : Int) : Prop)) => ?_)
                ·
                  refine And.intro (by decide) ?_
                  have dl : DLE n S101 := ⟨S101, DLT_0 g109 g110 g111 g112 g117⟩
                  have rd : RECd S101 := g114.1
                  have z0 : ZRW n (0 : Int) S101 := ZRW_0
                  exact (z_StubHouseModel_remove p0 p1 p2 p3 p4 p5 p6 p7 p8 p9 hk (43 - (0 : Int)).toNat) (0 : Int) S101 (fxfr_tr (fxfr_tr (fxfr_tr (fxfr_up fxfr_rfl rfl) f63 rfl) f82 rfl) f102 rfl) (by omega) (by omega) (by omega) (by omega) g108 g113 rd dl z0 g104 (by omega)
                ·
                  intro z166 (z166a : -2147483648 ≤ z166) (z166b : z166 < 2147483648) (z166c : -2147483648 ≤ ((2521 : Int) + z98) ∧ ((2521 : Int) + z98) < 2147483648 → z166 = ((2521 : Int) + z98))
                  refine And.intro (show 0 ≤ z166 ∧ z166 < 2561 by omega) ?_
                  refine And.intro (show (-2147483648 : Int) ≤ z96 ∧ z96 ≤ (2147483647 : Int) by omega) ?_
                  have w167 : (fx_up S101 50 0 (z166).toNat z96) 49 0 7 = S101 49 0 7 := rfl
                  have w168 : (fx_up S101 50 0 (z166).toNat z96) 49 0 15 = S101 49 0 15 := rfl
                  have g169 : COL (fx_up S101 50 0 (z166).toNat z96) := COL_tail g108 (by omega)
                  have g170 : WTM (fx_up S101 50 0 (z166).toNat z96) := WTM_tail g109 (by omega)
                  have g171 : INJ (fx_up S101 50 0 (z166).toNat z96) := INJ_tail g110 (by omega)
                  have g172 : AON (fx_up S101 50 0 (z166).toNat z96) := AON_tail g111 (by omega)
                  have g173 : USE (fx_up S101 50 0 (z166).toNat z96) := USE_tail g112 (by omega)
                  have g174 : SNP (fx_up S101 50 0 (z166).toNat z96) := fx_pup SNP_stab rfl g113
                  have g175 : REC (fx_up S101 50 0 (z166).toNat z96) := REC_tail g114 (by omega)
                  have g176 : SGM (fx_up S101 50 0 (z166).toNat z96) := fx_pup SGM_stab rfl g104
                  have g177 : LCM (fx_up S101 50 0 (z166).toNat z96) := fx_pup LCM_stab rfl g115
                  have g178 : EQR n S62 (fx_up S101 50 0 (z166).toNat z96) := EQR_tail g116 (by omega)
                  have g179 : NMC n (fx_up S101 50 0 (z166).toNat z96) := NMC_tail g117 (by omega) (by omega)
                  have d2 : (fx_up S101 50 0 (z166).toNat z96) 50 0 2520 = z98 := by rw [up_ne (by omega)]; omega
                  refine And.intro (show 0 ≤ z98 ∧ z98 < 40 by omega) ?_
                  refine And.intro (show (0 : Int) ≤ (0 : Int) ∧ (0 : Int) ≤ (1 : Int) by omega) ?_
                  have w180 : (fx_up (fx_up S101 50 0 (z166).toNat z96) 58 0 (z98).toNat (0 : Int)) 49 0 7 = (fx_up S101 50 0 (z166).toNat z96) 49 0 7 := rfl
                  have w181 : (fx_up (fx_up S101 50 0 (z166).toNat z96) 58 0 (z98).toNat (0 : Int)) 50 0 2520 = (fx_up S101 50 0 (z166).toNat z96) 50 0 2520 := rfl
                  have w182 : (fx_up (fx_up S101 50 0 (z166).toNat z96) 58 0 (z98).toNat (0 : Int)) 49 0 15 = (fx_up S101 50 0 (z166).toNat z96) 49 0 15 := rfl
                  have g183 : COL (fx_up (fx_up S101 50 0 (z166).toNat z96) 58 0 (z98).toNat (0 : Int)) := fx_pup COL_stab rfl g169
                  have g184 : WTM (fx_up (fx_up S101 50 0 (z166).toNat z96) 58 0 (z98).toNat (0 : Int)) := fx_pup WTM_stab rfl g170
                  have g185 : INJ (fx_up (fx_up S101 50 0 (z166).toNat z96) 58 0 (z98).toNat (0 : Int)) := fx_pup INJ_stab rfl g171
                  have g186 : AON (fx_up (fx_up S101 50 0 (z166).toNat z96) 58 0 (z98).toNat (0 : Int)) := fx_pup AON_stab rfl g172
                  have g187 : USE (fx_up (fx_up S101 50 0 (z166).toNat z96) 58 0 (z98).toNat (0 : Int)) := fx_pup USE_stab rfl g173
                  have g188 : SNP (fx_up (fx_up S101 50 0 (z166).toNat z96) 58 0 (z98).toNat (0 : Int)) := fx_pup SNP_stab rfl g174
                  have g189 : REC (fx_up (fx_up S101 50 0 (z166).toNat z96) 58 0 (z98).toNat (0 : Int)) := fx_pup REC_stab rfl g175
                  have g190 : SGM (fx_up (fx_up S101 50 0 (z166).toNat z96) 58 0 (z98).toNat (0 : Int)) := fx_pup SGM_stab rfl g176
                  have g191 : LCM (fx_up (fx_up S101 50 0 (z166).toNat z96) 58 0 (z98).toNat (0 : Int)) := fx_pup LCM_stab rfl g177
                  have g192 : EQR n S62 (fx_up (fx_up S101 50 0 (z166).toNat z96) 58 0 (z98).toNat (0 : Int)) := fx_pup EQR_stab rfl g178
                  have g193 : NMC n (fx_up (fx_up S101 50 0 (z166).toNat z96) 58 0 (z98).toNat (0 : Int)) := fx_pup NMC_stab rfl g179
                  refine And.intro (show 0 ≤ (2520 : Int) ∧ (2520 : Int) < 2561 by omega) ?_
                  intro z194 (z194a : (-2147483648 : Int) ≤ z194) (z194b : z194 ≤ (2147483647 : Int)) (z194c : z194 = (fx_up S101 50 0 (z166).toNat z96) 50 0 2520)
                  intro z195 (z195a : -2147483648 ≤ z195) (z195b : z195 < 2147483648) (z195c : -2147483648 ≤ (z194 + (1 : Int)) ∧ (z194 + (1 : Int)) < 2147483648 → z195 = (z194 + (1 : Int)))
                  refine And.intro (show 0 ≤ (2520 : Int) ∧ (2520 : Int) < 2561 by omega) ?_
                  refine And.intro (show (-2147483648 : Int) ≤ z195 ∧ z195 ≤ (2147483647 : Int) by omega) ?_
                  have w196 : (fx_up (fx_up (fx_up S101 50 0 (z166).toNat z96) 58 0 (z98).toNat (0 : Int)) 50 0 2520 z195) 49 0 7 = (fx_up (fx_up S101 50 0 (z166).toNat z96) 58 0 (z98).toNat (0 : Int)) 49 0 7 := rfl
                  have w197 : (fx_up (fx_up (fx_up S101 50 0 (z166).toNat z96) 58 0 (z98).toNat (0 : Int)) 50 0 2520 z195) 50 0 2520 = z195 := fx_up_at _ _ _ _ _
                  have w198 : (fx_up (fx_up (fx_up S101 50 0 (z166).toNat z96) 58 0 (z98).toNat (0 : Int)) 50 0 2520 z195) 49 0 15 = (fx_up (fx_up S101 50 0 (z166).toNat z96) 58 0 (z98).toNat (0 : Int)) 49 0 15 := rfl
                  have g199 : COL (fx_up (fx_up (fx_up S101 50 0 (z166).toNat z96) 58 0 (z98).toNat (0 : Int)) 50 0 2520 z195) := COL_del g183 (by omega)
                  have g200 : WTM (fx_up (fx_up (fx_up S101 50 0 (z166).toNat z96) 58 0 (z98).toNat (0 : Int)) 50 0 2520 z195) := WTM_tail g184 (by omega)
                  have g201 : INJ (fx_up (fx_up (fx_up S101 50 0 (z166).toNat z96) 58 0 (z98).toNat (0 : Int)) 50 0 2520 z195) := INJ_tail g185 (by omega)
                  have g202 : AON (fx_up (fx_up (fx_up S101 50 0 (z166).toNat z96) 58 0 (z98).toNat (0 : Int)) 50 0 2520 z195) := AON_tail g186 (by omega)
                  have g203 : USE (fx_up (fx_up (fx_up S101 50 0 (z166).toNat z96) 58 0 (z98).toNat (0 : Int)) 50 0 2520 z195) := USE_tail g187 (by omega)
                  have g204 : SNP (fx_up (fx_up (fx_up S101 50 0 (z166).toNat z96) 58 0 (z98).toNat (0 : Int)) 50 0 2520 z195) := fx_pup SNP_stab rfl g188
                  have g205 : REC (fx_up (fx_up (fx_up S101 50 0 (z166).toNat z96) 58 0 (z98).toNat (0 : Int)) 50 0 2520 z195) := REC_tail g189 (by omega)
                  have g206 : SGM (fx_up (fx_up (fx_up S101 50 0 (z166).toNat z96) 58 0 (z98).toNat (0 : Int)) 50 0 2520 z195) := fx_pup SGM_stab rfl g190
                  have g207 : LCM (fx_up (fx_up (fx_up S101 50 0 (z166).toNat z96) 58 0 (z98).toNat (0 : Int)) 50 0 2520 z195) := fx_pup LCM_stab rfl g191
                  have g208 : EQR n S62 (fx_up (fx_up (fx_up S101 50 0 (z166).toNat z96) 58 0 (z98).toNat (0 : Int)) 50 0 2520 z195) := EQR_tail g192 (by omega)
                  have g209 : NMC n (fx_up (fx_up (fx_up S101 50 0 (z166).toNat z96) 58 0 (z98).toNat (0 : Int)) 50 0 2520 z195) := NMC_tail g193 (by omega) (by omega)
                  refine And.intro (by decide) ?_
                  have dl : DLE n (fx_up (fx_up (fx_up S101 50 0 (z166).toNat z96) 58 0 (z98).toNat (0 : Int)) 50 0 2520 z195) := ⟨(fx_up (fx_up (fx_up S101 50 0 (z166).toNat z96) 58 0 (z98).toNat (0 : Int)) 50 0 2520 z195), DLT_0 g200 g201 g202 g203 g209⟩
                  have rd : RECd (fx_up (fx_up (fx_up S101 50 0 (z166).toNat z96) 58 0 (z98).toNat (0 : Int)) 50 0 2520 z195) := g205.1
                  have z0 : ZRW n (0 : Int) (fx_up (fx_up (fx_up S101 50 0 (z166).toNat z96) 58 0 (z98).toNat (0 : Int)) 50 0 2520 z195) := ZRW_0
                  exact (z_StubHouseModel_remove p0 p1 p2 p3 p4 p5 p6 p7 p8 p9 hk (43 - (0 : Int)).toNat) (0 : Int) (fx_up (fx_up (fx_up S101 50 0 (z166).toNat z96) 58 0 (z98).toNat (0 : Int)) 50 0 2520 z195) (fxfr_up (fxfr_up (fxfr_up (fxfr_tr (fxfr_tr (fxfr_tr (fxfr_up fxfr_rfl rfl) f63 rfl) f82 rfl) f102 rfl) rfl) rfl) rfl) (by omega) (by omega) (by omega) (by omega) g199 g204 rd dl z0 g206 (by omega)
        ·
          refine c_StubHouseModel_hasNodes (n := n) g42 (show -2147483648 ≤ n ∧ n < 2147483648 by omega) (fun (z210 : Int) (q211 : 0 ≤ z210 ∧ z210 ≤ 1 ∧ (z210 = 0 → NoM n 60 (fx_up S 49 0 0 (0 : Int)))) => ?_)
          have nq : z210 = 0 → NoM n 60 S := q211.2.2
          refine And.intro (fun (h212 : (z210 = (0 : Int) : Prop)) => ?_) (fun (h212 : (z210 ≠ (0 : Int) : Prop)) => ?_)
          ·
            have nm : NMC n (fx_up S 49 0 0 (0 : Int)) := fun h => by first | exact nq (by omega) | (exfalso; have h : aN S n 0 = 1 := h; omega)
            refine c_StubHouseModel_ahead  g42 g43 g44 g45 g46 g47 (fun (S213 : fxS) ⟨(f214 : fxfr [(49, 7), (53, 9999), (56, 9999), (58, 9999)] (fx_up S 49 0 0 (0 : Int)) S213), (q215 : 0 ≤ S213 49 0 7 ∧ S213 49 0 7 ≤ 199), (g216 : SNP S213), (g217 : USE S213), (g218 : UZ (fx_up S 49 0 0 (0 : Int)) S213)⟩ => ?_)
            have w219 : S213 50 0 2520 = (fx_up S 49 0 0 (0 : Int)) 50 0 2520 := f214 50 0 2520 rfl
            have w220 : S213 49 0 15 = (fx_up S 49 0 0 (0 : Int)) 49 0 15 := f214 49 0 15 rfl
            have g221 : COL S213 := fx_pfr COL_stab f214 rfl g42
            have g222 : WTM S213 := fx_pfr WTM_stab f214 rfl g43
            have g223 : INJ S213 := fx_pfr INJ_stab f214 rfl g44
            have g224 : AON S213 := fx_pfr AON_stab f214 rfl g45
            have g225 : REC S213 := fx_pfr REC_stab f214 rfl g48
            have g226 : SGM S213 := fx_pfr SGM_stab f214 rfl g49
            have g227 : LCM S213 := fx_pfr LCM_stab f214 rfl g50
            have g228 : NMC n S213 := fx_pfr NMC_stab f214 rfl nm
            refine c_at0 (n := n) g221 (show 0 ≤ n ∧ n < 60 by omega) (fun (z229 : Int) (q230 : z229 = aN S213 n 0 ∧ 0 ≤ z229 ∧ z229 ≤ 2) => ?_)
            refine And.intro (fun (h231 : (z229 ≠ (2 : Int) : Prop)) => ?_) (fun (h231 : (z229 = (2 : Int) : Prop)) => ?_)
            ·
              refine And.intro (by decide) ?_
              have dl : DLE n S213 := ⟨S213, DLT_0 g222 g223 g224 g217 g228⟩
              have rd : RECd S213 := g225.1
              have z0 : ZRW n (0 : Int) S213 := ZRW_0
              exact (z_StubHouseModel_remove p0 p1 p2 p3 p4 p5 p6 p7 p8 p9 hk (43 - (0 : Int)).toNat) (0 : Int) S213 (fxfr_tr (fxfr_up fxfr_rfl rfl) f214 rfl) (by omega) (by omega) (by omega) (by omega) g221 g216 rd dl z0 g226 (by omega)
            ·
              refine c_StubHouseModel_hold (f := n) g221 g222 g223 g224 g217 g225 (show 0 ≤ n ∧ n < 60 by omega) (show aN S213 n 0 = 2 by omega) (fun (S232 : fxS) ⟨(f233 : fxfr [(50, 9999), (56, 9999)] S213 S232), (q234 : aN S232 n 0 = 2), (g235 : COL S232), (g236 : WTM S232), (g237 : INJ S232), (g238 : AON S232), (g239 : USE S232), (g240 : REC S232), (g241 : EQR n S213 S232)⟩ => ?_)
              have w242 : S232 49 0 7 = S213 49 0 7 := f233 49 0 7 rfl
              have w243 : S232 49 0 15 = S213 49 0 15 := f233 49 0 15 rfl
              have g244 : SNP S232 := fx_pfr SNP_stab f233 rfl g216
              have g245 : SGM S232 := fx_pfr SGM_stab f233 rfl g226
              have g246 : LCM S232 := fx_pfr LCM_stab f233 rfl g227
              have nm : NMC n S232 := fun h => by exfalso; omega
              refine c_at2 (n := n) g235 (show 0 ≤ n ∧ n < 60 by omega) (fun (z247 : Int) (q248 : z247 = aN S232 n 2 ∧ -2147483648 ≤ z247 ∧ z247 < 2147483648) => ?_)
              refine And.intro (by decide) ?_
              refine And.intro (show 0 ≤ (2520 : Int) ∧ (2520 : Int) < 2561 by omega) ?_
              intro z249 (z249a : (-2147483648 : Int) ≤ z249) (z249b : z249 ≤ (2147483647 : Int)) (z249c : z249 = S232 50 0 2520)
              have dl0 := COL_dels g235
              refine And.intro (by decide) ?_
              refine And.intro (fun (h250 : ((40 : Int) ≤ z249 : Prop)) => ?_) (fun (h250 : (z249 < (40 : Int) : Prop)) => ?_)
              ·
                refine And.intro (by decide) ?_
                have dl : DLE n S232 := ⟨S232, DLT_0 g236 g237 g238 g239 nm⟩
                have rd : RECd S232 := g240.1
                have z0 : ZRW n (0 : Int) S232 := ZRW_0
                exact (z_StubHouseModel_remove p0 p1 p2 p3 p4 p5 p6 p7 p8 p9 hk (43 - (0 : Int)).toNat) (0 : Int) S232 (fxfr_tr (fxfr_tr (fxfr_up fxfr_rfl rfl) f214 rfl) f233 rfl) (by omega) (by omega) (by omega) (by omega) g235 g244 rd dl z0 g245 (by omega)
              ·
                refine c_StubHouseModel_isOnTape (d := z247) g245 (show -2147483648 ≤ z247 ∧ z247 < 2147483648 by omega) (fun (z251 : Int) (S252 : fxS) ⟨(f253 : fxfr [(65, 9999), (66, 9999), (67, 9999)] S232 S252), (q254 : 0 ≤ z251 ∧ z251 ≤ 1), (g255 : SGM S252)⟩ => ?_)
                have w256 : S252 49 0 7 = S232 49 0 7 := f253 49 0 7 rfl
                have w257 : S252 50 0 2520 = S232 50 0 2520 := f253 50 0 2520 rfl
                have w258 : S252 49 0 15 = S232 49 0 15 := f253 49 0 15 rfl
                have g259 : COL S252 := fx_pfr COL_stab f253 rfl g235
                have g260 : WTM S252 := fx_pfr WTM_stab f253 rfl g236
                have g261 : INJ S252 := fx_pfr INJ_stab f253 rfl g237
                have g262 : AON S252 := fx_pfr AON_stab f253 rfl g238
                have g263 : USE S252 := fx_pfr USE_stab f253 rfl g239
                have g264 : SNP S252 := fx_pfr SNP_stab f253 rfl g244
                have g265 : REC S252 := fx_pfr REC_stab f253 rfl g240
                have g266 : LCM S252 := fx_pfr LCM_stab f253 rfl g246
                have g267 : EQR n S213 S252 := fx_pfr EQR_stab f253 rfl g241
                have g268 : NMC n S252 := fx_pfr NMC_stab f253 rfl nm
                refine And.intro (fun (h269 : (z251 ≠ (0 : Int) : Prop)) => ?_) (fun (h269 : (z251 = (0 : Int) : Prop)) => ?_)
                ·
                  intro z270 (z270a : -2147483648 ≤ z270) (z270b : z270 < 2147483648) (z270c : -2147483648 ≤ ((2521 : Int) + z249) ∧ ((2521 : Int) + z249) < 2147483648 → z270 = ((2521 : Int) + z249))
                  refine And.intro (show 0 ≤ z270 ∧ z270 < 2561 by omega) ?_
                  refine And.intro (show (-2147483648 : Int) ≤ z247 ∧ z247 ≤ (2147483647 : Int) by omega) ?_
                  have w271 : (fx_up S252 50 0 (z270).toNat z247) 49 0 7 = S252 49 0 7 := rfl
                  have w272 : (fx_up S252 50 0 (z270).toNat z247) 49 0 15 = S252 49 0 15 := rfl
                  have g273 : COL (fx_up S252 50 0 (z270).toNat z247) := COL_tail g259 (by omega)
                  have g274 : WTM (fx_up S252 50 0 (z270).toNat z247) := WTM_tail g260 (by omega)
                  have g275 : INJ (fx_up S252 50 0 (z270).toNat z247) := INJ_tail g261 (by omega)
                  have g276 : AON (fx_up S252 50 0 (z270).toNat z247) := AON_tail g262 (by omega)
                  have g277 : USE (fx_up S252 50 0 (z270).toNat z247) := USE_tail g263 (by omega)
                  have g278 : SNP (fx_up S252 50 0 (z270).toNat z247) := fx_pup SNP_stab rfl g264
                  have g279 : REC (fx_up S252 50 0 (z270).toNat z247) := REC_tail g265 (by omega)
                  have g280 : SGM (fx_up S252 50 0 (z270).toNat z247) := fx_pup SGM_stab rfl g255
                  have g281 : LCM (fx_up S252 50 0 (z270).toNat z247) := fx_pup LCM_stab rfl g266
                  have g282 : EQR n S213 (fx_up S252 50 0 (z270).toNat z247) := EQR_tail g267 (by omega)
                  have g283 : NMC n (fx_up S252 50 0 (z270).toNat z247) := NMC_tail g268 (by omega) (by omega)
                  have d2 : (fx_up S252 50 0 (z270).toNat z247) 50 0 2520 = z249 := by rw [up_ne (by omega)]; omega
                  refine And.intro (show 0 ≤ z249 ∧ z249 < 40 by omega) ?_
                  refine And.intro (show (0 : Int) ≤ (0 : Int) ∧ (0 : Int) ≤ (1 : Int) by omega) ?_
                  have w284 : (fx_up (fx_up S252 50 0 (z270).toNat z247) 58 0 (z249).toNat (0 : Int)) 49 0 7 = (fx_up S252 50 0 (z270).toNat z247) 49 0 7 := rfl
                  have w285 : (fx_up (fx_up S252 50 0 (z270).toNat z247) 58 0 (z249).toNat (0 : Int)) 50 0 2520 = (fx_up S252 50 0 (z270).toNat z247) 50 0 2520 := rfl
                  have w286 : (fx_up (fx_up S252 50 0 (z270).toNat z247) 58 0 (z249).toNat (0 : Int)) 49 0 15 = (fx_up S252 50 0 (z270).toNat z247) 49 0 15 := rfl
                  have g287 : COL (fx_up (fx_up S252 50 0 (z270).toNat z247) 58 0 (z249).toNat (0 : Int)) := fx_pup COL_stab rfl g273
                  have g288 : WTM (fx_up (fx_up S252 50 0 (z270).toNat z247) 58 0 (z249).toNat (0 : Int)) := fx_pup WTM_stab rfl g274
                  have g289 : INJ (fx_up (fx_up S252 50 0 (z270).toNat z247) 58 0 (z249).toNat (0 : Int)) := fx_pup INJ_stab rfl g275
                  have g290 : AON (fx_up (fx_up S252 50 0 (z270).toNat z247) 58 0 (z249).toNat (0 : Int)) := fx_pup AON_stab rfl g276
                  have g291 : USE (fx_up (fx_up S252 50 0 (z270).toNat z247) 58 0 (z249).toNat (0 : Int)) := fx_pup USE_stab rfl g277
                  have g292 : SNP (fx_up (fx_up S252 50 0 (z270).toNat z247) 58 0 (z249).toNat (0 : Int)) := fx_pup SNP_stab rfl g278
                  have g293 : REC (fx_up (fx_up S252 50 0 (z270).toNat z247) 58 0 (z249).toNat (0 : Int)) := fx_pup REC_stab rfl g279
                  have g294 : SGM (fx_up (fx_up S252 50 0 (z270).toNat z247) 58 0 (z249).toNat (0 : Int)) := fx_pup SGM_stab rfl g280
                  have g295 : LCM (fx_up (fx_up S252 50 0 (z270).toNat z247) 58 0 (z249).toNat (0 : Int)) := fx_pup LCM_stab rfl g281
                  have g296 : EQR n S213 (fx_up (fx_up S252 50 0 (z270).toNat z247) 58 0 (z249).toNat (0 : Int)) := fx_pup EQR_stab rfl g282
                  have g297 : NMC n (fx_up (fx_up S252 50 0 (z270).toNat z247) 58 0 (z249).toNat (0 : Int)) := fx_pup NMC_stab rfl g283
                  refine And.intro (show 0 ≤ (2520 : Int) ∧ (2520 : Int) < 2561 by omega) ?_
                  intro z298 (z298a : (-2147483648 : Int) ≤ z298) (z298b : z298 ≤ (2147483647 : Int)) (z298c : z298 = (fx_up S252 50 0 (z270).toNat z247) 50 0 2520)
                  intro z299 (z299a : -2147483648 ≤ z299) (z299b : z299 < 2147483648) (z299c : -2147483648 ≤ (z298 + (1 : Int)) ∧ (z298 + (1 : Int)) < 2147483648 → z299 = (z298 + (1 : Int)))
                  refine And.intro (show 0 ≤ (2520 : Int) ∧ (2520 : Int) < 2561 by omega) ?_
                  refine And.intro (show (-2147483648 : Int) ≤ z299 ∧ z299 ≤ (2147483647 : Int) by omega) ?_
                  have w300 : (fx_up (fx_up (fx_up S252 50 0 (z270).toNat z247) 58 0 (z249).toNat (0 : Int)) 50 0 2520 z299) 49 0 7 = (fx_up (fx_up S252 50 0 (z270).toNat z247) 58 0 (z249).toNat (0 : Int)) 49 0 7 := rfl
                  have w301 : (fx_up (fx_up (fx_up S252 50 0 (z270).toNat z247) 58 0 (z249).toNat (0 : Int)) 50 0 2520 z299) 50 0 2520 = z299 := fx_up_at _ _ _ _ _
                  have w302 : (fx_up (fx_up (fx_up S252 50 0 (z270).toNat z247) 58 0 (z249).toNat (0 : Int)) 50 0 2520 z299) 49 0 15 = (fx_up (fx_up S252 50 0 (z270).toNat z247) 58 0 (z249).toNat (0 : Int)) 49 0 15 := rfl
                  have g303 : COL (fx_up (fx_up (fx_up S252 50 0 (z270).toNat z247) 58 0 (z249).toNat (0 : Int)) 50 0 2520 z299) := COL_del g287 (by omega)
                  have g304 : WTM (fx_up (fx_up (fx_up S252 50 0 (z270).toNat z247) 58 0 (z249).toNat (0 : Int)) 50 0 2520 z299) := WTM_tail g288 (by omega)
                  have g305 : INJ (fx_up (fx_up (fx_up S252 50 0 (z270).toNat z247) 58 0 (z249).toNat (0 : Int)) 50 0 2520 z299) := INJ_tail g289 (by omega)
                  have g306 : AON (fx_up (fx_up (fx_up S252 50 0 (z270).toNat z247) 58 0 (z249).toNat (0 : Int)) 50 0 2520 z299) := AON_tail g290 (by omega)
                  have g307 : USE (fx_up (fx_up (fx_up S252 50 0 (z270).toNat z247) 58 0 (z249).toNat (0 : Int)) 50 0 2520 z299) := USE_tail g291 (by omega)
                  have g308 : SNP (fx_up (fx_up (fx_up S252 50 0 (z270).toNat z247) 58 0 (z249).toNat (0 : Int)) 50 0 2520 z299) := fx_pup SNP_stab rfl g292
                  have g309 : REC (fx_up (fx_up (fx_up S252 50 0 (z270).toNat z247) 58 0 (z249).toNat (0 : Int)) 50 0 2520 z299) := REC_tail g293 (by omega)
                  have g310 : SGM (fx_up (fx_up (fx_up S252 50 0 (z270).toNat z247) 58 0 (z249).toNat (0 : Int)) 50 0 2520 z299) := fx_pup SGM_stab rfl g294
                  have g311 : LCM (fx_up (fx_up (fx_up S252 50 0 (z270).toNat z247) 58 0 (z249).toNat (0 : Int)) 50 0 2520 z299) := fx_pup LCM_stab rfl g295
                  have g312 : EQR n S213 (fx_up (fx_up (fx_up S252 50 0 (z270).toNat z247) 58 0 (z249).toNat (0 : Int)) 50 0 2520 z299) := EQR_tail g296 (by omega)
                  have g313 : NMC n (fx_up (fx_up (fx_up S252 50 0 (z270).toNat z247) 58 0 (z249).toNat (0 : Int)) 50 0 2520 z299) := NMC_tail g297 (by omega) (by omega)
                  refine And.intro (by decide) ?_
                  have dl : DLE n (fx_up (fx_up (fx_up S252 50 0 (z270).toNat z247) 58 0 (z249).toNat (0 : Int)) 50 0 2520 z299) := ⟨(fx_up (fx_up (fx_up S252 50 0 (z270).toNat z247) 58 0 (z249).toNat (0 : Int)) 50 0 2520 z299), DLT_0 g304 g305 g306 g307 g313⟩
                  have rd : RECd (fx_up (fx_up (fx_up S252 50 0 (z270).toNat z247) 58 0 (z249).toNat (0 : Int)) 50 0 2520 z299) := g309.1
                  have z0 : ZRW n (0 : Int) (fx_up (fx_up (fx_up S252 50 0 (z270).toNat z247) 58 0 (z249).toNat (0 : Int)) 50 0 2520 z299) := ZRW_0
                  exact (z_StubHouseModel_remove p0 p1 p2 p3 p4 p5 p6 p7 p8 p9 hk (43 - (0 : Int)).toNat) (0 : Int) (fx_up (fx_up (fx_up S252 50 0 (z270).toNat z247) 58 0 (z249).toNat (0 : Int)) 50 0 2520 z299) (fxfr_up (fxfr_up (fxfr_up (fxfr_tr (fxfr_tr (fxfr_tr (fxfr_up fxfr_rfl rfl) f214 rfl) f233 rfl) f253 rfl) rfl) rfl) rfl) (by omega) (by omega) (by omega) (by omega) g303 g308 rd dl z0 g310 (by omega)
                ·
                  refine c_StubHouseModel_isBeingWritten (d := z247) (show -2147483648 ≤ z247 ∧ z247 < 2147483648 by omega) (fun (z314 : Int) (q315 : 0 ≤ z314 ∧ z314 ≤ 1) => ?_)
                  refine And.intro (fun (h316 : (z314 = (0 : Int) : Prop)) => ?_) (fun (h316 : (z314 ≠ (0 : Int) : Prop)) => ?_)
                  ·
                    refine And.intro (by decide) ?_
                    have dl : DLE n S252 := ⟨S252, DLT_0 g260 g261 g262 g263 g268⟩
                    have rd : RECd S252 := g265.1
                    have z0 : ZRW n (0 : Int) S252 := ZRW_0
                    exact (z_StubHouseModel_remove p0 p1 p2 p3 p4 p5 p6 p7 p8 p9 hk (43 - (0 : Int)).toNat) (0 : Int) S252 (fxfr_tr (fxfr_tr (fxfr_tr (fxfr_up fxfr_rfl rfl) f214 rfl) f233 rfl) f253 rfl) (by omega) (by omega) (by omega) (by omega) g259 g264 rd dl z0 g255 (by omega)
                  ·
                    intro z317 (z317a : -2147483648 ≤ z317) (z317b : z317 < 2147483648) (z317c : -2147483648 ≤ ((2521 : Int) + z249) ∧ ((2521 : Int) + z249) < 2147483648 → z317 = ((2521 : Int) + z249))
                    refine And.intro (show 0 ≤ z317 ∧ z317 < 2561 by omega) ?_
                    refine And.intro (show (-2147483648 : Int) ≤ z247 ∧ z247 ≤ (2147483647 : Int) by omega) ?_
                    have w318 : (fx_up S252 50 0 (z317).toNat z247) 49 0 7 = S252 49 0 7 := rfl
                    have w319 : (fx_up S252 50 0 (z317).toNat z247) 49 0 15 = S252 49 0 15 := rfl
                    have g320 : COL (fx_up S252 50 0 (z317).toNat z247) := COL_tail g259 (by omega)
                    have g321 : WTM (fx_up S252 50 0 (z317).toNat z247) := WTM_tail g260 (by omega)
                    have g322 : INJ (fx_up S252 50 0 (z317).toNat z247) := INJ_tail g261 (by omega)
                    have g323 : AON (fx_up S252 50 0 (z317).toNat z247) := AON_tail g262 (by omega)
                    have g324 : USE (fx_up S252 50 0 (z317).toNat z247) := USE_tail g263 (by omega)
                    have g325 : SNP (fx_up S252 50 0 (z317).toNat z247) := fx_pup SNP_stab rfl g264
                    have g326 : REC (fx_up S252 50 0 (z317).toNat z247) := REC_tail g265 (by omega)
                    have g327 : SGM (fx_up S252 50 0 (z317).toNat z247) := fx_pup SGM_stab rfl g255
                    have g328 : LCM (fx_up S252 50 0 (z317).toNat z247) := fx_pup LCM_stab rfl g266
                    have g329 : EQR n S213 (fx_up S252 50 0 (z317).toNat z247) := EQR_tail g267 (by omega)
                    have g330 : NMC n (fx_up S252 50 0 (z317).toNat z247) := NMC_tail g268 (by omega) (by omega)
                    have d2 : (fx_up S252 50 0 (z317).toNat z247) 50 0 2520 = z249 := by rw [up_ne (by omega)]; omega
                    refine And.intro (show 0 ≤ z249 ∧ z249 < 40 by omega) ?_
                    refine And.intro (show (0 : Int) ≤ (0 : Int) ∧ (0 : Int) ≤ (1 : Int) by omega) ?_
                    have w331 : (fx_up (fx_up S252 50 0 (z317).toNat z247) 58 0 (z249).toNat (0 : Int)) 49 0 7 = (fx_up S252 50 0 (z317).toNat z247) 49 0 7 := rfl
                    have w332 : (fx_up (fx_up S252 50 0 (z317).toNat z247) 58 0 (z249).toNat (0 : Int)) 50 0 2520 = (fx_up S252 50 0 (z317).toNat z247) 50 0 2520 := rfl
                    have w333 : (fx_up (fx_up S252 50 0 (z317).toNat z247) 58 0 (z249).toNat (0 : Int)) 49 0 15 = (fx_up S252 50 0 (z317).toNat z247) 49 0 15 := rfl
                    have g334 : COL (fx_up (fx_up S252 50 0 (z317).toNat z247) 58 0 (z249).toNat (0 : Int)) := fx_pup COL_stab rfl g320
                    have g335 : WTM (fx_up (fx_up S252 50 0 (z317).toNat z247) 58 0 (z249).toNat (0 : Int)) := fx_pup WTM_stab rfl g321
                    have g336 : INJ (fx_up (fx_up S252 50 0 (z317).toNat z247) 58 0 (z249).toNat (0 : Int)) := fx_pup INJ_stab rfl g322
                    have g337 : AON (fx_up (fx_up S252 50 0 (z317).toNat z247) 58 0 (z249).toNat (0 : Int)) := fx_pup AON_stab rfl g323
                    have g338 : USE (fx_up (fx_up S252 50 0 (z317).toNat z247) 58 0 (z249).toNat (0 : Int)) := fx_pup USE_stab rfl g324
                    have g339 : SNP (fx_up (fx_up S252 50 0 (z317).toNat z247) 58 0 (z249).toNat (0 : Int)) := fx_pup SNP_stab rfl g325
                    have g340 : REC (fx_up (fx_up S252 50 0 (z317).toNat z247) 58 0 (z249).toNat (0 : Int)) := fx_pup REC_stab rfl g326
                    have g341 : SGM (fx_up (fx_up S252 50 0 (z317).toNat z247) 58 0 (z249).toNat (0 : Int)) := fx_pup SGM_stab rfl g327
                    have g342 : LCM (fx_up (fx_up S252 50 0 (z317).toNat z247) 58 0 (z249).toNat (0 : Int)) := fx_pup LCM_stab rfl g328
                    have g343 : EQR n S213 (fx_up (fx_up S252 50 0 (z317).toNat z247) 58 0 (z249).toNat (0 : Int)) := fx_pup EQR_stab rfl g329
                    have g344 : NMC n (fx_up (fx_up S252 50 0 (z317).toNat z247) 58 0 (z249).toNat (0 : Int)) := fx_pup NMC_stab rfl g330
                    refine And.intro (show 0 ≤ (2520 : Int) ∧ (2520 : Int) < 2561 by omega) ?_
                    intro z345 (z345a : (-2147483648 : Int) ≤ z345) (z345b : z345 ≤ (2147483647 : Int)) (z345c : z345 = (fx_up S252 50 0 (z317).toNat z247) 50 0 2520)
                    intro z346 (z346a : -2147483648 ≤ z346) (z346b : z346 < 2147483648) (z346c : -2147483648 ≤ (z345 + (1 : Int)) ∧ (z345 + (1 : Int)) < 2147483648 → z346 = (z345 + (1 : Int)))
                    refine And.intro (show 0 ≤ (2520 : Int) ∧ (2520 : Int) < 2561 by omega) ?_
                    refine And.intro (show (-2147483648 : Int) ≤ z346 ∧ z346 ≤ (2147483647 : Int) by omega) ?_
                    have w347 : (fx_up (fx_up (fx_up S252 50 0 (z317).toNat z247) 58 0 (z249).toNat (0 : Int)) 50 0 2520 z346) 49 0 7 = (fx_up (fx_up S252 50 0 (z317).toNat z247) 58 0 (z249).toNat (0 : Int)) 49 0 7 := rfl
                    have w348 : (fx_up (fx_up (fx_up S252 50 0 (z317).toNat z247) 58 0 (z249).toNat (0 : Int)) 50 0 2520 z346) 50 0 2520 = z346 := fx_up_at _ _ _ _ _
                    have w349 : (fx_up (fx_up (fx_up S252 50 0 (z317).toNat z247) 58 0 (z249).toNat (0 : Int)) 50 0 2520 z346) 49 0 15 = (fx_up (fx_up S252 50 0 (z317).toNat z247) 58 0 (z249).toNat (0 : Int)) 49 0 15 := rfl
                    have g350 : COL (fx_up (fx_up (fx_up S252 50 0 (z317).toNat z247) 58 0 (z249).toNat (0 : Int)) 50 0 2520 z346) := COL_del g334 (by omega)
                    have g351 : WTM (fx_up (fx_up (fx_up S252 50 0 (z317).toNat z247) 58 0 (z249).toNat (0 : Int)) 50 0 2520 z346) := WTM_tail g335 (by omega)
                    have g352 : INJ (fx_up (fx_up (fx_up S252 50 0 (z317).toNat z247) 58 0 (z249).toNat (0 : Int)) 50 0 2520 z346) := INJ_tail g336 (by omega)
                    have g353 : AON (fx_up (fx_up (fx_up S252 50 0 (z317).toNat z247) 58 0 (z249).toNat (0 : Int)) 50 0 2520 z346) := AON_tail g337 (by omega)
                    have g354 : USE (fx_up (fx_up (fx_up S252 50 0 (z317).toNat z247) 58 0 (z249).toNat (0 : Int)) 50 0 2520 z346) := USE_tail g338 (by omega)
                    have g355 : SNP (fx_up (fx_up (fx_up S252 50 0 (z317).toNat z247) 58 0 (z249).toNat (0 : Int)) 50 0 2520 z346) := fx_pup SNP_stab rfl g339
                    have g356 : REC (fx_up (fx_up (fx_up S252 50 0 (z317).toNat z247) 58 0 (z249).toNat (0 : Int)) 50 0 2520 z346) := REC_tail g340 (by omega)
                    have g357 : SGM (fx_up (fx_up (fx_up S252 50 0 (z317).toNat z247) 58 0 (z249).toNat (0 : Int)) 50 0 2520 z346) := fx_pup SGM_stab rfl g341
                    have g358 : LCM (fx_up (fx_up (fx_up S252 50 0 (z317).toNat z247) 58 0 (z249).toNat (0 : Int)) 50 0 2520 z346) := fx_pup LCM_stab rfl g342
                    have g359 : EQR n S213 (fx_up (fx_up (fx_up S252 50 0 (z317).toNat z247) 58 0 (z249).toNat (0 : Int)) 50 0 2520 z346) := EQR_tail g343 (by omega)
                    have g360 : NMC n (fx_up (fx_up (fx_up S252 50 0 (z317).toNat z247) 58 0 (z249).toNat (0 : Int)) 50 0 2520 z346) := NMC_tail g344 (by omega) (by omega)
                    refine And.intro (by decide) ?_
                    have dl : DLE n (fx_up (fx_up (fx_up S252 50 0 (z317).toNat z247) 58 0 (z249).toNat (0 : Int)) 50 0 2520 z346) := ⟨(fx_up (fx_up (fx_up S252 50 0 (z317).toNat z247) 58 0 (z249).toNat (0 : Int)) 50 0 2520 z346), DLT_0 g351 g352 g353 g354 g360⟩
                    have rd : RECd (fx_up (fx_up (fx_up S252 50 0 (z317).toNat z247) 58 0 (z249).toNat (0 : Int)) 50 0 2520 z346) := g356.1
                    have z0 : ZRW n (0 : Int) (fx_up (fx_up (fx_up S252 50 0 (z317).toNat z247) 58 0 (z249).toNat (0 : Int)) 50 0 2520 z346) := ZRW_0
                    exact (z_StubHouseModel_remove p0 p1 p2 p3 p4 p5 p6 p7 p8 p9 hk (43 - (0 : Int)).toNat) (0 : Int) (fx_up (fx_up (fx_up S252 50 0 (z317).toNat z247) 58 0 (z249).toNat (0 : Int)) 50 0 2520 z346) (fxfr_up (fxfr_up (fxfr_up (fxfr_tr (fxfr_tr (fxfr_tr (fxfr_up fxfr_rfl rfl) f214 rfl) f233 rfl) f253 rfl) rfl) rfl) rfl) (by omega) (by omega) (by omega) (by omega) g350 g355 rd dl z0 g357 (by omega)
          ·
            exact hk (-6 : Int) (fx_up S 49 0 0 (0 : Int)) ⟨(fxfr_up fxfr_rfl rfl), by omega, g42, g43, g44, g45, g46, g47, g48, g49, g50⟩
      ·
        exact hk (-1 : Int) (fx_up S 49 0 0 (0 : Int)) ⟨(fxfr_up fxfr_rfl rfl), by omega, g42, g43, g44, g45, g46, g47, g48, g49, g50⟩
  ·
    exact hk (-8 : Int) (fx_up S 49 0 0 (0 : Int)) ⟨(fxfr_up fxfr_rfl rfl), by omega, g42, g43, g44, g45, g46, g47, g48, g49, g50⟩
theorem z_StubHouseModel_isLive {l : Launch} {k : fxK} {S : fxS} {t : Int} {i : Int} (p0 : COL S) (p1 : SGM S) (p2 : 0 ≤ t ∧ t ≤ 5) (p3 : 0 ≤ i ∧ i < 300) (hk : ∀ (r : Int) (S' : fxS) , (fxfr [(65, 9999), (66, 9999), (67, 9999)] S S' ∧ (0 ≤ r ∧ r ≤ 1) ∧ (SGM S') ∧ (KPA S S')) → k (some (.inl r)) S') : ∀ m : Nat, (∀ (d p j : Int) (S1 : fxS), (fxfr [(65, 9999), (66, 9999), (67, 9999)] S S1) → (1 ≤ j ∧ j ≤ 60) → (-2147483648 ≤ d ∧ d < 2147483648) → (-2147483648 ≤ p ∧ p < 2147483648) → (COL S1) → (SGM S1) → (KPA S S1) → 100000 - j ≤ (m : Int) → fZ l 261 k 37 [some (.inr (.inr (49, 0))), some (.inl t), some (.inl i), some (.inl d), some (.inl p), some (.inl j), none, none, none] [] S1) ∧ (∀ (d a u : Int) (S1 : fxS), (fxfr [(65, 9999), (66, 9999), (67, 9999)] S S1) → (-2147483648 ≤ d ∧ d < 2147483648) → (0 ≤ u ∧ u ≤ 6) → (0 ≤ a ∧ a ≤ 1) → (COL S1) → (SGM S1) → (KPA S S1) → (7 - u) * 1000 + 500 ≤ (m : Int) → fZ l 261 k 101 [some (.inr (.inr (49, 0))), some (.inl t), some (.inl i), some (.inl d), none, some (.inl a), some (.inl u), none, none] [] S1) ∧ (∀ (d a u j : Int) (S1 : fxS), (fxfr [(65, 9999), (66, 9999), (67, 9999)] S S1) → (-2147483648 ≤ d ∧ d < 2147483648) → (0 ≤ u ∧ u < 6) → (0 ≤ a ∧ a ≤ 1) → (0 ≤ j ∧ j ≤ 285) → (COL S1) → (SGM S1) → (KPA S S1) → (7 - u) * 1000 + 300 - j ≤ (m : Int) → fZ l 261 k 111 [some (.inr (.inr (49, 0))), some (.inl t), some (.inl i), some (.inl d), none, some (.inl a), some (.inl u), some (.inl j), none] [] S1) := by
  intro m
  induction m with
  | zero =>
    refine ⟨?_, ?_, ?_⟩
    · intro d p j S1 hf i0 i1 i2 i3 i4 i5 hmu
      exfalso
      omega
    · intro d a u S1 hf i0 i1 i2 i3 i4 i5 hmu
      exfalso
      omega
    · intro d a u j S1 hf i0 i1 i2 i3 i4 i5 i6 hmu
      exfalso
      omega
  | succ m ih =>
    refine ⟨?_, ?_, ?_⟩
    · intro d p j S1 hf i0 i1 i2 i3 i4 i5 hmu
      refine fxz_261 400 ?_
      refine And.intro (fun (h1 : ((60 : Int) ≤ j : Prop)) => ?_) (fun (h1 : (j < (60 : Int) : Prop)) => ?_)
      ·
        refine And.intro (by decide) ?_
        refine And.intro (by decide) ?_
        exact ih.2.1 d (0 : Int) (0 : Int) S1 hf (by omega) (by omega) (by omega) i3 i4 i5 (by omega)
      ·
        intro z2 (z2a : (0 : Int) ≤ z2) (z2b : z2 ≤ (1 : Int)) (z2c : z2 = S1 49 0 15)
        refine And.intro (fun (h3 : (z2 ≠ (0 : Int) : Prop)) => ?_) (fun (h3 : (z2 = (0 : Int) : Prop)) => ?_)
        ·
          refine And.intro (by decide) ?_
          refine And.intro (by decide) ?_
          exact ih.2.1 d (0 : Int) (0 : Int) S1 hf (by omega) (by omega) (by omega) i3 i4 i5 (by omega)
        ·
          refine c_at0 (n := j) i3 (show 0 ≤ j ∧ j < 60 by omega) (fun (z4 : Int) (q5 : z4 = aN S1 j 0 ∧ 0 ≤ z4 ∧ z4 ≤ 2) => ?_)
          refine And.intro (fun (h6 : (z4 ≠ (2 : Int) : Prop)) => ?_) (fun (h6 : (z4 = (2 : Int) : Prop)) => ?_)
          ·
            refine And.intro (by decide) (And.intro (show -2147483648 ≤ j + (1 : Int) ∧ j + (1 : Int) < 2147483648 by omega) ?_)
            exact ih.1 d p (j + (1 : Int)) S1 hf (by omega) (by omega) (by omega) i3 i4 i5 (by omega)
          ·
            refine c_StubHouseModel_copyAt (f := j) (t := t) (p := p) i3 (show 0 ≤ j ∧ j < 60 by omega) (show -2147483648 ≤ t ∧ t < 2147483648 by omega) (show -2147483648 ≤ p ∧ p < 2147483648 by omega) (fun (z8 : Int) (q9 : -2 ≤ z8 ∧ z8 ≤ 1 ∧ z8 ≠ -1 ∧ (0 ≤ z8 → z8 < aN S1 j 5) ∧ (0 ≤ z8 → CAT j t p S1) ∧ (z8 < 0 → ¬ CAT j t p S1)) => ?_)
            refine And.intro (fun (h10 : (z8 < (0 : Int) : Prop)) => ?_) (fun (h10 : ((0 : Int) ≤ z8 : Prop)) => ?_)
            ·
              refine And.intro (by decide) (And.intro (show -2147483648 ≤ j + (1 : Int) ∧ j + (1 : Int) < 2147483648 by omega) ?_)
              exact ih.1 d p (j + (1 : Int)) S1 hf (by omega) (by omega) (by omega) i3 i4 i5 (by omega)
            ·
              refine c_StubHouseModel_fits (f := j) (t := t) (p := p) i3 i4 (show 0 ≤ j ∧ j < 60 by omega) (show 0 ≤ t ∧ t ≤ 5 by omega) (show -2147483648 ≤ p ∧ p < 2147483648 by omega) (fun (z12 : Int) (S13 : fxS) ⟨(f14 : fxfr [(65, 9999), (66, 9999), (67, 9999)] S1 S13), (q15 : -2 ≤ z12 ∧ z12 ≤ 284 ∧ z12 ≠ -1 ∧ (0 ≤ z12 → sgN S13 (300 * t + z12) 0 = p ∧ sgN S13 (300 * t + z12) 1 = 1 ∧ sgN S13 (300 * t + z12) 6 = aN S13 j 3)), (g16 : SGM S13), (g17 : KPA S1 S13)⟩ => ?_)
              have g18 : COL S13 := fx_pfr COL_stab f14 rfl i3
              have g19 : KPA S S13 := KPA_tr i5 g17
              refine And.intro (fun (h20 : (z12 ≠ i : Prop)) => ?_) (fun (h20 : (z12 = i : Prop)) => ?_)
              ·
                refine And.intro (by decide) (And.intro (show -2147483648 ≤ j + (1 : Int) ∧ j + (1 : Int) < 2147483648 by omega) ?_)
                exact ih.1 d p (j + (1 : Int)) S13 (fxfr_tr hf f14 rfl) (by omega) (by omega) (by omega) g18 g16 g19 (by omega)
              ·
                refine And.intro (show 0 ≤ (1 : Int) ∧ (1 : Int) ≤ 1 by omega) ?_
                exact hk (1 : Int) S13 ⟨(fxfr_tr hf f14 rfl), by omega, g16, g19⟩
    · intro d a u S1 hf i0 i1 i2 i3 i4 i5 hmu
      refine fxz_261 400 ?_
      refine And.intro (fun (h22 : ((6 : Int) ≤ u : Prop)) => ?_) (fun (h22 : (u < (6 : Int) : Prop)) => ?_)
      ·
        refine c_StubHouseModel_seg (t := t) (i := i) (w := (1 : Int)) (show 0 ≤ t ∧ t ≤ 5 by omega) (show 0 ≤ i ∧ i < 300 by omega) (show 0 ≤ (1 : Int) ∧ (1 : Int) < 8 by omega) (fun (z23 : Int) (q24 : z23 = sgN S1 (300 * t + i) (1 : Int) ∧ -2147483648 ≤ z23 ∧ z23 < 2147483648) => ?_)
        refine And.intro (fun (h25 : (z23 = (1 : Int) : Prop)) => ?_) (fun (h25 : (z23 ≠ (1 : Int) : Prop)) => ?_)
        ·
          refine And.intro (show 0 ≤ (1 : Int) ∧ (1 : Int) ≤ 1 by omega) ?_
          exact hk (1 : Int) S1 ⟨hf, by omega, i4, i5⟩
        ·
          refine And.intro (fun (h26 : (a = (0 : Int) : Prop)) => ?_) (fun (h26 : (a ≠ (0 : Int) : Prop)) => ?_)
          ·
            refine And.intro (show 0 ≤ (0 : Int) ∧ (0 : Int) ≤ 1 by omega) ?_
            exact hk (0 : Int) S1 ⟨hf, by omega, i4, i5⟩
          ·
            refine And.intro (show 0 ≤ (1 : Int) ∧ (1 : Int) ≤ 1 by omega) ?_
            exact hk (1 : Int) S1 ⟨hf, by omega, i4, i5⟩
      ·
        refine And.intro (by decide) ?_
        exact ih.2.2 d a u (0 : Int) S1 hf (by omega) (by omega) (by omega) (by omega) i3 i4 i5 (by omega)
    · intro d a u j S1 hf i0 i1 i2 i3 i4 i5 i6 hmu
      refine fxz_261 400 ?_
      refine And.intro (show 0 ≤ u ∧ u < 6 by omega) ?_
      intro z27 (z27a : (0 : Int) ≤ z27) (z27b : z27 ≤ (285 : Int)) (z27c : z27 = S1 66 0 (u).toNat)
      refine And.intro (fun (h28 : (z27 ≤ j : Prop)) => ?_) (fun (h28 : (j < z27 : Prop)) => ?_)
      ·
        refine And.intro (by decide) (And.intro (show -2147483648 ≤ u + (1 : Int) ∧ u + (1 : Int) < 2147483648 by omega) ?_)
        exact ih.2.1 d a (u + (1 : Int)) S1 hf (by omega) (by omega) (by omega) i4 i5 i6 (by omega)
      ·
        refine c_StubHouseModel_seg (t := u) (i := j) (w := (2 : Int)) (show 0 ≤ u ∧ u ≤ 5 by omega) (show 0 ≤ j ∧ j < 300 by omega) (show 0 ≤ (2 : Int) ∧ (2 : Int) < 8 by omega) (fun (z30 : Int) (q31 : z30 = sgN S1 (300 * u + j) (2 : Int) ∧ -2147483648 ≤ z30 ∧ z30 < 2147483648) => ?_)
        refine And.intro (fun (h32 : (z30 ≠ d : Prop)) => ?_) (fun (h32 : (z30 = d : Prop)) => ?_)
        ·
          refine And.intro (by decide) (And.intro (show -2147483648 ≤ j + (1 : Int) ∧ j + (1 : Int) < 2147483648 by omega) ?_)
          exact ih.2.2 d a u (j + (1 : Int)) S1 hf (by omega) (by omega) (by omega) (by omega) i4 i5 i6 (by omega)
        ·
          refine c_StubHouseModel_seg (t := u) (i := j) (w := (7 : Int)) (show 0 ≤ u ∧ u ≤ 5 by omega) (show 0 ≤ j ∧ j < 300 by omega) (show 0 ≤ (7 : Int) ∧ (7 : Int) < 8 by omega) (fun (z34 : Int) (q35 : z34 = sgN S1 (300 * u + j) (7 : Int) ∧ -2147483648 ≤ z34 ∧ z34 < 2147483648) => ?_)
          refine And.intro (fun (h36 : (z34 ≠ (1 : Int) : Prop)) => ?_) (fun (h36 : (z34 = (1 : Int) : Prop)) => ?_)
          ·
            refine And.intro (by decide) ?_
            refine And.intro (fun _ => ?_) (fun h => absurd h (by decide))
            refine And.intro (fun (h37 : (a ≠ (0 : Int) : Prop)) => ?_) (fun (h37 : (a = (0 : Int) : Prop)) => ?_)
            ·
              refine And.intro (by decide) ?_
              refine And.intro (by decide) (And.intro (show -2147483648 ≤ j + (1 : Int) ∧ j + (1 : Int) < 2147483648 by omega) ?_)
              exact ih.2.2 d (1 : Int) u (j + (1 : Int)) S1 hf (by omega) (by omega) (by omega) (by omega) i4 i5 i6 (by omega)
            ·
              refine And.intro (fun (h39 : (u = t : Prop)) => ?_) (fun (h39 : (u ≠ t : Prop)) => ?_)
              ·
                refine And.intro (by decide) ?_
                refine And.intro (by decide) (And.intro (show -2147483648 ≤ j + (1 : Int) ∧ j + (1 : Int) < 2147483648 by omega) ?_)
                exact ih.2.2 d (0 : Int) u (j + (1 : Int)) S1 hf (by omega) (by omega) (by omega) (by omega) i4 i5 i6 (by omega)
              ·
                refine And.intro (by decide) ?_
                refine And.intro (by decide) (And.intro (show -2147483648 ≤ j + (1 : Int) ∧ j + (1 : Int) < 2147483648 by omega) ?_)
                exact ih.2.2 d (1 : Int) u (j + (1 : Int)) S1 hf (by omega) (by omega) (by omega) (by omega) i4 i5 i6 (by omega)
          ·
            refine And.intro (by decide) ?_
            refine And.intro (fun h => absurd h (by decide)) (fun _ => ?_)
            refine c_StubHouseModel_seg (t := u) (i := j) (w := (4 : Int)) (show 0 ≤ u ∧ u ≤ 5 by omega) (show 0 ≤ j ∧ j < 300 by omega) (show 0 ≤ (4 : Int) ∧ (4 : Int) < 8 by omega) (fun (z42 : Int) (q43 : z42 = sgN S1 (300 * u + j) (4 : Int) ∧ -2147483648 ≤ z42 ∧ z42 < 2147483648) => ?_)
            refine c_StubHouseModel_seg (t := t) (i := i) (w := (4 : Int)) (show 0 ≤ t ∧ t ≤ 5 by omega) (show 0 ≤ i ∧ i < 300 by omega) (show 0 ≤ (4 : Int) ∧ (4 : Int) < 8 by omega) (fun (z44 : Int) (q45 : z44 = sgN S1 (300 * t + i) (4 : Int) ∧ -2147483648 ≤ z44 ∧ z44 < 2147483648) => ?_)
            refine And.intro (fun (h46 : (z44 < z42 : Prop)) => ?_) (fun (h46 : (z42 ≤ z44 : Prop)) => ?_)
            ·
              refine And.intro (show 0 ≤ (0 : Int) ∧ (0 : Int) ≤ 1 by omega) ?_
              exact hk (0 : Int) S1 ⟨hf, by omega, i5, i6⟩
            ·
              refine And.intro (fun (h47 : (u = t : Prop)) => ?_) (fun (h47 : (u ≠ t : Prop)) => ?_)
              ·
                refine And.intro (fun (h48 : (a ≠ (0 : Int) : Prop)) => ?_) (fun (h48 : (a = (0 : Int) : Prop)) => ?_)
                ·
                  refine And.intro (by decide) ?_
                  refine And.intro (by decide) (And.intro (show -2147483648 ≤ j + (1 : Int) ∧ j + (1 : Int) < 2147483648 by omega) ?_)
                  exact ih.2.2 d (1 : Int) u (j + (1 : Int)) S1 hf (by omega) (by omega) (by omega) (by omega) i4 i5 i6 (by omega)
                ·
                  refine And.intro (fun (h50 : (u = t : Prop)) => ?_) (fun (h50 : (u ≠ t : Prop)) => ?_)
                  ·
                    refine And.intro (by decide) ?_
                    refine And.intro (by decide) (And.intro (show -2147483648 ≤ j + (1 : Int) ∧ j + (1 : Int) < 2147483648 by omega) ?_)
                    exact ih.2.2 d (0 : Int) u (j + (1 : Int)) S1 hf (by omega) (by omega) (by omega) (by omega) i4 i5 i6 (by omega)
                  ·
                    refine And.intro (by decide) ?_
                    refine And.intro (by decide) (And.intro (show -2147483648 ≤ j + (1 : Int) ∧ j + (1 : Int) < 2147483648 by omega) ?_)
                    exact ih.2.2 d (1 : Int) u (j + (1 : Int)) S1 hf (by omega) (by omega) (by omega) (by omega) i4 i5 i6 (by omega)
              ·
                refine c_StubHouseModel_seg (t := u) (i := j) (w := (4 : Int)) (show 0 ≤ u ∧ u ≤ 5 by omega) (show 0 ≤ j ∧ j < 300 by omega) (show 0 ≤ (4 : Int) ∧ (4 : Int) < 8 by omega) (fun (z53 : Int) (q54 : z53 = sgN S1 (300 * u + j) (4 : Int) ∧ -2147483648 ≤ z53 ∧ z53 < 2147483648) => ?_)
                refine c_StubHouseModel_seg (t := t) (i := i) (w := (4 : Int)) (show 0 ≤ t ∧ t ≤ 5 by omega) (show 0 ≤ i ∧ i < 300 by omega) (show 0 ≤ (4 : Int) ∧ (4 : Int) < 8 by omega) (fun (z55 : Int) (q56 : z55 = sgN S1 (300 * t + i) (4 : Int) ∧ -2147483648 ≤ z55 ∧ z55 < 2147483648) => ?_)
                refine And.intro (fun (h57 : (z53 ≠ z55 : Prop)) => ?_) (fun (h57 : (z53 = z55 : Prop)) => ?_)
                ·
                  refine And.intro (fun (h58 : (a ≠ (0 : Int) : Prop)) => ?_) (fun (h58 : (a = (0 : Int) : Prop)) => ?_)
                  ·
                    refine And.intro (by decide) ?_
                    refine And.intro (by decide) (And.intro (show -2147483648 ≤ j + (1 : Int) ∧ j + (1 : Int) < 2147483648 by omega) ?_)
                    exact ih.2.2 d (1 : Int) u (j + (1 : Int)) S1 hf (by omega) (by omega) (by omega) (by omega) i4 i5 i6 (by omega)
                  ·
                    refine And.intro (fun (h60 : (u = t : Prop)) => ?_) (fun (h60 : (u ≠ t : Prop)) => ?_)
                    ·
                      refine And.intro (by decide) ?_
                      refine And.intro (by decide) (And.intro (show -2147483648 ≤ j + (1 : Int) ∧ j + (1 : Int) < 2147483648 by omega) ?_)
                      exact ih.2.2 d (0 : Int) u (j + (1 : Int)) S1 hf (by omega) (by omega) (by omega) (by omega) i4 i5 i6 (by omega)
                    ·
                      refine And.intro (by decide) ?_
                      refine And.intro (by decide) (And.intro (show -2147483648 ≤ j + (1 : Int) ∧ j + (1 : Int) < 2147483648 by omega) ?_)
                      exact ih.2.2 d (1 : Int) u (j + (1 : Int)) S1 hf (by omega) (by omega) (by omega) (by omega) i4 i5 i6 (by omega)
                ·
                  refine And.intro (show 0 ≤ (0 : Int) ∧ (0 : Int) ≤ 1 by omega) ?_
                  exact hk (0 : Int) S1 ⟨hf, by omega, i5, i6⟩
theorem c_StubHouseModel_isLive {l : Launch} {k : fxK} {S : fxS} {t : Int} {i : Int} (p0 : COL S) (p1 : SGM S) (p2 : 0 ≤ t ∧ t ≤ 5) (p3 : 0 ≤ i ∧ i < 300) (hk : ∀ (r : Int) (S' : fxS) , (fxfr [(65, 9999), (66, 9999), (67, 9999)] S S' ∧ (0 ≤ r ∧ r ≤ 1) ∧ (SGM S') ∧ (KPA S S')) → k (some (.inl r)) S') : fC l 261 [.inr (.inr (49, 0)), .inl t, .inl i] S k := by
  have n63 : KPA S S := KPA_rfl
  refine fxe_261 (Nat.le_of_ble_eq_true rfl) (fxz_261 400 ?_)
  refine c_StubHouseModel_scanAll  p1 (fun (S64 : fxS) ⟨(f65 : fxfr [(65, 9999), (66, 9999), (67, 9999)] S S64), (g66 : SGM S64), (g67 : KPA S S64)⟩ => ?_)
  have g68 : COL S64 := fx_pfr COL_stab f65 rfl p0
  refine c_StubHouseModel_seg (t := t) (i := i) (w := (7 : Int)) (show 0 ≤ t ∧ t ≤ 5 by omega) (show 0 ≤ i ∧ i < 300 by omega) (show 0 ≤ (7 : Int) ∧ (7 : Int) < 8 by omega) (fun (z69 : Int) (q70 : z69 = sgN S64 (300 * t + i) (7 : Int) ∧ -2147483648 ≤ z69 ∧ z69 < 2147483648) => ?_)
  refine And.intro (fun (h71 : (z69 ≠ (0 : Int) : Prop)) => ?_) (fun (h71 : (z69 = (0 : Int) : Prop)) => ?_)
  ·
    refine c_StubHouseModel_seg (t := t) (i := i) (w := (2 : Int)) (show 0 ≤ t ∧ t ≤ 5 by omega) (show 0 ≤ i ∧ i < 300 by omega) (show 0 ≤ (2 : Int) ∧ (2 : Int) < 8 by omega) (fun (z72 : Int) (q73 : z72 = sgN S64 (300 * t + i) (2 : Int) ∧ -2147483648 ≤ z72 ∧ z72 < 2147483648) => ?_)
    refine And.intro (by decide) ?_
    refine c_StubHouseModel_seg (t := t) (i := i) (w := (0 : Int)) (show 0 ≤ t ∧ t ≤ 5 by omega) (show 0 ≤ i ∧ i < 300 by omega) (show 0 ≤ (0 : Int) ∧ (0 : Int) < 8 by omega) (fun (z74 : Int) (q75 : z74 = sgN S64 (300 * t + i) (0 : Int) ∧ -2147483648 ≤ z74 ∧ z74 < 2147483648) => ?_)
    refine And.intro (by decide) ?_
    refine And.intro (by decide) ?_
    exact (z_StubHouseModel_isLive p0 p1 p2 p3 hk (100000 - (1 : Int)).toNat).1 z72 z74 (1 : Int) S64 (fxfr_tr fxfr_rfl f65 rfl) (by omega) (by omega) (by omega) g68 g66 g67 (by omega)
  ·
    refine And.intro (show 0 ≤ (0 : Int) ∧ (0 : Int) ≤ 1 by omega) ?_
    exact hk (0 : Int) S64 ⟨(fxfr_tr fxfr_rfl f65 rfl), by omega, g66, g67⟩
theorem z_StubHouseModel_tape {l : Launch} {k : fxK} {S : fxS} {t : Int} {w : Int} (p0 : COL S) (p1 : SGM S) (p2 : -2147483648 ≤ t ∧ t < 2147483648) (p3 : -2147483648 ≤ w ∧ w < 2147483648) (hk : ∀ (r : Int) (S' : fxS) , (fxfr [(49, 0), (65, 9999), (66, 9999), (67, 9999)] S S' ∧ (-2147483648 ≤ r ∧ r < 2147483648) ∧ (SGM S')) → k (some (.inl r)) S') : ∀ m : Nat, (∀ (u i : Int) (S1 : fxS), (fxfr [(49, 0), (65, 9999), (66, 9999), (67, 9999)] S S1) → (0 ≤ t ∧ t ≤ 5) → (0 ≤ u ∧ u ≤ i) → (0 ≤ i ∧ i ≤ 285) → (COL S1) → (SGM S1) → 286 - i ≤ (m : Int) → fZ l 304 k 41 [some (.inr (.inr (49, 0))), some (.inl t), some (.inl w), some (.inl u), some (.inl i)] [] S1) := by
  intro m
  induction m with
  | zero =>
    intro u i S1 hf i0 i1 i2 i3 i4 hmu
    exfalso
    omega
  | succ m ih =>
    intro u i S1 hf i0 i1 i2 i3 i4 hmu
    refine fxz_304 400 ?_
    refine And.intro (show 0 ≤ t ∧ t < 6 by omega) ?_
    intro z1 (z1a : (0 : Int) ≤ z1) (z1b : z1 ≤ (285 : Int)) (z1c : z1 = S1 66 0 (t).toNat)
    refine And.intro (fun (h2 : (z1 ≤ i : Prop)) => ?_) (fun (h2 : (i < z1 : Prop)) => ?_)
    ·
      refine And.intro (fun (h3 : (w ≠ (0 : Int) : Prop)) => ?_) (fun (h3 : (w = (0 : Int) : Prop)) => ?_)
      ·
        refine And.intro (fun (h4 : (w ≠ (1 : Int) : Prop)) => ?_) (fun (h4 : (w = (1 : Int) : Prop)) => ?_)
        ·
          refine And.intro (fun (h5 : (w ≠ (2 : Int) : Prop)) => ?_) (fun (h5 : (w = (2 : Int) : Prop)) => ?_)
          ·
            exact hk u S1 ⟨hf, by omega, i4⟩
          ·
            refine And.intro (show 0 ≤ t ∧ t < 6 by omega) ?_
            intro z6 (z6a : (0 : Int) ≤ z6) (z6b : z6 ≤ (285 : Int)) (z6c : z6 = S1 66 0 (t).toNat)
            exact hk z6 S1 ⟨hf, by omega, i4⟩
        ·
          refine And.intro (show 0 ≤ t ∧ t < 6 by omega) ?_
          intro z7 (z7a : (0 : Int) ≤ z7) (z7b : z7 ≤ (65535 : Int)) (z7c : z7 = S1 64 0 (t).toNat)
          exact hk z7 S1 ⟨hf, by omega, i4⟩
      ·
        refine And.intro (show 0 ≤ t ∧ t < 6 by omega) ?_
        intro z8 (z8a : (0 : Int) ≤ z8) (z8b : z8 ≤ (6000 : Int)) (z8c : z8 = S1 63 0 (t).toNat)
        exact hk z8 S1 ⟨hf, by omega, i4⟩
    ·
      refine And.intro (fun (h9 : (w ≠ (3 : Int) : Prop)) => ?_) (fun (h9 : (w = (3 : Int) : Prop)) => ?_)
      ·
        refine And.intro (fun (h10 : (w ≠ (4 : Int) : Prop)) => ?_) (fun (h10 : (w = (4 : Int) : Prop)) => ?_)
        ·
          refine And.intro (show -2147483648 ≤ (u + (0 : Int)) ∧ (u + (0 : Int)) < 2147483648 by omega) ?_
          refine And.intro (by decide) ?_
          refine And.intro (by decide) (And.intro (show -2147483648 ≤ i + (1 : Int) ∧ i + (1 : Int) < 2147483648 by omega) ?_)
          exact ih (u + (0 : Int)) (i + (1 : Int)) S1 hf (by omega) (by omega) (by omega) i3 i4 (by omega)
        ·
          refine c_StubHouseModel_isLive (t := t) (i := i) i3 i4 (show 0 ≤ t ∧ t ≤ 5 by omega) (show 0 ≤ i ∧ i < 300 by omega) (fun (z12 : Int) (S13 : fxS) ⟨(f14 : fxfr [(65, 9999), (66, 9999), (67, 9999)] S1 S13), (q15 : 0 ≤ z12 ∧ z12 ≤ 1), (g16 : SGM S13), (g17 : KPA S1 S13)⟩ => ?_)
          have g18 : COL S13 := fx_pfr COL_stab f14 rfl i3
          refine And.intro (fun (h19 : (z12 = (0 : Int) : Prop)) => ?_) (fun (h19 : (z12 ≠ (0 : Int) : Prop)) => ?_)
          ·
            refine And.intro (show -2147483648 ≤ (u + (0 : Int)) ∧ (u + (0 : Int)) < 2147483648 by omega) ?_
            refine And.intro (by decide) ?_
            refine And.intro (by decide) (And.intro (show -2147483648 ≤ i + (1 : Int) ∧ i + (1 : Int) < 2147483648 by omega) ?_)
            exact ih (u + (0 : Int)) (i + (1 : Int)) S13 (fxfr_tr hf f14 rfl) (by omega) (by omega) (by omega) g18 g16 (by omega)
          ·
            refine And.intro (show -2147483648 ≤ (u + (1 : Int)) ∧ (u + (1 : Int)) < 2147483648 by omega) ?_
            refine And.intro (by decide) ?_
            refine And.intro (by decide) (And.intro (show -2147483648 ≤ i + (1 : Int) ∧ i + (1 : Int) < 2147483648 by omega) ?_)
            exact ih (u + (1 : Int)) (i + (1 : Int)) S13 (fxfr_tr hf f14 rfl) (by omega) (by omega) (by omega) g18 g16 (by omega)
      ·
        refine c_StubHouseModel_seg (t := t) (i := i) (w := (7 : Int)) (show 0 ≤ t ∧ t ≤ 5 by omega) (show 0 ≤ i ∧ i < 300 by omega) (show 0 ≤ (7 : Int) ∧ (7 : Int) < 8 by omega) (fun (z22 : Int) (q23 : z22 = sgN S1 (300 * t + i) (7 : Int) ∧ -2147483648 ≤ z22 ∧ z22 < 2147483648) => ?_)
        refine And.intro (fun (h24 : (z22 ≠ (0 : Int) : Prop)) => ?_) (fun (h24 : (z22 = (0 : Int) : Prop)) => ?_)
        ·
          refine And.intro (show -2147483648 ≤ (u + (0 : Int)) ∧ (u + (0 : Int)) < 2147483648 by omega) ?_
          refine And.intro (by decide) ?_
          refine And.intro (by decide) (And.intro (show -2147483648 ≤ i + (1 : Int) ∧ i + (1 : Int) < 2147483648 by omega) ?_)
          exact ih (u + (0 : Int)) (i + (1 : Int)) S1 hf (by omega) (by omega) (by omega) i3 i4 (by omega)
        ·
          refine And.intro (show -2147483648 ≤ (u + (1 : Int)) ∧ (u + (1 : Int)) < 2147483648 by omega) ?_
          refine And.intro (by decide) ?_
          refine And.intro (by decide) (And.intro (show -2147483648 ≤ i + (1 : Int) ∧ i + (1 : Int) < 2147483648 by omega) ?_)
          exact ih (u + (1 : Int)) (i + (1 : Int)) S1 hf (by omega) (by omega) (by omega) i3 i4 (by omega)
theorem c_StubHouseModel_tape {l : Launch} {k : fxK} {S : fxS} {t : Int} {w : Int} (p0 : COL S) (p1 : SGM S) (p2 : -2147483648 ≤ t ∧ t < 2147483648) (p3 : -2147483648 ≤ w ∧ w < 2147483648) (hk : ∀ (r : Int) (S' : fxS) , (fxfr [(49, 0), (65, 9999), (66, 9999), (67, 9999)] S S' ∧ (-2147483648 ≤ r ∧ r < 2147483648) ∧ (SGM S')) → k (some (.inl r)) S') : fC l 304 [.inr (.inr (49, 0)), .inl t, .inl w] S k := by
  refine fxe_304 (Nat.le_of_ble_eq_true rfl) (fxz_304 400 ?_)
  refine And.intro (show (-2147483648 : Int) ≤ (0 : Int) ∧ (0 : Int) ≤ (2147483647 : Int) by omega) ?_
  have g27 : COL (fx_up S 49 0 0 (0 : Int)) := fx_pup COL_stab rfl p0
  have g28 : SGM (fx_up S 49 0 0 (0 : Int)) := fx_pup SGM_stab rfl p1
  refine c_StubHouseModel_in (x := t) (a := (0 : Int)) (b := (5 : Int))  (fun (z29 : Int) (q30 : 0 ≤ z29 ∧ z29 ≤ 1 ∧ (z29 = 1 → (0 : Int) ≤ t ∧ t ≤ (5 : Int)) ∧ (z29 = 0 → t < (0 : Int) ∨ (5 : Int) < t)) => ?_)
  refine And.intro (fun (h31 : (z29 = (0 : Int) : Prop)) => ?_) (fun (h31 : (z29 ≠ (0 : Int) : Prop)) => ?_)
  ·
    exact hk (-1 : Int) (fx_up S 49 0 0 (0 : Int)) ⟨(fxfr_up fxfr_rfl rfl), by omega, g28⟩
  ·
    refine c_StubHouseModel_in (x := w) (a := (0 : Int)) (b := (4 : Int))  (fun (z32 : Int) (q33 : 0 ≤ z32 ∧ z32 ≤ 1 ∧ (z32 = 1 → (0 : Int) ≤ w ∧ w ≤ (4 : Int)) ∧ (z32 = 0 → w < (0 : Int) ∨ (4 : Int) < w)) => ?_)
    refine And.intro (fun (h34 : (z32 ≠ (0 : Int) : Prop)) => ?_) (fun (h34 : (z32 = (0 : Int) : Prop)) => ?_)
    ·
      refine c_StubHouseModel_scan (t := t) g28 (show 0 ≤ t ∧ t ≤ 5 by omega) (fun (S35 : fxS) ⟨(f36 : fxfr [(65, 9999), (66, 9999), (67, 9999)] (fx_up S 49 0 0 (0 : Int)) S35), (q37 : S35 67 0 (t).toNat = 1), (g38 : SGM S35), (g39 : KPA (fx_up S 49 0 0 (0 : Int)) S35)⟩ => ?_)
      have g40 : COL S35 := fx_pfr COL_stab f36 rfl g27
      refine And.intro (by decide) ?_
      refine And.intro (by decide) ?_
      exact (z_StubHouseModel_tape p0 p1 p2 p3 hk (286 - (0 : Int)).toNat) (0 : Int) (0 : Int) S35 (fxfr_tr (fxfr_up fxfr_rfl rfl) f36 rfl) (by omega) (by omega) (by omega) g40 g38 (by omega)
    ·
      exact hk (-1 : Int) (fx_up S 49 0 0 (0 : Int)) ⟨(fxfr_up fxfr_rfl rfl), by omega, g28⟩
theorem c_StubHouseModel_noPlace {l : Launch} {k : fxK} {S : fxS} {t : Int} {p : Int} (p0 : -2147483648 ≤ t ∧ t < 2147483648) (p1 : -2147483648 ≤ p ∧ p < 2147483648) (hk : ∀ (r : Int) , (0 ≤ r ∧ r ≤ 1 ∧ (r = 0 → 0 ≤ t ∧ t ≤ 5 ∧ 0 ≤ p ∧ p < 6000)) → k (some (.inl r)) S) : fC l 307 [.inr (.inr (49, 0)), .inl t, .inl p] S k := by
  refine fxe_307 (Nat.le_of_ble_eq_true rfl) (fxz_307 400 ?_)
  refine c_StubHouseModel_in (x := t) (a := (0 : Int)) (b := (5 : Int))  (fun (z1 : Int) (q2 : 0 ≤ z1 ∧ z1 ≤ 1 ∧ (z1 = 1 → (0 : Int) ≤ t ∧ t ≤ (5 : Int)) ∧ (z1 = 0 → t < (0 : Int) ∨ (5 : Int) < t)) => ?_)
  refine And.intro (fun (h3 : (z1 = (0 : Int) : Prop)) => ?_) (fun (h3 : (z1 ≠ (0 : Int) : Prop)) => ?_)
  ·
    refine And.intro (show 0 ≤ (1 : Int) ∧ (1 : Int) ≤ 1 by omega) ?_
    exact hk (1 : Int) (by omega)
  ·
    refine And.intro (show 0 ≤ t ∧ t < 6 by omega) ?_
    intro z4 (z4a : (0 : Int) ≤ z4) (z4b : z4 ≤ (6000 : Int)) (z4c : z4 = S 63 0 (t).toNat)
    refine And.intro (show -2147483648 ≤ (z4 - (1 : Int)) ∧ (z4 - (1 : Int)) < 2147483648 by omega) ?_
    refine c_StubHouseModel_in (x := p) (a := (0 : Int)) (b := (z4 - (1 : Int)))  (fun (z5 : Int) (q6 : 0 ≤ z5 ∧ z5 ≤ 1 ∧ (z5 = 1 → (0 : Int) ≤ p ∧ p ≤ (z4 - (1 : Int))) ∧ (z5 = 0 → p < (0 : Int) ∨ (z4 - (1 : Int)) < p)) => ?_)
    refine And.intro (fun (h7 : (z5 ≠ (0 : Int) : Prop)) => ?_) (fun (h7 : (z5 = (0 : Int) : Prop)) => ?_)
    ·
      refine And.intro (show 0 ≤ (0 : Int) ∧ (0 : Int) ≤ 1 by omega) ?_
      exact hk (0 : Int) (by omega)
    ·
      refine And.intro (show 0 ≤ (1 : Int) ∧ (1 : Int) ≤ 1 by omega) ?_
      exact hk (1 : Int) (by omega)
theorem c_StubHouseModel_byteOf {l : Launch} {k : fxK} {S : fxS} {t : Int} {p : Int} (p0 : -2147483648 ≤ t ∧ t < 2147483648) (p1 : -2147483648 ≤ p ∧ p < 2147483648) (hk : ∀ (r : Int) (S' : fxS) , (fxfr [(49, 0)] S S' ∧ (-2147483648 ≤ r ∧ r < 2147483648)) → k (some (.inl r)) S') : fC l 308 [.inr (.inr (49, 0)), .inl t, .inl p] S k := by
  refine fxe_308 (Nat.le_of_ble_eq_true rfl) (fxz_308 400 ?_)
  refine And.intro (show (-2147483648 : Int) ≤ (0 : Int) ∧ (0 : Int) ≤ (2147483647 : Int) by omega) ?_
  refine c_StubHouseModel_noPlace (t := t) (p := p) (show -2147483648 ≤ t ∧ t < 2147483648 by omega) (show -2147483648 ≤ p ∧ p < 2147483648 by omega) (fun (z1 : Int) (q2 : 0 ≤ z1 ∧ z1 ≤ 1 ∧ (z1 = 0 → 0 ≤ t ∧ t ≤ 5 ∧ 0 ≤ p ∧ p < 6000)) => ?_)
  refine And.intro (fun (h3 : (z1 = (0 : Int) : Prop)) => ?_) (fun (h3 : (z1 ≠ (0 : Int) : Prop)) => ?_)
  ·
    refine c_StubHouseModel_tapeByte (t := t) (p := p) (show 0 ≤ t ∧ t ≤ 5 by omega) (show 0 ≤ p ∧ p < 6000 by omega) (fun (z4 : Int) (q5 : z4 = tB S t p ∧ 0 ≤ z4 ∧ z4 ≤ 255) => ?_)
    exact hk z4 (fx_up S 49 0 0 (0 : Int)) ⟨(fxfr_up fxfr_rfl rfl), by omega⟩
  ·
    exact hk (-1 : Int) (fx_up S 49 0 0 (0 : Int)) ⟨(fxfr_up fxfr_rfl rfl), by omega⟩
theorem c_StubHouseModel_spoil {l : Launch} {k : fxK} {S : fxS} {t : Int} {p : Int} {w : Int} (p0 : -2147483648 ≤ t ∧ t < 2147483648) (p1 : -2147483648 ≤ p ∧ p < 2147483648) (p2 : -2147483648 ≤ w ∧ w < 2147483648) (hk : ∀ (r : Int) (S' : fxS) , (fxfr [(49, 0), (62, 9999), (67, 9999)] S S' ∧ (-2147483648 ≤ r ∧ r < 2147483648)) → k (some (.inl r)) S') : fC l 311 [.inr (.inr (49, 0)), .inl t, .inl p, .inl w] S k := by
  refine fxe_311 (Nat.le_of_ble_eq_true rfl) (fxz_311 400 ?_)
  refine And.intro (show (-2147483648 : Int) ≤ (0 : Int) ∧ (0 : Int) ≤ (2147483647 : Int) by omega) ?_
  refine c_StubHouseModel_noPlace (t := t) (p := p) (show -2147483648 ≤ t ∧ t < 2147483648 by omega) (show -2147483648 ≤ p ∧ p < 2147483648 by omega) (fun (z1 : Int) (q2 : 0 ≤ z1 ∧ z1 ≤ 1 ∧ (z1 = 0 → 0 ≤ t ∧ t ≤ 5 ∧ 0 ≤ p ∧ p < 6000)) => ?_)
  refine And.intro (fun (h3 : (z1 ≠ (0 : Int) : Prop)) => ?_) (fun (h3 : (z1 = (0 : Int) : Prop)) => ?_)
  ·
    exact hk (-1 : Int) (fx_up S 49 0 0 (0 : Int)) ⟨(fxfr_up fxfr_rfl rfl), by omega⟩
  ·
    refine c_StubHouseModel_in (x := w) (a := (1 : Int)) (b := (255 : Int))  (fun (z4 : Int) (q5 : 0 ≤ z4 ∧ z4 ≤ 1 ∧ (z4 = 1 → (1 : Int) ≤ w ∧ w ≤ (255 : Int)) ∧ (z4 = 0 → w < (1 : Int) ∨ (255 : Int) < w)) => ?_)
    refine And.intro (fun (h6 : (z4 ≠ (0 : Int) : Prop)) => ?_) (fun (h6 : (z4 = (0 : Int) : Prop)) => ?_)
    ·
      refine And.intro (show -2147483648 ≤ ((6000 : Int) * t) ∧ ((6000 : Int) * t) < 2147483648 by omega) ?_
      refine And.intro (show -2147483648 ≤ (((6000 : Int) * t) + p) ∧ (((6000 : Int) * t) + p) < 2147483648 by omega) ?_
      refine c_StubHouseModel_tapeByte (t := t) (p := p) (show 0 ≤ t ∧ t ≤ 5 by omega) (show 0 ≤ p ∧ p < 6000 by omega) (fun (z7 : Int) (q8 : z7 = tB S t p ∧ 0 ≤ z7 ∧ z7 ≤ 255) => ?_)
      intro z9 z9a z9b (z9c : z9 = fx_bop 3 z7 w)
      intro z10 z10a z10b
      refine And.intro (show 0 ≤ (((6000 : Int) * t) + p) ∧ (((6000 : Int) * t) + p) < 36000 by omega) ?_
      intro z11 z11a z11b z11c
      refine And.intro (show 0 ≤ t ∧ t < 6 by omega) ?_
      refine And.intro (show (0 : Int) ≤ (0 : Int) ∧ (0 : Int) ≤ (1 : Int) by omega) ?_
      refine c_StubHouseModel_tapeByte (t := t) (p := p) (show 0 ≤ t ∧ t ≤ 5 by omega) (show 0 ≤ p ∧ p < 6000 by omega) (fun (z12 : Int) (q13 : z12 = tB (fx_up (fx_up S 49 0 0 (0 : Int)) 62 0 ((((6000 : Int) * t) + p)).toNat z11) t p ∧ 0 ≤ z12 ∧ z12 ≤ 255) => ?_)
      exact hk z12 (fx_up (fx_up (fx_up S 49 0 0 (0 : Int)) 62 0 ((((6000 : Int) * t) + p)).toNat z11) 67 0 (t).toNat (0 : Int)) ⟨(fxfr_up (fxfr_up (fxfr_up fxfr_rfl rfl) rfl) rfl), by omega⟩
    ·
      exact hk (-1 : Int) (fx_up S 49 0 0 (0 : Int)) ⟨(fxfr_up fxfr_rfl rfl), by omega⟩
theorem c_StubHouseModel_segment {l : Launch} {k : fxK} {S : fxS} {t : Int} {i : Int} {w : Int} (p0 : COL S) (p1 : SGM S) (p2 : -2147483648 ≤ t ∧ t < 2147483648) (p3 : -2147483648 ≤ i ∧ i < 2147483648) (p4 : -2147483648 ≤ w ∧ w < 2147483648) (hk : ∀ (r : Int) (S' : fxS) , (fxfr [(49, 0), (65, 9999), (66, 9999), (67, 9999)] S S' ∧ (-2147483648 ≤ r ∧ r < 2147483648) ∧ (SGM S')) → k (some (.inl r)) S') : fC l 313 [.inr (.inr (49, 0)), .inl t, .inl i, .inl w] S k := by
  refine fxe_313 (Nat.le_of_ble_eq_true rfl) (fxz_313 400 ?_)
  refine And.intro (show (-2147483648 : Int) ≤ (0 : Int) ∧ (0 : Int) ≤ (2147483647 : Int) by omega) ?_
  have g1 : COL (fx_up S 49 0 0 (0 : Int)) := fx_pup COL_stab rfl p0
  have g2 : SGM (fx_up S 49 0 0 (0 : Int)) := fx_pup SGM_stab rfl p1
  refine c_StubHouseModel_in (x := t) (a := (0 : Int)) (b := (5 : Int))  (fun (z3 : Int) (q4 : 0 ≤ z3 ∧ z3 ≤ 1 ∧ (z3 = 1 → (0 : Int) ≤ t ∧ t ≤ (5 : Int)) ∧ (z3 = 0 → t < (0 : Int) ∨ (5 : Int) < t)) => ?_)
  refine And.intro (fun (h5 : (z3 = (0 : Int) : Prop)) => ?_) (fun (h5 : (z3 ≠ (0 : Int) : Prop)) => ?_)
  ·
    exact hk (-1 : Int) (fx_up S 49 0 0 (0 : Int)) ⟨(fxfr_up fxfr_rfl rfl), by omega, g2⟩
  ·
    refine And.intro (fun (h6 : (i < (0 : Int) : Prop)) => ?_) (fun (h6 : ((0 : Int) ≤ i : Prop)) => ?_)
    ·
      exact hk (-1 : Int) (fx_up S 49 0 0 (0 : Int)) ⟨(fxfr_up fxfr_rfl rfl), by omega, g2⟩
    ·
      refine c_StubHouseModel_in (x := w) (a := (0 : Int)) (b := (8 : Int))  (fun (z7 : Int) (q8 : 0 ≤ z7 ∧ z7 ≤ 1 ∧ (z7 = 1 → (0 : Int) ≤ w ∧ w ≤ (8 : Int)) ∧ (z7 = 0 → w < (0 : Int) ∨ (8 : Int) < w)) => ?_)
      refine And.intro (fun (h9 : (z7 ≠ (0 : Int) : Prop)) => ?_) (fun (h9 : (z7 = (0 : Int) : Prop)) => ?_)
      ·
        refine c_StubHouseModel_scan (t := t) g2 (show 0 ≤ t ∧ t ≤ 5 by omega) (fun (S10 : fxS) ⟨(f11 : fxfr [(65, 9999), (66, 9999), (67, 9999)] (fx_up S 49 0 0 (0 : Int)) S10), (q12 : S10 67 0 (t).toNat = 1), (g13 : SGM S10), (g14 : KPA (fx_up S 49 0 0 (0 : Int)) S10)⟩ => ?_)
        have g15 : COL S10 := fx_pfr COL_stab f11 rfl g1
        refine And.intro (show 0 ≤ t ∧ t < 6 by omega) ?_
        intro z16 (z16a : (0 : Int) ≤ z16) (z16b : z16 ≤ (285 : Int)) (z16c : z16 = S10 66 0 (t).toNat)
        refine And.intro (fun (h17 : (i < z16 : Prop)) => ?_) (fun (h17 : (z16 ≤ i : Prop)) => ?_)
        ·
          refine And.intro (fun (h18 : (w ≠ (8 : Int) : Prop)) => ?_) (fun (h18 : (w = (8 : Int) : Prop)) => ?_)
          ·
            refine c_StubHouseModel_seg (t := t) (i := i) (w := w) (show 0 ≤ t ∧ t ≤ 5 by omega) (show 0 ≤ i ∧ i < 300 by omega) (show 0 ≤ w ∧ w < 8 by omega) (fun (z19 : Int) (q20 : z19 = sgN S10 (300 * t + i) w ∧ -2147483648 ≤ z19 ∧ z19 < 2147483648) => ?_)
            exact hk z19 S10 ⟨(fxfr_tr (fxfr_up fxfr_rfl rfl) f11 rfl), by omega, g13⟩
          ·
            refine c_StubHouseModel_isLive (t := t) (i := i) g15 g13 (show 0 ≤ t ∧ t ≤ 5 by omega) (show 0 ≤ i ∧ i < 300 by omega) (fun (z21 : Int) (S22 : fxS) ⟨(f23 : fxfr [(65, 9999), (66, 9999), (67, 9999)] S10 S22), (q24 : 0 ≤ z21 ∧ z21 ≤ 1), (g25 : SGM S22), (g26 : KPA S10 S22)⟩ => ?_)
            have g27 : COL S22 := fx_pfr COL_stab f23 rfl g15
            refine And.intro (fun (h28 : (z21 = (0 : Int) : Prop)) => ?_) (fun (h28 : (z21 ≠ (0 : Int) : Prop)) => ?_)
            ·
              exact hk (0 : Int) S22 ⟨(fxfr_tr (fxfr_tr (fxfr_up fxfr_rfl rfl) f11 rfl) f23 rfl), by omega, g25⟩
            ·
              exact hk (1 : Int) S22 ⟨(fxfr_tr (fxfr_tr (fxfr_up fxfr_rfl rfl) f11 rfl) f23 rfl), by omega, g25⟩
        ·
          exact hk (-2 : Int) S10 ⟨(fxfr_tr (fxfr_up fxfr_rfl rfl) f11 rfl), by omega, g13⟩
      ·
        exact hk (-1 : Int) (fx_up S 49 0 0 (0 : Int)) ⟨(fxfr_up fxfr_rfl rfl), by omega, g2⟩
theorem c_StubHouseModel_vseg {l : Launch} {k : fxK} {S : fxS} {v : Int} {w : Int} (p0 : 0 ≤ v ∧ v < 1800) (p1 : 0 ≤ w ∧ w < 8) (hk : ∀ (r : Int) , (-2147483648 ≤ r ∧ r < 2147483648) → k (some (.inl r)) S) : fC l 181 [.inr (.inr (49, 0)), .inl v, .inl w] S k := by
  refine fxe_181 (Nat.le_of_ble_eq_true rfl) (fxz_181 400 ?_)
  refine And.intro (show 0 ≤ v ∧ v < 1800 by omega) ?_
  intro z1 (z1a : (0 : Int) ≤ z1) (z1b : z1 ≤ (5 : Int)) (z1c : z1 = S 68 0 (v).toNat)
  refine And.intro (show 0 ≤ v ∧ v < 1800 by omega) ?_
  intro z2 (z2a : (0 : Int) ≤ z2) (z2b : z2 ≤ (284 : Int)) (z2c : z2 = S 69 0 (v).toNat)
  refine c_StubHouseModel_seg (t := z1) (i := z2) (w := w) (show 0 ≤ z1 ∧ z1 ≤ 5 by omega) (show 0 ≤ z2 ∧ z2 < 300 by omega) (show 0 ≤ w ∧ w < 8 by omega) (fun (z3 : Int) (q4 : z3 = sgN S (300 * z1 + z2) w ∧ -2147483648 ≤ z3 ∧ z3 < 2147483648) => ?_)
  exact hk z3 (by omega)
theorem z_StubHouseModel_isFirst {l : Launch} {k : fxK} {S : fxS} {t : Int} {i : Int} (p0 : 0 ≤ t ∧ t ≤ 5) (p1 : 0 ≤ i ∧ i < 300) (hk : ∀ (r : Int) , (0 ≤ r ∧ r ≤ 1) → k (some (.inl r)) S) : ∀ m : Nat, (∀ (u : Int), (0 ≤ u ∧ u ≤ 6) → (7 - u) * 1000 + 500 ≤ (m : Int) → fZ l 180 k 2 [some (.inr (.inr (49, 0))), some (.inl t), some (.inl i), some (.inl u), none, none] [] S) ∧ (∀ (u j : Int), (0 ≤ u ∧ u < 6) → (0 ≤ j ∧ j ≤ 285) → (7 - u) * 1000 + 300 - j ≤ (m : Int) → fZ l 180 k 11 [some (.inr (.inr (49, 0))), some (.inl t), some (.inl i), some (.inl u), some (.inl j), none] [] S) := by
  intro m
  induction m with
  | zero =>
    refine ⟨?_, ?_⟩
    · intro u  i0 hmu
      exfalso
      omega
    · intro u j  i0 i1 hmu
      exfalso
      omega
  | succ m ih =>
    refine ⟨?_, ?_⟩
    · intro u  i0 hmu
      refine fxz_180 400 ?_
      refine And.intro (fun (h1 : ((6 : Int) ≤ u : Prop)) => ?_) (fun (h1 : (u < (6 : Int) : Prop)) => ?_)
      ·
        refine And.intro (show 0 ≤ (1 : Int) ∧ (1 : Int) ≤ 1 by omega) ?_
        exact hk (1 : Int) (by omega)
      ·
        refine And.intro (by decide) ?_
        exact ih.2 u (0 : Int)  (by omega) (by omega) (by omega)
    · intro u j  i0 i1 hmu
      refine fxz_180 400 ?_
      refine And.intro (show 0 ≤ u ∧ u < 6 by omega) ?_
      intro z2 (z2a : (0 : Int) ≤ z2) (z2b : z2 ≤ (285 : Int)) (z2c : z2 = S 66 0 (u).toNat)
      refine And.intro (fun (h3 : (z2 ≤ j : Prop)) => ?_) (fun (h3 : (j < z2 : Prop)) => ?_)
      ·
        refine And.intro (by decide) (And.intro (show -2147483648 ≤ u + (1 : Int) ∧ u + (1 : Int) < 2147483648 by omega) ?_)
        exact ih.1 (u + (1 : Int))  (by omega) (by omega)
      ·
        refine c_StubHouseModel_seg (t := u) (i := j) (w := (7 : Int)) (show 0 ≤ u ∧ u ≤ 5 by omega) (show 0 ≤ j ∧ j < 300 by omega) (show 0 ≤ (7 : Int) ∧ (7 : Int) < 8 by omega) (fun (z5 : Int) (q6 : z5 = sgN S (300 * u + j) (7 : Int) ∧ -2147483648 ≤ z5 ∧ z5 < 2147483648) => ?_)
        refine And.intro (fun (h7 : (z5 ≠ (1 : Int) : Prop)) => ?_) (fun (h7 : (z5 = (1 : Int) : Prop)) => ?_)
        ·
          refine And.intro (by decide) ?_
          refine And.intro (fun _ => ?_) (fun h => absurd h (by decide))
          refine And.intro (by decide) (And.intro (show -2147483648 ≤ j + (1 : Int) ∧ j + (1 : Int) < 2147483648 by omega) ?_)
          exact ih.2 u (j + (1 : Int))  (by omega) (by omega) (by omega)
        ·
          refine c_StubHouseModel_seg (t := u) (i := j) (w := (2 : Int)) (show 0 ≤ u ∧ u ≤ 5 by omega) (show 0 ≤ j ∧ j < 300 by omega) (show 0 ≤ (2 : Int) ∧ (2 : Int) < 8 by omega) (fun (z9 : Int) (q10 : z9 = sgN S (300 * u + j) (2 : Int) ∧ -2147483648 ≤ z9 ∧ z9 < 2147483648) => ?_)
          refine c_StubHouseModel_seg (t := t) (i := i) (w := (2 : Int)) (show 0 ≤ t ∧ t ≤ 5 by omega) (show 0 ≤ i ∧ i < 300 by omega) (show 0 ≤ (2 : Int) ∧ (2 : Int) < 8 by omega) (fun (z11 : Int) (q12 : z11 = sgN S (300 * t + i) (2 : Int) ∧ -2147483648 ≤ z11 ∧ z11 < 2147483648) => ?_)
          refine And.intro (fun (h13 : (z9 ≠ z11 : Prop)) => ?_) (fun (h13 : (z9 = z11 : Prop)) => ?_)
          ·
            refine And.intro (by decide) ?_
            refine And.intro (fun _ => ?_) (fun h => absurd h (by decide))
            refine And.intro (by decide) (And.intro (show -2147483648 ≤ j + (1 : Int) ∧ j + (1 : Int) < 2147483648 by omega) ?_)
            exact ih.2 u (j + (1 : Int))  (by omega) (by omega) (by omega)
          ·
            refine And.intro (fun (h15 : (u ≠ t : Prop)) => ?_) (fun (h15 : (u = t : Prop)) => ?_)
            ·
              refine And.intro (by decide) ?_
              refine And.intro (fun h => absurd h (by decide)) (fun _ => ?_)
              refine c_StubHouseModel_seg (t := u) (i := j) (w := (4 : Int)) (show 0 ≤ u ∧ u ≤ 5 by omega) (show 0 ≤ j ∧ j < 300 by omega) (show 0 ≤ (4 : Int) ∧ (4 : Int) < 8 by omega) (fun (z16 : Int) (q17 : z16 = sgN S (300 * u + j) (4 : Int) ∧ -2147483648 ≤ z16 ∧ z16 < 2147483648) => ?_)
              refine c_StubHouseModel_seg (t := t) (i := i) (w := (4 : Int)) (show 0 ≤ t ∧ t ≤ 5 by omega) (show 0 ≤ i ∧ i < 300 by omega) (show 0 ≤ (4 : Int) ∧ (4 : Int) < 8 by omega) (fun (z18 : Int) (q19 : z18 = sgN S (300 * t + i) (4 : Int) ∧ -2147483648 ≤ z18 ∧ z18 < 2147483648) => ?_)
              refine And.intro (fun (h20 : (z18 < z16 : Prop)) => ?_) (fun (h20 : (z16 ≤ z18 : Prop)) => ?_)
              ·
                refine And.intro (show 0 ≤ (0 : Int) ∧ (0 : Int) ≤ 1 by omega) ?_
                exact hk (0 : Int) (by omega)
              ·
                refine c_StubHouseModel_seg (t := u) (i := j) (w := (4 : Int)) (show 0 ≤ u ∧ u ≤ 5 by omega) (show 0 ≤ j ∧ j < 300 by omega) (show 0 ≤ (4 : Int) ∧ (4 : Int) < 8 by omega) (fun (z21 : Int) (q22 : z21 = sgN S (300 * u + j) (4 : Int) ∧ -2147483648 ≤ z21 ∧ z21 < 2147483648) => ?_)
                refine c_StubHouseModel_seg (t := t) (i := i) (w := (4 : Int)) (show 0 ≤ t ∧ t ≤ 5 by omega) (show 0 ≤ i ∧ i < 300 by omega) (show 0 ≤ (4 : Int) ∧ (4 : Int) < 8 by omega) (fun (z23 : Int) (q24 : z23 = sgN S (300 * t + i) (4 : Int) ∧ -2147483648 ≤ z23 ∧ z23 < 2147483648) => ?_)
                refine And.intro (fun (h25 : (z21 ≠ z23 : Prop)) => ?_) (fun (h25 : (z21 = z23 : Prop)) => ?_)
                ·
                  refine And.intro (by decide) (And.intro (show -2147483648 ≤ j + (1 : Int) ∧ j + (1 : Int) < 2147483648 by omega) ?_)
                  exact ih.2 u (j + (1 : Int))  (by omega) (by omega) (by omega)
                ·
                  refine And.intro (fun (h27 : (u < t : Prop)) => ?_) (fun (h27 : (t ≤ u : Prop)) => ?_)
                  ·
                    refine And.intro (show 0 ≤ (0 : Int) ∧ (0 : Int) ≤ 1 by omega) ?_
                    exact hk (0 : Int) (by omega)
                  ·
                    refine And.intro (fun (h28 : (u ≠ t : Prop)) => ?_) (fun (h28 : (u = t : Prop)) => ?_)
                    ·
                      refine And.intro (by decide) (And.intro (show -2147483648 ≤ j + (1 : Int) ∧ j + (1 : Int) < 2147483648 by omega) ?_)
                      exact ih.2 u (j + (1 : Int))  (by omega) (by omega) (by omega)
                    ·
                      refine And.intro (fun (h30 : (i ≤ j : Prop)) => ?_) (fun (h30 : (j < i : Prop)) => ?_)
                      ·
                        refine And.intro (by decide) (And.intro (show -2147483648 ≤ j + (1 : Int) ∧ j + (1 : Int) < 2147483648 by omega) ?_)
                        exact ih.2 u (j + (1 : Int))  (by omega) (by omega) (by omega)
                      ·
                        refine And.intro (show 0 ≤ (0 : Int) ∧ (0 : Int) ≤ 1 by omega) ?_
                        exact hk (0 : Int) (by omega)
            ·
              refine And.intro (fun (h32 : (j = i : Prop)) => ?_) (fun (h32 : (j ≠ i : Prop)) => ?_)
              ·
                refine And.intro (by decide) ?_
                refine And.intro (fun _ => ?_) (fun h => absurd h (by decide))
                refine And.intro (by decide) (And.intro (show -2147483648 ≤ j + (1 : Int) ∧ j + (1 : Int) < 2147483648 by omega) ?_)
                exact ih.2 u (j + (1 : Int))  (by omega) (by omega) (by omega)
              ·
                refine And.intro (by decide) ?_
                refine And.intro (fun h => absurd h (by decide)) (fun _ => ?_)
                refine c_StubHouseModel_seg (t := u) (i := j) (w := (4 : Int)) (show 0 ≤ u ∧ u ≤ 5 by omega) (show 0 ≤ j ∧ j < 300 by omega) (show 0 ≤ (4 : Int) ∧ (4 : Int) < 8 by omega) (fun (z34 : Int) (q35 : z34 = sgN S (300 * u + j) (4 : Int) ∧ -2147483648 ≤ z34 ∧ z34 < 2147483648) => ?_)
                refine c_StubHouseModel_seg (t := t) (i := i) (w := (4 : Int)) (show 0 ≤ t ∧ t ≤ 5 by omega) (show 0 ≤ i ∧ i < 300 by omega) (show 0 ≤ (4 : Int) ∧ (4 : Int) < 8 by omega) (fun (z36 : Int) (q37 : z36 = sgN S (300 * t + i) (4 : Int) ∧ -2147483648 ≤ z36 ∧ z36 < 2147483648) => ?_)
                refine And.intro (fun (h38 : (z36 < z34 : Prop)) => ?_) (fun (h38 : (z34 ≤ z36 : Prop)) => ?_)
                ·
                  refine And.intro (show 0 ≤ (0 : Int) ∧ (0 : Int) ≤ 1 by omega) ?_
                  exact hk (0 : Int) (by omega)
                ·
                  refine c_StubHouseModel_seg (t := u) (i := j) (w := (4 : Int)) (show 0 ≤ u ∧ u ≤ 5 by omega) (show 0 ≤ j ∧ j < 300 by omega) (show 0 ≤ (4 : Int) ∧ (4 : Int) < 8 by omega) (fun (z39 : Int) (q40 : z39 = sgN S (300 * u + j) (4 : Int) ∧ -2147483648 ≤ z39 ∧ z39 < 2147483648) => ?_)
                  refine c_StubHouseModel_seg (t := t) (i := i) (w := (4 : Int)) (show 0 ≤ t ∧ t ≤ 5 by omega) (show 0 ≤ i ∧ i < 300 by omega) (show 0 ≤ (4 : Int) ∧ (4 : Int) < 8 by omega) (fun (z41 : Int) (q42 : z41 = sgN S (300 * t + i) (4 : Int) ∧ -2147483648 ≤ z41 ∧ z41 < 2147483648) => ?_)
                  refine And.intro (fun (h43 : (z39 ≠ z41 : Prop)) => ?_) (fun (h43 : (z39 = z41 : Prop)) => ?_)
                  ·
                    refine And.intro (by decide) (And.intro (show -2147483648 ≤ j + (1 : Int) ∧ j + (1 : Int) < 2147483648 by omega) ?_)
                    exact ih.2 u (j + (1 : Int))  (by omega) (by omega) (by omega)
                  ·
                    refine And.intro (fun (h45 : (u < t : Prop)) => ?_) (fun (h45 : (t ≤ u : Prop)) => ?_)
                    ·
                      refine And.intro (show 0 ≤ (0 : Int) ∧ (0 : Int) ≤ 1 by omega) ?_
                      exact hk (0 : Int) (by omega)
                    ·
                      refine And.intro (fun (h46 : (u ≠ t : Prop)) => ?_) (fun (h46 : (u = t : Prop)) => ?_)
                      ·
                        refine And.intro (by decide) (And.intro (show -2147483648 ≤ j + (1 : Int) ∧ j + (1 : Int) < 2147483648 by omega) ?_)
                        exact ih.2 u (j + (1 : Int))  (by omega) (by omega) (by omega)
                      ·
                        refine And.intro (fun (h48 : (i ≤ j : Prop)) => ?_) (fun (h48 : (j < i : Prop)) => ?_)
                        ·
                          refine And.intro (by decide) (And.intro (show -2147483648 ≤ j + (1 : Int) ∧ j + (1 : Int) < 2147483648 by omega) ?_)
                          exact ih.2 u (j + (1 : Int))  (by omega) (by omega) (by omega)
                        ·
                          refine And.intro (show 0 ≤ (0 : Int) ∧ (0 : Int) ≤ 1 by omega) ?_
                          exact hk (0 : Int) (by omega)
theorem c_StubHouseModel_isFirst {l : Launch} {k : fxK} {S : fxS} {t : Int} {i : Int} (p0 : 0 ≤ t ∧ t ≤ 5) (p1 : 0 ≤ i ∧ i < 300) (hk : ∀ (r : Int) , (0 ≤ r ∧ r ≤ 1) → k (some (.inl r)) S) : fC l 180 [.inr (.inr (49, 0)), .inl t, .inl i] S k := by
  refine fxe_180 (Nat.le_of_ble_eq_true rfl) (fxz_180 400 ?_)
  refine And.intro (by decide) ?_
  exact (z_StubHouseModel_isFirst p0 p1 hk ((7 - (0 : Int)) * 1000 + 500).toNat).1 (0 : Int)  (by omega) (by omega)
theorem z_StubHouseModel_isWithin {l : Launch} {k : fxK} {S : fxS} {t : Int} {i : Int} {u : Int} {j : Int} (p0 : SGM S) (p1 : 0 ≤ t ∧ t ≤ 5) (p2 : 0 ≤ i ∧ i < 300) (p3 : 0 ≤ u ∧ u ≤ 5) (p4 : 0 ≤ j ∧ j < 300) (hk : ∀ (r : Int) , (0 ≤ r ∧ r ≤ 1) → k (some (.inl r)) S) : ∀ m : Nat, (∀ (c b a : Int), (0 ≤ b ∧ b ≤ 1) → (c = sgN S (300 * u + j) 5 ∧ 0 ≤ c ∧ c ≤ 5) → (b = 1 → c ≤ sgN S (300 * t + i) 5 ∨ c ≤ 0 ∨ 0 < a) → (c ≤ sgN S (300 * t + i) 5 ∨ b = 0) → (0 ≤ a ∧ a ≤ 40) → 41 - a ≤ (m : Int) → fZ l 182 k 32 [some (.inr (.inr (49, 0))), some (.inl t), some (.inl i), some (.inl u), some (.inl j), some (.inl c), some (.inl b), some (.inl a)] [] S) := by
  intro m
  induction m with
  | zero =>
    intro c b a  i0 i1 i2 i3 i4 hmu
    exfalso
    omega
  | succ m ih =>
    intro c b a  i0 i1 i2 i3 i4 hmu
    refine fxz_182 400 ?_
    refine And.intro (show -2147483648 ≤ ((8 : Int) * c) ∧ ((8 : Int) * c) < 2147483648 by omega) ?_
    refine And.intro (fun (h1 : (((8 : Int) * c) ≤ a : Prop)) => ?_) (fun (h1 : (a < ((8 : Int) * c) : Prop)) => ?_)
    ·
      refine And.intro (show 0 ≤ b ∧ b ≤ 1 by omega) ?_
      exact hk b (by omega)
    ·
      refine And.intro (fun (h2 : (b = (0 : Int) : Prop)) => ?_) (fun (h2 : (b ≠ (0 : Int) : Prop)) => ?_)
      ·
        refine And.intro (show 0 ≤ b ∧ b ≤ 1 by omega) ?_
        exact hk b (by omega)
      ·
        refine c_StubHouseModel_seg (t := t) (i := i) (w := (0 : Int)) (show 0 ≤ t ∧ t ≤ 5 by omega) (show 0 ≤ i ∧ i < 300 by omega) (show 0 ≤ (0 : Int) ∧ (0 : Int) < 8 by omega) (fun (z3 : Int) (q4 : z3 = sgN S (300 * t + i) (0 : Int) ∧ -2147483648 ≤ z3 ∧ z3 < 2147483648) => ?_)
        have sg1 := SGM_at (t := t) (i := i) p0 (by omega) (by omega)
        have sg2 := SGM_at (t := u) (i := j) p0 (by omega) (by omega)
        refine And.intro (show -2147483648 ≤ (z3 + (15 : Int)) ∧ (z3 + (15 : Int)) < 2147483648 by omega) ?_
        refine And.intro (show -2147483648 ≤ ((z3 + (15 : Int)) + a) ∧ ((z3 + (15 : Int)) + a) < 2147483648 by omega) ?_
        refine c_StubHouseModel_tapeByte (t := t) (p := ((z3 + (15 : Int)) + a)) (show 0 ≤ t ∧ t ≤ 5 by omega) (show 0 ≤ ((z3 + (15 : Int)) + a) ∧ ((z3 + (15 : Int)) + a) < 6000 by omega) (fun (z5 : Int) (q6 : z5 = tB S t ((z3 + (15 : Int)) + a) ∧ 0 ≤ z5 ∧ z5 ≤ 255) => ?_)
        refine c_StubHouseModel_seg (t := u) (i := j) (w := (0 : Int)) (show 0 ≤ u ∧ u ≤ 5 by omega) (show 0 ≤ j ∧ j < 300 by omega) (show 0 ≤ (0 : Int) ∧ (0 : Int) < 8 by omega) (fun (z7 : Int) (q8 : z7 = sgN S (300 * u + j) (0 : Int) ∧ -2147483648 ≤ z7 ∧ z7 < 2147483648) => ?_)
        refine And.intro (show -2147483648 ≤ (z7 + (15 : Int)) ∧ (z7 + (15 : Int)) < 2147483648 by omega) ?_
        refine And.intro (show -2147483648 ≤ ((z7 + (15 : Int)) + a) ∧ ((z7 + (15 : Int)) + a) < 2147483648 by omega) ?_
        refine c_StubHouseModel_tapeByte (t := u) (p := ((z7 + (15 : Int)) + a)) (show 0 ≤ u ∧ u ≤ 5 by omega) (show 0 ≤ ((z7 + (15 : Int)) + a) ∧ ((z7 + (15 : Int)) + a) < 6000 by omega) (fun (z9 : Int) (q10 : z9 = tB S u ((z7 + (15 : Int)) + a) ∧ 0 ≤ z9 ∧ z9 ≤ 255) => ?_)
        refine And.intro (fun (h11 : (z5 ≠ z9 : Prop)) => ?_) (fun (h11 : (z5 = z9 : Prop)) => ?_)
        ·
          refine And.intro (by decide) ?_
          refine And.intro (by decide) (And.intro (show -2147483648 ≤ a + (1 : Int) ∧ a + (1 : Int) < 2147483648 by omega) ?_)
          exact ih c (0 : Int) (a + (1 : Int))  (by omega) (by omega) (by omega) (by omega) (by omega) (by omega)
        ·
          refine And.intro (by decide) ?_
          refine And.intro (by decide) (And.intro (show -2147483648 ≤ a + (1 : Int) ∧ a + (1 : Int) < 2147483648 by omega) ?_)
          exact ih c (1 : Int) (a + (1 : Int))  (by omega) (by omega) (by omega) (by omega) (by omega) (by omega)
theorem c_StubHouseModel_isWithin {l : Launch} {k : fxK} {S : fxS} {t : Int} {i : Int} {u : Int} {j : Int} (p0 : SGM S) (p1 : 0 ≤ t ∧ t ≤ 5) (p2 : 0 ≤ i ∧ i < 300) (p3 : 0 ≤ u ∧ u ≤ 5) (p4 : 0 ≤ j ∧ j < 300) (hk : ∀ (r : Int) , (0 ≤ r ∧ r ≤ 1) → k (some (.inl r)) S) : fC l 182 [.inr (.inr (49, 0)), .inl t, .inl i, .inl u, .inl j] S k := by
  refine fxe_182 (Nat.le_of_ble_eq_true rfl) (fxz_182 400 ?_)
  refine c_StubHouseModel_seg (t := u) (i := j) (w := (5 : Int)) (show 0 ≤ u ∧ u ≤ 5 by omega) (show 0 ≤ j ∧ j < 300 by omega) (show 0 ≤ (5 : Int) ∧ (5 : Int) < 8 by omega) (fun (z14 : Int) (q15 : z14 = sgN S (300 * u + j) (5 : Int) ∧ -2147483648 ≤ z14 ∧ z14 < 2147483648) => ?_)
  have sg1 := SGM_at (t := t) (i := i) p0 (by omega) (by omega)
  have sg2 := SGM_at (t := u) (i := j) p0 (by omega) (by omega)
  refine And.intro (by decide) ?_
  refine c_StubHouseModel_seg (t := t) (i := i) (w := (5 : Int)) (show 0 ≤ t ∧ t ≤ 5 by omega) (show 0 ≤ i ∧ i < 300 by omega) (show 0 ≤ (5 : Int) ∧ (5 : Int) < 8 by omega) (fun (z16 : Int) (q17 : z16 = sgN S (300 * t + i) (5 : Int) ∧ -2147483648 ≤ z16 ∧ z16 < 2147483648) => ?_)
  refine And.intro (fun (h18 : (z16 < z14 : Prop)) => ?_) (fun (h18 : (z14 ≤ z16 : Prop)) => ?_)
  ·
    refine And.intro (by decide) ?_
    refine And.intro (by decide) ?_
    exact (z_StubHouseModel_isWithin p0 p1 p2 p3 p4 hk (41 - (0 : Int)).toNat) z14 (0 : Int) (0 : Int)  (by omega) (by omega) (by omega) (by omega) (by omega) (by omega)
  ·
    refine And.intro (by decide) ?_
    refine And.intro (by decide) ?_
    exact (z_StubHouseModel_isWithin p0 p1 p2 p3 p4 hk (41 - (0 : Int)).toNat) z14 (1 : Int) (0 : Int)  (by omega) (by omega) (by omega) (by omega) (by omega) (by omega)
