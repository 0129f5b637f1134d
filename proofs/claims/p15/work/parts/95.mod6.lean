/-! contracts of the reference: crashes, losses, what is live -/
theorem z_StubHouseModel_crash {l : Launch} {k : fxK} {S : fxS} {n : Int} (p0 : COL S) (p1 : WTM S) (p2 : INJ S) (p3 : AON S) (p4 : USE S) (p5 : SNP S) (p6 : REC S) (p7 : WNW S) (p8 : WNR S) (p9 : -2147483648 ≤ n ∧ n < 2147483648) (hk : ∀ (r : Int) (S' : fxS) , (fxfr [(49, 0), (49, 7), (49, 36), (49, 38), (49, 39), (49, 43), (50, 9999), (52, 9999), (53, 9999), (56, 9999), (58, 9999), (70, 9999), (71, 9999), (72, 9999), (73, 9999), (79, 9999)] S S' ∧ (-2147483648 ≤ r ∧ r < 2147483648) ∧ (COL S') ∧ (WTM S') ∧ (INJ S') ∧ (AON S') ∧ (USE S') ∧ (SNP S') ∧ (REC S') ∧ (WNW S') ∧ (WNR S')) → k (some (.inl r)) S') : ∀ m : Nat, (∀ (c e : Int) (S1 : fxS), (fxfr [(49, 0), (49, 7), (49, 36), (49, 38), (49, 39), (49, 43), (50, 9999), (52, 9999), (53, 9999), (56, 9999), (58, 9999), (70, 9999), (71, 9999), (72, 9999), (73, 9999), (79, 9999)] S S1) → (0 ≤ c ∧ (c ≤ 0 ∨ c ≤ S1 49 0 7) ∧ c ≤ 200) → (0 ≤ e ∧ e < 2147483648) → (COL S1) → (WTM S1) → (INJ S1) → (AON S1) → (USE S1) → (SNP S1) → (REC S1) → 100000 - c ≤ (m : Int) → fZ l 150 k 25 [some (.inr (.inr (49, 0))), none, some (.inl c), some (.inl e), none, none] [] S1) ∧ (∀ (c j : Int) (S1 : fxS), (fxfr [(49, 0), (49, 7), (49, 36), (49, 38), (49, 39), (49, 43), (50, 9999), (52, 9999), (53, 9999), (56, 9999), (58, 9999), (70, 9999), (71, 9999), (72, 9999), (73, 9999), (79, 9999)] S S1) → (0 ≤ c ∧ c ≤ S1 49 0 7 ∧ S1 49 0 7 ≤ 200) → (0 ≤ j ∧ j ≤ 2561) → (SNP S1) → (CRJ j c S1) → 90000 - j ≤ (m : Int) → fZ l 150 k 61 [some (.inr (.inr (49, 0))), none, some (.inl c), none, some (.inl j), none] [] S1) ∧ (∀ (c j : Int) (S1 : fxS), (fxfr [(49, 0), (49, 7), (49, 36), (49, 38), (49, 39), (49, 43), (50, 9999), (52, 9999), (53, 9999), (56, 9999), (58, 9999), (70, 9999), (71, 9999), (72, 9999), (73, 9999), (79, 9999)] S S1) → (0 ≤ c ∧ c ≤ 200) → (0 ≤ j ∧ j ≤ 60) → (COL S1) → (WTM S1) → (INJ S1) → (AON S1) → (SNP S1) → 80000 - j ≤ (m : Int) → fZ l 150 k 98 [some (.inr (.inr (49, 0))), none, some (.inl c), none, some (.inl j), none] [] S1) ∧ (∀ (c j : Int) (S1 : fxS), (fxfr [(49, 0), (49, 7), (49, 36), (49, 38), (49, 39), (49, 43), (50, 9999), (52, 9999), (53, 9999), (56, 9999), (58, 9999), (70, 9999), (71, 9999), (72, 9999), (73, 9999), (79, 9999)] S S1) → (0 ≤ c ∧ c ≤ 200) → (0 ≤ j ∧ j ≤ 208) → (COL S1) → (WTM S1) → (INJ S1) → (AON S1) → (SNP S1) → 70000 - j ≤ (m : Int) → fZ l 150 k 144 [some (.inr (.inr (49, 0))), none, some (.inl c), none, some (.inl j), none] [] S1) ∧ (∀ (c j : Int) (S1 : fxS), (fxfr [(49, 0), (49, 7), (49, 36), (49, 38), (49, 39), (49, 43), (50, 9999), (52, 9999), (53, 9999), (56, 9999), (58, 9999), (70, 9999), (71, 9999), (72, 9999), (73, 9999), (79, 9999)] S S1) → (0 ≤ c ∧ c ≤ 200) → (1 ≤ j ∧ j ≤ 60) → (COL S1) → (WTM S1) → (INJ S1) → (AON S1) → (SNP S1) → (UJ j (0 : Int) S1) → (61 - j) * 100 + 99 ≤ (m : Int) → fZ l 150 k 169 [some (.inr (.inr (49, 0))), none, some (.inl c), none, some (.inl j), none] [] S1) ∧ (∀ (c j i : Int) (S1 : fxS), (fxfr [(49, 0), (49, 7), (49, 36), (49, 38), (49, 39), (49, 43), (50, 9999), (52, 9999), (53, 9999), (56, 9999), (58, 9999), (70, 9999), (71, 9999), (72, 9999), (73, 9999), (79, 9999)] S S1) → (0 ≤ c ∧ c ≤ 200) → (1 ≤ j ∧ j < 60) → (0 ≤ i ∧ i ≤ 32) → (COL S1) → (WTM S1) → (INJ S1) → (AON S1) → (SNP S1) → (UJ j i S1) → (61 - j) * 100 + 50 - i ≤ (m : Int) → fZ l 150 k 179 [some (.inr (.inr (49, 0))), none, some (.inl c), none, some (.inl j), some (.inl i)] [] S1) := by
  intro m
  induction m with
  | zero =>
    refine ⟨?_, ?_, ?_, ?_, ?_, ?_⟩
    · intro c e S1 hf i0 i1 i2 i3 i4 i5 i6 i7 i8 hmu
      exfalso
      omega
    · intro c j S1 hf i0 i1 i2 i3 hmu
      exfalso
      omega
    · intro c j S1 hf i0 i1 i2 i3 i4 i5 i6 hmu
      exfalso
      omega
    · intro c j S1 hf i0 i1 i2 i3 i4 i5 i6 hmu
      exfalso
      omega
    · intro c j S1 hf i0 i1 i2 i3 i4 i5 i6 i7 hmu
      exfalso
      omega
    · intro c j i S1 hf i0 i1 i2 i3 i4 i5 i6 i7 i8 hmu
      exfalso
      omega
  | succ m ih =>
    refine ⟨?_, ?_, ?_, ?_, ?_, ?_⟩
    · intro c e S1 hf i0 i1 i2 i3 i4 i5 i6 i7 i8 hmu
      refine fxz_150 400 ?_
      intro z1 (z1a : (0 : Int) ≤ z1) (z1b : z1 ≤ (200 : Int)) (z1c : z1 = S1 49 0 7)
      refine And.intro (fun (h2 : (z1 ≤ c : Prop)) => ?_) (fun (h2 : (c < z1 : Prop)) => ?_)
      ·
        refine And.intro (by decide) ?_
        have c0 : CRJ (0 : Int) c S1 := CRJ_0
        exact ih.2.1 c (0 : Int) S1 hf (by omega) (by omega) i7 c0 (by omega)
      ·
        refine And.intro (show 0 ≤ c ∧ c < 200 by omega) ?_
        intro z3 (z3a : (0 : Int) ≤ z3) (z3b : z3 ≤ (1000 : Int)) (z3c : z3 = S1 55 0 (c).toNat)
        refine And.intro (fun (h4 : (e < z3 : Prop)) => ?_) (fun (h4 : (z3 ≤ e : Prop)) => ?_)
        ·
          refine And.intro (by decide) ?_
          have c0 : CRJ (0 : Int) c S1 := CRJ_0
          exact ih.2.1 c (0 : Int) S1 hf (by omega) (by omega) i7 c0 (by omega)
        ·
          refine And.intro (show 0 ≤ c ∧ c < 200 by omega) ?_
          intro z5 (z5a : (0 : Int) ≤ z5) (z5b : z5 ≤ (1000 : Int)) (z5c : z5 = S1 55 0 (c).toNat)
          refine And.intro (show -2147483648 ≤ (e - z5) ∧ (e - z5) < 2147483648 by omega) ?_
          refine And.intro (by decide) ?_
          refine And.intro (by decide) (And.intro (show -2147483648 ≤ c + (1 : Int) ∧ c + (1 : Int) < 2147483648 by omega) ?_)
          exact ih.1 (c + (1 : Int)) (e - z5) S1 hf (by omega) (by omega) i2 i3 i4 i5 i6 i7 i8 (by omega)
    · intro c j S1 hf i0 i1 i2 i3 hmu
      refine fxz_150 400 ?_
      refine And.intro (fun (h7 : ((2561 : Int) ≤ j : Prop)) => ?_) (fun (h7 : (j < (2561 : Int) : Prop)) => ?_)
      ·
        refine And.intro (by decide) ?_
        have gd : GOODf (S1 50 0) := CRJ_good i3 (by omega) i2 (by omega)
        have h1 : COL S1 := gd.1
        have h2 : WTM S1 := gd.2.1
        have h3 : INJ S1 := gd.2.2.1
        have h4 : AON S1 := gd.2.2.2
        exact ih.2.2.1 c (0 : Int) S1 hf (by omega) (by omega) h1 h2 h3 h4 i2 (by omega)
      ·
        refine And.intro (show -2147483648 ≤ ((2561 : Int) * c) ∧ ((2561 : Int) * c) < 2147483648 by omega) ?_
        refine And.intro (show -2147483648 ≤ (((2561 : Int) * c) + j) ∧ (((2561 : Int) * c) + j) < 2147483648 by omega) ?_
        refine And.intro (show 0 ≤ (((2561 : Int) * c) + j) ∧ (((2561 : Int) * c) + j) < 514761 by omega) ?_
        intro z8 (z8a : (-2147483648 : Int) ≤ z8) (z8b : z8 ≤ (2147483647 : Int)) (z8c : z8 = S1 53 0 ((((2561 : Int) * c) + j)).toNat)
        refine And.intro (show 0 ≤ j ∧ j < 2561 by omega) ?_
        refine And.intro (show (-2147483648 : Int) ≤ z8 ∧ z8 ≤ (2147483647 : Int) by omega) ?_
        have w9 : (fx_up S1 50 0 (j).toNat z8) 49 0 36 = S1 49 0 36 := rfl
        have w10 : (fx_up S1 50 0 (j).toNat z8) 49 0 7 = S1 49 0 7 := rfl
        have g11 : SNP (fx_up S1 50 0 (j).toNat z8) := fx_pup SNP_stab rfl i2
        have cj : CRJ (j + (1 : Int)) c (fx_up S1 50 0 (j).toNat z8) := CRJ_step i3 (by omega) (by omega) (by omega)
        refine And.intro (by decide) (And.intro (show -2147483648 ≤ j + (1 : Int) ∧ j + (1 : Int) < 2147483648 by omega) ?_)
        exact ih.2.1 c (j + (1 : Int)) (fx_up S1 50 0 (j).toNat z8) (fxfr_up hf rfl) (by omega) (by omega) g11 cj (by omega)
    · intro c j S1 hf i0 i1 i2 i3 i4 i5 i6 hmu
      refine fxz_150 400 ?_
      refine And.intro (fun (h13 : ((60 : Int) ≤ j : Prop)) => ?_) (fun (h13 : (j < (60 : Int) : Prop)) => ?_)
      ·
        refine And.intro (by decide) ?_
        exact ih.2.2.2.1 c (0 : Int) S1 hf (by omega) (by omega) i2 i3 i4 i5 i6 (by omega)
      ·
        refine And.intro (show -2147483648 ≤ ((60 : Int) * c) ∧ ((60 : Int) * c) < 2147483648 by omega) ?_
        refine And.intro (show -2147483648 ≤ (((60 : Int) * c) + j) ∧ (((60 : Int) * c) + j) < 2147483648 by omega) ?_
        refine And.intro (show 0 ≤ (((60 : Int) * c) + j) ∧ (((60 : Int) * c) + j) < 12060 by omega) ?_
        intro z14
        refine And.intro (show 0 ≤ j ∧ j < 60 by omega) ?_
        intro z15 (z15a : (-2147483648 : Int) ≤ z15) (z15b : z15 ≤ (2147483647 : Int)) (z15c : z15 = S1 49 0 11)
        refine And.intro (show 0 ≤ j ∧ j < 60 by omega) ?_
        refine And.intro (show (-2147483648 : Int) ≤ z15 ∧ z15 ≤ (2147483647 : Int) by omega) ?_
        have w16 : (fx_up S1 52 0 (j).toNat z15) 49 0 36 = S1 49 0 36 := rfl
        have w17 : (fx_up S1 52 0 (j).toNat z15) 49 0 7 = S1 49 0 7 := rfl
        have g18 : COL (fx_up S1 52 0 (j).toNat z15) := fx_pup COL_stab rfl i2
        have g19 : WTM (fx_up S1 52 0 (j).toNat z15) := fx_pup WTM_stab rfl i3
        have g20 : INJ (fx_up S1 52 0 (j).toNat z15) := fx_pup INJ_stab rfl i4
        have g21 : AON (fx_up S1 52 0 (j).toNat z15) := fx_pup AON_stab rfl i5
        have g22 : SNP (fx_up S1 52 0 (j).toNat z15) := fx_pup SNP_stab rfl i6
        refine And.intro (by decide) (And.intro (show -2147483648 ≤ j + (1 : Int) ∧ j + (1 : Int) < 2147483648 by omega) ?_)
        exact ih.2.2.1 c (j + (1 : Int)) (fx_up S1 52 0 (j).toNat z15) (fxfr_up hf rfl) (by omega) (by omega) g18 g19 g20 g21 g22 (by omega)
    · intro c j S1 hf i0 i1 i2 i3 i4 i5 i6 hmu
      refine fxz_150 400 ?_
      refine And.intro (fun (h24 : ((208 : Int) ≤ j : Prop)) => ?_) (fun (h24 : (j < (208 : Int) : Prop)) => ?_)
      ·
        refine And.intro (by decide) ?_
        have u0 : UJ (1 : Int) (0 : Int) S1 := UJ_0 i3
        exact ih.2.2.2.2.1 c (1 : Int) S1 hf (by omega) (by omega) i2 i3 i4 i5 i6 u0 (by omega)
      ·
        refine And.intro (show 0 ≤ j ∧ j < 208 by omega) ?_
        refine And.intro (show (0 : Int) ≤ (0 : Int) ∧ (0 : Int) ≤ (2 : Int) by omega) ?_
        have w25 : (fx_up S1 56 0 (j).toNat (0 : Int)) 49 0 36 = S1 49 0 36 := rfl
        have w26 : (fx_up S1 56 0 (j).toNat (0 : Int)) 49 0 7 = S1 49 0 7 := rfl
        have g27 : COL (fx_up S1 56 0 (j).toNat (0 : Int)) := fx_pup COL_stab rfl i2
        have g28 : WTM (fx_up S1 56 0 (j).toNat (0 : Int)) := fx_pup WTM_stab rfl i3
        have g29 : INJ (fx_up S1 56 0 (j).toNat (0 : Int)) := fx_pup INJ_stab rfl i4
        have g30 : AON (fx_up S1 56 0 (j).toNat (0 : Int)) := fx_pup AON_stab rfl i5
        have g31 : SNP (fx_up S1 56 0 (j).toNat (0 : Int)) := fx_pup SNP_stab rfl i6
        refine And.intro (by decide) (And.intro (show -2147483648 ≤ j + (1 : Int) ∧ j + (1 : Int) < 2147483648 by omega) ?_)
        exact ih.2.2.2.1 c (j + (1 : Int)) (fx_up S1 56 0 (j).toNat (0 : Int)) (fxfr_up hf rfl) (by omega) (by omega) g27 g28 g29 g30 g31 (by omega)
    · intro c j S1 hf i0 i1 i2 i3 i4 i5 i6 i7 hmu
      refine fxz_150 400 ?_
      refine And.intro (fun (h33 : ((60 : Int) ≤ j : Prop)) => ?_) (fun (h33 : (j < (60 : Int) : Prop)) => ?_)
      ·
        have u9 : USE S1 := UJ_use i7 (by omega)
        refine c_StubHouseModel_syncAll  i2 i3 i4 i5 u9 (fun (z34 : Int) (S35 : fxS) ⟨(f36 : fxfr [(49, 7), (53, 9999), (56, 9999), (58, 9999)] S1 S35), (q37 : 0 ≤ z34 ∧ z34 ≤ 200 ∧ S35 49 0 7 = 0), (g38 : SNP S35), (g39 : USE S35), (g40 : UZ S1 S35)⟩ => ?_)
        have w41 : S35 49 0 36 = S1 49 0 36 := f36 49 0 36 rfl
        have g42 : COL S35 := fx_pfr COL_stab f36 rfl i2
        have g43 : WTM S35 := fx_pfr WTM_stab f36 rfl i3
        have g44 : INJ S35 := fx_pfr INJ_stab f36 rfl i4
        have g45 : AON S35 := fx_pfr AON_stab f36 rfl i5
        refine And.intro (by decide) ?_
        refine c_StubHouseModel_stopAll   (fun (S46 : fxS) ⟨(f47 : fxfr [(49, 36), (49, 38), (49, 39), (49, 43), (70, 9999), (71, 9999), (72, 9999), (73, 9999), (79, 9999)] S35 S46), (q48 : S46 49 0 36 = 0), (g49 : WNW S46), (g50 : WNR S46)⟩ => ?_)
        have w51 : S46 49 0 7 = S35 49 0 7 := f47 49 0 7 rfl
        have g52 : COL S46 := fx_pfr COL_stab f47 rfl g42
        have g53 : WTM S46 := fx_pfr WTM_stab f47 rfl g43
        have g54 : INJ S46 := fx_pfr INJ_stab f47 rfl g44
        have g55 : AON S46 := fx_pfr AON_stab f47 rfl g45
        have g56 : SNP S46 := fx_pfr SNP_stab f47 rfl g38
        have g57 : USE S46 := fx_pfr USE_stab f47 rfl g39
        have g58 : UZ S1 S46 := fx_pfr UZ_stab f47 rfl g40
        exact hk c S46 ⟨(fxfr_tr (fxfr_tr hf f36 rfl) f47 rfl), by omega, g52, g53, g54, g55, g57, g56, by exact REC_0 (by omega), g49, g50⟩
      ·
        refine And.intro (by decide) ?_
        exact ih.2.2.2.2.2 c j (0 : Int) S1 hf (by omega) (by omega) (by omega) i2 i3 i4 i5 i6 i7 (by omega)
    · intro c j i S1 hf i0 i1 i2 i3 i4 i5 i6 i7 i8 hmu
      refine fxz_150 400 ?_
      refine And.intro (fun (h59 : ((32 : Int) ≤ i : Prop)) => ?_) (fun (h59 : (i < (32 : Int) : Prop)) => ?_)
      ·
        refine And.intro (by decide) (And.intro (show -2147483648 ≤ j + (1 : Int) ∧ j + (1 : Int) < 2147483648 by omega) ?_)
        have un : UJ (j + (1 : Int)) (0 : Int) S1 := UJ_next i8 (by omega)
        exact ih.2.2.2.2.1 c (j + (1 : Int)) S1 hf (by omega) (by omega) i3 i4 i5 i6 i7 un (by omega)
      ·
        refine c_at0 (n := j) i3 (show 0 ≤ j ∧ j < 60 by omega) (fun (z61 : Int) (q62 : z61 = aN S1 j 0 ∧ 0 ≤ z61 ∧ z61 ≤ 2) => ?_)
        refine And.intro (fun (h63 : (z61 ≠ (2 : Int) : Prop)) => ?_) (fun (h63 : (z61 = (2 : Int) : Prop)) => ?_)
        ·
          refine And.intro (by decide) (And.intro (show -2147483648 ≤ j + (1 : Int) ∧ j + (1 : Int) < 2147483648 by omega) ?_)
          have un : UJ (j + (1 : Int)) (0 : Int) S1 := UJ_next i8 (by omega)
          exact ih.2.2.2.2.1 c (j + (1 : Int)) S1 hf (by omega) (by omega) i3 i4 i5 i6 i7 un (by omega)
        ·
          refine And.intro (show -2147483648 ≤ ((10 : Int) + i) ∧ ((10 : Int) + i) < 2147483648 by omega) ?_
          refine c_atb (n := j) (w := ((10 : Int) + i)) i3 (show 0 ≤ j ∧ j < 60 by omega) (show 10 ≤ ((10 : Int) + i) ∧ ((10 : Int) + i) < 42 by omega) (fun (z65 : Int) (q66 : z65 = aN S1 j ((10 : Int) + i) ∧ -1 ≤ z65 ∧ z65 ≤ 207) => ?_)
          have us : z65 < 0 → UJ j (i + (1 : Int)) S1 := fun h => UJ_no i8 q66.1 h
          refine And.intro (fun (h67 : (z65 < (0 : Int) : Prop)) => ?_) (fun (h67 : ((0 : Int) ≤ z65 : Prop)) => ?_)
          ·
            refine And.intro (by decide) (And.intro (show -2147483648 ≤ i + (1 : Int) ∧ i + (1 : Int) < 2147483648 by omega) ?_)
            have uq : UJ j (i + (1 : Int)) S1 := us (by omega)
            exact ih.2.2.2.2.2 c j (i + (1 : Int)) S1 hf (by omega) (by omega) (by omega) i3 i4 i5 i6 i7 uq (by omega)
          ·
            refine And.intro (show -2147483648 ≤ ((10 : Int) + i) ∧ ((10 : Int) + i) < 2147483648 by omega) ?_
            refine c_atb (n := j) (w := ((10 : Int) + i)) i3 (show 0 ≤ j ∧ j < 60 by omega) (show 10 ≤ ((10 : Int) + i) ∧ ((10 : Int) + i) < 42 by omega) (fun (z69 : Int) (q70 : z69 = aN S1 j ((10 : Int) + i) ∧ -1 ≤ z69 ∧ z69 ≤ 207) => ?_)
            refine And.intro (show 0 ≤ z69 ∧ z69 < 208 by omega) ?_
            refine And.intro (show (0 : Int) ≤ (1 : Int) ∧ (1 : Int) ≤ (2 : Int) by omega) ?_
            have w71 : (fx_up S1 56 0 (z69).toNat (1 : Int)) 49 0 36 = S1 49 0 36 := rfl
            have w72 : (fx_up S1 56 0 (z69).toNat (1 : Int)) 49 0 7 = S1 49 0 7 := rfl
            have g73 : COL (fx_up S1 56 0 (z69).toNat (1 : Int)) := fx_pup COL_stab rfl i3
            have g74 : WTM (fx_up S1 56 0 (z69).toNat (1 : Int)) := fx_pup WTM_stab rfl i4
            have g75 : INJ (fx_up S1 56 0 (z69).toNat (1 : Int)) := fx_pup INJ_stab rfl i5
            have g76 : AON (fx_up S1 56 0 (z69).toNat (1 : Int)) := fx_pup AON_stab rfl i6
            have g77 : SNP (fx_up S1 56 0 (z69).toNat (1 : Int)) := fx_pup SNP_stab rfl i7
            have up : UJ j (i + (1 : Int)) (fx_up S1 56 0 (z69).toNat (1 : Int)) := UJ_put i8 (by omega) (by omega)
            refine And.intro (by decide) (And.intro (show -2147483648 ≤ i + (1 : Int) ∧ i + (1 : Int) < 2147483648 by omega) ?_)
            have uq : UJ j (i + (1 : Int)) (fx_up S1 56 0 (z69).toNat (1 : Int)) := up
            exact ih.2.2.2.2.2 c j (i + (1 : Int)) (fx_up S1 56 0 (z69).toNat (1 : Int)) (fxfr_up hf rfl) (by omega) (by omega) (by omega) g73 g74 g75 g76 g77 uq (by omega)
theorem c_StubHouseModel_crash {l : Launch} {k : fxK} {S : fxS} {n : Int} (p0 : COL S) (p1 : WTM S) (p2 : INJ S) (p3 : AON S) (p4 : USE S) (p5 : SNP S) (p6 : REC S) (p7 : WNW S) (p8 : WNR S) (p9 : -2147483648 ≤ n ∧ n < 2147483648) (hk : ∀ (r : Int) (S' : fxS) , (fxfr [(49, 0), (49, 7), (49, 36), (49, 38), (49, 39), (49, 43), (50, 9999), (52, 9999), (53, 9999), (56, 9999), (58, 9999), (70, 9999), (71, 9999), (72, 9999), (73, 9999), (79, 9999)] S S' ∧ (-2147483648 ≤ r ∧ r < 2147483648) ∧ (COL S') ∧ (WTM S') ∧ (INJ S') ∧ (AON S') ∧ (USE S') ∧ (SNP S') ∧ (REC S') ∧ (WNW S') ∧ (WNR S')) → k (some (.inl r)) S') : fC l 150 [.inr (.inr (49, 0)), .inl n] S k := by
  refine fxe_150 (Nat.le_of_ble_eq_true rfl) (fxz_150 400 ?_)
  refine And.intro (show (-2147483648 : Int) ≤ (0 : Int) ∧ (0 : Int) ≤ (2147483647 : Int) by omega) ?_
  have w79 : (fx_up S 49 0 0 (0 : Int)) 49 0 36 = S 49 0 36 := if_neg (fun q => absurd q.2.2 (by decide))
  have w80 : (fx_up S 49 0 0 (0 : Int)) 49 0 7 = S 49 0 7 := if_neg (fun q => absurd q.2.2 (by decide))
  have g81 : COL (fx_up S 49 0 0 (0 : Int)) := fx_pup COL_stab rfl p0
  have g82 : WTM (fx_up S 49 0 0 (0 : Int)) := fx_pup WTM_stab rfl p1
  have g83 : INJ (fx_up S 49 0 0 (0 : Int)) := fx_pup INJ_stab rfl p2
  have g84 : AON (fx_up S 49 0 0 (0 : Int)) := fx_pup AON_stab rfl p3
  have g85 : USE (fx_up S 49 0 0 (0 : Int)) := fx_pup USE_stab rfl p4
  have g86 : SNP (fx_up S 49 0 0 (0 : Int)) := fx_pup SNP_stab rfl p5
  have g87 : REC (fx_up S 49 0 0 (0 : Int)) := fx_pup REC_stab rfl p6
  have g88 : WNW (fx_up S 49 0 0 (0 : Int)) := fx_pup WNW_stab rfl p7
  have g89 : WNR (fx_up S 49 0 0 (0 : Int)) := fx_pup WNR_stab rfl p8
  intro z90 (z90a : (0 : Int) ≤ z90) (z90b : z90 ≤ (1 : Int)) (z90c : z90 = S 49 0 15)
  refine And.intro (fun (h91 : (z90 = (0 : Int) : Prop)) => ?_) (fun (h91 : (z90 ≠ (0 : Int) : Prop)) => ?_)
  ·
    refine And.intro (fun (h92 : ((0 : Int) ≤ n : Prop)) => ?_) (fun (h92 : (n < (0 : Int) : Prop)) => ?_)
    ·
      refine And.intro (by decide) ?_
      refine And.intro (by decide) ?_
      exact (z_StubHouseModel_crash p0 p1 p2 p3 p4 p5 p6 p7 p8 p9 hk (100000 - (0 : Int)).toNat).1 (0 : Int) n (fx_up S 49 0 0 (0 : Int)) (fxfr_up fxfr_rfl rfl) (by omega) (by omega) g81 g82 g83 g84 g85 g86 g87 (by omega)
    ·
      exact hk (-1 : Int) (fx_up S 49 0 0 (0 : Int)) ⟨(fxfr_up fxfr_rfl rfl), by omega, g81, g82, g83, g84, g85, g86, g87, g88, g89⟩
  ·
    exact hk (-8 : Int) (fx_up S 49 0 0 (0 : Int)) ⟨(fxfr_up fxfr_rfl rfl), by omega, g81, g82, g83, g84, g85, g86, g87, g88, g89⟩
theorem c_StubHouseModel_lose {l : Launch} {k : fxK} {S : fxS}  (p0 : COL S) (p1 : WTM S) (p2 : INJ S) (p3 : AON S) (p4 : USE S) (p5 : SNP S) (p6 : REC S) (p7 : WNW S) (p8 : WNR S) (p9 : LCM S) (hk : ∀ (r : Int) (S' : fxS) , (fxfr [(49, 0), (49, 7), (49, 15), (49, 36), (49, 38), (49, 39), (49, 43), (50, 9999), (53, 9999), (56, 9999), (70, 9999), (71, 9999), (72, 9999), (73, 9999), (79, 9999)] S S' ∧ (-2147483648 ≤ r ∧ r < 2147483648) ∧ (COL S') ∧ (WTM S') ∧ (INJ S') ∧ (AON S') ∧ (USE S') ∧ (SNP S') ∧ (REC S') ∧ (WNW S') ∧ (WNR S') ∧ (LCM S')) → k (some (.inl r)) S') : fC l 157 [.inr (.inr (49, 0))] S k := by
  refine fxe_157 (Nat.le_of_ble_eq_true rfl) (fxz_157 400 ?_)
  refine And.intro (show (-2147483648 : Int) ≤ (0 : Int) ∧ (0 : Int) ≤ (2147483647 : Int) by omega) ?_
  have w1 : (fx_up S 49 0 0 (0 : Int)) 49 0 36 = S 49 0 36 := if_neg (fun q => absurd q.2.2 (by decide))
  have g2 : COL (fx_up S 49 0 0 (0 : Int)) := fx_pup COL_stab rfl p0
  have g3 : WTM (fx_up S 49 0 0 (0 : Int)) := fx_pup WTM_stab rfl p1
  have g4 : INJ (fx_up S 49 0 0 (0 : Int)) := fx_pup INJ_stab rfl p2
  have g5 : AON (fx_up S 49 0 0 (0 : Int)) := fx_pup AON_stab rfl p3
  have g6 : USE (fx_up S 49 0 0 (0 : Int)) := fx_pup USE_stab rfl p4
  have g7 : SNP (fx_up S 49 0 0 (0 : Int)) := fx_pup SNP_stab rfl p5
  have g8 : REC (fx_up S 49 0 0 (0 : Int)) := fx_pup REC_stab rfl p6
  have g9 : WNW (fx_up S 49 0 0 (0 : Int)) := fx_pup WNW_stab rfl p7
  have g10 : WNR (fx_up S 49 0 0 (0 : Int)) := fx_pup WNR_stab rfl p8
  have g11 : LCM (fx_up S 49 0 0 (0 : Int)) := fx_pup LCM_stab rfl p9
  intro z12 (z12a : (0 : Int) ≤ z12) (z12b : z12 ≤ (1 : Int)) (z12c : z12 = S 49 0 15)
  refine And.intro (fun (h13 : (z12 = (0 : Int) : Prop)) => ?_) (fun (h13 : (z12 ≠ (0 : Int) : Prop)) => ?_)
  ·
    refine c_StubHouseModel_files  g2 (fun (z14 : Int) (q15 : 0 ≤ z14 ∧ z14 ≤ 60) => ?_)
    refine And.intro (by decide) ?_
    refine c_StubHouseModel_empty   (fun (S16 : fxS) ⟨(f17 : fxfr [(49, 7), (50, 9999), (53, 9999), (56, 9999)] (fx_up S 49 0 0 (0 : Int)) S16), (g18 : COL S16), (g19 : WTM S16), (g20 : INJ S16), (g21 : AON S16), (g22 : USE S16), (g23 : SNP S16)⟩ => ?_)
    have w24 : S16 49 0 36 = (fx_up S 49 0 0 (0 : Int)) 49 0 36 := f17 49 0 36 rfl
    have g25 : WNW S16 := fx_pfr WNW_stab f17 rfl g9
    have g26 : WNR S16 := fx_pfr WNR_stab f17 rfl g10
    have g27 : LCM S16 := fx_pfr LCM_stab f17 rfl g11
    refine c_StubHouseModel_stopAll   (fun (S28 : fxS) ⟨(f29 : fxfr [(49, 36), (49, 38), (49, 39), (49, 43), (70, 9999), (71, 9999), (72, 9999), (73, 9999), (79, 9999)] S16 S28), (q30 : S28 49 0 36 = 0), (g31 : WNW S28), (g32 : WNR S28)⟩ => ?_)
    have g33 : COL S28 := fx_pfr COL_stab f29 rfl g18
    have g34 : WTM S28 := fx_pfr WTM_stab f29 rfl g19
    have g35 : INJ S28 := fx_pfr INJ_stab f29 rfl g20
    have g36 : AON S28 := fx_pfr AON_stab f29 rfl g21
    have g37 : USE S28 := fx_pfr USE_stab f29 rfl g22
    have g38 : SNP S28 := fx_pfr SNP_stab f29 rfl g23
    refine And.intro (show (0 : Int) ≤ (1 : Int) ∧ (1 : Int) ≤ (1 : Int) by omega) ?_
    have w39 : (fx_up S28 49 0 15 (1 : Int)) 49 0 36 = S28 49 0 36 := if_neg (fun q => absurd q.2.2 (by decide))
    have g40 : COL (fx_up S28 49 0 15 (1 : Int)) := fx_pup COL_stab rfl g33
    have g41 : WTM (fx_up S28 49 0 15 (1 : Int)) := fx_pup WTM_stab rfl g34
    have g42 : INJ (fx_up S28 49 0 15 (1 : Int)) := fx_pup INJ_stab rfl g35
    have g43 : AON (fx_up S28 49 0 15 (1 : Int)) := fx_pup AON_stab rfl g36
    have g44 : USE (fx_up S28 49 0 15 (1 : Int)) := fx_pup USE_stab rfl g37
    have g45 : SNP (fx_up S28 49 0 15 (1 : Int)) := fx_pup SNP_stab rfl g38
    have g46 : WNW (fx_up S28 49 0 15 (1 : Int)) := fx_pup WNW_stab rfl g31
    have g47 : WNR (fx_up S28 49 0 15 (1 : Int)) := fx_pup WNR_stab rfl g32
    exact hk z14 (fx_up S28 49 0 15 (1 : Int)) ⟨(fxfr_up (fxfr_tr (fxfr_tr (fxfr_up fxfr_rfl rfl) f17 rfl) f29 rfl) rfl), by omega, g40, g41, g42, g43, g44, g45, by first | exact REC_0 (by omega) | exact LCM_0 (by omega), g46, g47, by first | exact REC_0 (by omega) | exact LCM_0 (by omega)⟩
  ·
    exact hk (-8 : Int) (fx_up S 49 0 0 (0 : Int)) ⟨(fxfr_up fxfr_rfl rfl), by omega, g2, g3, g4, g5, g6, g7, g8, g9, g10, g11⟩
theorem z_StubHouseModel_remove {l : Launch} {k : fxK} {S : fxS} {n : Int} (p0 : COL S) (p1 : WTM S) (p2 : INJ S) (p3 : AON S) (p4 : USE S) (p5 : SNP S) (p6 : REC S) (p7 : SGM S) (p8 : -2147483648 ≤ n ∧ n < 2147483648) (hk : ∀ (r : Int) (S' : fxS) , (fxfr [(49, 0), (49, 7), (49, 36), (50, 9999), (53, 9999), (55, 9999), (56, 9999), (58, 9999), (65, 9999), (66, 9999), (67, 9999), (75, 9999)] S S' ∧ (-2147483648 ≤ r ∧ r < 2147483648) ∧ (COL S') ∧ (WTM S') ∧ (INJ S') ∧ (AON S') ∧ (USE S') ∧ (SNP S') ∧ (REC S') ∧ (SGM S')) → k (some (.inl r)) S') : ∀ m : Nat, (∀ (j : Int) (S1 : fxS), (fxfr [(49, 0), (49, 7), (49, 36), (50, 9999), (53, 9999), (55, 9999), (56, 9999), (58, 9999), (65, 9999), (66, 9999), (67, 9999), (75, 9999)] S S1) → (1 ≤ n ∧ n < 60) → (0 ≤ j ∧ j ≤ 42) → (S1 49 0 7 ≤ 199) → (COL S1) → (SNP S1) → (RECd S1) → (DLE n S1) → (ZRW n j S1) → (SGM S1) → 43 - j ≤ (m : Int) → fZ l 78 k 148 [some (.inr (.inr (49, 0))), some (.inl n), some (.inl j), none] [] S1) := by
  intro m
  induction m with
  | zero =>
    intro j S1 hf i0 i1 i2 i3 i4 i5 i6 i7 i8 hmu
    exfalso
    omega
  | succ m ih =>
    intro j S1 hf i0 i1 i2 i3 i4 i5 i6 i7 i8 hmu
    refine fxz_78 400 ?_
    refine And.intro (fun (h1 : ((42 : Int) ≤ j : Prop)) => ?_) (fun (h1 : (j < (42 : Int) : Prop)) => ?_)
    ·
      have zz := ZRW_1 i7 (by omega)
      have wt : WTM S1 := DLE_wt i6 (by omega) zz.2
      have ij : INJ S1 := DLE_inj i6 zz.1
      have ao : AON S1 := DLE_aon i6 zz.1
      have us : USE S1 := DLE_use i6 zz.1
      refine And.intro (show 0 ≤ n ∧ n < 60 by omega) ?_
      refine c_StubHouseModel_record (e := (6 : Int)) i3 wt ij ao i4 (show S1 49 0 7 ≤ 199 by omega) (show 0 ≤ (6 : Int) ∧ (6 : Int) ≤ 1000 by omega) (fun (S2 : fxS) ⟨(f3 : fxfr [(49, 7), (53, 9999), (55, 9999)] S1 S2), (g4 : SNP S2)⟩ => ?_)
      have w5 : S2 50 0 2520 = S1 50 0 2520 := f3 50 0 2520 rfl
      have g6 : COL S2 := fx_pfr COL_stab f3 rfl i3
      have g7 : RECd S2 := fx_pfr RECd_stab f3 rfl i5
      have g8 : DLE n S2 := fx_pfr DLE_stab f3 rfl i6
      have g9 : ZRW n j S2 := fx_pfr ZRW_stab f3 rfl i7
      have g10 : SGM S2 := fx_pfr SGM_stab f3 rfl i8
      have g11 : WTM S2 := fx_pfr WTM_stab f3 rfl wt
      have g12 : INJ S2 := fx_pfr INJ_stab f3 rfl ij
      have g13 : AON S2 := fx_pfr AON_stab f3 rfl ao
      have g14 : USE S2 := fx_pfr USE_stab f3 rfl us
      refine c_StubHouseModel_purge  g6 g7 (fun (S15 : fxS) ⟨(f16 : fxfr [(49, 36), (75, 9999)] S2 S15), (g17 : REC S15)⟩ => ?_)
      have w18 : S15 49 0 7 = S2 49 0 7 := f16 49 0 7 rfl
      have w19 : S15 50 0 2520 = S2 50 0 2520 := f16 50 0 2520 rfl
      have g20 : COL S15 := fx_pfr COL_stab f16 rfl g6
      have g21 : SNP S15 := fx_pfr SNP_stab f16 rfl g4
      have g22 : DLE n S15 := fx_pfr DLE_stab f16 rfl g8
      have g23 : ZRW n j S15 := fx_pfr ZRW_stab f16 rfl g9
      have g24 : SGM S15 := fx_pfr SGM_stab f16 rfl g10
      have g25 : WTM S15 := fx_pfr WTM_stab f16 rfl g11
      have g26 : INJ S15 := fx_pfr INJ_stab f16 rfl g12
      have g27 : AON S15 := fx_pfr AON_stab f16 rfl g13
      have g28 : USE S15 := fx_pfr USE_stab f16 rfl g14
      exact hk (0 : Int) S15 ⟨(fxfr_tr (fxfr_tr hf f3 rfl) f16 rfl), by omega, g20, g25, g26, g27, g28, g21, g17, g24⟩
    ·
      refine c_set (n := n) (w := j) (v := (0 : Int)) (show 0 ≤ n ∧ n < 60 by omega) (show 0 ≤ j ∧ j < 42 by omega) (show -2147483648 ≤ (0 : Int) ∧ (0 : Int) < 2147483648 by omega) ?_
      have w29 : (fx_up S1 50 0 (42 * n + j).toNat (0 : Int)) 49 0 7 = S1 49 0 7 := rfl
      have g30 : COL (fx_up S1 50 0 (42 * n + j).toNat (0 : Int)) := COL_set i3 (by omega) (by omega) (by omega)
      have g31 : SNP (fx_up S1 50 0 (42 * n + j).toNat (0 : Int)) := fx_pup SNP_stab rfl i4
      have g32 : RECd (fx_up S1 50 0 (42 * n + j).toNat (0 : Int)) := fx_pup RECd_stab rfl i5
      have g33 : DLE n (fx_up S1 50 0 (42 * n + j).toNat (0 : Int)) := DLE_set i6 (by omega) (by omega)
      have g34 : SGM (fx_up S1 50 0 (42 * n + j).toNat (0 : Int)) := fx_pup SGM_stab rfl i8
      have zs : ZRW n (j + (1 : Int)) (fx_up S1 50 0 (42 * n + j).toNat (0 : Int)) := ZRW_step i7 (by omega) (by omega)
      refine And.intro (by decide) (And.intro (show -2147483648 ≤ j + (1 : Int) ∧ j + (1 : Int) < 2147483648 by omega) ?_)
      exact ih (j + (1 : Int)) (fx_up S1 50 0 (42 * n + j).toNat (0 : Int)) (fxfr_up hf rfl) (by omega) (by omega) (by omega) g30 g31 g32 g33 zs g34 (by omega)
theorem c_StubHouseModel_remove {l : Launch} {k : fxK} {S : fxS} {n : Int} (p0 : COL S) (p1 : WTM S) (p2 : INJ S) (p3 : AON S) (p4 : USE S) (p5 : SNP S) (p6 : REC S) (p7 : SGM S) (p8 : -2147483648 ≤ n ∧ n < 2147483648) (hk : ∀ (r : Int) (S' : fxS) , (fxfr [(49, 0), (49, 7), (49, 36), (50, 9999), (53, 9999), (55, 9999), (56, 9999), (58, 9999), (65, 9999), (66, 9999), (67, 9999), (75, 9999)] S S' ∧ (-2147483648 ≤ r ∧ r < 2147483648) ∧ (COL S') ∧ (WTM S') ∧ (INJ S') ∧ (AON S') ∧ (USE S') ∧ (SNP S') ∧ (REC S') ∧ (SGM S')) → k (some (.inl r)) S') : fC l 78 [.inr (.inr (49, 0)), .inl n] S k := by
  refine fxe_78 (Nat.le_of_ble_eq_true rfl) (fxz_78 400 ?_)
  refine And.intro (show (-2147483648 : Int) ≤ (0 : Int) ∧ (0 : Int) ≤ (2147483647 : Int) by omega) ?_
  have w36 : (fx_up S 49 0 0 (0 : Int)) 49 0 7 = S 49 0 7 := if_neg (fun q => absurd q.2.2 (by decide))
  have w37 : (fx_up S 49 0 0 (0 : Int)) 50 0 2520 = S 50 0 2520 := rfl
  have g38 : COL (fx_up S 49 0 0 (0 : Int)) := fx_pup COL_stab rfl p0
  have g39 : WTM (fx_up S 49 0 0 (0 : Int)) := fx_pup WTM_stab rfl p1
  have g40 : INJ (fx_up S 49 0 0 (0 : Int)) := fx_pup INJ_stab rfl p2
  have g41 : AON (fx_up S 49 0 0 (0 : Int)) := fx_pup AON_stab rfl p3
  have g42 : USE (fx_up S 49 0 0 (0 : Int)) := fx_pup USE_stab rfl p4
  have g43 : SNP (fx_up S 49 0 0 (0 : Int)) := fx_pup SNP_stab rfl p5
  have g44 : REC (fx_up S 49 0 0 (0 : Int)) := fx_pup REC_stab rfl p6
  have g45 : SGM (fx_up S 49 0 0 (0 : Int)) := fx_pup SGM_stab rfl p7
  intro z46 (z46a : (0 : Int) ≤ z46) (z46b : z46 ≤ (1 : Int)) (z46c : z46 = S 49 0 15)
  refine And.intro (fun (h47 : (z46 = (0 : Int) : Prop)) => ?_) (fun (h47 : (z46 ≠ (0 : Int) : Prop)) => ?_)
  ·
    refine c_StubHouseModel_in (x := n) (a := (1 : Int)) (b := (59 : Int))  (fun (z48 : Int) (q49 : 0 ≤ z48 ∧ z48 ≤ 1 ∧ (z48 = 1 → (1 : Int) ≤ n ∧ n ≤ (59 : Int)) ∧ (z48 = 0 → n < (1 : Int) ∨ (59 : Int) < n)) => ?_)
    refine And.intro (fun (h50 : (z48 = (0 : Int) : Prop)) => ?_) (fun (h50 : (z48 ≠ (0 : Int) : Prop)) => ?_)
    ·
      exact hk (-1 : Int) (fx_up S 49 0 0 (0 : Int)) ⟨(fxfr_up fxfr_rfl rfl), by omega, g38, g39, g40, g41, g42, g43, g44, g45⟩
    ·
      refine c_at0 (n := n) g38 (show 0 ≤ n ∧ n < 60 by omega) (fun (z51 : Int) (q52 : z51 = aN S n 0 ∧ 0 ≤ z51 ∧ z51 ≤ 2) => ?_)
      refine And.intro (fun (h53 : (z51 ≠ (0 : Int) : Prop)) => ?_) (fun (h53 : (z51 = (0 : Int) : Prop)) => ?_)
      ·
        refine c_at0 (n := n) g38 (show 0 ≤ n ∧ n < 60 by omega) (fun (z54 : Int) (q55 : z54 = aN S n 0 ∧ 0 ≤ z54 ∧ z54 ≤ 2) => ?_)
        refine And.intro (fun (h56 : (z54 ≠ (1 : Int) : Prop)) => ?_) (fun (h56 : (z54 = (1 : Int) : Prop)) => ?_)
        ·
          have nm : NMC n (fx_up S 49 0 0 (0 : Int)) := fun h => by first | exact nq (by omega) | (exfalso; have h : aN S n 0 = 1 := h; omega)
          refine c_StubHouseModel_ahead  g38 g39 g40 g41 g42 g43 (fun (S57 : fxS) ⟨(f58 : fxfr [(49, 7), (53, 9999), (56, 9999), (58, 9999)] (fx_up S 49 0 0 (0 : Int)) S57), (q59 : 0 ≤ S57 49 0 7 ∧ S57 49 0 7 ≤ 199), (g60 : SNP S57), (g61 : USE S57), (g62 : UZ (fx_up S 49 0 0 (0 : Int)) S57)⟩ => ?_)
          have w63 : S57 50 0 2520 = (fx_up S 49 0 0 (0 : Int)) 50 0 2520 := f58 50 0 2520 rfl
          have g64 : COL S57 := fx_pfr COL_stab f58 rfl g38
          have g65 : WTM S57 := fx_pfr WTM_stab f58 rfl g39
          have g66 : INJ S57 := fx_pfr INJ_stab f58 rfl g40
          have g67 : AON S57 := fx_pfr AON_stab f58 rfl g41
          have g68 : REC S57 := fx_pfr REC_stab f58 rfl g44
          have g69 : SGM S57 := fx_pfr SGM_stab f58 rfl g45
          have g70 : NMC n S57 := fx_pfr NMC_stab f58 rfl nm
          refine c_at0 (n := n) g64 (show 0 ≤ n ∧ n < 60 by omega) (fun (z71 : Int) (q72 : z71 = aN S57 n 0 ∧ 0 ≤ z71 ∧ z71 ≤ 2) => ?_)
          refine And.intro (fun (h73 : (z71 ≠ (2 : Int) : Prop)) => ?_) (fun (h73 : (z71 = (2 : Int) : Prop)) => ?_)
          ·
            refine And.intro (by decide) ?_
            have dl : DLE n S57 := ⟨S57, DLT_0 g65 g66 g67 g61 g70⟩
            have rd : RECd S57 := g68.1
            have z0 : ZRW n (0 : Int) S57 := ZRW_0
            exact (z_StubHouseModel_remove p0 p1 p2 p3 p4 p5 p6 p7 p8 hk (43 - (0 : Int)).toNat) (0 : Int) S57 (fxfr_tr (fxfr_up fxfr_rfl rfl) f58 rfl) (by omega) (by omega) (by omega) g64 g60 rd dl z0 g69 (by omega)
          ·
            refine c_StubHouseModel_hold (f := n) g64 g65 g66 g67 g61 g68 (show 0 ≤ n ∧ n < 60 by omega) (show aN S57 n 0 = 2 by omega) (fun (S74 : fxS) ⟨(f75 : fxfr [(50, 9999), (56, 9999)] S57 S74), (q76 : aN S74 n 0 = 2), (g77 : COL S74), (g78 : WTM S74), (g79 : INJ S74), (g80 : AON S74), (g81 : USE S74), (g82 : REC S74), (g83 : EQR n S57 S74)⟩ => ?_)
            have w84 : S74 49 0 7 = S57 49 0 7 := f75 49 0 7 rfl
            have g85 : SNP S74 := fx_pfr SNP_stab f75 rfl g60
            have g86 : SGM S74 := fx_pfr SGM_stab f75 rfl g69
            have nm : NMC n S74 := fun h => by exfalso; omega
            refine c_at2 (n := n) g77 (show 0 ≤ n ∧ n < 60 by omega) (fun (z87 : Int) (q88 : z87 = aN S74 n 2 ∧ -2147483648 ≤ z87 ∧ z87 < 2147483648) => ?_)
            refine And.intro (by decide) ?_
            refine And.intro (show 0 ≤ (2520 : Int) ∧ (2520 : Int) < 2561 by omega) ?_
            intro z89 (z89a : (-2147483648 : Int) ≤ z89) (z89b : z89 ≤ (2147483647 : Int)) (z89c : z89 = S74 50 0 2520)
            have dl0 := COL_dels g77
            refine And.intro (by decide) ?_
            refine And.intro (fun (h90 : ((40 : Int) ≤ z89 : Prop)) => ?_) (fun (h90 : (z89 < (40 : Int) : Prop)) => ?_)
            ·
              refine And.intro (by decide) ?_
              have dl : DLE n S74 := ⟨S74, DLT_0 g78 g79 g80 g81 nm⟩
              have rd : RECd S74 := g82.1
              have z0 : ZRW n (0 : Int) S74 := ZRW_0
              exact (z_StubHouseModel_remove p0 p1 p2 p3 p4 p5 p6 p7 p8 hk (43 - (0 : Int)).toNat) (0 : Int) S74 (fxfr_tr (fxfr_tr (fxfr_up fxfr_rfl rfl) f58 rfl) f75 rfl) (by omega) (by omega) (by omega) g77 g85 rd dl z0 g86 (by omega)
            ·
              refine c_StubHouseModel_isOnTape (d := z87) g86 (show -2147483648 ≤ z87 ∧ z87 < 2147483648 by omega) (fun (z91 : Int) (S92 : fxS) ⟨(f93 : fxfr [(65, 9999), (66, 9999), (67, 9999)] S74 S92), (q94 : 0 ≤ z91 ∧ z91 ≤ 1), (g95 : SGM S92)⟩ => ?_)
              have w96 : S92 49 0 7 = S74 49 0 7 := f93 49 0 7 rfl
              have w97 : S92 50 0 2520 = S74 50 0 2520 := f93 50 0 2520 rfl
              have g98 : COL S92 := fx_pfr COL_stab f93 rfl g77
              have g99 : WTM S92 := fx_pfr WTM_stab f93 rfl g78
              have g100 : INJ S92 := fx_pfr INJ_stab f93 rfl g79
              have g101 : AON S92 := fx_pfr AON_stab f93 rfl g80
              have g102 : USE S92 := fx_pfr USE_stab f93 rfl g81
              have g103 : SNP S92 := fx_pfr SNP_stab f93 rfl g85
              have g104 : REC S92 := fx_pfr REC_stab f93 rfl g82
              have g105 : EQR n S57 S92 := fx_pfr EQR_stab f93 rfl g83
              have g106 : NMC n S92 := fx_pfr NMC_stab f93 rfl nm
              refine And.intro (fun (h107 : (z91 ≠ (0 : Int) : Prop)) => ?_) (fun (h107 : (z91 = (0 : Int) : Prop)) => ?_)
              ·
                intro z108 (z108a : -2147483648 ≤ z108) (z108b : z108 < 2147483648) (z108c : -2147483648 ≤ ((2521 : Int) + z89) ∧ ((2521 : Int) + z89) < 2147483648 → z108 = ((2521 : Int) + z89))
                refine And.intro (show 0 ≤ z108 ∧ z108 < 2561 by omega) ?_
                refine And.intro (show (-2147483648 : Int) ≤ z87 ∧ z87 ≤ (2147483647 : Int) by omega) ?_
                have w109 : (fx_up S92 50 0 (z108).toNat z87) 49 0 7 = S92 49 0 7 := rfl
                have g110 : COL (fx_up S92 50 0 (z108).toNat z87) := COL_tail g98 (by omega)
                have g111 : WTM (fx_up S92 50 0 (z108).toNat z87) := WTM_tail g99 (by omega)
                have g112 : INJ (fx_up S92 50 0 (z108).toNat z87) := INJ_tail g100 (by omega)
                have g113 : AON (fx_up S92 50 0 (z108).toNat z87) := AON_tail g101 (by omega)
                have g114 : USE (fx_up S92 50 0 (z108).toNat z87) := USE_tail g102 (by omega)
                have g115 : SNP (fx_up S92 50 0 (z108).toNat z87) := fx_pup SNP_stab rfl g103
                have g116 : REC (fx_up S92 50 0 (z108).toNat z87) := REC_tail g104 (by omega)
                have g117 : SGM (fx_up S92 50 0 (z108).toNat z87) := fx_pup SGM_stab rfl g95
                have g118 : EQR n S57 (fx_up S92 50 0 (z108).toNat z87) := EQR_tail g105 (by omega)
                have g119 : NMC n (fx_up S92 50 0 (z108).toNat z87) := NMC_tail g106 (by omega) (by omega)
                have d2 : (fx_up S92 50 0 (z108).toNat z87) 50 0 2520 = z89 := by rw [up_ne (by omega)]; omega
                refine And.intro (show 0 ≤ z89 ∧ z89 < 40 by omega) ?_
                refine And.intro (show (0 : Int) ≤ (0 : Int) ∧ (0 : Int) ≤ (1 : Int) by omega) ?_
                have w120 : (fx_up (fx_up S92 50 0 (z108).toNat z87) 58 0 (z89).toNat (0 : Int)) 49 0 7 = (fx_up S92 50 0 (z108).toNat z87) 49 0 7 := rfl
                have w121 : (fx_up (fx_up S92 50 0 (z108).toNat z87) 58 0 (z89).toNat (0 : Int)) 50 0 2520 = (fx_up S92 50 0 (z108).toNat z87) 50 0 2520 := rfl
                have g122 : COL (fx_up (fx_up S92 50 0 (z108).toNat z87) 58 0 (z89).toNat (0 : Int)) := fx_pup COL_stab rfl g110
                have g123 : WTM (fx_up (fx_up S92 50 0 (z108).toNat z87) 58 0 (z89).toNat (0 : Int)) := fx_pup WTM_stab rfl g111
                have g124 : INJ (fx_up (fx_up S92 50 0 (z108).toNat z87) 58 0 (z89).toNat (0 : Int)) := fx_pup INJ_stab rfl g112
                have g125 : AON (fx_up (fx_up S92 50 0 (z108).toNat z87) 58 0 (z89).toNat (0 : Int)) := fx_pup AON_stab rfl g113
                have g126 : USE (fx_up (fx_up S92 50 0 (z108).toNat z87) 58 0 (z89).toNat (0 : Int)) := fx_pup USE_stab rfl g114
                have g127 : SNP (fx_up (fx_up S92 50 0 (z108).toNat z87) 58 0 (z89).toNat (0 : Int)) := fx_pup SNP_stab rfl g115
                have g128 : REC (fx_up (fx_up S92 50 0 (z108).toNat z87) 58 0 (z89).toNat (0 : Int)) := fx_pup REC_stab rfl g116
                have g129 : SGM (fx_up (fx_up S92 50 0 (z108).toNat z87) 58 0 (z89).toNat (0 : Int)) := fx_pup SGM_stab rfl g117
                have g130 : EQR n S57 (fx_up (fx_up S92 50 0 (z108).toNat z87) 58 0 (z89).toNat (0 : Int)) := fx_pup EQR_stab rfl g118
                have g131 : NMC n (fx_up (fx_up S92 50 0 (z108).toNat z87) 58 0 (z89).toNat (0 : Int)) := fx_pup NMC_stab rfl g119
                refine And.intro (show 0 ≤ (2520 : Int) ∧ (2520 : Int) < 2561 by omega) ?_
                intro z132 (z132a : (-2147483648 : Int) ≤ z132) (z132b : z132 ≤ (2147483647 : Int)) (z132c : z132 = (fx_up S92 50 0 (z108).toNat z87) 50 0 2520)
                intro z133 (z133a : -2147483648 ≤ z133) (z133b : z133 < 2147483648) (z133c : -2147483648 ≤ (z132 + (1 : Int)) ∧ (z132 + (1 : Int)) < 2147483648 → z133 = (z132 + (1 : Int)))
                refine And.intro (show 0 ≤ (2520 : Int) ∧ (2520 : Int) < 2561 by omega) ?_
                refine And.intro (show (-2147483648 : Int) ≤ z133 ∧ z133 ≤ (2147483647 : Int) by omega) ?_
                have w134 : (fx_up (fx_up (fx_up S92 50 0 (z108).toNat z87) 58 0 (z89).toNat (0 : Int)) 50 0 2520 z133) 49 0 7 = (fx_up (fx_up S92 50 0 (z108).toNat z87) 58 0 (z89).toNat (0 : Int)) 49 0 7 := rfl
                have w135 : (fx_up (fx_up (fx_up S92 50 0 (z108).toNat z87) 58 0 (z89).toNat (0 : Int)) 50 0 2520 z133) 50 0 2520 = z133 := fx_up_at _ _ _ _ _
                have g136 : COL (fx_up (fx_up (fx_up S92 50 0 (z108).toNat z87) 58 0 (z89).toNat (0 : Int)) 50 0 2520 z133) := COL_del g122 (by omega)
                have g137 : WTM (fx_up (fx_up (fx_up S92 50 0 (z108).toNat z87) 58 0 (z89).toNat (0 : Int)) 50 0 2520 z133) := WTM_tail g123 (by omega)
                have g138 : INJ (fx_up (fx_up (fx_up S92 50 0 (z108).toNat z87) 58 0 (z89).toNat (0 : Int)) 50 0 2520 z133) := INJ_tail g124 (by omega)
                have g139 : AON (fx_up (fx_up (fx_up S92 50 0 (z108).toNat z87) 58 0 (z89).toNat (0 : Int)) 50 0 2520 z133) := AON_tail g125 (by omega)
                have g140 : USE (fx_up (fx_up (fx_up S92 50 0 (z108).toNat z87) 58 0 (z89).toNat (0 : Int)) 50 0 2520 z133) := USE_tail g126 (by omega)
                have g141 : SNP (fx_up (fx_up (fx_up S92 50 0 (z108).toNat z87) 58 0 (z89).toNat (0 : Int)) 50 0 2520 z133) := fx_pup SNP_stab rfl g127
                have g142 : REC (fx_up (fx_up (fx_up S92 50 0 (z108).toNat z87) 58 0 (z89).toNat (0 : Int)) 50 0 2520 z133) := REC_tail g128 (by omega)
                have g143 : SGM (fx_up (fx_up (fx_up S92 50 0 (z108).toNat z87) 58 0 (z89).toNat (0 : Int)) 50 0 2520 z133) := fx_pup SGM_stab rfl g129
                have g144 : EQR n S57 (fx_up (fx_up (fx_up S92 50 0 (z108).toNat z87) 58 0 (z89).toNat (0 : Int)) 50 0 2520 z133) := EQR_tail g130 (by omega)
                have g145 : NMC n (fx_up (fx_up (fx_up S92 50 0 (z108).toNat z87) 58 0 (z89).toNat (0 : Int)) 50 0 2520 z133) := NMC_tail g131 (by omega) (by omega)
                refine And.intro (by decide) ?_
                have dl : DLE n (fx_up (fx_up (fx_up S92 50 0 (z108).toNat z87) 58 0 (z89).toNat (0 : Int)) 50 0 2520 z133) := ⟨(fx_up (fx_up (fx_up S92 50 0 (z108).toNat z87) 58 0 (z89).toNat (0 : Int)) 50 0 2520 z133), DLT_0 g137 g138 g139 g140 g145⟩
                have rd : RECd (fx_up (fx_up (fx_up S92 50 0 (z108).toNat z87) 58 0 (z89).toNat (0 : Int)) 50 0 2520 z133) := g142.1
                have z0 : ZRW n (0 : Int) (fx_up (fx_up (fx_up S92 50 0 (z108).toNat z87) 58 0 (z89).toNat (0 : Int)) 50 0 2520 z133) := ZRW_0
                exact (z_StubHouseModel_remove p0 p1 p2 p3 p4 p5 p6 p7 p8 hk (43 - (0 : Int)).toNat) (0 : Int) (fx_up (fx_up (fx_up S92 50 0 (z108).toNat z87) 58 0 (z89).toNat (0 : Int)) 50 0 2520 z133) (fxfr_up (fxfr_up (fxfr_up (fxfr_tr (fxfr_tr (fxfr_tr (fxfr_up fxfr_rfl rfl) f58 rfl) f75 rfl) f93 rfl) rfl) rfl) rfl) (by omega) (by omega) (by omega) g136 g141 rd dl z0 g143 (by omega)
              ·
                refine c_StubHouseModel_isBeingWritten (d := z87) (show -2147483648 ≤ z87 ∧ z87 < 2147483648 by omega) (fun (z146 : Int) (q147 : 0 ≤ z146 ∧ z146 ≤ 1) => ?_)
                refine And.intro (fun (h148 : (z146 = (0 : Int) : Prop)) => ?_) (fun (h148 : (z146 ≠ (0 : Int) : Prop)) => ?_)
                ·
                  refine And.intro (by decide) ?_
                  have dl : DLE n S92 := ⟨S92, DLT_0 g99 g100 g101 g102 g106⟩
                  have rd : RECd S92 := g104.1
                  have z0 : ZRW n (0 : Int) S92 := ZRW_0
                  exact (z_StubHouseModel_remove p0 p1 p2 p3 p4 p5 p6 p7 p8 hk (43 - (0 : Int)).toNat) (0 : Int) S92 (fxfr_tr (fxfr_tr (fxfr_tr (fxfr_up fxfr_rfl rfl) f58 rfl) f75 rfl) f93 rfl) (by omega) (by omega) (by omega) g98 g103 rd dl z0 g95 (by omega)
                ·
                  intro z149 (z149a : -2147483648 ≤ z149) (z149b : z149 < 2147483648) (z149c : -2147483648 ≤ ((2521 : Int) + z89) ∧ ((2521 : Int) + z89) < 2147483648 → z149 = ((2521 : Int) + z89))
                  refine And.intro (show 0 ≤ z149 ∧ z149 < 2561 by omega) ?_
                  refine And.intro (show (-2147483648 : Int) ≤ z87 ∧ z87 ≤ (2147483647 : Int) by omega) ?_
                  have w150 : (fx_up S92 50 0 (z149).toNat z87) 49 0 7 = S92 49 0 7 := rfl
                  have g151 : COL (fx_up S92 50 0 (z149).toNat z87) := COL_tail g98 (by omega)
                  have g152 : WTM (fx_up S92 50 0 (z149).toNat z87) := WTM_tail g99 (by omega)
                  have g153 : INJ (fx_up S92 50 0 (z149).toNat z87) := INJ_tail g100 (by omega)
                  have g154 : AON (fx_up S92 50 0 (z149).toNat z87) := AON_tail g101 (by omega)
                  have g155 : USE (fx_up S92 50 0 (z149).toNat z87) := USE_tail g102 (by omega)
                  have g156 : SNP (fx_up S92 50 0 (z149).toNat z87) := fx_pup SNP_stab rfl g103
                  have g157 : REC (fx_up S92 50 0 (z149).toNat z87) := REC_tail g104 (by omega)
                  have g158 : SGM (fx_up S92 50 0 (z149).toNat z87) := fx_pup SGM_stab rfl g95
                  have g159 : EQR n S57 (fx_up S92 50 0 (z149).toNat z87) := EQR_tail g105 (by omega)
                  have g160 : NMC n (fx_up S92 50 0 (z149).toNat z87) := NMC_tail g106 (by omega) (by omega)
                  have d2 : (fx_up S92 50 0 (z149).toNat z87) 50 0 2520 = z89 := by rw [up_ne (by omega)]; omega
                  refine And.intro (show 0 ≤ z89 ∧ z89 < 40 by omega) ?_
                  refine And.intro (show (0 : Int) ≤ (0 : Int) ∧ (0 : Int) ≤ (1 : Int) by omega) ?_
                  have w161 : (fx_up (fx_up S92 50 0 (z149).toNat z87) 58 0 (z89).toNat (0 : Int)) 49 0 7 = (fx_up S92 50 0 (z149).toNat z87) 49 0 7 := rfl
                  have w162 : (fx_up (fx_up S92 50 0 (z149).toNat z87) 58 0 (z89).toNat (0 : Int)) 50 0 2520 = (fx_up S92 50 0 (z149).toNat z87) 50 0 2520 := rfl
                  have g163 : COL (fx_up (fx_up S92 50 0 (z149).toNat z87) 58 0 (z89).toNat (0 : Int)) := fx_pup COL_stab rfl g151
                  have g164 : WTM (fx_up (fx_up S92 50 0 (z149).toNat z87) 58 0 (z89).toNat (0 : Int)) := fx_pup WTM_stab rfl g152
                  have g165 : INJ (fx_up (fx_up S92 50 0 (z149).toNat z87) 58 0 (z89).toNat (0 : Int)) := fx_pup INJ_stab rfl g153
                  have g166 : AON (fx_up (fx_up S92 50 0 (z149).toNat z87) 58 0 (z89).toNat (0 : Int)) := fx_pup AON_stab rfl g154
                  have g167 : USE (fx_up (fx_up S92 50 0 (z149).toNat z87) 58 0 (z89).toNat (0 : Int)) := fx_pup USE_stab rfl g155
                  have g168 : SNP (fx_up (fx_up S92 50 0 (z149).toNat z87) 58 0 (z89).toNat (0 : Int)) := fx_pup SNP_stab rfl g156
                  have g169 : REC (fx_up (fx_up S92 50 0 (z149).toNat z87) 58 0 (z89).toNat (0 : Int)) := fx_pup REC_stab rfl g157
                  have g170 : SGM (fx_up (fx_up S92 50 0 (z149).toNat z87) 58 0 (z89).toNat (0 : Int)) := fx_pup SGM_stab rfl g158
                  have g171 : EQR n S57 (fx_up (fx_up S92 50 0 (z149).toNat z87) 58 0 (z89).toNat (0 : Int)) := fx_pup EQR_stab rfl g159
                  have g172 : NMC n (fx_up (fx_up S92 50 0 (z149).toNat z87) 58 0 (z89).toNat (0 : Int)) := fx_pup NMC_stab rfl g160
                  refine And.intro (show 0 ≤ (2520 : Int) ∧ (2520 : Int) < 2561 by omega) ?_
                  intro z173 (z173a : (-2147483648 : Int) ≤ z173) (z173b : z173 ≤ (2147483647 : Int)) (z173c : z173 = (fx_up S92 50 0 (z149).toNat z87) 50 0 2520)
                  intro z174 (z174a : -2147483648 ≤ z174) (z174b : z174 < 2147483648) (z174c : -2147483648 ≤ (z173 + (1 : Int)) ∧ (z173 + (1 : Int)) < 2147483648 → z174 = (z173 + (1 : Int)))
                  refine And.intro (show 0 ≤ (2520 : Int) ∧ (2520 : Int) < 2561 by omega) ?_
                  refine And.intro (show (-2147483648 : Int) ≤ z174 ∧ z174 ≤ (2147483647 : Int) by omega) ?_
                  have w175 : (fx_up (fx_up (fx_up S92 50 0 (z149).toNat z87) 58 0 (z89).toNat (0 : Int)) 50 0 2520 z174) 49 0 7 = (fx_up (fx_up S92 50 0 (z149).toNat z87) 58 0 (z89).toNat (0 : Int)) 49 0 7 := rfl
                  have w176 : (fx_up (fx_up (fx_up S92 50 0 (z149).toNat z87) 58 0 (z89).toNat (0 : Int)) 50 0 2520 z174) 50 0 2520 = z174 := fx_up_at _ _ _ _ _
                  have g177 : COL (fx_up (fx_up (fx_up S92 50 0 (z149).toNat z87) 58 0 (z89).toNat (0 : Int)) 50 0 2520 z174) := COL_del g163 (by omega)
                  have g178 : WTM (fx_up (fx_up (fx_up S92 50 0 (z149).toNat z87) 58 0 (z89).toNat (0 : Int)) 50 0 2520 z174) := WTM_tail g164 (by omega)
                  have g179 : INJ (fx_up (fx_up (fx_up S92 50 0 (z149).toNat z87) 58 0 (z89).toNat (0 : Int)) 50 0 2520 z174) := INJ_tail g165 (by omega)
                  have g180 : AON (fx_up (fx_up (fx_up S92 50 0 (z149).toNat z87) 58 0 (z89).toNat (0 : Int)) 50 0 2520 z174) := AON_tail g166 (by omega)
                  have g181 : USE (fx_up (fx_up (fx_up S92 50 0 (z149).toNat z87) 58 0 (z89).toNat (0 : Int)) 50 0 2520 z174) := USE_tail g167 (by omega)
                  have g182 : SNP (fx_up (fx_up (fx_up S92 50 0 (z149).toNat z87) 58 0 (z89).toNat (0 : Int)) 50 0 2520 z174) := fx_pup SNP_stab rfl g168
                  have g183 : REC (fx_up (fx_up (fx_up S92 50 0 (z149).toNat z87) 58 0 (z89).toNat (0 : Int)) 50 0 2520 z174) := REC_tail g169 (by omega)
                  have g184 : SGM (fx_up (fx_up (fx_up S92 50 0 (z149).toNat z87) 58 0 (z89).toNat (0 : Int)) 50 0 2520 z174) := fx_pup SGM_stab rfl g170
                  have g185 : EQR n S57 (fx_up (fx_up (fx_up S92 50 0 (z149).toNat z87) 58 0 (z89).toNat (0 : Int)) 50 0 2520 z174) := EQR_tail g171 (by omega)
                  have g186 : NMC n (fx_up (fx_up (fx_up S92 50 0 (z149).toNat z87) 58 0 (z89).toNat (0 : Int)) 50 0 2520 z174) := NMC_tail g172 (by omega) (by omega)
                  refine And.intro (by decide) ?_
                  have dl : DLE n (fx_up (fx_up (fx_up S92 50 0 (z149).toNat z87) 58 0 (z89).toNat (0 : Int)) 50 0 2520 z174) := ⟨(fx_up (fx_up (fx_up S92 50 0 (z149).toNat z87) 58 0 (z89).toNat (0 : Int)) 50 0 2520 z174), DLT_0 g178 g179 g180 g181 g186⟩
                  have rd : RECd (fx_up (fx_up (fx_up S92 50 0 (z149).toNat z87) 58 0 (z89).toNat (0 : Int)) 50 0 2520 z174) := g183.1
                  have z0 : ZRW n (0 : Int) (fx_up (fx_up (fx_up S92 50 0 (z149).toNat z87) 58 0 (z89).toNat (0 : Int)) 50 0 2520 z174) := ZRW_0
                  exact (z_StubHouseModel_remove p0 p1 p2 p3 p4 p5 p6 p7 p8 hk (43 - (0 : Int)).toNat) (0 : Int) (fx_up (fx_up (fx_up S92 50 0 (z149).toNat z87) 58 0 (z89).toNat (0 : Int)) 50 0 2520 z174) (fxfr_up (fxfr_up (fxfr_up (fxfr_tr (fxfr_tr (fxfr_tr (fxfr_up fxfr_rfl rfl) f58 rfl) f75 rfl) f93 rfl) rfl) rfl) rfl) (by omega) (by omega) (by omega) g177 g182 rd dl z0 g184 (by omega)
        ·
          refine c_StubHouseModel_hasNodes (n := n) g38 (show -2147483648 ≤ n ∧ n < 2147483648 by omega) (fun (z187 : Int) (q188 : 0 ≤ z187 ∧ z187 ≤ 1 ∧ (z187 = 0 → NoM n 60 (fx_up S 49 0 0 (0 : Int)))) => ?_)
          have nq : z187 = 0 → NoM n 60 S := q188.2.2
          refine And.intro (fun (h189 : (z187 = (0 : Int) : Prop)) => ?_) (fun (h189 : (z187 ≠ (0 : Int) : Prop)) => ?_)
          ·
            have nm : NMC n (fx_up S 49 0 0 (0 : Int)) := fun h => by first | exact nq (by omega) | (exfalso; have h : aN S n 0 = 1 := h; omega)
            refine c_StubHouseModel_ahead  g38 g39 g40 g41 g42 g43 (fun (S190 : fxS) ⟨(f191 : fxfr [(49, 7), (53, 9999), (56, 9999), (58, 9999)] (fx_up S 49 0 0 (0 : Int)) S190), (q192 : 0 ≤ S190 49 0 7 ∧ S190 49 0 7 ≤ 199), (g193 : SNP S190), (g194 : USE S190), (g195 : UZ (fx_up S 49 0 0 (0 : Int)) S190)⟩ => ?_)
            have w196 : S190 50 0 2520 = (fx_up S 49 0 0 (0 : Int)) 50 0 2520 := f191 50 0 2520 rfl
            have g197 : COL S190 := fx_pfr COL_stab f191 rfl g38
            have g198 : WTM S190 := fx_pfr WTM_stab f191 rfl g39
            have g199 : INJ S190 := fx_pfr INJ_stab f191 rfl g40
            have g200 : AON S190 := fx_pfr AON_stab f191 rfl g41
            have g201 : REC S190 := fx_pfr REC_stab f191 rfl g44
            have g202 : SGM S190 := fx_pfr SGM_stab f191 rfl g45
            have g203 : NMC n S190 := fx_pfr NMC_stab f191 rfl nm
            refine c_at0 (n := n) g197 (show 0 ≤ n ∧ n < 60 by omega) (fun (z204 : Int) (q205 : z204 = aN S190 n 0 ∧ 0 ≤ z204 ∧ z204 ≤ 2) => ?_)
            refine And.intro (fun (h206 : (z204 ≠ (2 : Int) : Prop)) => ?_) (fun (h206 : (z204 = (2 : Int) : Prop)) => ?_)
            ·
              refine And.intro (by decide) ?_
              have dl : DLE n S190 := ⟨S190, DLT_0 g198 g199 g200 g194 g203⟩
              have rd : RECd S190 := g201.1
              have z0 : ZRW n (0 : Int) S190 := ZRW_0
              exact (z_StubHouseModel_remove p0 p1 p2 p3 p4 p5 p6 p7 p8 hk (43 - (0 : Int)).toNat) (0 : Int) S190 (fxfr_tr (fxfr_up fxfr_rfl rfl) f191 rfl) (by omega) (by omega) (by omega) g197 g193 rd dl z0 g202 (by omega)
            ·
              refine c_StubHouseModel_hold (f := n) g197 g198 g199 g200 g194 g201 (show 0 ≤ n ∧ n < 60 by omega) (show aN S190 n 0 = 2 by omega) (fun (S207 : fxS) ⟨(f208 : fxfr [(50, 9999), (56, 9999)] S190 S207), (q209 : aN S207 n 0 = 2), (g210 : COL S207), (g211 : WTM S207), (g212 : INJ S207), (g213 : AON S207), (g214 : USE S207), (g215 : REC S207), (g216 : EQR n S190 S207)⟩ => ?_)
              have w217 : S207 49 0 7 = S190 49 0 7 := f208 49 0 7 rfl
              have g218 : SNP S207 := fx_pfr SNP_stab f208 rfl g193
              have g219 : SGM S207 := fx_pfr SGM_stab f208 rfl g202
              have nm : NMC n S207 := fun h => by exfalso; omega
              refine c_at2 (n := n) g210 (show 0 ≤ n ∧ n < 60 by omega) (fun (z220 : Int) (q221 : z220 = aN S207 n 2 ∧ -2147483648 ≤ z220 ∧ z220 < 2147483648) => ?_)
              refine And.intro (by decide) ?_
              refine And.intro (show 0 ≤ (2520 : Int) ∧ (2520 : Int) < 2561 by omega) ?_
              intro z222 (z222a : (-2147483648 : Int) ≤ z222) (z222b : z222 ≤ (2147483647 : Int)) (z222c : z222 = S207 50 0 2520)
              have dl0 := COL_dels g210
              refine And.intro (by decide) ?_
              refine And.intro (fun (h223 : ((40 : Int) ≤ z222 : Prop)) => ?_) (fun (h223 : (z222 < (40 : Int) : Prop)) => ?_)
              ·
                refine And.intro (by decide) ?_
                have dl : DLE n S207 := ⟨S207, DLT_0 g211 g212 g213 g214 nm⟩
                have rd : RECd S207 := g215.1
                have z0 : ZRW n (0 : Int) S207 := ZRW_0
                exact (z_StubHouseModel_remove p0 p1 p2 p3 p4 p5 p6 p7 p8 hk (43 - (0 : Int)).toNat) (0 : Int) S207 (fxfr_tr (fxfr_tr (fxfr_up fxfr_rfl rfl) f191 rfl) f208 rfl) (by omega) (by omega) (by omega) g210 g218 rd dl z0 g219 (by omega)
              ·
                refine c_StubHouseModel_isOnTape (d := z220) g219 (show -2147483648 ≤ z220 ∧ z220 < 2147483648 by omega) (fun (z224 : Int) (S225 : fxS) ⟨(f226 : fxfr [(65, 9999), (66, 9999), (67, 9999)] S207 S225), (q227 : 0 ≤ z224 ∧ z224 ≤ 1), (g228 : SGM S225)⟩ => ?_)
                have w229 : S225 49 0 7 = S207 49 0 7 := f226 49 0 7 rfl
                have w230 : S225 50 0 2520 = S207 50 0 2520 := f226 50 0 2520 rfl
                have g231 : COL S225 := fx_pfr COL_stab f226 rfl g210
                have g232 : WTM S225 := fx_pfr WTM_stab f226 rfl g211
                have g233 : INJ S225 := fx_pfr INJ_stab f226 rfl g212
                have g234 : AON S225 := fx_pfr AON_stab f226 rfl g213
                have g235 : USE S225 := fx_pfr USE_stab f226 rfl g214
                have g236 : SNP S225 := fx_pfr SNP_stab f226 rfl g218
                have g237 : REC S225 := fx_pfr REC_stab f226 rfl g215
                have g238 : EQR n S190 S225 := fx_pfr EQR_stab f226 rfl g216
                have g239 : NMC n S225 := fx_pfr NMC_stab f226 rfl nm
                refine And.intro (fun (h240 : (z224 ≠ (0 : Int) : Prop)) => ?_) (fun (h240 : (z224 = (0 : Int) : Prop)) => ?_)
                ·
                  intro z241 (z241a : -2147483648 ≤ z241) (z241b : z241 < 2147483648) (z241c : -2147483648 ≤ ((2521 : Int) + z222) ∧ ((2521 : Int) + z222) < 2147483648 → z241 = ((2521 : Int) + z222))
                  refine And.intro (show 0 ≤ z241 ∧ z241 < 2561 by omega) ?_
                  refine And.intro (show (-2147483648 : Int) ≤ z220 ∧ z220 ≤ (2147483647 : Int) by omega) ?_
                  have w242 : (fx_up S225 50 0 (z241).toNat z220) 49 0 7 = S225 49 0 7 := rfl
                  have g243 : COL (fx_up S225 50 0 (z241).toNat z220) := COL_tail g231 (by omega)
                  have g244 : WTM (fx_up S225 50 0 (z241).toNat z220) := WTM_tail g232 (by omega)
                  have g245 : INJ (fx_up S225 50 0 (z241).toNat z220) := INJ_tail g233 (by omega)
                  have g246 : AON (fx_up S225 50 0 (z241).toNat z220) := AON_tail g234 (by omega)
                  have g247 : USE (fx_up S225 50 0 (z241).toNat z220) := USE_tail g235 (by omega)
                  have g248 : SNP (fx_up S225 50 0 (z241).toNat z220) := fx_pup SNP_stab rfl g236
                  have g249 : REC (fx_up S225 50 0 (z241).toNat z220) := REC_tail g237 (by omega)
                  have g250 : SGM (fx_up S225 50 0 (z241).toNat z220) := fx_pup SGM_stab rfl g228
                  have g251 : EQR n S190 (fx_up S225 50 0 (z241).toNat z220) := EQR_tail g238 (by omega)
                  have g252 : NMC n (fx_up S225 50 0 (z241).toNat z220) := NMC_tail g239 (by omega) (by omega)
                  have d2 : (fx_up S225 50 0 (z241).toNat z220) 50 0 2520 = z222 := by rw [up_ne (by omega)]; omega
                  refine And.intro (show 0 ≤ z222 ∧ z222 < 40 by omega) ?_
                  refine And.intro (show (0 : Int) ≤ (0 : Int) ∧ (0 : Int) ≤ (1 : Int) by omega) ?_
                  have w253 : (fx_up (fx_up S225 50 0 (z241).toNat z220) 58 0 (z222).toNat (0 : Int)) 49 0 7 = (fx_up S225 50 0 (z241).toNat z220) 49 0 7 := rfl
                  have w254 : (fx_up (fx_up S225 50 0 (z241).toNat z220) 58 0 (z222).toNat (0 : Int)) 50 0 2520 = (fx_up S225 50 0 (z241).toNat z220) 50 0 2520 := rfl
                  have g255 : COL (fx_up (fx_up S225 50 0 (z241).toNat z220) 58 0 (z222).toNat (0 : Int)) := fx_pup COL_stab rfl g243
                  have g256 : WTM (fx_up (fx_up S225 50 0 (z241).toNat z220) 58 0 (z222).toNat (0 : Int)) := fx_pup WTM_stab rfl g244
                  have g257 : INJ (fx_up (fx_up S225 50 0 (z241).toNat z220) 58 0 (z222).toNat (0 : Int)) := fx_pup INJ_stab rfl g245
                  have g258 : AON (fx_up (fx_up S225 50 0 (z241).toNat z220) 58 0 (z222).toNat (0 : Int)) := fx_pup AON_stab rfl g246
                  have g259 : USE (fx_up (fx_up S225 50 0 (z241).toNat z220) 58 0 (z222).toNat (0 : Int)) := fx_pup USE_stab rfl g247
                  have g260 : SNP (fx_up (fx_up S225 50 0 (z241).toNat z220) 58 0 (z222).toNat (0 : Int)) := fx_pup SNP_stab rfl g248
                  have g261 : REC (fx_up (fx_up S225 50 0 (z241).toNat z220) 58 0 (z222).toNat (0 : Int)) := fx_pup REC_stab rfl g249
                  have g262 : SGM (fx_up (fx_up S225 50 0 (z241).toNat z220) 58 0 (z222).toNat (0 : Int)) := fx_pup SGM_stab rfl g250
                  have g263 : EQR n S190 (fx_up (fx_up S225 50 0 (z241).toNat z220) 58 0 (z222).toNat (0 : Int)) := fx_pup EQR_stab rfl g251
                  have g264 : NMC n (fx_up (fx_up S225 50 0 (z241).toNat z220) 58 0 (z222).toNat (0 : Int)) := fx_pup NMC_stab rfl g252
                  refine And.intro (show 0 ≤ (2520 : Int) ∧ (2520 : Int) < 2561 by omega) ?_
                  intro z265 (z265a : (-2147483648 : Int) ≤ z265) (z265b : z265 ≤ (2147483647 : Int)) (z265c : z265 = (fx_up S225 50 0 (z241).toNat z220) 50 0 2520)
                  intro z266 (z266a : -2147483648 ≤ z266) (z266b : z266 < 2147483648) (z266c : -2147483648 ≤ (z265 + (1 : Int)) ∧ (z265 + (1 : Int)) < 2147483648 → z266 = (z265 + (1 : Int)))
                  refine And.intro (show 0 ≤ (2520 : Int) ∧ (2520 : Int) < 2561 by omega) ?_
                  refine And.intro (show (-2147483648 : Int) ≤ z266 ∧ z266 ≤ (2147483647 : Int) by omega) ?_
                  have w267 : (fx_up (fx_up (fx_up S225 50 0 (z241).toNat z220) 58 0 (z222).toNat (0 : Int)) 50 0 2520 z266) 49 0 7 = (fx_up (fx_up S225 50 0 (z241).toNat z220) 58 0 (z222).toNat (0 : Int)) 49 0 7 := rfl
                  have w268 : (fx_up (fx_up (fx_up S225 50 0 (z241).toNat z220) 58 0 (z222).toNat (0 : Int)) 50 0 2520 z266) 50 0 2520 = z266 := fx_up_at _ _ _ _ _
                  have g269 : COL (fx_up (fx_up (fx_up S225 50 0 (z241).toNat z220) 58 0 (z222).toNat (0 : Int)) 50 0 2520 z266) := COL_del g255 (by omega)
                  have g270 : WTM (fx_up (fx_up (fx_up S225 50 0 (z241).toNat z220) 58 0 (z222).toNat (0 : Int)) 50 0 2520 z266) := WTM_tail g256 (by omega)
                  have g271 : INJ (fx_up (fx_up (fx_up S225 50 0 (z241).toNat z220) 58 0 (z222).toNat (0 : Int)) 50 0 2520 z266) := INJ_tail g257 (by omega)
                  have g272 : AON (fx_up (fx_up (fx_up S225 50 0 (z241).toNat z220) 58 0 (z222).toNat (0 : Int)) 50 0 2520 z266) := AON_tail g258 (by omega)
                  have g273 : USE (fx_up (fx_up (fx_up S225 50 0 (z241).toNat z220) 58 0 (z222).toNat (0 : Int)) 50 0 2520 z266) := USE_tail g259 (by omega)
                  have g274 : SNP (fx_up (fx_up (fx_up S225 50 0 (z241).toNat z220) 58 0 (z222).toNat (0 : Int)) 50 0 2520 z266) := fx_pup SNP_stab rfl g260
                  have g275 : REC (fx_up (fx_up (fx_up S225 50 0 (z241).toNat z220) 58 0 (z222).toNat (0 : Int)) 50 0 2520 z266) := REC_tail g261 (by omega)
                  have g276 : SGM (fx_up (fx_up (fx_up S225 50 0 (z241).toNat z220) 58 0 (z222).toNat (0 : Int)) 50 0 2520 z266) := fx_pup SGM_stab rfl g262
                  have g277 : EQR n S190 (fx_up (fx_up (fx_up S225 50 0 (z241).toNat z220) 58 0 (z222).toNat (0 : Int)) 50 0 2520 z266) := EQR_tail g263 (by omega)
                  have g278 : NMC n (fx_up (fx_up (fx_up S225 50 0 (z241).toNat z220) 58 0 (z222).toNat (0 : Int)) 50 0 2520 z266) := NMC_tail g264 (by omega) (by omega)
                  refine And.intro (by decide) ?_
                  have dl : DLE n (fx_up (fx_up (fx_up S225 50 0 (z241).toNat z220) 58 0 (z222).toNat (0 : Int)) 50 0 2520 z266) := ⟨(fx_up (fx_up (fx_up S225 50 0 (z241).toNat z220) 58 0 (z222).toNat (0 : Int)) 50 0 2520 z266), DLT_0 g270 g271 g272 g273 g278⟩
                  have rd : RECd (fx_up (fx_up (fx_up S225 50 0 (z241).toNat z220) 58 0 (z222).toNat (0 : Int)) 50 0 2520 z266) := g275.1
                  have z0 : ZRW n (0 : Int) (fx_up (fx_up (fx_up S225 50 0 (z241).toNat z220) 58 0 (z222).toNat (0 : Int)) 50 0 2520 z266) := ZRW_0
                  exact (z_StubHouseModel_remove p0 p1 p2 p3 p4 p5 p6 p7 p8 hk (43 - (0 : Int)).toNat) (0 : Int) (fx_up (fx_up (fx_up S225 50 0 (z241).toNat z220) 58 0 (z222).toNat (0 : Int)) 50 0 2520 z266) (fxfr_up (fxfr_up (fxfr_up (fxfr_tr (fxfr_tr (fxfr_tr (fxfr_up fxfr_rfl rfl) f191 rfl) f208 rfl) f226 rfl) rfl) rfl) rfl) (by omega) (by omega) (by omega) g269 g274 rd dl z0 g276 (by omega)
                ·
                  refine c_StubHouseModel_isBeingWritten (d := z220) (show -2147483648 ≤ z220 ∧ z220 < 2147483648 by omega) (fun (z279 : Int) (q280 : 0 ≤ z279 ∧ z279 ≤ 1) => ?_)
                  refine And.intro (fun (h281 : (z279 = (0 : Int) : Prop)) => ?_) (fun (h281 : (z279 ≠ (0 : Int) : Prop)) => ?_)
                  ·
                    refine And.intro (by decide) ?_
                    have dl : DLE n S225 := ⟨S225, DLT_0 g232 g233 g234 g235 g239⟩
                    have rd : RECd S225 := g237.1
                    have z0 : ZRW n (0 : Int) S225 := ZRW_0
                    exact (z_StubHouseModel_remove p0 p1 p2 p3 p4 p5 p6 p7 p8 hk (43 - (0 : Int)).toNat) (0 : Int) S225 (fxfr_tr (fxfr_tr (fxfr_tr (fxfr_up fxfr_rfl rfl) f191 rfl) f208 rfl) f226 rfl) (by omega) (by omega) (by omega) g231 g236 rd dl z0 g228 (by omega)
                  ·
                    intro z282 (z282a : -2147483648 ≤ z282) (z282b : z282 < 2147483648) (z282c : -2147483648 ≤ ((2521 : Int) + z222) ∧ ((2521 : Int) + z222) < 2147483648 → z282 = ((2521 : Int) + z222))
                    refine And.intro (show 0 ≤ z282 ∧ z282 < 2561 by omega) ?_
                    refine And.intro (show (-2147483648 : Int) ≤ z220 ∧ z220 ≤ (2147483647 : Int) by omega) ?_
                    have w283 : (fx_up S225 50 0 (z282).toNat z220) 49 0 7 = S225 49 0 7 := rfl
                    have g284 : COL (fx_up S225 50 0 (z282).toNat z220) := COL_tail g231 (by omega)
                    have g285 : WTM (fx_up S225 50 0 (z282).toNat z220) := WTM_tail g232 (by omega)
                    have g286 : INJ (fx_up S225 50 0 (z282).toNat z220) := INJ_tail g233 (by omega)
                    have g287 : AON (fx_up S225 50 0 (z282).toNat z220) := AON_tail g234 (by omega)
                    have g288 : USE (fx_up S225 50 0 (z282).toNat z220) := USE_tail g235 (by omega)
                    have g289 : SNP (fx_up S225 50 0 (z282).toNat z220) := fx_pup SNP_stab rfl g236
                    have g290 : REC (fx_up S225 50 0 (z282).toNat z220) := REC_tail g237 (by omega)
                    have g291 : SGM (fx_up S225 50 0 (z282).toNat z220) := fx_pup SGM_stab rfl g228
                    have g292 : EQR n S190 (fx_up S225 50 0 (z282).toNat z220) := EQR_tail g238 (by omega)
                    have g293 : NMC n (fx_up S225 50 0 (z282).toNat z220) := NMC_tail g239 (by omega) (by omega)
                    have d2 : (fx_up S225 50 0 (z282).toNat z220) 50 0 2520 = z222 := by rw [up_ne (by omega)]; omega
                    refine And.intro (show 0 ≤ z222 ∧ z222 < 40 by omega) ?_
                    refine And.intro (show (0 : Int) ≤ (0 : Int) ∧ (0 : Int) ≤ (1 : Int) by omega) ?_
                    have w294 : (fx_up (fx_up S225 50 0 (z282).toNat z220) 58 0 (z222).toNat (0 : Int)) 49 0 7 = (fx_up S225 50 0 (z282).toNat z220) 49 0 7 := rfl
                    have w295 : (fx_up (fx_up S225 50 0 (z282).toNat z220) 58 0 (z222).toNat (0 : Int)) 50 0 2520 = (fx_up S225 50 0 (z282).toNat z220) 50 0 2520 := rfl
                    have g296 : COL (fx_up (fx_up S225 50 0 (z282).toNat z220) 58 0 (z222).toNat (0 : Int)) := fx_pup COL_stab rfl g284
                    have g297 : WTM (fx_up (fx_up S225 50 0 (z282).toNat z220) 58 0 (z222).toNat (0 : Int)) := fx_pup WTM_stab rfl g285
                    have g298 : INJ (fx_up (fx_up S225 50 0 (z282).toNat z220) 58 0 (z222).toNat (0 : Int)) := fx_pup INJ_stab rfl g286
                    have g299 : AON (fx_up (fx_up S225 50 0 (z282).toNat z220) 58 0 (z222).toNat (0 : Int)) := fx_pup AON_stab rfl g287
                    have g300 : USE (fx_up (fx_up S225 50 0 (z282).toNat z220) 58 0 (z222).toNat (0 : Int)) := fx_pup USE_stab rfl g288
                    have g301 : SNP (fx_up (fx_up S225 50 0 (z282).toNat z220) 58 0 (z222).toNat (0 : Int)) := fx_pup SNP_stab rfl g289
                    have g302 : REC (fx_up (fx_up S225 50 0 (z282).toNat z220) 58 0 (z222).toNat (0 : Int)) := fx_pup REC_stab rfl g290
                    have g303 : SGM (fx_up (fx_up S225 50 0 (z282).toNat z220) 58 0 (z222).toNat (0 : Int)) := fx_pup SGM_stab rfl g291
                    have g304 : EQR n S190 (fx_up (fx_up S225 50 0 (z282).toNat z220) 58 0 (z222).toNat (0 : Int)) := fx_pup EQR_stab rfl g292
                    have g305 : NMC n (fx_up (fx_up S225 50 0 (z282).toNat z220) 58 0 (z222).toNat (0 : Int)) := fx_pup NMC_stab rfl g293
                    refine And.intro (show 0 ≤ (2520 : Int) ∧ (2520 : Int) < 2561 by omega) ?_
                    intro z306 (z306a : (-2147483648 : Int) ≤ z306) (z306b : z306 ≤ (2147483647 : Int)) (z306c : z306 = (fx_up S225 50 0 (z282).toNat z220) 50 0 2520)
                    intro z307 (z307a : -2147483648 ≤ z307) (z307b : z307 < 2147483648) (z307c : -2147483648 ≤ (z306 + (1 : Int)) ∧ (z306 + (1 : Int)) < 2147483648 → z307 = (z306 + (1 : Int)))
                    refine And.intro (show 0 ≤ (2520 : Int) ∧ (2520 : Int) < 2561 by omega) ?_
                    refine And.intro (show (-2147483648 : Int) ≤ z307 ∧ z307 ≤ (2147483647 : Int) by omega) ?_
                    have w308 : (fx_up (fx_up (fx_up S225 50 0 (z282).toNat z220) 58 0 (z222).toNat (0 : Int)) 50 0 2520 z307) 49 0 7 = (fx_up (fx_up S225 50 0 (z282).toNat z220) 58 0 (z222).toNat (0 : Int)) 49 0 7 := rfl
                    have w309 : (fx_up (fx_up (fx_up S225 50 0 (z282).toNat z220) 58 0 (z222).toNat (0 : Int)) 50 0 2520 z307) 50 0 2520 = z307 := fx_up_at _ _ _ _ _
                    have g310 : COL (fx_up (fx_up (fx_up S225 50 0 (z282).toNat z220) 58 0 (z222).toNat (0 : Int)) 50 0 2520 z307) := COL_del g296 (by omega)
                    have g311 : WTM (fx_up (fx_up (fx_up S225 50 0 (z282).toNat z220) 58 0 (z222).toNat (0 : Int)) 50 0 2520 z307) := WTM_tail g297 (by omega)
                    have g312 : INJ (fx_up (fx_up (fx_up S225 50 0 (z282).toNat z220) 58 0 (z222).toNat (0 : Int)) 50 0 2520 z307) := INJ_tail g298 (by omega)
                    have g313 : AON (fx_up (fx_up (fx_up S225 50 0 (z282).toNat z220) 58 0 (z222).toNat (0 : Int)) 50 0 2520 z307) := AON_tail g299 (by omega)
                    have g314 : USE (fx_up (fx_up (fx_up S225 50 0 (z282).toNat z220) 58 0 (z222).toNat (0 : Int)) 50 0 2520 z307) := USE_tail g300 (by omega)
                    have g315 : SNP (fx_up (fx_up (fx_up S225 50 0 (z282).toNat z220) 58 0 (z222).toNat (0 : Int)) 50 0 2520 z307) := fx_pup SNP_stab rfl g301
                    have g316 : REC (fx_up (fx_up (fx_up S225 50 0 (z282).toNat z220) 58 0 (z222).toNat (0 : Int)) 50 0 2520 z307) := REC_tail g302 (by omega)
                    have g317 : SGM (fx_up (fx_up (fx_up S225 50 0 (z282).toNat z220) 58 0 (z222).toNat (0 : Int)) 50 0 2520 z307) := fx_pup SGM_stab rfl g303
                    have g318 : EQR n S190 (fx_up (fx_up (fx_up S225 50 0 (z282).toNat z220) 58 0 (z222).toNat (0 : Int)) 50 0 2520 z307) := EQR_tail g304 (by omega)
                    have g319 : NMC n (fx_up (fx_up (fx_up S225 50 0 (z282).toNat z220) 58 0 (z222).toNat (0 : Int)) 50 0 2520 z307) := NMC_tail g305 (by omega) (by omega)
                    refine And.intro (by decide) ?_
                    have dl : DLE n (fx_up (fx_up (fx_up S225 50 0 (z282).toNat z220) 58 0 (z222).toNat (0 : Int)) 50 0 2520 z307) := ⟨(fx_up (fx_up (fx_up S225 50 0 (z282).toNat z220) 58 0 (z222).toNat (0 : Int)) 50 0 2520 z307), DLT_0 g311 g312 g313 g314 g319⟩
                    have rd : RECd (fx_up (fx_up (fx_up S225 50 0 (z282).toNat z220) 58 0 (z222).toNat (0 : Int)) 50 0 2520 z307) := g316.1
                    have z0 : ZRW n (0 : Int) (fx_up (fx_up (fx_up S225 50 0 (z282).toNat z220) 58 0 (z222).toNat (0 : Int)) 50 0 2520 z307) := ZRW_0
                    exact (z_StubHouseModel_remove p0 p1 p2 p3 p4 p5 p6 p7 p8 hk (43 - (0 : Int)).toNat) (0 : Int) (fx_up (fx_up (fx_up S225 50 0 (z282).toNat z220) 58 0 (z222).toNat (0 : Int)) 50 0 2520 z307) (fxfr_up (fxfr_up (fxfr_up (fxfr_tr (fxfr_tr (fxfr_tr (fxfr_up fxfr_rfl rfl) f191 rfl) f208 rfl) f226 rfl) rfl) rfl) rfl) (by omega) (by omega) (by omega) g310 g315 rd dl z0 g317 (by omega)
          ·
            exact hk (-6 : Int) (fx_up S 49 0 0 (0 : Int)) ⟨(fxfr_up fxfr_rfl rfl), by omega, g38, g39, g40, g41, g42, g43, g44, g45⟩
      ·
        exact hk (-1 : Int) (fx_up S 49 0 0 (0 : Int)) ⟨(fxfr_up fxfr_rfl rfl), by omega, g38, g39, g40, g41, g42, g43, g44, g45⟩
  ·
    exact hk (-8 : Int) (fx_up S 49 0 0 (0 : Int)) ⟨(fxfr_up fxfr_rfl rfl), by omega, g38, g39, g40, g41, g42, g43, g44, g45⟩
theorem z_StubHouseModel_isLive {l : Launch} {k : fxK} {S : fxS} {t : Int} {i : Int} (p0 : COL S) (p1 : SGM S) (p2 : 0 ≤ t ∧ t ≤ 5) (p3 : 0 ≤ i ∧ i < 300) (hk : ∀ (r : Int) (S' : fxS) , (fxfr [(65, 9999), (66, 9999), (67, 9999)] S S' ∧ (0 ≤ r ∧ r ≤ 1) ∧ (SGM S') ∧ (KPA S S')) → k (some (.inl r)) S') : ∀ m : Nat, (∀ (d p j : Int) (S1 : fxS), (fxfr [(65, 9999), (66, 9999), (67, 9999)] S S1) → (1 ≤ j ∧ j ≤ 60) → (-2147483648 ≤ d ∧ d < 2147483648) → (-2147483648 ≤ p ∧ p < 2147483648) → (COL S1) → (SGM S1) → (KPA S S1) → 100000 - j ≤ (m : Int) → fZ l 261 k 37 [some (.inr (.inr (49, 0))), some (.inl t), some (.inl i), some (.inl d), some (.inl p), some (.inl j), none, none, none] [] S1) ∧ (∀ (d a u : Int) (S1 : fxS), (fxfr [(65, 9999), (66, 9999), (67, 9999)] S S1) → (-2147483648 ≤ d ∧ d < 2147483648) → (0 ≤ u ∧ u ≤ 6) → (0 ≤ a ∧ a ≤ 1) → (COL S1) → (SGM S1) → (KPA S S1) → (7 - u) * 1000 + 500 ≤ (m : Int) → fZ l 261 k 101 [some (.inr (.inr (49, 0))), some (.inl t), some (.inl i), some (.inl d), none, some (.inl a), some (.inl u), none, none] [] S1) ∧ (∀ (d a u j : Int) (S1 : fxS), (fxfr [(65, 9999), (66, 9999), (67, 9999)] S S1) → (-2147483648 ≤ d ∧ d < 2147483648) → (0 ≤ u ∧ u < 6) → (0 ≤ a ∧ a ≤ 1) → (0 ≤ j ∧ j ≤ 285) → (COL S1) → (SGM S1) → (KPA S S1) → (7 - u) * 1000 + 300 - j ≤ (m : Int) → fZ l 261 k 111 [some (.inr (.inr (49, 0))), some (.inl t), some (.inl i), some (.inl d), none, some (.inl a), some (.inl u), some (.inl j), none] [] S1) := by
  intro m
  induction m with
  | zero =>
    refine ⟨?_, ?_, ?_⟩
    · intro d p j S1 hf i0 i1 i2 i3 i4 i5 hmu
      exfalso
      omega
    · intro d a u S1 hf i0 i1 i2 i3 i4 i5 hmu
      exfalso
      omega
    · intro d a u j S1 hf i0 i1 i2 i3 i4 i5 i6 hmu
      exfalso
      omega
  | succ m ih =>
    refine ⟨?_, ?_, ?_⟩
    · intro d p j S1 hf i0 i1 i2 i3 i4 i5 hmu
      refine fxz_261 400 ?_
      refine And.intro (fun (h1 : ((60 : Int) ≤ j : Prop)) => ?_) (fun (h1 : (j < (60 : Int) : Prop)) => ?_)
      ·
        refine And.intro (by decide) ?_
        refine And.intro (by decide) ?_
        exact ih.2.1 d (0 : Int) (0 : Int) S1 hf (by omega) (by omega) (by omega) i3 i4 i5 (by omega)
      ·
        intro z2 (z2a : (0 : Int) ≤ z2) (z2b : z2 ≤ (1 : Int)) (z2c : z2 = S1 49 0 15)
        refine And.intro (fun (h3 : (z2 ≠ (0 : Int) : Prop)) => ?_) (fun (h3 : (z2 = (0 : Int) : Prop)) => ?_)
        ·
          refine And.intro (by decide) ?_
          refine And.intro (by decide) ?_
          exact ih.2.1 d (0 : Int) (0 : Int) S1 hf (by omega) (by omega) (by omega) i3 i4 i5 (by omega)
        ·
          refine c_at0 (n := j) i3 (show 0 ≤ j ∧ j < 60 by omega) (fun (z4 : Int) (q5 : z4 = aN S1 j 0 ∧ 0 ≤ z4 ∧ z4 ≤ 2) => ?_)
          refine And.intro (fun (h6 : (z4 ≠ (2 : Int) : Prop)) => ?_) (fun (h6 : (z4 = (2 : Int) : Prop)) => ?_)
          ·
            refine And.intro (by decide) (And.intro (show -2147483648 ≤ j + (1 : Int) ∧ j + (1 : Int) < 2147483648 by omega) ?_)
            exact ih.1 d p (j + (1 : Int)) S1 hf (by omega) (by omega) (by omega) i3 i4 i5 (by omega)
          ·
            refine c_StubHouseModel_copyAt (f := j) (t := t) (p := p) i3 (show 0 ≤ j ∧ j < 60 by omega) (show -2147483648 ≤ t ∧ t < 2147483648 by omega) (show -2147483648 ≤ p ∧ p < 2147483648 by omega) (fun (z8 : Int) (q9 : -2 ≤ z8 ∧ z8 ≤ 1 ∧ z8 ≠ -1 ∧ (0 ≤ z8 → z8 < aN S1 j 5) ∧ (0 ≤ z8 → CAT j t p S1) ∧ (z8 < 0 → ¬ CAT j t p S1)) => ?_)
            refine And.intro (fun (h10 : (z8 < (0 : Int) : Prop)) => ?_) (fun (h10 : ((0 : Int) ≤ z8 : Prop)) => ?_)
            ·
              refine And.intro (by decide) (And.intro (show -2147483648 ≤ j + (1 : Int) ∧ j + (1 : Int) < 2147483648 by omega) ?_)
              exact ih.1 d p (j + (1 : Int)) S1 hf (by omega) (by omega) (by omega) i3 i4 i5 (by omega)
            ·
              refine c_StubHouseModel_fits (f := j) (t := t) (p := p) i3 i4 (show 0 ≤ j ∧ j < 60 by omega) (show 0 ≤ t ∧ t ≤ 5 by omega) (show -2147483648 ≤ p ∧ p < 2147483648 by omega) (fun (z12 : Int) (S13 : fxS) ⟨(f14 : fxfr [(65, 9999), (66, 9999), (67, 9999)] S1 S13), (q15 : -2 ≤ z12 ∧ z12 ≤ 284 ∧ z12 ≠ -1 ∧ (0 ≤ z12 → sgN S13 (300 * t + z12) 0 = p ∧ sgN S13 (300 * t + z12) 1 = 1 ∧ sgN S13 (300 * t + z12) 6 = aN S13 j 3)), (g16 : SGM S13), (g17 : KPA S1 S13)⟩ => ?_)
              have g18 : COL S13 := fx_pfr COL_stab f14 rfl i3
              have g19 : KPA S S13 := KPA_tr i5 g17
              refine And.intro (fun (h20 : (z12 ≠ i : Prop)) => ?_) (fun (h20 : (z12 = i : Prop)) => ?_)
              ·
                refine And.intro (by decide) (And.intro (show -2147483648 ≤ j + (1 : Int) ∧ j + (1 : Int) < 2147483648 by omega) ?_)
                exact ih.1 d p (j + (1 : Int)) S13 (fxfr_tr hf f14 rfl) (by omega) (by omega) (by omega) g18 g16 g19 (by omega)
              ·
                refine And.intro (show 0 ≤ (1 : Int) ∧ (1 : Int) ≤ 1 by omega) ?_
                exact hk (1 : Int) S13 ⟨(fxfr_tr hf f14 rfl), by omega, g16, g19⟩
    · intro d a u S1 hf i0 i1 i2 i3 i4 i5 hmu
      refine fxz_261 400 ?_
      refine And.intro (fun (h22 : ((6 : Int) ≤ u : Prop)) => ?_) (fun (h22 : (u < (6 : Int) : Prop)) => ?_)
      ·
        refine c_StubHouseModel_seg (t := t) (i := i) (w := (1 : Int)) (show 0 ≤ t ∧ t ≤ 5 by omega) (show 0 ≤ i ∧ i < 300 by omega) (show 0 ≤ (1 : Int) ∧ (1 : Int) < 8 by omega) (fun (z23 : Int) (q24 : z23 = sgN S1 (300 * t + i) (1 : Int) ∧ -2147483648 ≤ z23 ∧ z23 < 2147483648) => ?_)
        refine And.intro (fun (h25 : (z23 = (1 : Int) : Prop)) => ?_) (fun (h25 : (z23 ≠ (1 : Int) : Prop)) => ?_)
        ·
          refine And.intro (show 0 ≤ (1 : Int) ∧ (1 : Int) ≤ 1 by omega) ?_
          exact hk (1 : Int) S1 ⟨hf, by omega, i4, i5⟩
        ·
          refine And.intro (fun (h26 : (a = (0 : Int) : Prop)) => ?_) (fun (h26 : (a ≠ (0 : Int) : Prop)) => ?_)
          ·
            refine And.intro (show 0 ≤ (0 : Int) ∧ (0 : Int) ≤ 1 by omega) ?_
            exact hk (0 : Int) S1 ⟨hf, by omega, i4, i5⟩
          ·
            refine And.intro (show 0 ≤ (1 : Int) ∧ (1 : Int) ≤ 1 by omega) ?_
            exact hk (1 : Int) S1 ⟨hf, by omega, i4, i5⟩
      ·
        refine And.intro (by decide) ?_
        exact ih.2.2 d a u (0 : Int) S1 hf (by omega) (by omega) (by omega) (by omega) i3 i4 i5 (by omega)
    · intro d a u j S1 hf i0 i1 i2 i3 i4 i5 i6 hmu
      refine fxz_261 400 ?_
      refine And.intro (show 0 ≤ u ∧ u < 6 by omega) ?_
      intro z27 (z27a : (0 : Int) ≤ z27) (z27b : z27 ≤ (285 : Int)) (z27c : z27 = S1 66 0 (u).toNat)
      refine And.intro (fun (h28 : (z27 ≤ j : Prop)) => ?_) (fun (h28 : (j < z27 : Prop)) => ?_)
      ·
        refine And.intro (by decide) (And.intro (show -2147483648 ≤ u + (1 : Int) ∧ u + (1 : Int) < 2147483648 by omega) ?_)
        exact ih.2.1 d a (u + (1 : Int)) S1 hf (by omega) (by omega) (by omega) i4 i5 i6 (by omega)
      ·
        refine c_StubHouseModel_seg (t := u) (i := j) (w := (2 : Int)) (show 0 ≤ u ∧ u ≤ 5 by omega) (show 0 ≤ j ∧ j < 300 by omega) (show 0 ≤ (2 : Int) ∧ (2 : Int) < 8 by omega) (fun (z30 : Int) (q31 : z30 = sgN S1 (300 * u + j) (2 : Int) ∧ -2147483648 ≤ z30 ∧ z30 < 2147483648) => ?_)
        refine And.intro (fun (h32 : (z30 ≠ d : Prop)) => ?_) (fun (h32 : (z30 = d : Prop)) => ?_)
        ·
          refine And.intro (by decide) (And.intro (show -2147483648 ≤ j + (1 : Int) ∧ j + (1 : Int) < 2147483648 by omega) ?_)
          exact ih.2.2 d a u (j + (1 : Int)) S1 hf (by omega) (by omega) (by omega) (by omega) i4 i5 i6 (by omega)
        ·
          refine c_StubHouseModel_seg (t := u) (i := j) (w := (7 : Int)) (show 0 ≤ u ∧ u ≤ 5 by omega) (show 0 ≤ j ∧ j < 300 by omega) (show 0 ≤ (7 : Int) ∧ (7 : Int) < 8 by omega) (fun (z34 : Int) (q35 : z34 = sgN S1 (300 * u + j) (7 : Int) ∧ -2147483648 ≤ z34 ∧ z34 < 2147483648) => ?_)
          refine And.intro (fun (h36 : (z34 ≠ (1 : Int) : Prop)) => ?_) (fun (h36 : (z34 = (1 : Int) : Prop)) => ?_)
          ·
            refine And.intro (by decide) ?_
            refine And.intro (fun _ => ?_) (fun h => absurd h (by decide))
            refine And.intro (fun (h37 : (a ≠ (0 : Int) : Prop)) => ?_) (fun (h37 : (a = (0 : Int) : Prop)) => ?_)
            ·
              refine And.intro (by decide) ?_
              refine And.intro (by decide) (And.intro (show -2147483648 ≤ j + (1 : Int) ∧ j + (1 : Int) < 2147483648 by omega) ?_)
              exact ih.2.2 d (1 : Int) u (j + (1 : Int)) S1 hf (by omega) (by omega) (by omega) (by omega) i4 i5 i6 (by omega)
            ·
              refine And.intro (fun (h39 : (u = t : Prop)) => ?_) (fun (h39 : (u ≠ t : Prop)) => ?_)
              ·
                refine And.intro (by decide) ?_
                refine And.intro (by decide) (And.intro (show -2147483648 ≤ j + (1 : Int) ∧ j + (1 : Int) < 2147483648 by omega) ?_)
                exact ih.2.2 d (0 : Int) u (j + (1 : Int)) S1 hf (by omega) (by omega) (by omega) (by omega) i4 i5 i6 (by omega)
              ·
                refine And.intro (by decide) ?_
                refine And.intro (by decide) (And.intro (show -2147483648 ≤ j + (1 : Int) ∧ j + (1 : Int) < 2147483648 by omega) ?_)
                exact ih.2.2 d (1 : Int) u (j + (1 : Int)) S1 hf (by omega) (by omega) (by omega) (by omega) i4 i5 i6 (by omega)
          ·
            refine And.intro (by decide) ?_
            refine And.intro (fun h => absurd h (by decide)) (fun _ => ?_)
            refine c_StubHouseModel_seg (t := u) (i := j) (w := (4 : Int)) (show 0 ≤ u ∧ u ≤ 5 by omega) (show 0 ≤ j ∧ j < 300 by omega) (show 0 ≤ (4 : Int) ∧ (4 : Int) < 8 by omega) (fun (z42 : Int) (q43 : z42 = sgN S1 (300 * u + j) (4 : Int) ∧ -2147483648 ≤ z42 ∧ z42 < 2147483648) => ?_)
            refine c_StubHouseModel_seg (t := t) (i := i) (w := (4 : Int)) (show 0 ≤ t ∧ t ≤ 5 by omega) (show 0 ≤ i ∧ i < 300 by omega) (show 0 ≤ (4 : Int) ∧ (4 : Int) < 8 by omega) (fun (z44 : Int) (q45 : z44 = sgN S1 (300 * t + i) (4 : Int) ∧ -2147483648 ≤ z44 ∧ z44 < 2147483648) => ?_)
            refine And.intro (fun (h46 : (z44 < z42 : Prop)) => ?_) (fun (h46 : (z42 ≤ z44 : Prop)) => ?_)
            ·
              refine And.intro (show 0 ≤ (0 : Int) ∧ (0 : Int) ≤ 1 by omega) ?_
              exact hk (0 : Int) S1 ⟨hf, by omega, i5, i6⟩
            ·
              refine And.intro (fun (h47 : (u = t : Prop)) => ?_) (fun (h47 : (u ≠ t : Prop)) => ?_)
              ·
                refine And.intro (fun (h48 : (a ≠ (0 : Int) : Prop)) => ?_) (fun (h48 : (a = (0 : Int) : Prop)) => ?_)
                ·
                  refine And.intro (by decide) ?_
                  refine And.intro (by decide) (And.intro (show -2147483648 ≤ j + (1 : Int) ∧ j + (1 : Int) < 2147483648 by omega) ?_)
                  exact ih.2.2 d (1 : Int) u (j + (1 : Int)) S1 hf (by omega) (by omega) (by omega) (by omega) i4 i5 i6 (by omega)
                ·
                  refine And.intro (fun (h50 : (u = t : Prop)) => ?_) (fun (h50 : (u ≠ t : Prop)) => ?_)
                  ·
                    refine And.intro (by decide) ?_
                    refine And.intro (by decide) (And.intro (show -2147483648 ≤ j + (1 : Int) ∧ j + (1 : Int) < 2147483648 by omega) ?_)
                    exact ih.2.2 d (0 : Int) u (j + (1 : Int)) S1 hf (by omega) (by omega) (by omega) (by omega) i4 i5 i6 (by omega)
                  ·
                    refine And.intro (by decide) ?_
                    refine And.intro (by decide) (And.intro (show -2147483648 ≤ j + (1 : Int) ∧ j + (1 : Int) < 2147483648 by omega) ?_)
                    exact ih.2.2 d (1 : Int) u (j + (1 : Int)) S1 hf (by omega) (by omega) (by omega) (by omega) i4 i5 i6 (by omega)
              ·
                refine c_StubHouseModel_seg (t := u) (i := j) (w := (4 : Int)) (show 0 ≤ u ∧ u ≤ 5 by omega) (show 0 ≤ j ∧ j < 300 by omega) (show 0 ≤ (4 : Int) ∧ (4 : Int) < 8 by omega) (fun (z53 : Int) (q54 : z53 = sgN S1 (300 * u + j) (4 : Int) ∧ -2147483648 ≤ z53 ∧ z53 < 2147483648) => ?_)
                refine c_StubHouseModel_seg (t := t) (i := i) (w := (4 : Int)) (show 0 ≤ t ∧ t ≤ 5 by omega) (show 0 ≤ i ∧ i < 300 by omega) (show 0 ≤ (4 : Int) ∧ (4 : Int) < 8 by omega) (fun (z55 : Int) (q56 : z55 = sgN S1 (300 * t + i) (4 : Int) ∧ -2147483648 ≤ z55 ∧ z55 < 2147483648) => ?_)
                refine And.intro (fun (h57 : (z53 ≠ z55 : Prop)) => ?_) (fun (h57 : (z53 = z55 : Prop)) => ?_)
                ·
                  refine And.intro (fun (h58 : (a ≠ (0 : Int) : Prop)) => ?_) (fun (h58 : (a = (0 : Int) : Prop)) => ?_)
                  ·
                    refine And.intro (by decide) ?_
                    refine And.intro (by decide) (And.intro (show -2147483648 ≤ j + (1 : Int) ∧ j + (1 : Int) < 2147483648 by omega) ?_)
                    exact ih.2.2 d (1 : Int) u (j + (1 : Int)) S1 hf (by omega) (by omega) (by omega) (by omega) i4 i5 i6 (by omega)
                  ·
                    refine And.intro (fun (h60 : (u = t : Prop)) => ?_) (fun (h60 : (u ≠ t : Prop)) => ?_)
                    ·
                      refine And.intro (by decide) ?_
                      refine And.intro (by decide) (And.intro (show -2147483648 ≤ j + (1 : Int) ∧ j + (1 : Int) < 2147483648 by omega) ?_)
                      exact ih.2.2 d (0 : Int) u (j + (1 : Int)) S1 hf (by omega) (by omega) (by omega) (by omega) i4 i5 i6 (by omega)
                    ·
                      refine And.intro (by decide) ?_
                      refine And.intro (by decide) (And.intro (show -2147483648 ≤ j + (1 : Int) ∧ j + (1 : Int) < 2147483648 by omega) ?_)
                      exact ih.2.2 d (1 : Int) u (j + (1 : Int)) S1 hf (by omega) (by omega) (by omega) (by omega) i4 i5 i6 (by omega)
                ·
                  refine And.intro (show 0 ≤ (0 : Int) ∧ (0 : Int) ≤ 1 by omega) ?_
                  exact hk (0 : Int) S1 ⟨hf, by omega, i5, i6⟩
theorem c_StubHouseModel_isLive {l : Launch} {k : fxK} {S : fxS} {t : Int} {i : Int} (p0 : COL S) (p1 : SGM S) (p2 : 0 ≤ t ∧ t ≤ 5) (p3 : 0 ≤ i ∧ i < 300) (hk : ∀ (r : Int) (S' : fxS) , (fxfr [(65, 9999), (66, 9999), (67, 9999)] S S' ∧ (0 ≤ r ∧ r ≤ 1) ∧ (SGM S') ∧ (KPA S S')) → k (some (.inl r)) S') : fC l 261 [.inr (.inr (49, 0)), .inl t, .inl i] S k := by
  have n63 : KPA S S := KPA_rfl
  refine fxe_261 (Nat.le_of_ble_eq_true rfl) (fxz_261 400 ?_)
  refine c_StubHouseModel_scanAll  p1 (fun (S64 : fxS) ⟨(f65 : fxfr [(65, 9999), (66, 9999), (67, 9999)] S S64), (g66 : SGM S64), (g67 : KPA S S64)⟩ => ?_)
  have g68 : COL S64 := fx_pfr COL_stab f65 rfl p0
  refine c_StubHouseModel_seg (t := t) (i := i) (w := (7 : Int)) (show 0 ≤ t ∧ t ≤ 5 by omega) (show 0 ≤ i ∧ i < 300 by omega) (show 0 ≤ (7 : Int) ∧ (7 : Int) < 8 by omega) (fun (z69 : Int) (q70 : z69 = sgN S64 (300 * t + i) (7 : Int) ∧ -2147483648 ≤ z69 ∧ z69 < 2147483648) => ?_)
  refine And.intro (fun (h71 : (z69 ≠ (0 : Int) : Prop)) => ?_) (fun (h71 : (z69 = (0 : Int) : Prop)) => ?_)
  ·
    refine c_StubHouseModel_seg (t := t) (i := i) (w := (2 : Int)) (show 0 ≤ t ∧ t ≤ 5 by omega) (show 0 ≤ i ∧ i < 300 by omega) (show 0 ≤ (2 : Int) ∧ (2 : Int) < 8 by omega) (fun (z72 : Int) (q73 : z72 = sgN S64 (300 * t + i) (2 : Int) ∧ -2147483648 ≤ z72 ∧ z72 < 2147483648) => ?_)
    refine And.intro (by decide) ?_
    refine c_StubHouseModel_seg (t := t) (i := i) (w := (0 : Int)) (show 0 ≤ t ∧ t ≤ 5 by omega) (show 0 ≤ i ∧ i < 300 by omega) (show 0 ≤ (0 : Int) ∧ (0 : Int) < 8 by omega) (fun (z74 : Int) (q75 : z74 = sgN S64 (300 * t + i) (0 : Int) ∧ -2147483648 ≤ z74 ∧ z74 < 2147483648) => ?_)
    refine And.intro (by decide) ?_
    refine And.intro (by decide) ?_
    exact (z_StubHouseModel_isLive p0 p1 p2 p3 hk (100000 - (1 : Int)).toNat).1 z72 z74 (1 : Int) S64 (fxfr_tr fxfr_rfl f65 rfl) (by omega) (by omega) (by omega) g68 g66 g67 (by omega)
  ·
    refine And.intro (show 0 ≤ (0 : Int) ∧ (0 : Int) ≤ 1 by omega) ?_
    exact hk (0 : Int) S64 ⟨(fxfr_tr fxfr_rfl f65 rfl), by omega, g66, g67⟩
theorem z_StubHouseModel_tape {l : Launch} {k : fxK} {S : fxS} {t : Int} {w : Int} (p0 : COL S) (p1 : SGM S) (p2 : -2147483648 ≤ t ∧ t < 2147483648) (p3 : -2147483648 ≤ w ∧ w < 2147483648) (hk : ∀ (r : Int) (S' : fxS) , (fxfr [(49, 0), (65, 9999), (66, 9999), (67, 9999)] S S' ∧ (-2147483648 ≤ r ∧ r < 2147483648) ∧ (SGM S')) → k (some (.inl r)) S') : ∀ m : Nat, (∀ (u i : Int) (S1 : fxS), (fxfr [(49, 0), (65, 9999), (66, 9999), (67, 9999)] S S1) → (0 ≤ t ∧ t ≤ 5) → (0 ≤ u ∧ u ≤ i) → (0 ≤ i ∧ i ≤ 285) → (COL S1) → (SGM S1) → 286 - i ≤ (m : Int) → fZ l 304 k 41 [some (.inr (.inr (49, 0))), some (.inl t), some (.inl w), some (.inl u), some (.inl i)] [] S1) := by
  intro m
  induction m with
  | zero =>
    intro u i S1 hf i0 i1 i2 i3 i4 hmu
    exfalso
    omega
  | succ m ih =>
    intro u i S1 hf i0 i1 i2 i3 i4 hmu
    refine fxz_304 400 ?_
    refine And.intro (show 0 ≤ t ∧ t < 6 by omega) ?_
    intro z1 (z1a : (0 : Int) ≤ z1) (z1b : z1 ≤ (285 : Int)) (z1c : z1 = S1 66 0 (t).toNat)
    refine And.intro (fun (h2 : (z1 ≤ i : Prop)) => ?_) (fun (h2 : (i < z1 : Prop)) => ?_)
    ·
      refine And.intro (fun (h3 : (w ≠ (0 : Int) : Prop)) => ?_) (fun (h3 : (w = (0 : Int) : Prop)) => ?_)
      ·
        refine And.intro (fun (h4 : (w ≠ (1 : Int) : Prop)) => ?_) (fun (h4 : (w = (1 : Int) : Prop)) => ?_)
        ·
          refine And.intro (fun (h5 : (w ≠ (2 : Int) : Prop)) => ?_) (fun (h5 : (w = (2 : Int) : Prop)) => ?_)
          ·
            exact hk u S1 ⟨hf, by omega, i4⟩
          ·
            refine And.intro (show 0 ≤ t ∧ t < 6 by omega) ?_
            intro z6 (z6a : (0 : Int) ≤ z6) (z6b : z6 ≤ (285 : Int)) (z6c : z6 = S1 66 0 (t).toNat)
            exact hk z6 S1 ⟨hf, by omega, i4⟩
        ·
          refine And.intro (show 0 ≤ t ∧ t < 6 by omega) ?_
          intro z7 (z7a : (0 : Int) ≤ z7) (z7b : z7 ≤ (65535 : Int)) (z7c : z7 = S1 64 0 (t).toNat)
          exact hk z7 S1 ⟨hf, by omega, i4⟩
      ·
        refine And.intro (show 0 ≤ t ∧ t < 6 by omega) ?_
        intro z8 (z8a : (0 : Int) ≤ z8) (z8b : z8 ≤ (6000 : Int)) (z8c : z8 = S1 63 0 (t).toNat)
        exact hk z8 S1 ⟨hf, by omega, i4⟩
    ·
      refine And.intro (fun (h9 : (w ≠ (3 : Int) : Prop)) => ?_) (fun (h9 : (w = (3 : Int) : Prop)) => ?_)
      ·
        refine And.intro (fun (h10 : (w ≠ (4 : Int) : Prop)) => ?_) (fun (h10 : (w = (4 : Int) : Prop)) => ?_)
        ·
          refine And.intro (show -2147483648 ≤ (u + (0 : Int)) ∧ (u + (0 : Int)) < 2147483648 by omega) ?_
          refine And.intro (by decide) ?_
          refine And.intro (by decide) (And.intro (show -2147483648 ≤ i + (1 : Int) ∧ i + (1 : Int) < 2147483648 by omega) ?_)
          exact ih (u + (0 : Int)) (i + (1 : Int)) S1 hf (by omega) (by omega) (by omega) i3 i4 (by omega)
        ·
          refine c_StubHouseModel_isLive (t := t) (i := i) i3 i4 (show 0 ≤ t ∧ t ≤ 5 by omega) (show 0 ≤ i ∧ i < 300 by omega) (fun (z12 : Int) (S13 : fxS) ⟨(f14 : fxfr [(65, 9999), (66, 9999), (67, 9999)] S1 S13), (q15 : 0 ≤ z12 ∧ z12 ≤ 1), (g16 : SGM S13), (g17 : KPA S1 S13)⟩ => ?_)
          have g18 : COL S13 := fx_pfr COL_stab f14 rfl i3
          refine And.intro (fun (h19 : (z12 = (0 : Int) : Prop)) => ?_) (fun (h19 : (z12 ≠ (0 : Int) : Prop)) => ?_)
          ·
            refine And.intro (show -2147483648 ≤ (u + (0 : Int)) ∧ (u + (0 : Int)) < 2147483648 by omega) ?_
            refine And.intro (by decide) ?_
            refine And.intro (by decide) (And.intro (show -2147483648 ≤ i + (1 : Int) ∧ i + (1 : Int) < 2147483648 by omega) ?_)
            exact ih (u + (0 : Int)) (i + (1 : Int)) S13 (fxfr_tr hf f14 rfl) (by omega) (by omega) (by omega) g18 g16 (by omega)
          ·
            refine And.intro (show -2147483648 ≤ (u + (1 : Int)) ∧ (u + (1 : Int)) < 2147483648 by omega) ?_
            refine And.intro (by decide) ?_
            refine And.intro (by decide) (And.intro (show -2147483648 ≤ i + (1 : Int) ∧ i + (1 : Int) < 2147483648 by omega) ?_)
            exact ih (u + (1 : Int)) (i + (1 : Int)) S13 (fxfr_tr hf f14 rfl) (by omega) (by omega) (by omega) g18 g16 (by omega)
      ·
        refine c_StubHouseModel_seg (t := t) (i := i) (w := (7 : Int)) (show 0 ≤ t ∧ t ≤ 5 by omega) (show 0 ≤ i ∧ i < 300 by omega) (show 0 ≤ (7 : Int) ∧ (7 : Int) < 8 by omega) (fun (z22 : Int) (q23 : z22 = sgN S1 (300 * t + i) (7 : Int) ∧ -2147483648 ≤ z22 ∧ z22 < 2147483648) => ?_)
        refine And.intro (fun (h24 : (z22 ≠ (0 : Int) : Prop)) => ?_) (fun (h24 : (z22 = (0 : Int) : Prop)) => ?_)
        ·
          refine And.intro (show -2147483648 ≤ (u + (0 : Int)) ∧ (u + (0 : Int)) < 2147483648 by omega) ?_
          refine And.intro (by decide) ?_
          refine And.intro (by decide) (And.intro (show -2147483648 ≤ i + (1 : Int) ∧ i + (1 : Int) < 2147483648 by omega) ?_)
          exact ih (u + (0 : Int)) (i + (1 : Int)) S1 hf (by omega) (by omega) (by omega) i3 i4 (by omega)
        ·
          refine And.intro (show -2147483648 ≤ (u + (1 : Int)) ∧ (u + (1 : Int)) < 2147483648 by omega) ?_
          refine And.intro (by decide) ?_
          refine And.intro (by decide) (And.intro (show -2147483648 ≤ i + (1 : Int) ∧ i + (1 : Int) < 2147483648 by omega) ?_)
          exact ih (u + (1 : Int)) (i + (1 : Int)) S1 hf (by omega) (by omega) (by omega) i3 i4 (by omega)
theorem c_StubHouseModel_tape {l : Launch} {k : fxK} {S : fxS} {t : Int} {w : Int} (p0 : COL S) (p1 : SGM S) (p2 : -2147483648 ≤ t ∧ t < 2147483648) (p3 : -2147483648 ≤ w ∧ w < 2147483648) (hk : ∀ (r : Int) (S' : fxS) , (fxfr [(49, 0), (65, 9999), (66, 9999), (67, 9999)] S S' ∧ (-2147483648 ≤ r ∧ r < 2147483648) ∧ (SGM S')) → k (some (.inl r)) S') : fC l 304 [.inr (.inr (49, 0)), .inl t, .inl w] S k := by
  refine fxe_304 (Nat.le_of_ble_eq_true rfl) (fxz_304 400 ?_)
  refine And.intro (show (-2147483648 : Int) ≤ (0 : Int) ∧ (0 : Int) ≤ (2147483647 : Int) by omega) ?_
  have g27 : COL (fx_up S 49 0 0 (0 : Int)) := fx_pup COL_stab rfl p0
  have g28 : SGM (fx_up S 49 0 0 (0 : Int)) := fx_pup SGM_stab rfl p1
  refine c_StubHouseModel_in (x := t) (a := (0 : Int)) (b := (5 : Int))  (fun (z29 : Int) (q30 : 0 ≤ z29 ∧ z29 ≤ 1 ∧ (z29 = 1 → (0 : Int) ≤ t ∧ t ≤ (5 : Int)) ∧ (z29 = 0 → t < (0 : Int) ∨ (5 : Int) < t)) => ?_)
  refine And.intro (fun (h31 : (z29 = (0 : Int) : Prop)) => ?_) (fun (h31 : (z29 ≠ (0 : Int) : Prop)) => ?_)
  ·
    exact hk (-1 : Int) (fx_up S 49 0 0 (0 : Int)) ⟨(fxfr_up fxfr_rfl rfl), by omega, g28⟩
  ·
    refine c_StubHouseModel_in (x := w) (a := (0 : Int)) (b := (4 : Int))  (fun (z32 : Int) (q33 : 0 ≤ z32 ∧ z32 ≤ 1 ∧ (z32 = 1 → (0 : Int) ≤ w ∧ w ≤ (4 : Int)) ∧ (z32 = 0 → w < (0 : Int) ∨ (4 : Int) < w)) => ?_)
    refine And.intro (fun (h34 : (z32 ≠ (0 : Int) : Prop)) => ?_) (fun (h34 : (z32 = (0 : Int) : Prop)) => ?_)
    ·
      refine c_StubHouseModel_scan (t := t) g28 (show 0 ≤ t ∧ t ≤ 5 by omega) (fun (S35 : fxS) ⟨(f36 : fxfr [(65, 9999), (66, 9999), (67, 9999)] (fx_up S 49 0 0 (0 : Int)) S35), (q37 : S35 67 0 (t).toNat = 1), (g38 : SGM S35), (g39 : KPA (fx_up S 49 0 0 (0 : Int)) S35)⟩ => ?_)
      have g40 : COL S35 := fx_pfr COL_stab f36 rfl g27
      refine And.intro (by decide) ?_
      refine And.intro (by decide) ?_
      exact (z_StubHouseModel_tape p0 p1 p2 p3 hk (286 - (0 : Int)).toNat) (0 : Int) (0 : Int) S35 (fxfr_tr (fxfr_up fxfr_rfl rfl) f36 rfl) (by omega) (by omega) (by omega) g40 g38 (by omega)
    ·
      exact hk (-1 : Int) (fx_up S 49 0 0 (0 : Int)) ⟨(fxfr_up fxfr_rfl rfl), by omega, g28⟩
theorem c_StubHouseModel_noPlace {l : Launch} {k : fxK} {S : fxS} {t : Int} {p : Int} (p0 : -2147483648 ≤ t ∧ t < 2147483648) (p1 : -2147483648 ≤ p ∧ p < 2147483648) (hk : ∀ (r : Int) , (0 ≤ r ∧ r ≤ 1 ∧ (r = 0 → 0 ≤ t ∧ t ≤ 5 ∧ 0 ≤ p ∧ p < 6000)) → k (some (.inl r)) S) : fC l 307 [.inr (.inr (49, 0)), .inl t, .inl p] S k := by
  refine fxe_307 (Nat.le_of_ble_eq_true rfl) (fxz_307 400 ?_)
  refine c_StubHouseModel_in (x := t) (a := (0 : Int)) (b := (5 : Int))  (fun (z1 : Int) (q2 : 0 ≤ z1 ∧ z1 ≤ 1 ∧ (z1 = 1 → (0 : Int) ≤ t ∧ t ≤ (5 : Int)) ∧ (z1 = 0 → t < (0 : Int) ∨ (5 : Int) < t)) => ?_)
  refine And.intro (fun (h3 : (z1 = (0 : Int) : Prop)) => ?_) (fun (h3 : (z1 ≠ (0 : Int) : Prop)) => ?_)
  ·
    refine And.intro (show 0 ≤ (1 : Int) ∧ (1 : Int) ≤ 1 by omega) ?_
    exact hk (1 : Int) (by omega)
  ·
    refine And.intro (show 0 ≤ t ∧ t < 6 by omega) ?_
    intro z4 (z4a : (0 : Int) ≤ z4) (z4b : z4 ≤ (6000 : Int)) (z4c : z4 = S 63 0 (t).toNat)
    refine And.intro (show -2147483648 ≤ (z4 - (1 : Int)) ∧ (z4 - (1 : Int)) < 2147483648 by omega) ?_
    refine c_StubHouseModel_in (x := p) (a := (0 : Int)) (b := (z4 - (1 : Int)))  (fun (z5 : Int) (q6 : 0 ≤ z5 ∧ z5 ≤ 1 ∧ (z5 = 1 → (0 : Int) ≤ p ∧ p ≤ (z4 - (1 : Int))) ∧ (z5 = 0 → p < (0 : Int) ∨ (z4 - (1 : Int)) < p)) => ?_)
    refine And.intro (fun (h7 : (z5 ≠ (0 : Int) : Prop)) => ?_) (fun (h7 : (z5 = (0 : Int) : Prop)) => ?_)
    ·
      refine And.intro (show 0 ≤ (0 : Int) ∧ (0 : Int) ≤ 1 by omega) ?_
      exact hk (0 : Int) (by omega)
    ·
      refine And.intro (show 0 ≤ (1 : Int) ∧ (1 : Int) ≤ 1 by omega) ?_
      exact hk (1 : Int) (by omega)
theorem c_StubHouseModel_byteOf {l : Launch} {k : fxK} {S : fxS} {t : Int} {p : Int} (p0 : -2147483648 ≤ t ∧ t < 2147483648) (p1 : -2147483648 ≤ p ∧ p < 2147483648) (hk : ∀ (r : Int) (S' : fxS) , (fxfr [(49, 0)] S S' ∧ (-2147483648 ≤ r ∧ r < 2147483648)) → k (some (.inl r)) S') : fC l 308 [.inr (.inr (49, 0)), .inl t, .inl p] S k := by
  refine fxe_308 (Nat.le_of_ble_eq_true rfl) (fxz_308 400 ?_)
  refine And.intro (show (-2147483648 : Int) ≤ (0 : Int) ∧ (0 : Int) ≤ (2147483647 : Int) by omega) ?_
  refine c_StubHouseModel_noPlace (t := t) (p := p) (show -2147483648 ≤ t ∧ t < 2147483648 by omega) (show -2147483648 ≤ p ∧ p < 2147483648 by omega) (fun (z1 : Int) (q2 : 0 ≤ z1 ∧ z1 ≤ 1 ∧ (z1 = 0 → 0 ≤ t ∧ t ≤ 5 ∧ 0 ≤ p ∧ p < 6000)) => ?_)
  refine And.intro (fun (h3 : (z1 = (0 : Int) : Prop)) => ?_) (fun (h3 : (z1 ≠ (0 : Int) : Prop)) => ?_)
  ·
    refine c_StubHouseModel_tapeByte (t := t) (p := p) (show 0 ≤ t ∧ t ≤ 5 by omega) (show 0 ≤ p ∧ p < 6000 by omega) (fun (z4 : Int) (q5 : z4 = tB S t p ∧ 0 ≤ z4 ∧ z4 ≤ 255) => ?_)
    exact hk z4 (fx_up S 49 0 0 (0 : Int)) ⟨(fxfr_up fxfr_rfl rfl), by omega⟩
  ·
    exact hk (-1 : Int) (fx_up S 49 0 0 (0 : Int)) ⟨(fxfr_up fxfr_rfl rfl), by omega⟩
theorem c_StubHouseModel_spoil {l : Launch} {k : fxK} {S : fxS} {t : Int} {p : Int} {w : Int} (p0 : -2147483648 ≤ t ∧ t < 2147483648) (p1 : -2147483648 ≤ p ∧ p < 2147483648) (p2 : -2147483648 ≤ w ∧ w < 2147483648) (hk : ∀ (r : Int) (S' : fxS) , (fxfr [(49, 0), (62, 9999), (67, 9999)] S S' ∧ (-2147483648 ≤ r ∧ r < 2147483648)) → k (some (.inl r)) S') : fC l 311 [.inr (.inr (49, 0)), .inl t, .inl p, .inl w] S k := by
  refine fxe_311 (Nat.le_of_ble_eq_true rfl) (fxz_311 400 ?_)
  refine And.intro (show (-2147483648 : Int) ≤ (0 : Int) ∧ (0 : Int) ≤ (2147483647 : Int) by omega) ?_
  refine c_StubHouseModel_noPlace (t := t) (p := p) (show -2147483648 ≤ t ∧ t < 2147483648 by omega) (show -2147483648 ≤ p ∧ p < 2147483648 by omega) (fun (z1 : Int) (q2 : 0 ≤ z1 ∧ z1 ≤ 1 ∧ (z1 = 0 → 0 ≤ t ∧ t ≤ 5 ∧ 0 ≤ p ∧ p < 6000)) => ?_)
  refine And.intro (fun (h3 : (z1 ≠ (0 : Int) : Prop)) => ?_) (fun (h3 : (z1 = (0 : Int) : Prop)) => ?_)
  ·
    exact hk (-1 : Int) (fx_up S 49 0 0 (0 : Int)) ⟨(fxfr_up fxfr_rfl rfl), by omega⟩
  ·
    refine c_StubHouseModel_in (x := w) (a := (1 : Int)) (b := (255 : Int))  (fun (z4 : Int) (q5 : 0 ≤ z4 ∧ z4 ≤ 1 ∧ (z4 = 1 → (1 : Int) ≤ w ∧ w ≤ (255 : Int)) ∧ (z4 = 0 → w < (1 : Int) ∨ (255 : Int) < w)) => ?_)
    refine And.intro (fun (h6 : (z4 ≠ (0 : Int) : Prop)) => ?_) (fun (h6 : (z4 = (0 : Int) : Prop)) => ?_)
    ·
      refine And.intro (show -2147483648 ≤ ((6000 : Int) * t) ∧ ((6000 : Int) * t) < 2147483648 by omega) ?_
      refine And.intro (show -2147483648 ≤ (((6000 : Int) * t) + p) ∧ (((6000 : Int) * t) + p) < 2147483648 by omega) ?_
      refine c_StubHouseModel_tapeByte (t := t) (p := p) (show 0 ≤ t ∧ t ≤ 5 by omega) (show 0 ≤ p ∧ p < 6000 by omega) (fun (z7 : Int) (q8 : z7 = tB S t p ∧ 0 ≤ z7 ∧ z7 ≤ 255) => ?_)
      intro z9 z9a z9b (z9c : z9 = fx_bop 3 z7 w)
      intro z10 z10a z10b
      refine And.intro (show 0 ≤ (((6000 : Int) * t) + p) ∧ (((6000 : Int) * t) + p) < 36000 by omega) ?_
      intro z11 z11a z11b z11c
      refine And.intro (show 0 ≤ t ∧ t < 6 by omega) ?_
      refine And.intro (show (0 : Int) ≤ (0 : Int) ∧ (0 : Int) ≤ (1 : Int) by omega) ?_
      refine c_StubHouseModel_tapeByte (t := t) (p := p) (show 0 ≤ t ∧ t ≤ 5 by omega) (show 0 ≤ p ∧ p < 6000 by omega) (fun (z12 : Int) (q13 : z12 = tB (fx_up (fx_up S 49 0 0 (0 : Int)) 62 0 ((((6000 : Int) * t) + p)).toNat z11) t p ∧ 0 ≤ z12 ∧ z12 ≤ 255) => ?_)
      exact hk z12 (fx_up (fx_up (fx_up S 49 0 0 (0 : Int)) 62 0 ((((6000 : Int) * t) + p)).toNat z11) 67 0 (t).toNat (0 : Int)) ⟨(fxfr_up (fxfr_up (fxfr_up fxfr_rfl rfl) rfl) rfl), by omega⟩
    ·
      exact hk (-1 : Int) (fx_up S 49 0 0 (0 : Int)) ⟨(fxfr_up fxfr_rfl rfl), by omega⟩
theorem c_StubHouseModel_segment {l : Launch} {k : fxK} {S : fxS} {t : Int} {i : Int} {w : Int} (p0 : COL S) (p1 : SGM S) (p2 : -2147483648 ≤ t ∧ t < 2147483648) (p3 : -2147483648 ≤ i ∧ i < 2147483648) (p4 : -2147483648 ≤ w ∧ w < 2147483648) (hk : ∀ (r : Int) (S' : fxS) , (fxfr [(49, 0), (65, 9999), (66, 9999), (67, 9999)] S S' ∧ (-2147483648 ≤ r ∧ r < 2147483648) ∧ (SGM S')) → k (some (.inl r)) S') : fC l 313 [.inr (.inr (49, 0)), .inl t, .inl i, .inl w] S k := by
  refine fxe_313 (Nat.le_of_ble_eq_true rfl) (fxz_313 400 ?_)
  refine And.intro (show (-2147483648 : Int) ≤ (0 : Int) ∧ (0 : Int) ≤ (2147483647 : Int) by omega) ?_
  have g1 : COL (fx_up S 49 0 0 (0 : Int)) := fx_pup COL_stab rfl p0
  have g2 : SGM (fx_up S 49 0 0 (0 : Int)) := fx_pup SGM_stab rfl p1
  refine c_StubHouseModel_in (x := t) (a := (0 : Int)) (b := (5 : Int))  (fun (z3 : Int) (q4 : 0 ≤ z3 ∧ z3 ≤ 1 ∧ (z3 = 1 → (0 : Int) ≤ t ∧ t ≤ (5 : Int)) ∧ (z3 = 0 → t < (0 : Int) ∨ (5 : Int) < t)) => ?_)
  refine And.intro (fun (h5 : (z3 = (0 : Int) : Prop)) => ?_) (fun (h5 : (z3 ≠ (0 : Int) : Prop)) => ?_)
  ·
    exact hk (-1 : Int) (fx_up S 49 0 0 (0 : Int)) ⟨(fxfr_up fxfr_rfl rfl), by omega, g2⟩
  ·
    refine And.intro (fun (h6 : (i < (0 : Int) : Prop)) => ?_) (fun (h6 : ((0 : Int) ≤ i : Prop)) => ?_)
    ·
      exact hk (-1 : Int) (fx_up S 49 0 0 (0 : Int)) ⟨(fxfr_up fxfr_rfl rfl), by omega, g2⟩
    ·
      refine c_StubHouseModel_in (x := w) (a := (0 : Int)) (b := (8 : Int))  (fun (z7 : Int) (q8 : 0 ≤ z7 ∧ z7 ≤ 1 ∧ (z7 = 1 → (0 : Int) ≤ w ∧ w ≤ (8 : Int)) ∧ (z7 = 0 → w < (0 : Int) ∨ (8 : Int) < w)) => ?_)
      refine And.intro (fun (h9 : (z7 ≠ (0 : Int) : Prop)) => ?_) (fun (h9 : (z7 = (0 : Int) : Prop)) => ?_)
      ·
        refine c_StubHouseModel_scan (t := t) g2 (show 0 ≤ t ∧ t ≤ 5 by omega) (fun (S10 : fxS) ⟨(f11 : fxfr [(65, 9999), (66, 9999), (67, 9999)] (fx_up S 49 0 0 (0 : Int)) S10), (q12 : S10 67 0 (t).toNat = 1), (g13 : SGM S10), (g14 : KPA (fx_up S 49 0 0 (0 : Int)) S10)⟩ => ?_)
        have g15 : COL S10 := fx_pfr COL_stab f11 rfl g1
        refine And.intro (show 0 ≤ t ∧ t < 6 by omega) ?_
        intro z16 (z16a : (0 : Int) ≤ z16) (z16b : z16 ≤ (285 : Int)) (z16c : z16 = S10 66 0 (t).toNat)
        refine And.intro (fun (h17 : (i < z16 : Prop)) => ?_) (fun (h17 : (z16 ≤ i : Prop)) => ?_)
        ·
          refine And.intro (fun (h18 : (w ≠ (8 : Int) : Prop)) => ?_) (fun (h18 : (w = (8 : Int) : Prop)) => ?_)
          ·
            refine c_StubHouseModel_seg (t := t) (i := i) (w := w) (show 0 ≤ t ∧ t ≤ 5 by omega) (show 0 ≤ i ∧ i < 300 by omega) (show 0 ≤ w ∧ w < 8 by omega) (fun (z19 : Int) (q20 : z19 = sgN S10 (300 * t + i) w ∧ -2147483648 ≤ z19 ∧ z19 < 2147483648) => ?_)
            exact hk z19 S10 ⟨(fxfr_tr (fxfr_up fxfr_rfl rfl) f11 rfl), by omega, g13⟩
          ·
            refine c_StubHouseModel_isLive (t := t) (i := i) g15 g13 (show 0 ≤ t ∧ t ≤ 5 by omega) (show 0 ≤ i ∧ i < 300 by omega) (fun (z21 : Int) (S22 : fxS) ⟨(f23 : fxfr [(65, 9999), (66, 9999), (67, 9999)] S10 S22), (q24 : 0 ≤ z21 ∧ z21 ≤ 1), (g25 : SGM S22), (g26 : KPA S10 S22)⟩ => ?_)
            have g27 : COL S22 := fx_pfr COL_stab f23 rfl g15
            refine And.intro (fun (h28 : (z21 = (0 : Int) : Prop)) => ?_) (fun (h28 : (z21 ≠ (0 : Int) : Prop)) => ?_)
            ·
              exact hk (0 : Int) S22 ⟨(fxfr_tr (fxfr_tr (fxfr_up fxfr_rfl rfl) f11 rfl) f23 rfl), by omega, g25⟩
            ·
              exact hk (1 : Int) S22 ⟨(fxfr_tr (fxfr_tr (fxfr_up fxfr_rfl rfl) f11 rfl) f23 rfl), by omega, g25⟩
        ·
          exact hk (-2 : Int) S10 ⟨(fxfr_tr (fxfr_up fxfr_rfl rfl) f11 rfl), by omega, g13⟩
      ·
        exact hk (-1 : Int) (fx_up S 49 0 0 (0 : Int)) ⟨(fxfr_up fxfr_rfl rfl), by omega, g2⟩
theorem c_StubHouseModel_vseg {l : Launch} {k : fxK} {S : fxS} {v : Int} {w : Int} (p0 : 0 ≤ v ∧ v < 1800) (p1 : 0 ≤ w ∧ w < 8) (hk : ∀ (r : Int) , (-2147483648 ≤ r ∧ r < 2147483648) → k (some (.inl r)) S) : fC l 181 [.inr (.inr (49, 0)), .inl v, .inl w] S k := by
  refine fxe_181 (Nat.le_of_ble_eq_true rfl) (fxz_181 400 ?_)
  refine And.intro (show 0 ≤ v ∧ v < 1800 by omega) ?_
  intro z1 (z1a : (0 : Int) ≤ z1) (z1b : z1 ≤ (5 : Int)) (z1c : z1 = S 68 0 (v).toNat)
  refine And.intro (show 0 ≤ v ∧ v < 1800 by omega) ?_
  intro z2 (z2a : (0 : Int) ≤ z2) (z2b : z2 ≤ (284 : Int)) (z2c : z2 = S 69 0 (v).toNat)
  refine c_StubHouseModel_seg (t := z1) (i := z2) (w := w) (show 0 ≤ z1 ∧ z1 ≤ 5 by omega) (show 0 ≤ z2 ∧ z2 < 300 by omega) (show 0 ≤ w ∧ w < 8 by omega) (fun (z3 : Int) (q4 : z3 = sgN S (300 * z1 + z2) w ∧ -2147483648 ≤ z3 ∧ z3 < 2147483648) => ?_)
  exact hk z3 (by omega)
theorem z_StubHouseModel_isFirst {l : Launch} {k : fxK} {S : fxS} {t : Int} {i : Int} (p0 : 0 ≤ t ∧ t ≤ 5) (p1 : 0 ≤ i ∧ i < 300) (hk : ∀ (r : Int) , (0 ≤ r ∧ r ≤ 1) → k (some (.inl r)) S) : ∀ m : Nat, (∀ (u : Int), (0 ≤ u ∧ u ≤ 6) → (7 - u) * 1000 + 500 ≤ (m : Int) → fZ l 180 k 2 [some (.inr (.inr (49, 0))), some (.inl t), some (.inl i), some (.inl u), none, none] [] S) ∧ (∀ (u j : Int), (0 ≤ u ∧ u < 6) → (0 ≤ j ∧ j ≤ 285) → (7 - u) * 1000 + 300 - j ≤ (m : Int) → fZ l 180 k 11 [some (.inr (.inr (49, 0))), some (.inl t), some (.inl i), some (.inl u), some (.inl j), none] [] S) := by
  intro m
  induction m with
  | zero =>
    refine ⟨?_, ?_⟩
    · intro u  i0 hmu
      exfalso
      omega
    · intro u j  i0 i1 hmu
      exfalso
      omega
  | succ m ih =>
    refine ⟨?_, ?_⟩
    · intro u  i0 hmu
      refine fxz_180 400 ?_
      refine And.intro (fun (h1 : ((6 : Int) ≤ u : Prop)) => ?_) (fun (h1 : (u < (6 : Int) : Prop)) => ?_)
      ·
        refine And.intro (show 0 ≤ (1 : Int) ∧ (1 : Int) ≤ 1 by omega) ?_
        exact hk (1 : Int) (by omega)
      ·
        refine And.intro (by decide) ?_
        exact ih.2 u (0 : Int)  (by omega) (by omega) (by omega)
    · intro u j  i0 i1 hmu
      refine fxz_180 400 ?_
      refine And.intro (show 0 ≤ u ∧ u < 6 by omega) ?_
      intro z2 (z2a : (0 : Int) ≤ z2) (z2b : z2 ≤ (285 : Int)) (z2c : z2 = S 66 0 (u).toNat)
      refine And.intro (fun (h3 : (z2 ≤ j : Prop)) => ?_) (fun (h3 : (j < z2 : Prop)) => ?_)
      ·
        refine And.intro (by decide) (And.intro (show -2147483648 ≤ u + (1 : Int) ∧ u + (1 : Int) < 2147483648 by omega) ?_)
        exact ih.1 (u + (1 : Int))  (by omega) (by omega)
      ·
        refine c_StubHouseModel_seg (t := u) (i := j) (w := (7 : Int)) (show 0 ≤ u ∧ u ≤ 5 by omega) (show 0 ≤ j ∧ j < 300 by omega) (show 0 ≤ (7 : Int) ∧ (7 : Int) < 8 by omega) (fun (z5 : Int) (q6 : z5 = sgN S (300 * u + j) (7 : Int) ∧ -2147483648 ≤ z5 ∧ z5 < 2147483648) => ?_)
        refine And.intro (fun (h7 : (z5 ≠ (1 : Int) : Prop)) => ?_) (fun (h7 : (z5 = (1 : Int) : Prop)) => ?_)
        ·
          refine And.intro (by decide) ?_
          refine And.intro (fun _ => ?_) (fun h => absurd h (by decide))
          refine And.intro (by decide) (And.intro (show -2147483648 ≤ j + (1 : Int) ∧ j + (1 : Int) < 2147483648 by omega) ?_)
          exact ih.2 u (j + (1 : Int))  (by omega) (by omega) (by omega)
        ·
          refine c_StubHouseModel_seg (t := u) (i := j) (w := (2 : Int)) (show 0 ≤ u ∧ u ≤ 5 by omega) (show 0 ≤ j ∧ j < 300 by omega) (show 0 ≤ (2 : Int) ∧ (2 : Int) < 8 by omega) (fun (z9 : Int) (q10 : z9 = sgN S (300 * u + j) (2 : Int) ∧ -2147483648 ≤ z9 ∧ z9 < 2147483648) => ?_)
          refine c_StubHouseModel_seg (t := t) (i := i) (w := (2 : Int)) (show 0 ≤ t ∧ t ≤ 5 by omega) (show 0 ≤ i ∧ i < 300 by omega) (show 0 ≤ (2 : Int) ∧ (2 : Int) < 8 by omega) (fun (z11 : Int) (q12 : z11 = sgN S (300 * t + i) (2 : Int) ∧ -2147483648 ≤ z11 ∧ z11 < 2147483648) => ?_)
          refine And.intro (fun (h13 : (z9 ≠ z11 : Prop)) => ?_) (fun (h13 : (z9 = z11 : Prop)) => ?_)
          ·
            refine And.intro (by decide) ?_
            refine And.intro (fun _ => ?_) (fun h => absurd h (by decide))
            refine And.intro (by decide) (And.intro (show -2147483648 ≤ j + (1 : Int) ∧ j + (1 : Int) < 2147483648 by omega) ?_)
            exact ih.2 u (j + (1 : Int))  (by omega) (by omega) (by omega)
          ·
            refine And.intro (fun (h15 : (u ≠ t : Prop)) => ?_) (fun (h15 : (u = t : Prop)) => ?_)
            ·
              refine And.intro (by decide) ?_
              refine And.intro (fun h => absurd h (by decide)) (fun _ => ?_)
              refine c_StubHouseModel_seg (t := u) (i := j) (w := (4 : Int)) (show 0 ≤ u ∧ u ≤ 5 by omega) (show 0 ≤ j ∧ j < 300 by omega) (show 0 ≤ (4 : Int) ∧ (4 : Int) < 8 by omega) (fun (z16 : Int) (q17 : z16 = sgN S (300 * u + j) (4 : Int) ∧ -2147483648 ≤ z16 ∧ z16 < 2147483648) => ?_)
              refine c_StubHouseModel_seg (t := t) (i := i) (w := (4 : Int)) (show 0 ≤ t ∧ t ≤ 5 by omega) (show 0 ≤ i ∧ i < 300 by omega) (show 0 ≤ (4 : Int) ∧ (4 : Int) < 8 by omega) (fun (z18 : Int) (q19 : z18 = sgN S (300 * t + i) (4 : Int) ∧ -2147483648 ≤ z18 ∧ z18 < 2147483648) => ?_)
              refine And.intro (fun (h20 : (z18 < z16 : Prop)) => ?_) (fun (h20 : (z16 ≤ z18 : Prop)) => ?_)
              ·
                refine And.intro (show 0 ≤ (0 : Int) ∧ (0 : Int) ≤ 1 by omega) ?_
                exact hk (0 : Int) (by omega)
              ·
                refine c_StubHouseModel_seg (t := u) (i := j) (w := (4 : Int)) (show 0 ≤ u ∧ u ≤ 5 by omega) (show 0 ≤ j ∧ j < 300 by omega) (show 0 ≤ (4 : Int) ∧ (4 : Int) < 8 by omega) (fun (z21 : Int) (q22 : z21 = sgN S (300 * u + j) (4 : Int) ∧ -2147483648 ≤ z21 ∧ z21 < 2147483648) => ?_)
                refine c_StubHouseModel_seg (t := t) (i := i) (w := (4 : Int)) (show 0 ≤ t ∧ t ≤ 5 by omega) (show 0 ≤ i ∧ i < 300 by omega) (show 0 ≤ (4 : Int) ∧ (4 : Int) < 8 by omega) (fun (z23 : Int) (q24 : z23 = sgN S (300 * t + i) (4 : Int) ∧ -2147483648 ≤ z23 ∧ z23 < 2147483648) => ?_)
                refine And.intro (fun (h25 : (z21 ≠ z23 : Prop)) => ?_) (fun (h25 : (z21 = z23 : Prop)) => ?_)
                ·
                  refine And.intro (by decide) (And.intro (show -2147483648 ≤ j + (1 : Int) ∧ j + (1 : Int) < 2147483648 by omega) ?_)
                  exact ih.2 u (j + (1 : Int))  (by omega) (by omega) (by omega)
                ·
                  refine And.intro (fun (h27 : (u < t : Prop)) => ?_) (fun (h27 : (t ≤ u : Prop)) => ?_)
                  ·
                    refine And.intro (show 0 ≤ (0 : Int) ∧ (0 : Int) ≤ 1 by omega) ?_
                    exact hk (0 : Int) (by omega)
                  ·
                    refine And.intro (fun (h28 : (u ≠ t : Prop)) => ?_) (fun (h28 : (u = t : Prop)) => ?_)
                    ·
                      refine And.intro (by decide) (And.intro (show -2147483648 ≤ j + (1 : Int) ∧ j + (1 : Int) < 2147483648 by omega) ?_)
                      exact ih.2 u (j + (1 : Int))  (by omega) (by omega) (by omega)
                    ·
                      refine And.intro (fun (h30 : (i ≤ j : Prop)) => ?_) (fun (h30 : (j < i : Prop)) => ?_)
                      ·
                        refine And.intro (by decide) (And.intro (show -2147483648 ≤ j + (1 : Int) ∧ j + (1 : Int) < 2147483648 by omega) ?_)
                        exact ih.2 u (j + (1 : Int))  (by omega) (by omega) (by omega)
                      ·
                        refine And.intro (show 0 ≤ (0 : Int) ∧ (0 : Int) ≤ 1 by omega) ?_
                        exact hk (0 : Int) (by omega)
            ·
              refine And.intro (fun (h32 : (j = i : Prop)) => ?_) (fun (h32 : (j ≠ i : Prop)) => ?_)
              ·
                refine And.intro (by decide) ?_
                refine And.intro (fun _ => ?_) (fun h => absurd h (by decide))
                refine And.intro (by decide) (And.intro (show -2147483648 ≤ j + (1 : Int) ∧ j + (1 : Int) < 2147483648 by omega) ?_)
                exact ih.2 u (j + (1 : Int))  (by omega) (by omega) (by omega)
              ·
                refine And.intro (by decide) ?_
                refine And.intro (fun h => absurd h (by decide)) (fun _ => ?_)
                refine c_StubHouseModel_seg (t := u) (i := j) (w := (4 : Int)) (show 0 ≤ u ∧ u ≤ 5 by omega) (show 0 ≤ j ∧ j < 300 by omega) (show 0 ≤ (4 : Int) ∧ (4 : Int) < 8 by omega) (fun (z34 : Int) (q35 : z34 = sgN S (300 * u + j) (4 : Int) ∧ -2147483648 ≤ z34 ∧ z34 < 2147483648) => ?_)
                refine c_StubHouseModel_seg (t := t) (i := i) (w := (4 : Int)) (show 0 ≤ t ∧ t ≤ 5 by omega) (show 0 ≤ i ∧ i < 300 by omega) (show 0 ≤ (4 : Int) ∧ (4 : Int) < 8 by omega) (fun (z36 : Int) (q37 : z36 = sgN S (300 * t + i) (4 : Int) ∧ -2147483648 ≤ z36 ∧ z36 < 2147483648) => ?_)
                refine And.intro (fun (h38 : (z36 < z34 : Prop)) => ?_) (fun (h38 : (z34 ≤ z36 : Prop)) => ?_)
                ·
                  refine And.intro (show 0 ≤ (0 : Int) ∧ (0 : Int) ≤ 1 by omega) ?_
                  exact hk (0 : Int) (by omega)
                ·
                  refine c_StubHouseModel_seg (t := u) (i := j) (w := (4 : Int)) (show 0 ≤ u ∧ u ≤ 5 by omega) (show 0 ≤ j ∧ j < 300 by omega) (show 0 ≤ (4 : Int) ∧ (4 : Int) < 8 by omega) (fun (z39 : Int) (q40 : z39 = sgN S (300 * u + j) (4 : Int) ∧ -2147483648 ≤ z39 ∧ z39 < 2147483648) => ?_)
                  refine c_StubHouseModel_seg (t := t) (i := i) (w := (4 : Int)) (show 0 ≤ t ∧ t ≤ 5 by omega) (show 0 ≤ i ∧ i < 300 by omega) (show 0 ≤ (4 : Int) ∧ (4 : Int) < 8 by omega) (fun (z41 : Int) (q42 : z41 = sgN S (300 * t + i) (4 : Int) ∧ -2147483648 ≤ z41 ∧ z41 < 2147483648) => ?_)
                  refine And.intro (fun (h43 : (z39 ≠ z41 : Prop)) => ?_) (fun (h43 : (z39 = z41 : Prop)) => ?_)
                  ·
                    refine And.intro (by decide) (And.intro (show -2147483648 ≤ j + (1 : Int) ∧ j + (1 : Int) < 2147483648 by omega) ?_)
                    exact ih.2 u (j + (1 : Int))  (by omega) (by omega) (by omega)
                  ·
                    refine And.intro (fun (h45 : (u < t : Prop)) => ?_) (fun (h45 : (t ≤ u : Prop)) => ?_)
                    ·
                      refine And.intro (show 0 ≤ (0 : Int) ∧ (0 : Int) ≤ 1 by omega) ?_
                      exact hk (0 : Int) (by omega)
                    ·
                      refine And.intro (fun (h46 : (u ≠ t : Prop)) => ?_) (fun (h46 : (u = t : Prop)) => ?_)
                      ·
                        refine And.intro (by decide) (And.intro (show -2147483648 ≤ j + (1 : Int) ∧ j + (1 : Int) < 2147483648 by omega) ?_)
                        exact ih.2 u (j + (1 : Int))  (by omega) (by omega) (by omega)
                      ·
                        refine And.intro (fun (h48 : (i ≤ j : Prop)) => ?_) (fun (h48 : (j < i : Prop)) => ?_)
                        ·
                          refine And.intro (by decide) (And.intro (show -2147483648 ≤ j + (1 : Int) ∧ j + (1 : Int) < 2147483648 by omega) ?_)
                          exact ih.2 u (j + (1 : Int))  (by omega) (by omega) (by omega)
                        ·
                          refine And.intro (show 0 ≤ (0 : Int) ∧ (0 : Int) ≤ 1 by omega) ?_
                          exact hk (0 : Int) (by omega)
theorem c_StubHouseModel_isFirst {l : Launch} {k : fxK} {S : fxS} {t : Int} {i : Int} (p0 : 0 ≤ t ∧ t ≤ 5) (p1 : 0 ≤ i ∧ i < 300) (hk : ∀ (r : Int) , (0 ≤ r ∧ r ≤ 1) → k (some (.inl r)) S) : fC l 180 [.inr (.inr (49, 0)), .inl t, .inl i] S k := by
  refine fxe_180 (Nat.le_of_ble_eq_true rfl) (fxz_180 400 ?_)
  refine And.intro (by decide) ?_
  exact (z_StubHouseModel_isFirst p0 p1 hk ((7 - (0 : Int)) * 1000 + 500).toNat).1 (0 : Int)  (by omega) (by omega)
theorem z_StubHouseModel_isWithin {l : Launch} {k : fxK} {S : fxS} {t : Int} {i : Int} {u : Int} {j : Int} (p0 : SGM S) (p1 : 0 ≤ t ∧ t ≤ 5) (p2 : 0 ≤ i ∧ i < 300) (p3 : 0 ≤ u ∧ u ≤ 5) (p4 : 0 ≤ j ∧ j < 300) (hk : ∀ (r : Int) , (0 ≤ r ∧ r ≤ 1) → k (some (.inl r)) S) : ∀ m : Nat, (∀ (c b a : Int), (0 ≤ b ∧ b ≤ 1) → (c = sgN S (300 * u + j) 5 ∧ 0 ≤ c ∧ c ≤ 5) → (b = 1 → c ≤ sgN S (300 * t + i) 5 ∨ c ≤ 0 ∨ 0 < a) → (c ≤ sgN S (300 * t + i) 5 ∨ b = 0) → (0 ≤ a ∧ a ≤ 40) → 41 - a ≤ (m : Int) → fZ l 182 k 32 [some (.inr (.inr (49, 0))), some (.inl t), some (.inl i), some (.inl u), some (.inl j), some (.inl c), some (.inl b), some (.inl a)] [] S) := by
  intro m
  induction m with
  | zero =>
    intro c b a  i0 i1 i2 i3 i4 hmu
    exfalso
    omega
  | succ m ih =>
    intro c b a  i0 i1 i2 i3 i4 hmu
    refine fxz_182 400 ?_
    refine And.intro (show -2147483648 ≤ ((8 : Int) * c) ∧ ((8 : Int) * c) < 2147483648 by omega) ?_
    refine And.intro (fun (h1 : (((8 : Int) * c) ≤ a : Prop)) => ?_) (fun (h1 : (a < ((8 : Int) * c) : Prop)) => ?_)
    ·
      refine And.intro (show 0 ≤ b ∧ b ≤ 1 by omega) ?_
      exact hk b (by omega)
    ·
      refine And.intro (fun (h2 : (b = (0 : Int) : Prop)) => ?_) (fun (h2 : (b ≠ (0 : Int) : Prop)) => ?_)
      ·
        refine And.intro (show 0 ≤ b ∧ b ≤ 1 by omega) ?_
        exact hk b (by omega)
      ·
        refine c_StubHouseModel_seg (t := t) (i := i) (w := (0 : Int)) (show 0 ≤ t ∧ t ≤ 5 by omega) (show 0 ≤ i ∧ i < 300 by omega) (show 0 ≤ (0 : Int) ∧ (0 : Int) < 8 by omega) (fun (z3 : Int) (q4 : z3 = sgN S (300 * t + i) (0 : Int) ∧ -2147483648 ≤ z3 ∧ z3 < 2147483648) => ?_)
        have sg1 := SGM_at (t := t) (i := i) p0 (by omega) (by omega)
        have sg2 := SGM_at (t := u) (i := j) p0 (by omega) (by omega)
        refine And.intro (show -2147483648 ≤ (z3 + (15 : Int)) ∧ (z3 + (15 : Int)) < 2147483648 by omega) ?_
        refine And.intro (show -2147483648 ≤ ((z3 + (15 : Int)) + a) ∧ ((z3 + (15 : Int)) + a) < 2147483648 by omega) ?_
        refine c_StubHouseModel_tapeByte (t := t) (p := ((z3 + (15 : Int)) + a)) (show 0 ≤ t ∧ t ≤ 5 by omega) (show 0 ≤ ((z3 + (15 : Int)) + a) ∧ ((z3 + (15 : Int)) + a) < 6000 by omega) (fun (z5 : Int) (q6 : z5 = tB S t ((z3 + (15 : Int)) + a) ∧ 0 ≤ z5 ∧ z5 ≤ 255) => ?_)
        refine c_StubHouseModel_seg (t := u) (i := j) (w := (0 : Int)) (show 0 ≤ u ∧ u ≤ 5 by omega) (show 0 ≤ j ∧ j < 300 by omega) (show 0 ≤ (0 : Int) ∧ (0 : Int) < 8 by omega) (fun (z7 : Int) (q8 : z7 = sgN S (300 * u + j) (0 : Int) ∧ -2147483648 ≤ z7 ∧ z7 < 2147483648) => ?_)
        refine And.intro (show -2147483648 ≤ (z7 + (15 : Int)) ∧ (z7 + (15 : Int)) < 2147483648 by omega) ?_
        refine And.intro (show -2147483648 ≤ ((z7 + (15 : Int)) + a) ∧ ((z7 + (15 : Int)) + a) < 2147483648 by omega) ?_
        refine c_StubHouseModel_tapeByte (t := u) (p := ((z7 + (15 : Int)) + a)) (show 0 ≤ u ∧ u ≤ 5 by omega) (show 0 ≤ ((z7 + (15 : Int)) + a) ∧ ((z7 + (15 : Int)) + a) < 6000 by omega) (fun (z9 : Int) (q10 : z9 = tB S u ((z7 + (15 : Int)) + a) ∧ 0 ≤ z9 ∧ z9 ≤ 255) => ?_)
        refine And.intro (fun (h11 : (z5 ≠ z9 : Prop)) => ?_) (fun (h11 : (z5 = z9 : Prop)) => ?_)
        ·
          refine And.intro (by decide) ?_
          refine And.intro (by decide) (And.intro (show -2147483648 ≤ a + (1 : Int) ∧ a + (1 : Int) < 2147483648 by omega) ?_)
          exact ih c (0 : Int) (a + (1 : Int))  (by omega) (by omega) (by omega) (by omega) (by omega) (by omega)
        ·
          refine And.intro (by decide) ?_
          refine And.intro (by decide) (And.intro (show -2147483648 ≤ a + (1 : Int) ∧ a + (1 : Int) < 2147483648 by omega) ?_)
          exact ih c (1 : Int) (a + (1 : Int))  (by omega) (by omega) (by omega) (by omega) (by omega) (by omega)
theorem c_StubHouseModel_isWithin {l : Launch} {k : fxK} {S : fxS} {t : Int} {i : Int} {u : Int} {j : Int} (p0 : SGM S) (p1 : 0 ≤ t ∧ t ≤ 5) (p2 : 0 ≤ i ∧ i < 300) (p3 : 0 ≤ u ∧ u ≤ 5) (p4 : 0 ≤ j ∧ j < 300) (hk : ∀ (r : Int) , (0 ≤ r ∧ r ≤ 1) → k (some (.inl r)) S) : fC l 182 [.inr (.inr (49, 0)), .inl t, .inl i, .inl u, .inl j] S k := by
  refine fxe_182 (Nat.le_of_ble_eq_true rfl) (fxz_182 400 ?_)
  refine c_StubHouseModel_seg (t := u) (i := j) (w := (5 : Int)) (show 0 ≤ u ∧ u ≤ 5 by omega) (show 0 ≤ j ∧ j < 300 by omega) (show 0 ≤ (5 : Int) ∧ (5 : Int) < 8 by omega) (fun (z14 : Int) (q15 : z14 = sgN S (300 * u + j) (5 : Int) ∧ -2147483648 ≤ z14 ∧ z14 < 2147483648) => ?_)
  have sg1 := SGM_at (t := t) (i := i) p0 (by omega) (by omega)
  have sg2 := SGM_at (t := u) (i := j) p0 (by omega) (by omega)
  refine And.intro (by decide) ?_
  refine c_StubHouseModel_seg (t := t) (i := i) (w := (5 : Int)) (show 0 ≤ t ∧ t ≤ 5 by omega) (show 0 ≤ i ∧ i < 300 by omega) (show 0 ≤ (5 : Int) ∧ (5 : Int) < 8 by omega) (fun (z16 : Int) (q17 : z16 = sgN S (300 * t + i) (5 : Int) ∧ -2147483648 ≤ z16 ∧ z16 < 2147483648) => ?_)
  refine And.intro (fun (h18 : (z16 < z14 : Prop)) => ?_) (fun (h18 : (z14 ≤ z16 : Prop)) => ?_)
  ·
    refine And.intro (by decide) ?_
    refine And.intro (by decide) ?_
    exact (z_StubHouseModel_isWithin p0 p1 p2 p3 p4 hk (41 - (0 : Int)).toNat) z14 (0 : Int) (0 : Int)  (by omega) (by omega) (by omega) (by omega) (by omega) (by omega)
  ·
    refine And.intro (by decide) ?_
    refine And.intro (by decide) ?_
    exact (z_StubHouseModel_isWithin p0 p1 p2 p3 p4 hk (41 - (0 : Int)).toNat) z14 (1 : Int) (0 : Int)  (by omega) (by omega) (by omega) (by omega) (by omega) (by omega)
