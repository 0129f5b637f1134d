/-! contracts of the reference: migrating, steps -/
theorem z_StubHouseModel_releaseOne {l : Launch} {k : fxK} {S : fxS}  (p0 : COL S) (p1 : WTM S) (p2 : INJ S) (p3 : AON S) (p4 : USE S) (p5 : SNP S) (p6 : REC S) (hk : ∀ (S' : fxS) , (fxfr [(49, 7), (49, 38), (50, 9999), (53, 9999), (55, 9999), (56, 9999), (58, 9999), (76, 9999)] S S' ∧ (COL S') ∧ (WTM S') ∧ (INJ S') ∧ (AON S') ∧ (USE S') ∧ (SNP S') ∧ (REC S')) → k none S') : ∀ m : Nat, (∀ (f : Int) (S1 : fxS), (fxfr [(49, 7), (49, 38), (50, 9999), (53, 9999), (55, 9999), (56, 9999), (58, 9999), (76, 9999)] S S1) → (-2 ≤ f ∧ f < 60 ∧ f ≠ -1 ∧ f ≠ 0) → (0 ≤ f → aN S1 f 0 = 2) → (1 ≤ mrk S1 f ∧ mrk S1 f ≤ 500000000000) → (COL S1) → (WTM S1) → (INJ S1) → (AON S1) → (USE S1) → (SNP S1) → (REC S1) → 100000000000000000 + mrk S1 f ≤ (m : Int) → fZ l 288 k 8 [some (.inr (.inr (49, 0))), some (.inl f), none, none, none] [] S1) ∧ (∀ (z f : Int) (S1 : fxS), (fxfr [(49, 7), (49, 38), (50, 9999), (53, 9999), (55, 9999), (56, 9999), (58, 9999), (76, 9999)] S S1) → (-2 ≤ f ∧ f < 60 ∧ f ≠ -1 ∧ f ≠ 0) → (0 ≤ f → aN S1 f 0 = 2) → (1 ≤ mrk S1 f ∧ mrk S1 f ≤ 500000000000) → (-1000000 ≤ z ∧ z ≤ 1000000) → (COL S1) → (WTM S1) → (INJ S1) → (AON S1) → (USE S1) → (SNP S1) → (REC S1) → mrk S1 f * 100 + 99 ≤ (m : Int) → fZ l 288 k 67 [some (.inr (.inr (49, 0))), some (.inl z), some (.inl f), none, none] [] S1) ∧ (∀ (z f b j : Int) (S1 : fxS), (fxfr [(49, 7), (49, 38), (50, 9999), (53, 9999), (55, 9999), (56, 9999), (58, 9999), (76, 9999)] S S1) → (-2 ≤ f ∧ f < 60 ∧ f ≠ -1 ∧ f ≠ 0) → (0 ≤ f → aN S1 f 0 = 2) → (1 ≤ mrk S1 f ∧ mrk S1 f ≤ 500000000000) → (-1000000 ≤ z ∧ z ≤ 1000000) → (0 ≤ f) → (0 ≤ b ∧ b ≤ 1) → (0 ≤ j ∧ j ≤ 20) → (COL S1) → (WTM S1) → (INJ S1) → (AON S1) → (USE S1) → (SNP S1) → (REC S1) → mrk S1 f * 100 + 50 - j ≤ (m : Int) → fZ l 288 k 89 [some (.inr (.inr (49, 0))), some (.inl z), some (.inl f), some (.inl b), some (.inl j)] [] S1) := by
  intro m
  induction m with
  | zero =>
    refine ⟨?_, ?_, ?_⟩
    · intro f S1 hf i0 i1 i2 i3 i4 i5 i6 i7 i8 i9 hmu
      exfalso
      omega
    · intro z f S1 hf i0 i1 i2 i3 i4 i5 i6 i7 i8 i9 i10 hmu
      exfalso
      omega
    · intro z f b j S1 hf i0 i1 i2 i3 i4 i5 i6 i7 i8 i9 i10 i11 i12 i13 hmu
      exfalso
      omega
  | succ m ih =>
    refine ⟨?_, ?_, ?_⟩
    · intro f S1 hf i0 i1 i2 i3 i4 i5 i6 i7 i8 i9 hmu
      refine fxz_288 400 ?_
      refine And.intro (fun (h1 : (f < (0 : Int) : Prop)) => ?_) (fun (h1 : ((0 : Int) ≤ f : Prop)) => ?_)
      ·
        refine c_StubHouseModel_inUse (s := (1 : Int)) i3 (show -2147483648 ≤ (1 : Int) ∧ (1 : Int) < 2147483648 by omega) (fun (z2 : Int) (q3 : 0 ≤ z2 ∧ z2 ≤ 1920) => ?_)
        refine And.intro (show 0 ≤ (1 : Int) ∧ (1 : Int) < 2 by omega) ?_
        intro z4 (z4a : (0 : Int) ≤ z4) (z4b : z4 ≤ (160 : Int)) (z4c : z4 = S1 61 0 1)
        refine And.intro (show -2147483648 ≤ (z2 - z4) ∧ (z2 - z4) < 2147483648 by omega) ?_
        refine And.intro (by decide) ?_
        refine c_StubHouseModel_nextByRank (s := (1 : Int)) (b := (-2 : Int)) i3 (show -2 ≤ (-2 : Int) ∧ (-2 : Int) < 60 by omega) (show -2147483648 ≤ (1 : Int) ∧ (1 : Int) < 2147483648 by omega) (fun (z5 : Int) (q6 : -2 ≤ z5 ∧ z5 < 60 ∧ z5 ≠ -1 ∧ z5 ≠ 0 ∧ (0 ≤ z5 → aN S1 z5 0 = 2 ∧ SOM z5 (1 : Int) S1 ∧ ((-2 : Int) < 0 ∨ rkF S1 z5 < rkF S1 (-2 : Int) ∨ (rkF S1 z5 = rkF S1 (-2 : Int) ∧ (-2 : Int) < z5)))) => ?_)
        have mb := mrk_bd S1 z5 (by omega)
        refine And.intro (by decide) ?_
        exact ih.2.1 (z2 - z4) z5 S1 hf (by omega) (by omega) (by omega) (by omega) i3 i4 i5 i6 i7 i8 i9 (by omega)
      ·
        refine c_StubHouseModel_hasCopies (n := f) i3 (show 0 ≤ f ∧ f < 60 by omega) (fun (z7 : Int) (q8 : 0 ≤ z7 ∧ z7 ≤ 1) => ?_)
        refine And.intro (fun (h9 : (z7 = (0 : Int) : Prop)) => ?_) (fun (h9 : (z7 ≠ (0 : Int) : Prop)) => ?_)
        ·
          refine c_StubHouseModel_nextByRank (s := (1 : Int)) (b := f) i3 (show -2 ≤ f ∧ f < 60 by omega) (show -2147483648 ≤ (1 : Int) ∧ (1 : Int) < 2147483648 by omega) (fun (z10 : Int) (q11 : -2 ≤ z10 ∧ z10 < 60 ∧ z10 ≠ -1 ∧ z10 ≠ 0 ∧ (0 ≤ z10 → aN S1 z10 0 = 2 ∧ SOM z10 (1 : Int) S1 ∧ (f < 0 ∨ rkF S1 z10 < rkF S1 f ∨ (rkF S1 z10 = rkF S1 f ∧ f < z10)))) => ?_)
          have mb := mrk_bd S1 z10 (by omega)
          have md : mrk S1 z10 < mrk S1 f := mrk_dec (by omega) (by omega) (fun h => (q11.2.2.2.2 h).2.2)
          refine And.intro (by decide) ?_
          exact ih.1 z10 S1 hf (by first | omega | exact mrk_bd _ _ (by omega)) (by first | omega | exact mrk_bd _ _ (by omega)) (by first | omega | exact mrk_bd _ _ (by omega)) i3 i4 i5 i6 i7 i8 i9 (by omega)
        ·
          refine c_StubHouseModel_ahead  i3 i4 i5 i6 i7 i8 (fun (S12 : fxS) ⟨(f13 : fxfr [(49, 7), (53, 9999), (56, 9999), (58, 9999)] S1 S12), (q14 : 0 ≤ S12 49 0 7 ∧ S12 49 0 7 ≤ 199), (g15 : SNP S12), (g16 : USE S12), (g17 : UZ S1 S12)⟩ => ?_)
          have g18 : COL S12 := fx_pfr COL_stab f13 rfl i3
          have g19 : WTM S12 := fx_pfr WTM_stab f13 rfl i4
          have g20 : INJ S12 := fx_pfr INJ_stab f13 rfl i5
          have g21 : AON S12 := fx_pfr AON_stab f13 rfl i6
          have g22 : REC S12 := fx_pfr REC_stab f13 rfl i9
          have k2 : aN S12 f 0 = 2 := (aN_fr f13 rfl).trans (by omega)
          refine c_StubHouseModel_hold (f := f) g18 g19 g20 g21 g16 g22 (show 0 ≤ f ∧ f < 60 by omega) (show aN S12 f 0 = 2 by omega) (fun (S23 : fxS) ⟨(f24 : fxfr [(50, 9999), (56, 9999)] S12 S23), (q25 : aN S23 f 0 = 2), (g26 : COL S23), (g27 : WTM S23), (g28 : INJ S23), (g29 : AON S23), (g30 : USE S23), (g31 : REC S23), (g32 : EQR f S12 S23)⟩ => ?_)
          have w33 : S23 49 0 7 = S12 49 0 7 := f24 49 0 7 rfl
          have g34 : SNP S23 := fx_pfr SNP_stab f24 rfl g15
          refine c_StubHouseModel_record (e := (6 : Int)) g26 g27 g28 g29 g34 (show S23 49 0 7 ≤ 199 by omega) (show 0 ≤ (6 : Int) ∧ (6 : Int) ≤ 1000 by omega) (fun (S35 : fxS) ⟨(f36 : fxfr [(49, 7), (53, 9999), (55, 9999)] S23 S35), (g37 : SNP S35)⟩ => ?_)
          have g38 : COL S35 := fx_pfr COL_stab f36 rfl g26
          have g39 : WTM S35 := fx_pfr WTM_stab f36 rfl g27
          have g40 : INJ S35 := fx_pfr INJ_stab f36 rfl g28
          have g41 : AON S35 := fx_pfr AON_stab f36 rfl g29
          have g42 : USE S35 := fx_pfr USE_stab f36 rfl g30
          have g43 : REC S35 := fx_pfr REC_stab f36 rfl g31
          have g44 : EQR f S12 S35 := fx_pfr EQR_stab f36 rfl g32
          exact hk S35 ⟨(fxfr_tr (fxfr_tr (fxfr_tr hf f13 rfl) f24 rfl) f36 rfl), g38, g39, g40, g41, g42, g37, g43⟩
    · intro z f S1 hf i0 i1 i2 i3 i4 i5 i6 i7 i8 i9 i10 hmu
      refine fxz_288 400 ?_
      refine And.intro (fun (h45 : (f < (0 : Int) : Prop)) => ?_) (fun (h45 : ((0 : Int) ≤ f : Prop)) => ?_)
      ·
        exact hk S1 ⟨hf, i4, i5, i6, i7, i8, i9, i10⟩
      ·
        refine And.intro (fun (h46 : (z ≤ (0 : Int) : Prop)) => ?_) (fun (h46 : ((0 : Int) < z : Prop)) => ?_)
        ·
          exact hk S1 ⟨hf, i4, i5, i6, i7, i8, i9, i10⟩
        ·
          refine c_StubHouseModel_inStore (f := f) (s := (1 : Int)) i4 (show 0 ≤ f ∧ f < 60 by omega) (show -2147483648 ≤ (1 : Int) ∧ (1 : Int) < 2147483648 by omega) (fun (z47 : Int) (q48 : 0 ≤ z47 ∧ z47 ≤ 32 ∧ (0 < z47 → SOM f (1 : Int) S1)) => ?_)
          refine And.intro (show -2147483648 ≤ (z - z47) ∧ (z - z47) < 2147483648 by omega) ?_
          refine And.intro (by decide) ?_
          refine And.intro (by decide) ?_
          refine And.intro (by decide) ?_
          exact ih.2.2 (z - z47) f (0 : Int) (0 : Int) S1 hf (by omega) (by omega) (by omega) (by omega) (by omega) (by omega) (by omega) i4 i5 i6 i7 i8 i9 i10 (by omega)
    · intro z f b j S1 hf i0 i1 i2 i3 i4 i5 i6 i7 i8 i9 i10 i11 i12 i13 hmu
      refine fxz_288 400 ?_
      intro z49 (z49a : (0 : Int) ≤ z49) (z49b : z49 ≤ (20 : Int)) (z49c : z49 = S1 49 0 38)
      refine And.intro (fun (h50 : (z49 ≤ j : Prop)) => ?_) (fun (h50 : (j < z49 : Prop)) => ?_)
      ·
        refine And.intro (fun (h51 : (b ≠ (0 : Int) : Prop)) => ?_) (fun (h51 : (b = (0 : Int) : Prop)) => ?_)
        ·
          refine c_StubHouseModel_nextByRank (s := (1 : Int)) (b := f) i7 (show -2 ≤ f ∧ f < 60 by omega) (show -2147483648 ≤ (1 : Int) ∧ (1 : Int) < 2147483648 by omega) (fun (z52 : Int) (q53 : -2 ≤ z52 ∧ z52 < 60 ∧ z52 ≠ -1 ∧ z52 ≠ 0 ∧ (0 ≤ z52 → aN S1 z52 0 = 2 ∧ SOM z52 (1 : Int) S1 ∧ (f < 0 ∨ rkF S1 z52 < rkF S1 f ∨ (rkF S1 z52 = rkF S1 f ∧ f < z52)))) => ?_)
          have mb := mrk_bd S1 z52 (by omega)
          have md : mrk S1 z52 < mrk S1 f := mrk_dec (by omega) (by omega) (fun h => (q53.2.2.2.2 h).2.2)
          refine And.intro (by decide) ?_
          exact ih.2.1 z z52 S1 hf (by omega) (by omega) (by omega) (by omega) i7 i8 i9 i10 i11 i12 i13 (by omega)
        ·
          intro z54 (z54a : (0 : Int) ≤ z54) (z54b : z54 ≤ (20 : Int)) (z54c : z54 = S1 49 0 38)
          refine And.intro (fun (h55 : ((20 : Int) ≤ z54 : Prop)) => ?_) (fun (h55 : (z54 < (20 : Int) : Prop)) => ?_)
          ·
            exact hk S1 ⟨hf, i7, i8, i9, i10, i11, i12, i13⟩
          ·
            intro z56 (z56a : (0 : Int) ≤ z56) (z56b : z56 ≤ (20 : Int)) (z56c : z56 = S1 49 0 38)
            refine c_at2 (n := f) i7 (show 0 ≤ f ∧ f < 60 by omega) (fun (z57 : Int) (q58 : z57 = aN S1 f 2 ∧ -2147483648 ≤ z57 ∧ z57 < 2147483648) => ?_)
            refine And.intro (show 0 ≤ z56 ∧ z56 < 20 by omega) ?_
            refine And.intro (show (-2147483648 : Int) ≤ z57 ∧ z57 ≤ (2147483647 : Int) by omega) ?_
            have w59 : (fx_up S1 76 0 (z56).toNat z57) 49 0 7 = S1 49 0 7 := rfl
            have g60 : COL (fx_up S1 76 0 (z56).toNat z57) := fx_pup COL_stab rfl i7
            have g61 : WTM (fx_up S1 76 0 (z56).toNat z57) := fx_pup WTM_stab rfl i8
            have g62 : INJ (fx_up S1 76 0 (z56).toNat z57) := fx_pup INJ_stab rfl i9
            have g63 : AON (fx_up S1 76 0 (z56).toNat z57) := fx_pup AON_stab rfl i10
            have g64 : USE (fx_up S1 76 0 (z56).toNat z57) := fx_pup USE_stab rfl i11
            have g65 : SNP (fx_up S1 76 0 (z56).toNat z57) := fx_pup SNP_stab rfl i12
            have g66 : REC (fx_up S1 76 0 (z56).toNat z57) := fx_pup REC_stab rfl i13
            intro z67 (z67a : (0 : Int) ≤ z67) (z67b : z67 ≤ (20 : Int)) (z67c : z67 = S1 49 0 38)
            refine And.intro (show -2147483648 ≤ (z67 + (1 : Int)) ∧ (z67 + (1 : Int)) < 2147483648 by omega) ?_
            refine And.intro (show (0 : Int) ≤ (z67 + (1 : Int)) ∧ (z67 + (1 : Int)) ≤ (20 : Int) by omega) ?_
            have w68 : (fx_up (fx_up S1 76 0 (z56).toNat z57) 49 0 38 (z67 + (1 : Int))) 49 0 7 = (fx_up S1 76 0 (z56).toNat z57) 49 0 7 := if_neg (fun q => absurd q.2.2 (by decide))
            have g69 : COL (fx_up (fx_up S1 76 0 (z56).toNat z57) 49 0 38 (z67 + (1 : Int))) := fx_pup COL_stab rfl g60
            have g70 : WTM (fx_up (fx_up S1 76 0 (z56).toNat z57) 49 0 38 (z67 + (1 : Int))) := fx_pup WTM_stab rfl g61
            have g71 : INJ (fx_up (fx_up S1 76 0 (z56).toNat z57) 49 0 38 (z67 + (1 : Int))) := fx_pup INJ_stab rfl g62
            have g72 : AON (fx_up (fx_up S1 76 0 (z56).toNat z57) 49 0 38 (z67 + (1 : Int))) := fx_pup AON_stab rfl g63
            have g73 : USE (fx_up (fx_up S1 76 0 (z56).toNat z57) 49 0 38 (z67 + (1 : Int))) := fx_pup USE_stab rfl g64
            have g74 : SNP (fx_up (fx_up S1 76 0 (z56).toNat z57) 49 0 38 (z67 + (1 : Int))) := fx_pup SNP_stab rfl g65
            have g75 : REC (fx_up (fx_up S1 76 0 (z56).toNat z57) 49 0 38 (z67 + (1 : Int))) := fx_pup REC_stab rfl g66
            exact hk (fx_up (fx_up S1 76 0 (z56).toNat z57) 49 0 38 (z67 + (1 : Int))) ⟨(fxfr_up (fxfr_up hf rfl) rfl), g69, g70, g71, g72, g73, g74, g75⟩
      ·
        refine And.intro (fun (h76 : (b ≠ (0 : Int) : Prop)) => ?_) (fun (h76 : (b = (0 : Int) : Prop)) => ?_)
        ·
          refine And.intro (by decide) ?_
          refine And.intro (by decide) (And.intro (show -2147483648 ≤ j + (1 : Int) ∧ j + (1 : Int) < 2147483648 by omega) ?_)
          exact ih.2.2 z f (1 : Int) (j + (1 : Int)) S1 hf (by omega) (by omega) (by omega) (by omega) (by omega) (by omega) (by omega) i7 i8 i9 i10 i11 i12 i13 (by omega)
        ·
          refine And.intro (show 0 ≤ j ∧ j < 20 by omega) ?_
          intro z78 (z78a : (-2147483648 : Int) ≤ z78) (z78b : z78 ≤ (2147483647 : Int)) (z78c : z78 = S1 76 0 (j).toNat)
          refine c_at2 (n := f) i7 (show 0 ≤ f ∧ f < 60 by omega) (fun (z79 : Int) (q80 : z79 = aN S1 f 2 ∧ -2147483648 ≤ z79 ∧ z79 < 2147483648) => ?_)
          refine And.intro (fun (h81 : (z78 ≠ z79 : Prop)) => ?_) (fun (h81 : (z78 = z79 : Prop)) => ?_)
          ·
            refine And.intro (by decide) ?_
            refine And.intro (by decide) (And.intro (show -2147483648 ≤ j + (1 : Int) ∧ j + (1 : Int) < 2147483648 by omega) ?_)
            exact ih.2.2 z f (0 : Int) (j + (1 : Int)) S1 hf (by omega) (by omega) (by omega) (by omega) (by omega) (by omega) (by omega) i7 i8 i9 i10 i11 i12 i13 (by omega)
          ·
            refine And.intro (by decide) ?_
            refine And.intro (by decide) (And.intro (show -2147483648 ≤ j + (1 : Int) ∧ j + (1 : Int) < 2147483648 by omega) ?_)
            exact ih.2.2 z f (1 : Int) (j + (1 : Int)) S1 hf (by omega) (by omega) (by omega) (by omega) (by omega) (by omega) (by omega) i7 i8 i9 i10 i11 i12 i13 (by omega)
theorem c_StubHouseModel_releaseOne {l : Launch} {k : fxK} {S : fxS}  (p0 : COL S) (p1 : WTM S) (p2 : INJ S) (p3 : AON S) (p4 : USE S) (p5 : SNP S) (p6 : REC S) (hk : ∀ (S' : fxS) , (fxfr [(49, 7), (49, 38), (50, 9999), (53, 9999), (55, 9999), (56, 9999), (58, 9999), (76, 9999)] S S' ∧ (COL S') ∧ (WTM S') ∧ (INJ S') ∧ (AON S') ∧ (USE S') ∧ (SNP S') ∧ (REC S')) → k none S') : fC l 288 [.inr (.inr (49, 0))] S k := by
  refine fxe_288 (Nat.le_of_ble_eq_true rfl) (fxz_288 400 ?_)
  refine c_StubHouseModel_nextByRank (s := (1 : Int)) (b := (-2 : Int)) p0 (show -2 ≤ (-2 : Int) ∧ (-2 : Int) < 60 by omega) (show -2147483648 ≤ (1 : Int) ∧ (1 : Int) < 2147483648 by omega) (fun (z84 : Int) (q85 : -2 ≤ z84 ∧ z84 < 60 ∧ z84 ≠ -1 ∧ z84 ≠ 0 ∧ (0 ≤ z84 → aN S z84 0 = 2 ∧ SOM z84 (1 : Int) S ∧ ((-2 : Int) < 0 ∨ rkF S z84 < rkF S (-2 : Int) ∨ (rkF S z84 = rkF S (-2 : Int) ∧ (-2 : Int) < z84)))) => ?_)
  have mb := mrk_bd S z84 (by omega)
  refine And.intro (by decide) ?_
  exact (z_StubHouseModel_releaseOne p0 p1 p2 p3 p4 p5 p6 hk (100000000000000000 + mrk S z84).toNat).1 z84 S fxfr_rfl (by first | omega | exact mrk_bd _ _ (by omega)) (by first | omega | exact mrk_bd _ _ (by omega)) (by first | omega | exact mrk_bd _ _ (by omega)) p0 p1 p2 p3 p4 p5 p6 (by omega)
theorem z_StubHouseModel_migrate {l : Launch} {k : fxK} {S : fxS}  (p0 : COL S) (p1 : WTM S) (p2 : INJ S) (p3 : AON S) (p4 : USE S) (p5 : SNP S) (p6 : REC S) (hk : ∀ (S' : fxS) , (fxfr [(49, 7), (49, 38), (50, 9999), (53, 9999), (55, 9999), (56, 9999), (57, 9999), (58, 9999), (76, 9999), (79, 9999)] S S' ∧ (COL S') ∧ (WTM S') ∧ (INJ S') ∧ (AON S') ∧ (USE S') ∧ (SNP S') ∧ (REC S')) → k none S') : ∀ m : Nat, (∀ (s : Int) (S1 : fxS), (fxfr [(49, 7), (49, 38), (50, 9999), (53, 9999), (55, 9999), (56, 9999), (57, 9999), (58, 9999), (76, 9999), (79, 9999)] S S1) → (0 ≤ s ∧ s ≤ 2) → (COL S1) → (WTM S1) → (INJ S1) → (AON S1) → (USE S1) → (SNP S1) → (REC S1) → 3 - s ≤ (m : Int) → fZ l 289 k 2 [some (.inr (.inr (49, 0))), some (.inl s), none] [] S1) := by
  intro m
  induction m with
  | zero =>
    intro s S1 hf i0 i1 i2 i3 i4 i5 i6 i7 hmu
    exfalso
    omega
  | succ m ih =>
    intro s S1 hf i0 i1 i2 i3 i4 i5 i6 i7 hmu
    refine fxz_289 400 ?_
    refine And.intro (fun (h1 : ((2 : Int) ≤ s : Prop)) => ?_) (fun (h1 : (s < (2 : Int) : Prop)) => ?_)
    ·
      refine And.intro (show 0 ≤ (0 : Int) ∧ (0 : Int) < 2 by omega) ?_
      intro z2 (z2a : (0 : Int) ≤ z2) (z2b : z2 ≤ (1 : Int)) (z2c : z2 = S1 79 0 0)
      refine And.intro (fun (h3 : (z2 = (0 : Int) : Prop)) => ?_) (fun (h3 : (z2 ≠ (0 : Int) : Prop)) => ?_)
      ·
        refine And.intro (show 0 ≤ (1 : Int) ∧ (1 : Int) < 2 by omega) ?_
        intro z4 (z4a : (0 : Int) ≤ z4) (z4b : z4 ≤ (1 : Int)) (z4c : z4 = S1 79 0 1)
        refine And.intro (fun (h5 : (z4 = (0 : Int) : Prop)) => ?_) (fun (h5 : (z4 ≠ (0 : Int) : Prop)) => ?_)
        ·
          exact hk S1 ⟨hf, i1, i2, i3, i4, i5, i6, i7⟩
        ·
          refine c_StubHouseModel_releaseOne  i1 i2 i3 i4 i5 i6 i7 (fun (S6 : fxS) ⟨(f7 : fxfr [(49, 7), (49, 38), (50, 9999), (53, 9999), (55, 9999), (56, 9999), (58, 9999), (76, 9999)] S1 S6), (g8 : COL S6), (g9 : WTM S6), (g10 : INJ S6), (g11 : AON S6), (g12 : USE S6), (g13 : SNP S6), (g14 : REC S6)⟩ => ?_)
          exact hk S6 ⟨(fxfr_tr hf f7 rfl), g8, g9, g10, g11, g12, g13, g14⟩
      ·
        refine c_freeIn_48_208   (fun (z15 : Int) (q16 : z15 = fcn (S1 56 0) 48 160 ∧ 0 ≤ z15 ∧ z15 ≤ 208) => ?_)
        refine And.intro (fun (h17 : (z15 ≤ (0 : Int) : Prop)) => ?_) (fun (h17 : ((0 : Int) < z15 : Prop)) => ?_)
        ·
          refine And.intro (show 0 ≤ (1 : Int) ∧ (1 : Int) < 2 by omega) ?_
          intro z18 (z18a : (0 : Int) ≤ z18) (z18b : z18 ≤ (1 : Int)) (z18c : z18 = S1 79 0 1)
          refine And.intro (fun (h19 : (z18 = (0 : Int) : Prop)) => ?_) (fun (h19 : (z18 ≠ (0 : Int) : Prop)) => ?_)
          ·
            exact hk S1 ⟨hf, i1, i2, i3, i4, i5, i6, i7⟩
          ·
            refine c_StubHouseModel_releaseOne  i1 i2 i3 i4 i5 i6 i7 (fun (S20 : fxS) ⟨(f21 : fxfr [(49, 7), (49, 38), (50, 9999), (53, 9999), (55, 9999), (56, 9999), (58, 9999), (76, 9999)] S1 S20), (g22 : COL S20), (g23 : WTM S20), (g24 : INJ S20), (g25 : AON S20), (g26 : USE S20), (g27 : SNP S20), (g28 : REC S20)⟩ => ?_)
            exact hk S20 ⟨(fxfr_tr hf f21 rfl), g22, g23, g24, g25, g26, g27, g28⟩
        ·
          refine c_StubHouseModel_nextByRank (s := (0 : Int)) (b := (-2 : Int)) i1 (show -2 ≤ (-2 : Int) ∧ (-2 : Int) < 60 by omega) (show -2147483648 ≤ (0 : Int) ∧ (0 : Int) < 2147483648 by omega) (fun (z29 : Int) (q30 : -2 ≤ z29 ∧ z29 < 60 ∧ z29 ≠ -1 ∧ z29 ≠ 0 ∧ (0 ≤ z29 → aN S1 z29 0 = 2 ∧ SOM z29 (0 : Int) S1 ∧ ((-2 : Int) < 0 ∨ rkF S1 z29 < rkF S1 (-2 : Int) ∨ (rkF S1 z29 = rkF S1 (-2 : Int) ∧ (-2 : Int) < z29)))) => ?_)
          have sq : 0 ≤ z29 → SOM z29 0 S1 := fun h => (q30.2.2.2.2 h).2.1
          have kq : 0 ≤ z29 → AV z29 0 2 S1 := fun h => (q30.2.2.2.2 h).1
          refine And.intro (by decide) ?_
          refine And.intro (fun (h31 : (z29 < (0 : Int) : Prop)) => ?_) (fun (h31 : ((0 : Int) ≤ z29 : Prop)) => ?_)
          ·
            exact hk S1 ⟨hf, i1, i2, i3, i4, i5, i6, i7⟩
          ·
            have sm : SOM z29 0 S1 := sq (by omega)
            have kv : AV z29 0 2 S1 := kq (by omega)
            refine c_StubHouseModel_ahead  i1 i2 i3 i4 i5 i6 (fun (S32 : fxS) ⟨(f33 : fxfr [(49, 7), (53, 9999), (56, 9999), (58, 9999)] S1 S32), (q34 : 0 ≤ S32 49 0 7 ∧ S32 49 0 7 ≤ 199), (g35 : SNP S32), (g36 : USE S32), (g37 : UZ S1 S32)⟩ => ?_)
            have g38 : COL S32 := fx_pfr COL_stab f33 rfl i1
            have g39 : WTM S32 := fx_pfr WTM_stab f33 rfl i2
            have g40 : INJ S32 := fx_pfr INJ_stab f33 rfl i3
            have g41 : AON S32 := fx_pfr AON_stab f33 rfl i4
            have g42 : REC S32 := fx_pfr REC_stab f33 rfl i7
            have g43 : SOM z29 0 S32 := fx_pfr SOM_stab f33 rfl sm
            have g44 : AV z29 0 2 S32 := fx_pfr AV_stab f33 rfl kv
            have f2 : fcn (S1 56 0) 48 160 ≤ fcn (S32 56 0) 48 160 := UZ_fcn (by assumption : UZ S1 S32)
            have k2 : aN S32 z29 0 = 2 := g44
            refine c_StubHouseModel_sink (f := z29) g38 g39 g40 g41 g36 g42 g43 (show 0 ≤ z29 ∧ z29 < 60 by omega) (show aN S32 z29 0 = 2 by omega) (show 1 ≤ fcn (S32 56 0) 48 160 by omega) (fun (S45 : fxS) ⟨(f46 : fxfr [(50, 9999), (56, 9999), (57, 9999)] S32 S45), (g47 : COL S45), (g48 : WTM S45), (g49 : INJ S45), (g50 : AON S45), (g51 : USE S45), (g52 : REC S45)⟩ => ?_)
            have w53 : S45 49 0 7 = S32 49 0 7 := f46 49 0 7 rfl
            have g54 : SNP S45 := fx_pfr SNP_stab f46 rfl g35
            refine c_StubHouseModel_record (e := (8 : Int)) g47 g48 g49 g50 g54 (show S45 49 0 7 ≤ 199 by omega) (show 0 ≤ (8 : Int) ∧ (8 : Int) ≤ 1000 by omega) (fun (S55 : fxS) ⟨(f56 : fxfr [(49, 7), (53, 9999), (55, 9999)] S45 S55), (g57 : SNP S55)⟩ => ?_)
            have g58 : COL S55 := fx_pfr COL_stab f56 rfl g47
            have g59 : WTM S55 := fx_pfr WTM_stab f56 rfl g48
            have g60 : INJ S55 := fx_pfr INJ_stab f56 rfl g49
            have g61 : AON S55 := fx_pfr AON_stab f56 rfl g50
            have g62 : USE S55 := fx_pfr USE_stab f56 rfl g51
            have g63 : REC S55 := fx_pfr REC_stab f56 rfl g52
            exact hk S55 ⟨(fxfr_tr (fxfr_tr (fxfr_tr hf f33 rfl) f46 rfl) f56 rfl), g58, g59, g60, g61, g62, g57, g63⟩
    ·
      refine c_StubHouseModel_inUse (s := s) i1 (show -2147483648 ≤ s ∧ s < 2147483648 by omega) (fun (z64 : Int) (q65 : 0 ≤ z64 ∧ z64 ≤ 1920) => ?_)
      refine And.intro (by decide) ?_
      refine And.intro (show 0 ≤ s ∧ s < 2 by omega) ?_
      intro z66 (z66a : (0 : Int) ≤ z66) (z66b : z66 ≤ (160 : Int)) (z66c : z66 = S1 60 0 (s).toNat)
      refine And.intro (fun (h67 : (z66 < z64 : Prop)) => ?_) (fun (h67 : (z64 ≤ z66 : Prop)) => ?_)
      ·
        refine And.intro (show 0 ≤ s ∧ s < 2 by omega) ?_
        refine And.intro (show (0 : Int) ≤ (1 : Int) ∧ (1 : Int) ≤ (1 : Int) by omega) ?_
        have w68 : fcn ((fx_up S1 79 0 (s).toNat (1 : Int)) 56 0) 48 160 = fcn (S1 56 0) 48 160 := rfl
        have w69 : (fx_up S1 79 0 (s).toNat (1 : Int)) 49 0 7 = S1 49 0 7 := rfl
        have g70 : COL (fx_up S1 79 0 (s).toNat (1 : Int)) := fx_pup COL_stab rfl i1
        have g71 : WTM (fx_up S1 79 0 (s).toNat (1 : Int)) := fx_pup WTM_stab rfl i2
        have g72 : INJ (fx_up S1 79 0 (s).toNat (1 : Int)) := fx_pup INJ_stab rfl i3
        have g73 : AON (fx_up S1 79 0 (s).toNat (1 : Int)) := fx_pup AON_stab rfl i4
        have g74 : USE (fx_up S1 79 0 (s).toNat (1 : Int)) := fx_pup USE_stab rfl i5
        have g75 : SNP (fx_up S1 79 0 (s).toNat (1 : Int)) := fx_pup SNP_stab rfl i6
        have g76 : REC (fx_up S1 79 0 (s).toNat (1 : Int)) := fx_pup REC_stab rfl i7
        refine And.intro (by decide) (And.intro (show -2147483648 ≤ s + (1 : Int) ∧ s + (1 : Int) < 2147483648 by omega) ?_)
        exact ih (s + (1 : Int)) (fx_up S1 79 0 (s).toNat (1 : Int)) (fxfr_up hf rfl) (by omega) g70 g71 g72 g73 g74 g75 g76 (by omega)
      ·
        refine And.intro (show 0 ≤ s ∧ s < 2 by omega) ?_
        intro z78 (z78a : (0 : Int) ≤ z78) (z78b : z78 ≤ (160 : Int)) (z78c : z78 = S1 61 0 (s).toNat)
        refine And.intro (fun (h79 : (z64 ≤ z78 : Prop)) => ?_) (fun (h79 : (z78 < z64 : Prop)) => ?_)
        ·
          refine And.intro (show 0 ≤ s ∧ s < 2 by omega) ?_
          refine And.intro (show (0 : Int) ≤ (0 : Int) ∧ (0 : Int) ≤ (1 : Int) by omega) ?_
          have w80 : fcn ((fx_up S1 79 0 (s).toNat (0 : Int)) 56 0) 48 160 = fcn (S1 56 0) 48 160 := rfl
          have w81 : (fx_up S1 79 0 (s).toNat (0 : Int)) 49 0 7 = S1 49 0 7 := rfl
          have g82 : COL (fx_up S1 79 0 (s).toNat (0 : Int)) := fx_pup COL_stab rfl i1
          have g83 : WTM (fx_up S1 79 0 (s).toNat (0 : Int)) := fx_pup WTM_stab rfl i2
          have g84 : INJ (fx_up S1 79 0 (s).toNat (0 : Int)) := fx_pup INJ_stab rfl i3
          have g85 : AON (fx_up S1 79 0 (s).toNat (0 : Int)) := fx_pup AON_stab rfl i4
          have g86 : USE (fx_up S1 79 0 (s).toNat (0 : Int)) := fx_pup USE_stab rfl i5
          have g87 : SNP (fx_up S1 79 0 (s).toNat (0 : Int)) := fx_pup SNP_stab rfl i6
          have g88 : REC (fx_up S1 79 0 (s).toNat (0 : Int)) := fx_pup REC_stab rfl i7
          refine And.intro (by decide) (And.intro (show -2147483648 ≤ s + (1 : Int) ∧ s + (1 : Int) < 2147483648 by omega) ?_)
          exact ih (s + (1 : Int)) (fx_up S1 79 0 (s).toNat (0 : Int)) (fxfr_up hf rfl) (by omega) g82 g83 g84 g85 g86 g87 g88 (by omega)
        ·
          refine And.intro (show 0 ≤ s ∧ s < 2 by omega) ?_
          intro z90 (z90a : (0 : Int) ≤ z90) (z90b : z90 ≤ (1 : Int)) (z90c : z90 = S1 79 0 (s).toNat)
          refine And.intro (fun (h91 : (z90 = (0 : Int) : Prop)) => ?_) (fun (h91 : (z90 ≠ (0 : Int) : Prop)) => ?_)
          ·
            refine And.intro (show 0 ≤ s ∧ s < 2 by omega) ?_
            refine And.intro (show (0 : Int) ≤ (0 : Int) ∧ (0 : Int) ≤ (1 : Int) by omega) ?_
            have w92 : fcn ((fx_up S1 79 0 (s).toNat (0 : Int)) 56 0) 48 160 = fcn (S1 56 0) 48 160 := rfl
            have w93 : (fx_up S1 79 0 (s).toNat (0 : Int)) 49 0 7 = S1 49 0 7 := rfl
            have g94 : COL (fx_up S1 79 0 (s).toNat (0 : Int)) := fx_pup COL_stab rfl i1
            have g95 : WTM (fx_up S1 79 0 (s).toNat (0 : Int)) := fx_pup WTM_stab rfl i2
            have g96 : INJ (fx_up S1 79 0 (s).toNat (0 : Int)) := fx_pup INJ_stab rfl i3
            have g97 : AON (fx_up S1 79 0 (s).toNat (0 : Int)) := fx_pup AON_stab rfl i4
            have g98 : USE (fx_up S1 79 0 (s).toNat (0 : Int)) := fx_pup USE_stab rfl i5
            have g99 : SNP (fx_up S1 79 0 (s).toNat (0 : Int)) := fx_pup SNP_stab rfl i6
            have g100 : REC (fx_up S1 79 0 (s).toNat (0 : Int)) := fx_pup REC_stab rfl i7
            refine And.intro (by decide) (And.intro (show -2147483648 ≤ s + (1 : Int) ∧ s + (1 : Int) < 2147483648 by omega) ?_)
            exact ih (s + (1 : Int)) (fx_up S1 79 0 (s).toNat (0 : Int)) (fxfr_up hf rfl) (by omega) g94 g95 g96 g97 g98 g99 g100 (by omega)
          ·
            refine And.intro (show 0 ≤ s ∧ s < 2 by omega) ?_
            refine And.intro (show (0 : Int) ≤ (1 : Int) ∧ (1 : Int) ≤ (1 : Int) by omega) ?_
            have w102 : fcn ((fx_up S1 79 0 (s).toNat (1 : Int)) 56 0) 48 160 = fcn (S1 56 0) 48 160 := rfl
            have w103 : (fx_up S1 79 0 (s).toNat (1 : Int)) 49 0 7 = S1 49 0 7 := rfl
            have g104 : COL (fx_up S1 79 0 (s).toNat (1 : Int)) := fx_pup COL_stab rfl i1
            have g105 : WTM (fx_up S1 79 0 (s).toNat (1 : Int)) := fx_pup WTM_stab rfl i2
            have g106 : INJ (fx_up S1 79 0 (s).toNat (1 : Int)) := fx_pup INJ_stab rfl i3
            have g107 : AON (fx_up S1 79 0 (s).toNat (1 : Int)) := fx_pup AON_stab rfl i4
            have g108 : USE (fx_up S1 79 0 (s).toNat (1 : Int)) := fx_pup USE_stab rfl i5
            have g109 : SNP (fx_up S1 79 0 (s).toNat (1 : Int)) := fx_pup SNP_stab rfl i6
            have g110 : REC (fx_up S1 79 0 (s).toNat (1 : Int)) := fx_pup REC_stab rfl i7
            refine And.intro (by decide) (And.intro (show -2147483648 ≤ s + (1 : Int) ∧ s + (1 : Int) < 2147483648 by omega) ?_)
            exact ih (s + (1 : Int)) (fx_up S1 79 0 (s).toNat (1 : Int)) (fxfr_up hf rfl) (by omega) g104 g105 g106 g107 g108 g109 g110 (by omega)
theorem c_StubHouseModel_migrate {l : Launch} {k : fxK} {S : fxS}  (p0 : COL S) (p1 : WTM S) (p2 : INJ S) (p3 : AON S) (p4 : USE S) (p5 : SNP S) (p6 : REC S) (hk : ∀ (S' : fxS) , (fxfr [(49, 7), (49, 38), (50, 9999), (53, 9999), (55, 9999), (56, 9999), (57, 9999), (58, 9999), (76, 9999), (79, 9999)] S S' ∧ (COL S') ∧ (WTM S') ∧ (INJ S') ∧ (AON S') ∧ (USE S') ∧ (SNP S') ∧ (REC S')) → k none S') : fC l 289 [.inr (.inr (49, 0))] S k := by
  refine fxe_289 (Nat.le_of_ble_eq_true rfl) (fxz_289 400 ?_)
  refine And.intro (by decide) ?_
  exact (z_StubHouseModel_migrate p0 p1 p2 p3 p4 p5 p6 hk (3 - (0 : Int)).toNat) (0 : Int) S fxfr_rfl (by omega) p0 p1 p2 p3 p4 p5 p6 (by omega)
theorem z_StubHouseModel_step {l : Launch} {k : fxK} {S : fxS} {n : Int} (p0 : COL S) (p1 : WTM S) (p2 : INJ S) (p3 : AON S) (p4 : USE S) (p5 : SNP S) (p6 : REC S) (p7 : SGM S) (p8 : WNW S) (p9 : WNR S) (p10 : LCM S) (p11 : -2147483648 ≤ n ∧ n < 2147483648) (hk : ∀ (r : Int) (S' : fxS) , (fxfr [(49, 0), (49, 7), (49, 11), (49, 13), (49, 36), (49, 38), (49, 39), (49, 40), (49, 41), (49, 42), (49, 43), (49, 45), (49, 46), (49, 47), (49, 48), (49, 49), (49, 51), (49, 53), (49, 54), (49, 55), (50, 9999), (52, 9999), (53, 9999), (55, 9999), (56, 9999), (57, 9999), (58, 9999), (62, 9999), (63, 9999), (64, 9999), (65, 9999), (66, 9999), (67, 9999), (70, 9999), (71, 9999), (72, 9999), (73, 9999), (74, 9999), (75, 9999), (76, 9999), (77, 9999), (78, 9999), (79, 9999)] S S' ∧ (-2147483648 ≤ r ∧ r < 2147483648) ∧ (COL S') ∧ (WTM S') ∧ (INJ S') ∧ (AON S') ∧ (USE S') ∧ (SNP S') ∧ (REC S') ∧ (SGM S') ∧ (WNW S') ∧ (WNR S') ∧ (LCM S')) → k (some (.inl r)) S') : ∀ m : Nat, (∀ (j : Int) (S1 : fxS), (fxfr [(49, 0), (49, 7), (49, 11), (49, 13), (49, 36), (49, 38), (49, 39), (49, 40), (49, 41), (49, 42), (49, 43), (49, 45), (49, 46), (49, 47), (49, 48), (49, 49), (49, 51), (49, 53), (49, 54), (49, 55), (50, 9999), (52, 9999), (53, 9999), (55, 9999), (56, 9999), (57, 9999), (58, 9999), (62, 9999), (63, 9999), (64, 9999), (65, 9999), (66, 9999), (67, 9999), (70, 9999), (71, 9999), (72, 9999), (73, 9999), (74, 9999), (75, 9999), (76, 9999), (77, 9999), (78, 9999), (79, 9999)] S S1) → (1 ≤ n ∧ n ≤ 500) → (0 ≤ j ∧ j ≤ n) → (COL S1) → (WTM S1) → (INJ S1) → (AON S1) → (USE S1) → (SNP S1) → (REC S1) → (SGM S1) → (WNW S1) → (WNR S1) → (LCM S1) → n + 1 - j ≤ (m : Int) → fZ l 290 k 21 [some (.inr (.inr (49, 0))), some (.inl n), some (.inl j)] [] S1) := by
  intro m
  induction m with
  | zero =>
    intro j S1 hf i0 i1 i2 i3 i4 i5 i6 i7 i8 i9 i10 i11 i12 hmu
    exfalso
    omega
  | succ m ih =>
    intro j S1 hf i0 i1 i2 i3 i4 i5 i6 i7 i8 i9 i10 i11 i12 hmu
    refine fxz_290 400 ?_
    refine And.intro (fun (h1 : (n ≤ j : Prop)) => ?_) (fun (h1 : (j < n : Prop)) => ?_)
    ·
      exact hk (0 : Int) S1 ⟨hf, by omega, i2, i3, i4, i5, i6, i7, i8, i9, i10, i11, i12⟩
    ·
      intro z2 (z2a : (-2147483648 : Int) ≤ z2) (z2b : z2 ≤ (2147483647 : Int)) (z2c : z2 = S1 49 0 11)
      intro z3 (z3a : -2147483648 ≤ z3) (z3b : z3 < 2147483648) (z3c : -2147483648 ≤ (z2 + (1 : Int)) ∧ (z2 + (1 : Int)) < 2147483648 → z3 = (z2 + (1 : Int)))
      refine And.intro (show (-2147483648 : Int) ≤ z3 ∧ z3 ≤ (2147483647 : Int) by omega) ?_
      have w4 : (fx_up S1 49 0 11 z3) 49 0 15 = S1 49 0 15 := if_neg (fun q => absurd q.2.2 (by decide))
      have g5 : COL (fx_up S1 49 0 11 z3) := fx_pup COL_stab rfl i2
      have g6 : WTM (fx_up S1 49 0 11 z3) := fx_pup WTM_stab rfl i3
      have g7 : INJ (fx_up S1 49 0 11 z3) := fx_pup INJ_stab rfl i4
      have g8 : AON (fx_up S1 49 0 11 z3) := fx_pup AON_stab rfl i5
      have g9 : USE (fx_up S1 49 0 11 z3) := fx_pup USE_stab rfl i6
      have g10 : SNP (fx_up S1 49 0 11 z3) := fx_pup SNP_stab rfl i7
      have g11 : REC (fx_up S1 49 0 11 z3) := fx_pup REC_stab rfl i8
      have g12 : SGM (fx_up S1 49 0 11 z3) := fx_pup SGM_stab rfl i9
      have g13 : WNW (fx_up S1 49 0 11 z3) := fx_pup WNW_stab rfl i10
      have g14 : WNR (fx_up S1 49 0 11 z3) := fx_pup WNR_stab rfl i11
      have g15 : LCM (fx_up S1 49 0 11 z3) := fx_pup LCM_stab rfl i12
      intro z16 (z16a : (0 : Int) ≤ z16) (z16b : z16 ≤ (1 : Int)) (z16c : z16 = S1 49 0 15)
      refine And.intro (fun (h17 : (z16 ≠ (0 : Int) : Prop)) => ?_) (fun (h17 : (z16 = (0 : Int) : Prop)) => ?_)
      ·
        refine And.intro (by decide) (And.intro (show -2147483648 ≤ j + (1 : Int) ∧ j + (1 : Int) < 2147483648 by omega) ?_)
        exact ih (j + (1 : Int)) (fx_up S1 49 0 11 z3) (fxfr_up hf rfl) (by omega) (by omega) g5 g6 g7 g8 g9 g10 g11 g12 g13 g14 g15 (by omega)
      ·
        refine And.intro (show (0 : Int) ≤ (0 : Int) ∧ (0 : Int) ≤ (1 : Int) by omega) ?_
        have w19 : (fx_up (fx_up S1 49 0 11 z3) 49 0 55 (0 : Int)) 49 0 15 = (fx_up S1 49 0 11 z3) 49 0 15 := if_neg (fun q => absurd q.2.2 (by decide))
        have g20 : COL (fx_up (fx_up S1 49 0 11 z3) 49 0 55 (0 : Int)) := fx_pup COL_stab rfl g5
        have g21 : WTM (fx_up (fx_up S1 49 0 11 z3) 49 0 55 (0 : Int)) := fx_pup WTM_stab rfl g6
        have g22 : INJ (fx_up (fx_up S1 49 0 11 z3) 49 0 55 (0 : Int)) := fx_pup INJ_stab rfl g7
        have g23 : AON (fx_up (fx_up S1 49 0 11 z3) 49 0 55 (0 : Int)) := fx_pup AON_stab rfl g8
        have g24 : USE (fx_up (fx_up S1 49 0 11 z3) 49 0 55 (0 : Int)) := fx_pup USE_stab rfl g9
        have g25 : SNP (fx_up (fx_up S1 49 0 11 z3) 49 0 55 (0 : Int)) := fx_pup SNP_stab rfl g10
        have g26 : REC (fx_up (fx_up S1 49 0 11 z3) 49 0 55 (0 : Int)) := fx_pup REC_stab rfl g11
        have g27 : SGM (fx_up (fx_up S1 49 0 11 z3) 49 0 55 (0 : Int)) := fx_pup SGM_stab rfl g12
        have g28 : WNW (fx_up (fx_up S1 49 0 11 z3) 49 0 55 (0 : Int)) := fx_pup WNW_stab rfl g13
        have g29 : WNR (fx_up (fx_up S1 49 0 11 z3) 49 0 55 (0 : Int)) := fx_pup WNR_stab rfl g14
        have g30 : LCM (fx_up (fx_up S1 49 0 11 z3) 49 0 55 (0 : Int)) := fx_pup LCM_stab rfl g15
        refine c_goOn_1  g20 g21 g22 g23 g24 g25 g26 g27 g28 g29 (fun (S31 : fxS) ⟨(f32 : fxfr [(49, 7), (49, 36), (49, 39), (49, 40), (49, 41), (49, 42), (49, 43), (49, 45), (49, 46), (49, 47), (49, 48), (49, 55), (50, 9999), (52, 9999), (53, 9999), (55, 9999), (56, 9999), (57, 9999), (58, 9999), (62, 9999), (63, 9999), (64, 9999), (65, 9999), (66, 9999), (67, 9999), (70, 9999), (71, 9999), (72, 9999), (73, 9999), (74, 9999), (75, 9999), (77, 9999)] (fx_up (fx_up S1 49 0 11 z3) 49 0 55 (0 : Int)) S31), (g33 : COL S31), (g34 : WTM S31), (g35 : INJ S31), (g36 : AON S31), (g37 : USE S31), (g38 : SNP S31), (g39 : REC S31), (g40 : SGM S31), (g41 : WNW S31), (g42 : WNR S31)⟩ => ?_)
        have w43 : S31 49 0 15 = (fx_up (fx_up S1 49 0 11 z3) 49 0 55 (0 : Int)) 49 0 15 := f32 49 0 15 rfl
        refine c_goOn_0  g33 g34 g35 g36 g37 g38 g39 g40 g41 g42 (fun (S44 : fxS) ⟨(f45 : fxfr [(49, 7), (49, 13), (49, 36), (49, 38), (49, 42), (49, 43), (49, 45), (49, 46), (49, 47), (49, 48), (49, 49), (49, 51), (49, 53), (49, 54), (50, 9999), (52, 9999), (53, 9999), (55, 9999), (56, 9999), (57, 9999), (58, 9999), (62, 9999), (63, 9999), (65, 9999), (66, 9999), (67, 9999), (70, 9999), (71, 9999), (72, 9999), (73, 9999), (74, 9999), (75, 9999), (76, 9999), (77, 9999), (78, 9999)] S31 S44), (g46 : COL S44), (g47 : WTM S44), (g48 : INJ S44), (g49 : AON S44), (g50 : USE S44), (g51 : SNP S44), (g52 : REC S44), (g53 : SGM S44), (g54 : WNW S44), (g55 : WNR S44)⟩ => ?_)
        have w56 : S44 49 0 15 = S31 49 0 15 := f45 49 0 15 rfl
        refine c_StubHouseModel_migrate  g46 g47 g48 g49 g50 g51 g52 (fun (S57 : fxS) ⟨(f58 : fxfr [(49, 7), (49, 38), (50, 9999), (53, 9999), (55, 9999), (56, 9999), (57, 9999), (58, 9999), (76, 9999), (79, 9999)] S44 S57), (g59 : COL S57), (g60 : WTM S57), (g61 : INJ S57), (g62 : AON S57), (g63 : USE S57), (g64 : SNP S57), (g65 : REC S57)⟩ => ?_)
        have w66 : S57 49 0 15 = S44 49 0 15 := f58 49 0 15 rfl
        have g67 : SGM S57 := fx_pfr SGM_stab f58 rfl g53
        have g68 : WNW S57 := fx_pfr WNW_stab f58 rfl g54
        have g69 : WNR S57 := fx_pfr WNR_stab f58 rfl g55
        have lc : LCM S57 := LCM_of (by omega)
        refine And.intro (by decide) (And.intro (show -2147483648 ≤ j + (1 : Int) ∧ j + (1 : Int) < 2147483648 by omega) ?_)
        exact ih (j + (1 : Int)) S57 (fxfr_tr (fxfr_tr (fxfr_tr (fxfr_up (fxfr_up hf rfl) rfl) f32 rfl) f45 rfl) f58 rfl) (by omega) (by omega) g59 g60 g61 g62 g63 g64 g65 g67 g68 g69 lc (by omega)
theorem c_StubHouseModel_step {l : Launch} {k : fxK} {S : fxS} {n : Int} (p0 : COL S) (p1 : WTM S) (p2 : INJ S) (p3 : AON S) (p4 : USE S) (p5 : SNP S) (p6 : REC S) (p7 : SGM S) (p8 : WNW S) (p9 : WNR S) (p10 : LCM S) (p11 : -2147483648 ≤ n ∧ n < 2147483648) (hk : ∀ (r : Int) (S' : fxS) , (fxfr [(49, 0), (49, 7), (49, 11), (49, 13), (49, 36), (49, 38), (49, 39), (49, 40), (49, 41), (49, 42), (49, 43), (49, 45), (49, 46), (49, 47), (49, 48), (49, 49), (49, 51), (49, 53), (49, 54), (49, 55), (50, 9999), (52, 9999), (53, 9999), (55, 9999), (56, 9999), (57, 9999), (58, 9999), (62, 9999), (63, 9999), (64, 9999), (65, 9999), (66, 9999), (67, 9999), (70, 9999), (71, 9999), (72, 9999), (73, 9999), (74, 9999), (75, 9999), (76, 9999), (77, 9999), (78, 9999), (79, 9999)] S S' ∧ (-2147483648 ≤ r ∧ r < 2147483648) ∧ (COL S') ∧ (WTM S') ∧ (INJ S') ∧ (AON S') ∧ (USE S') ∧ (SNP S') ∧ (REC S') ∧ (SGM S') ∧ (WNW S') ∧ (WNR S') ∧ (LCM S')) → k (some (.inl r)) S') : fC l 290 [.inr (.inr (49, 0)), .inl n] S k := by
  refine fxe_290 (Nat.le_of_ble_eq_true rfl) (fxz_290 400 ?_)
  refine And.intro (show (-2147483648 : Int) ≤ (0 : Int) ∧ (0 : Int) ≤ (2147483647 : Int) by omega) ?_
  have w71 : (fx_up S 49 0 0 (0 : Int)) 49 0 15 = S 49 0 15 := if_neg (fun q => absurd q.2.2 (by decide))
  have g72 : COL (fx_up S 49 0 0 (0 : Int)) := fx_pup COL_stab rfl p0
  have g73 : WTM (fx_up S 49 0 0 (0 : Int)) := fx_pup WTM_stab rfl p1
  have g74 : INJ (fx_up S 49 0 0 (0 : Int)) := fx_pup INJ_stab rfl p2
  have g75 : AON (fx_up S 49 0 0 (0 : Int)) := fx_pup AON_stab rfl p3
  have g76 : USE (fx_up S 49 0 0 (0 : Int)) := fx_pup USE_stab rfl p4
  have g77 : SNP (fx_up S 49 0 0 (0 : Int)) := fx_pup SNP_stab rfl p5
  have g78 : REC (fx_up S 49 0 0 (0 : Int)) := fx_pup REC_stab rfl p6
  have g79 : SGM (fx_up S 49 0 0 (0 : Int)) := fx_pup SGM_stab rfl p7
  have g80 : WNW (fx_up S 49 0 0 (0 : Int)) := fx_pup WNW_stab rfl p8
  have g81 : WNR (fx_up S 49 0 0 (0 : Int)) := fx_pup WNR_stab rfl p9
  have g82 : LCM (fx_up S 49 0 0 (0 : Int)) := fx_pup LCM_stab rfl p10
  refine c_StubHouseModel_in (x := n) (a := (1 : Int)) (b := (500 : Int))  (fun (z83 : Int) (q84 : 0 ≤ z83 ∧ z83 ≤ 1 ∧ (z83 = 1 → (1 : Int) ≤ n ∧ n ≤ (500 : Int)) ∧ (z83 = 0 → n < (1 : Int) ∨ (500 : Int) < n)) => ?_)
  refine And.intro (fun (h85 : (z83 ≠ (0 : Int) : Prop)) => ?_) (fun (h85 : (z83 = (0 : Int) : Prop)) => ?_)
  ·
    refine And.intro (by decide) ?_
    exact (z_StubHouseModel_step p0 p1 p2 p3 p4 p5 p6 p7 p8 p9 p10 p11 hk (n + 1 - (0 : Int)).toNat) (0 : Int) (fx_up S 49 0 0 (0 : Int)) (fxfr_up fxfr_rfl rfl) (by omega) (by omega) g72 g73 g74 g75 g76 g77 g78 g79 g80 g81 g82 (by omega)
  ·
    exact hk (-1 : Int) (fx_up S 49 0 0 (0 : Int)) ⟨(fxfr_up fxfr_rfl rfl), by omega, g72, g73, g74, g75, g76, g77, g78, g79, g80, g81, g82⟩
theorem c_StubHouseModel_reclaim {l : Launch} {k : fxK} {S : fxS} {t : Int} (p0 : -2147483648 ≤ t ∧ t < 2147483648) (hk : ∀ (r : Int) (S' : fxS) , (fxfr [(49, 0), (49, 39), (49, 42), (49, 43)] S S' ∧ (-2147483648 ≤ r ∧ r < 2147483648)) → k (some (.inl r)) S') : fC l 293 [.inr (.inr (49, 0)), .inl t] S k := by
  refine fxe_293 (Nat.le_of_ble_eq_true rfl) (fxz_293 400 ?_)
  refine And.intro (show (-2147483648 : Int) ≤ (0 : Int) ∧ (0 : Int) ≤ (2147483647 : Int) by omega) ?_
  intro z1 (z1a : (0 : Int) ≤ z1) (z1b : z1 ≤ (1 : Int)) (z1c : z1 = S 49 0 15)
  refine And.intro (fun (h2 : (z1 = (0 : Int) : Prop)) => ?_) (fun (h2 : (z1 ≠ (0 : Int) : Prop)) => ?_)
  ·
    refine c_StubHouseModel_in (x := t) (a := (0 : Int)) (b := (5 : Int))  (fun (z3 : Int) (q4 : 0 ≤ z3 ∧ z3 ≤ 1 ∧ (z3 = 1 → (0 : Int) ≤ t ∧ t ≤ (5 : Int)) ∧ (z3 = 0 → t < (0 : Int) ∨ (5 : Int) < t)) => ?_)
    refine And.intro (fun (h5 : (z3 ≠ (0 : Int) : Prop)) => ?_) (fun (h5 : (z3 = (0 : Int) : Prop)) => ?_)
    ·
      intro z6 (z6a : (-2 : Int) ≤ z6) (z6b : z6 ≤ (5 : Int)) (z6c : z6 = S 49 0 39)
      refine And.intro (fun (h7 : ((0 : Int) ≤ z6 : Prop)) => ?_) (fun (h7 : (z6 < (0 : Int) : Prop)) => ?_)
      ·
        exact hk (-6 : Int) (fx_up S 49 0 0 (0 : Int)) ⟨(fxfr_up fxfr_rfl rfl), by omega⟩
      ·
        refine And.intro (show 0 ≤ t ∧ t < 6 by omega) ?_
        intro z8 (z8a : (0 : Int) ≤ z8) (z8b : z8 ≤ (6000 : Int)) (z8c : z8 = S 63 0 (t).toNat)
        refine And.intro (fun (h9 : (z8 ≠ (0 : Int) : Prop)) => ?_) (fun (h9 : (z8 = (0 : Int) : Prop)) => ?_)
        ·
          refine And.intro (show (-2 : Int) ≤ t ∧ t ≤ (5 : Int) by omega) ?_
          refine And.intro (show (0 : Int) ≤ (0 : Int) ∧ (0 : Int) ≤ (6000 : Int) by omega) ?_
          refine And.intro (show (0 : Int) ≤ (0 : Int) ∧ (0 : Int) ≤ (1 : Int) by omega) ?_
          exact hk (0 : Int) (fx_up (fx_up (fx_up (fx_up S 49 0 0 (0 : Int)) 49 0 39 t) 49 0 42 (0 : Int)) 49 0 43 (0 : Int)) ⟨(fxfr_up (fxfr_up (fxfr_up (fxfr_up fxfr_rfl rfl) rfl) rfl) rfl), by omega⟩
        ·
          exact hk (-6 : Int) (fx_up S 49 0 0 (0 : Int)) ⟨(fxfr_up fxfr_rfl rfl), by omega⟩
    ·
      exact hk (-1 : Int) (fx_up S 49 0 0 (0 : Int)) ⟨(fxfr_up fxfr_rfl rfl), by omega⟩
  ·
    exact hk (-8 : Int) (fx_up S 49 0 0 (0 : Int)) ⟨(fxfr_up fxfr_rfl rfl), by omega⟩
theorem c_StubHouseModel_drive {l : Launch} {k : fxK} {S : fxS} {d : Int} {w : Int} (p0 : -2147483648 ≤ d ∧ d < 2147483648) (p1 : -2147483648 ≤ w ∧ w < 2147483648) (hk : ∀ (r : Int) (S' : fxS) , (fxfr [(49, 0)] S S' ∧ (-2147483648 ≤ r ∧ r < 2147483648)) → k (some (.inl r)) S') : fC l 295 [.inr (.inr (49, 0)), .inl d, .inl w] S k := by
  refine fxe_295 (Nat.le_of_ble_eq_true rfl) (fxz_295 400 ?_)
  refine And.intro (show (-2147483648 : Int) ≤ (0 : Int) ∧ (0 : Int) ≤ (2147483647 : Int) by omega) ?_
  refine c_StubHouseModel_in (x := d) (a := (0 : Int)) (b := (1 : Int))  (fun (z1 : Int) (q2 : 0 ≤ z1 ∧ z1 ≤ 1 ∧ (z1 = 1 → (0 : Int) ≤ d ∧ d ≤ (1 : Int)) ∧ (z1 = 0 → d < (0 : Int) ∨ (1 : Int) < d)) => ?_)
  refine And.intro (fun (h3 : (z1 ≠ (0 : Int) : Prop)) => ?_) (fun (h3 : (z1 = (0 : Int) : Prop)) => ?_)
  ·
    refine And.intro (fun (h4 : w = (0 : Int)) => ?_) (fun (h4 : w ≠ (0 : Int)) => ?_)
    ·
      refine And.intro (show 0 ≤ d ∧ d < 2 by omega) ?_
      intro z5 (z5a : (-2 : Int) ≤ z5) (z5b : z5 ≤ (5 : Int)) (z5c : z5 = S 70 0 (d).toNat)
      exact hk z5 (fx_up S 49 0 0 (0 : Int)) ⟨(fxfr_up fxfr_rfl rfl), by omega⟩
    refine And.intro (fun (h6 : w = (1 : Int)) => ?_) (fun (h6 : w ≠ (1 : Int)) => ?_)
    ·
      refine And.intro (show 0 ≤ d ∧ d < 2 by omega) ?_
      intro z7 (z7a : (-2 : Int) ≤ z7) (z7b : z7 ≤ (5 : Int)) (z7c : z7 = S 70 0 (d).toNat)
      refine And.intro (fun (h8 : ((0 : Int) ≤ z7 : Prop)) => ?_) (fun (h8 : (z7 < (0 : Int) : Prop)) => ?_)
      ·
        refine And.intro (show 0 ≤ d ∧ d < 2 by omega) ?_
        intro z9 (z9a : (0 : Int) ≤ z9) (z9b : z9 ≤ (7100 : Int)) (z9c : z9 = S 71 0 (d).toNat)
        exact hk z9 (fx_up S 49 0 0 (0 : Int)) ⟨(fxfr_up fxfr_rfl rfl), by omega⟩
      ·
        exact hk (0 : Int) (fx_up S 49 0 0 (0 : Int)) ⟨(fxfr_up fxfr_rfl rfl), by omega⟩
    refine And.intro (fun (h10 : w = (2 : Int)) => ?_) (fun (h10 : w ≠ (2 : Int)) => ?_)
    ·
      refine And.intro (show 0 ≤ d ∧ d < 2 by omega) ?_
      intro z11 (z11a : (0 : Int) ≤ z11) (z11b : z11 ≤ (5 : Int)) (z11c : z11 = S 72 0 (d).toNat)
      exact hk z11 (fx_up S 49 0 0 (0 : Int)) ⟨(fxfr_up fxfr_rfl rfl), by omega⟩
    refine And.intro (fun (h12 : w = (3 : Int)) => ?_) (fun (h12 : w ≠ (3 : Int)) => ?_)
    ·
      refine And.intro (show 0 ≤ d ∧ d < 2 by omega) ?_
      intro z13 (z13a : (0 : Int) ≤ z13) (z13b : z13 ≤ (5 : Int)) (z13c : z13 = S 72 0 (d).toNat)
      refine And.intro (fun (h14 : (z13 ≠ (0 : Int) : Prop)) => ?_) (fun (h14 : (z13 = (0 : Int) : Prop)) => ?_)
      ·
        refine And.intro (show 0 ≤ d ∧ d < 2 by omega) ?_
        intro z15 (z15a : (-2147483648 : Int) ≤ z15) (z15b : z15 ≤ (2147483647 : Int)) (z15c : z15 = S 73 0 (d).toNat)
        exact hk z15 (fx_up S 49 0 0 (0 : Int)) ⟨(fxfr_up fxfr_rfl rfl), by omega⟩
      ·
        exact hk (0 : Int) (fx_up S 49 0 0 (0 : Int)) ⟨(fxfr_up fxfr_rfl rfl), by omega⟩
    exact hk (-1 : Int) (fx_up S 49 0 0 (0 : Int)) ⟨(fxfr_up fxfr_rfl rfl), by omega⟩
  ·
    exact hk (-1 : Int) (fx_up S 49 0 0 (0 : Int)) ⟨(fxfr_up fxfr_rfl rfl), by omega⟩
theorem z_StubHouseModel_heldBlocks {l : Launch} {k : fxK} {S : fxS}   (hk : ∀ (r : Int) , (0 ≤ r ∧ r ≤ 208) → k (some (.inl r)) S) : ∀ m : Nat, (∀ (u j : Int), (0 ≤ u ∧ u ≤ j) → (0 ≤ j ∧ j ≤ 208) → 209 - j ≤ (m : Int) → fZ l 298 k 4 [some (.inr (.inr (49, 0))), some (.inl u), some (.inl j)] [] S) := by
  intro m
  induction m with
  | zero =>
    intro u j  i0 i1 hmu
    exfalso
    omega
  | succ m ih =>
    intro u j  i0 i1 hmu
    refine fxz_298 400 ?_
    refine And.intro (fun (h1 : ((208 : Int) ≤ j : Prop)) => ?_) (fun (h1 : (j < (208 : Int) : Prop)) => ?_)
    ·
      exact hk u (by omega)
    ·
      refine And.intro (show 0 ≤ j ∧ j < 208 by omega) ?_
      intro z2 (z2a : (0 : Int) ≤ z2) (z2b : z2 ≤ (2 : Int)) (z2c : z2 = S 56 0 (j).toNat)
      refine And.intro (fun (h3 : (z2 ≠ (2 : Int) : Prop)) => ?_) (fun (h3 : (z2 = (2 : Int) : Prop)) => ?_)
      ·
        refine And.intro (show -2147483648 ≤ (u + (0 : Int)) ∧ (u + (0 : Int)) < 2147483648 by omega) ?_
        refine And.intro (by decide) ?_
        refine And.intro (by decide) (And.intro (show -2147483648 ≤ j + (1 : Int) ∧ j + (1 : Int) < 2147483648 by omega) ?_)
        exact ih (u + (0 : Int)) (j + (1 : Int))  (by omega) (by omega) (by omega)
      ·
        refine And.intro (show -2147483648 ≤ (u + (1 : Int)) ∧ (u + (1 : Int)) < 2147483648 by omega) ?_
        refine And.intro (by decide) ?_
        refine And.intro (by decide) (And.intro (show -2147483648 ≤ j + (1 : Int) ∧ j + (1 : Int) < 2147483648 by omega) ?_)
        exact ih (u + (1 : Int)) (j + (1 : Int))  (by omega) (by omega) (by omega)
theorem c_StubHouseModel_heldBlocks {l : Launch} {k : fxK} {S : fxS}   (hk : ∀ (r : Int) , (0 ≤ r ∧ r ≤ 208) → k (some (.inl r)) S) : fC l 298 [.inr (.inr (49, 0))] S k := by
  refine fxe_298 (Nat.le_of_ble_eq_true rfl) (fxz_298 400 ?_)
  refine And.intro (by decide) ?_
  refine And.intro (by decide) ?_
  exact (z_StubHouseModel_heldBlocks  hk (209 - (0 : Int)).toNat) (0 : Int) (0 : Int)  (by omega) (by omega) (by omega)
theorem z_StubHouseModel_nodes {l : Launch} {k : fxK} {S : fxS}  (p0 : COL S) (hk : ∀ (r : Int) , (0 ≤ r ∧ r ≤ 60) → k (some (.inl r)) S) : ∀ m : Nat, (∀ (u j : Int), (0 ≤ u ∧ u ≤ j) → (0 ≤ j ∧ j ≤ 60) → 61 - j ≤ (m : Int) → fZ l 299 k 4 [some (.inr (.inr (49, 0))), some (.inl u), some (.inl j)] [] S) := by
  intro m
  induction m with
  | zero =>
    intro u j  i0 i1 hmu
    exfalso
    omega
  | succ m ih =>
    intro u j  i0 i1 hmu
    refine fxz_299 400 ?_
    refine And.intro (fun (h1 : ((60 : Int) ≤ j : Prop)) => ?_) (fun (h1 : (j < (60 : Int) : Prop)) => ?_)
    ·
      exact hk u (by omega)
    ·
      refine c_at0 (n := j) p0 (show 0 ≤ j ∧ j < 60 by omega) (fun (z2 : Int) (q3 : z2 = aN S j 0 ∧ 0 ≤ z2 ∧ z2 ≤ 2) => ?_)
      refine And.intro (fun (h4 : (z2 = (0 : Int) : Prop)) => ?_) (fun (h4 : (z2 ≠ (0 : Int) : Prop)) => ?_)
      ·
        refine And.intro (show -2147483648 ≤ (u + (0 : Int)) ∧ (u + (0 : Int)) < 2147483648 by omega) ?_
        refine And.intro (by decide) ?_
        refine And.intro (by decide) (And.intro (show -2147483648 ≤ j + (1 : Int) ∧ j + (1 : Int) < 2147483648 by omega) ?_)
        exact ih (u + (0 : Int)) (j + (1 : Int))  (by omega) (by omega) (by omega)
      ·
        refine And.intro (show -2147483648 ≤ (u + (1 : Int)) ∧ (u + (1 : Int)) < 2147483648 by omega) ?_
        refine And.intro (by decide) ?_
        refine And.intro (by decide) (And.intro (show -2147483648 ≤ j + (1 : Int) ∧ j + (1 : Int) < 2147483648 by omega) ?_)
        exact ih (u + (1 : Int)) (j + (1 : Int))  (by omega) (by omega) (by omega)
theorem c_StubHouseModel_nodes {l : Launch} {k : fxK} {S : fxS}  (p0 : COL S) (hk : ∀ (r : Int) , (0 ≤ r ∧ r ≤ 60) → k (some (.inl r)) S) : fC l 299 [.inr (.inr (49, 0))] S k := by
  refine fxe_299 (Nat.le_of_ble_eq_true rfl) (fxz_299 400 ?_)
  refine And.intro (by decide) ?_
  refine And.intro (by decide) ?_
  exact (z_StubHouseModel_nodes p0 hk (61 - (0 : Int)).toNat) (0 : Int) (0 : Int)  (by omega) (by omega) (by omega)
theorem z_StubHouseModel_told {l : Launch} {k : fxK} {S : fxS} {w : Int} (p0 : COL S) (p1 : -2147483648 ≤ w ∧ w < 2147483648) (hk : ∀ (r : Int) (S' : fxS) , (fxfr [(49, 0)] S S' ∧ (-2147483648 ≤ r ∧ r < 2147483648)) → k (some (.inl r)) S') : ∀ m : Nat, (∀ (u j : Int) (S1 : fxS), (fxfr [(49, 0)] S S1) → (-2147483648 ≤ u ∧ u < 2147483648) → (0 ≤ j ∧ j ≤ 200) → (COL S1) → 201 - j ≤ (m : Int) → fZ l 300 k 62 [some (.inr (.inr (49, 0))), some (.inl w), some (.inl u), some (.inl j)] [] S1) := by
  intro m
  induction m with
  | zero =>
    intro u j S1 hf i0 i1 i2 hmu
    exfalso
    omega
  | succ m ih =>
    intro u j S1 hf i0 i1 i2 hmu
    refine fxz_300 400 ?_
    intro z1 (z1a : (0 : Int) ≤ z1) (z1b : z1 ≤ (200 : Int)) (z1c : z1 = S1 49 0 7)
    refine And.intro (fun (h2 : (z1 ≤ j : Prop)) => ?_) (fun (h2 : (j < z1 : Prop)) => ?_)
    ·
      refine And.intro (fun (h3 : w = (0 : Int)) => ?_) (fun (h3 : w ≠ (0 : Int)) => ?_)
      ·
        intro z4 (z4a : (-2147483648 : Int) ≤ z4) (z4b : z4 ≤ (2147483647 : Int)) (z4c : z4 = S1 49 0 11)
        exact hk z4 S1 ⟨hf, by omega⟩
      refine And.intro (fun (h5 : w = (1 : Int)) => ?_) (fun (h5 : w ≠ (1 : Int)) => ?_)
      ·
        refine c_StubHouseModel_inUse (s := (0 : Int)) i2 (show -2147483648 ≤ (0 : Int) ∧ (0 : Int) < 2147483648 by omega) (fun (z6 : Int) (q7 : 0 ≤ z6 ∧ z6 ≤ 1920) => ?_)
        exact hk z6 S1 ⟨hf, by omega⟩
      refine And.intro (fun (h8 : w = (2 : Int)) => ?_) (fun (h8 : w ≠ (2 : Int)) => ?_)
      ·
        refine c_StubHouseModel_inUse (s := (1 : Int)) i2 (show -2147483648 ≤ (1 : Int) ∧ (1 : Int) < 2147483648 by omega) (fun (z9 : Int) (q10 : 0 ≤ z9 ∧ z9 ≤ 1920) => ?_)
        exact hk z9 S1 ⟨hf, by omega⟩
      refine And.intro (fun (h11 : w = (3 : Int)) => ?_) (fun (h11 : w ≠ (3 : Int)) => ?_)
      ·
        refine c_StubHouseModel_heldBlocks   (fun (z12 : Int) (q13 : 0 ≤ z12 ∧ z12 ≤ 208) => ?_)
        exact hk z12 S1 ⟨hf, by omega⟩
      refine And.intro (fun (h14 : w = (4 : Int)) => ?_) (fun (h14 : w ≠ (4 : Int)) => ?_)
      ·
        refine c_freeIn_0_48   (fun (z15 : Int) (q16 : z15 = fcn (S1 56 0) 0 48 ∧ 0 ≤ z15 ∧ z15 ≤ 208) => ?_)
        exact hk z15 S1 ⟨hf, by omega⟩
      refine And.intro (fun (h17 : w = (5 : Int)) => ?_) (fun (h17 : w ≠ (5 : Int)) => ?_)
      ·
        refine c_freeIn_48_208   (fun (z18 : Int) (q19 : z18 = fcn (S1 56 0) 48 160 ∧ 0 ≤ z18 ∧ z18 ≤ 208) => ?_)
        exact hk z18 S1 ⟨hf, by omega⟩
      refine And.intro (fun (h20 : w = (6 : Int)) => ?_) (fun (h20 : w ≠ (6 : Int)) => ?_)
      ·
        intro z21 (z21a : (0 : Int) ≤ z21) (z21b : z21 ≤ (60 : Int)) (z21c : z21 = S1 49 0 36)
        exact hk z21 S1 ⟨hf, by omega⟩
      refine And.intro (fun (h22 : w = (7 : Int)) => ?_) (fun (h22 : w ≠ (7 : Int)) => ?_)
      ·
        intro z23 (z23a : (0 : Int) ≤ z23) (z23b : z23 ≤ (20 : Int)) (z23c : z23 = S1 49 0 38)
        exact hk z23 S1 ⟨hf, by omega⟩
      refine And.intro (fun (h24 : w = (8 : Int)) => ?_) (fun (h24 : w ≠ (8 : Int)) => ?_)
      ·
        refine And.intro (show 0 ≤ (2520 : Int) ∧ (2520 : Int) < 2561 by omega) ?_
        intro z25 (z25a : (-2147483648 : Int) ≤ z25) (z25b : z25 ≤ (2147483647 : Int)) (z25c : z25 = S1 50 0 2520)
        exact hk z25 S1 ⟨hf, by omega⟩
      refine And.intro (fun (h26 : w = (9 : Int)) => ?_) (fun (h26 : w ≠ (9 : Int)) => ?_)
      ·
        intro z27 (z27a : (0 : Int) ≤ z27) (z27b : z27 ≤ (200 : Int)) (z27c : z27 = S1 49 0 7)
        exact hk z27 S1 ⟨hf, by omega⟩
      refine And.intro (fun (h28 : w = (10 : Int)) => ?_) (fun (h28 : w ≠ (10 : Int)) => ?_)
      ·
        exact hk u S1 ⟨hf, by omega⟩
      refine And.intro (fun (h29 : w = (11 : Int)) => ?_) (fun (h29 : w ≠ (11 : Int)) => ?_)
      ·
        refine And.intro (show 0 ≤ (0 : Int) ∧ (0 : Int) < 2 by omega) ?_
        intro z30 (z30a : (0 : Int) ≤ z30) (z30b : z30 ≤ (1 : Int)) (z30c : z30 = S1 79 0 0)
        refine And.intro (fun (h31 : (z30 = (0 : Int) : Prop)) => ?_) (fun (h31 : (z30 ≠ (0 : Int) : Prop)) => ?_)
        ·
          exact hk (0 : Int) S1 ⟨hf, by omega⟩
        ·
          exact hk (1 : Int) S1 ⟨hf, by omega⟩
      refine And.intro (fun (h32 : w = (12 : Int)) => ?_) (fun (h32 : w ≠ (12 : Int)) => ?_)
      ·
        refine And.intro (show 0 ≤ (1 : Int) ∧ (1 : Int) < 2 by omega) ?_
        intro z33 (z33a : (0 : Int) ≤ z33) (z33b : z33 ≤ (1 : Int)) (z33c : z33 = S1 79 0 1)
        refine And.intro (fun (h34 : (z33 = (0 : Int) : Prop)) => ?_) (fun (h34 : (z33 ≠ (0 : Int) : Prop)) => ?_)
        ·
          exact hk (0 : Int) S1 ⟨hf, by omega⟩
        ·
          exact hk (1 : Int) S1 ⟨hf, by omega⟩
      refine And.intro (fun (h35 : w = (13 : Int)) => ?_) (fun (h35 : w ≠ (13 : Int)) => ?_)
      ·
        intro z36 (z36a : (-2 : Int) ≤ z36) (z36b : z36 ≤ (5 : Int)) (z36c : z36 = S1 49 0 39)
        exact hk z36 S1 ⟨hf, by omega⟩
      refine And.intro (fun (h37 : w = (14 : Int)) => ?_) (fun (h37 : w ≠ (14 : Int)) => ?_)
      ·
        intro z38 (z38a : (0 : Int) ≤ z38) (z38b : z38 ≤ (1 : Int)) (z38c : z38 = S1 49 0 15)
        refine And.intro (fun (h39 : (z38 = (0 : Int) : Prop)) => ?_) (fun (h39 : (z38 ≠ (0 : Int) : Prop)) => ?_)
        ·
          exact hk (0 : Int) S1 ⟨hf, by omega⟩
        ·
          exact hk (1 : Int) S1 ⟨hf, by omega⟩
      refine And.intro (fun (h40 : w = (15 : Int)) => ?_) (fun (h40 : w ≠ (15 : Int)) => ?_)
      ·
        intro z41 (z41a : (0 : Int) ≤ z41) (z41b : z41 ≤ (256 : Int)) (z41c : z41 = S1 49 0 17)
        exact hk z41 S1 ⟨hf, by omega⟩
      refine And.intro (fun (h42 : w = (16 : Int)) => ?_) (fun (h42 : w ≠ (16 : Int)) => ?_)
      ·
        intro z43 (z43a : (-2147483648 : Int) ≤ z43) (z43b : z43 ≤ (2147483647 : Int)) (z43c : z43 = S1 49 0 12)
        exact hk z43 S1 ⟨hf, by omega⟩
      refine And.intro (fun (h44 : w = (17 : Int)) => ?_) (fun (h44 : w ≠ (17 : Int)) => ?_)
      ·
        intro z45 (z45a : (-2147483648 : Int) ≤ z45) (z45b : z45 ≤ (2147483647 : Int)) (z45c : z45 = S1 49 0 13)
        exact hk z45 S1 ⟨hf, by omega⟩
      refine And.intro (fun (h46 : w = (18 : Int)) => ?_) (fun (h46 : w ≠ (18 : Int)) => ?_)
      ·
        refine c_StubHouseModel_nodes  i2 (fun (z47 : Int) (q48 : 0 ≤ z47 ∧ z47 ≤ 60) => ?_)
        exact hk z47 S1 ⟨hf, by omega⟩
      refine And.intro (fun (h49 : w = (19 : Int)) => ?_) (fun (h49 : w ≠ (19 : Int)) => ?_)
      ·
        intro z50 (z50a : (-2147483648 : Int) ≤ z50) (z50b : z50 ≤ (2147483647 : Int)) (z50c : z50 = S1 49 0 14)
        exact hk z50 S1 ⟨hf, by omega⟩
      refine c_StubHouseModel_nodes  i2 (fun (z51 : Int) (q52 : 0 ≤ z51 ∧ z51 ≤ 60) => ?_)
      exact hk z51 S1 ⟨hf, by omega⟩
    ·
      refine And.intro (show 0 ≤ j ∧ j < 200 by omega) ?_
      intro z53 (z53a : (0 : Int) ≤ z53) (z53b : z53 ≤ (1000 : Int)) (z53c : z53 = S1 55 0 (j).toNat)
      intro z54 (z54a : -2147483648 ≤ z54) (z54b : z54 < 2147483648) (z54c : -2147483648 ≤ (u + z53) ∧ (u + z53) < 2147483648 → z54 = (u + z53))
      refine And.intro (by decide) ?_
      refine And.intro (by decide) (And.intro (show -2147483648 ≤ j + (1 : Int) ∧ j + (1 : Int) < 2147483648 by omega) ?_)
      exact ih z54 (j + (1 : Int)) S1 hf (by omega) (by omega) i2 (by omega)
theorem c_StubHouseModel_told {l : Launch} {k : fxK} {S : fxS} {w : Int} (p0 : COL S) (p1 : -2147483648 ≤ w ∧ w < 2147483648) (hk : ∀ (r : Int) (S' : fxS) , (fxfr [(49, 0)] S S' ∧ (-2147483648 ≤ r ∧ r < 2147483648)) → k (some (.inl r)) S') : fC l 300 [.inr (.inr (49, 0)), .inl w] S k := by
  refine fxe_300 (Nat.le_of_ble_eq_true rfl) (fxz_300 400 ?_)
  refine And.intro (show (-2147483648 : Int) ≤ (0 : Int) ∧ (0 : Int) ≤ (2147483647 : Int) by omega) ?_
  have g56 : COL (fx_up S 49 0 0 (0 : Int)) := fx_pup COL_stab rfl p0
  refine c_StubHouseModel_in (x := w) (a := (0 : Int)) (b := (19 : Int))  (fun (z57 : Int) (q58 : 0 ≤ z57 ∧ z57 ≤ 1 ∧ (z57 = 1 → (0 : Int) ≤ w ∧ w ≤ (19 : Int)) ∧ (z57 = 0 → w < (0 : Int) ∨ (19 : Int) < w)) => ?_)
  refine And.intro (fun (h59 : (z57 ≠ (0 : Int) : Prop)) => ?_) (fun (h59 : (z57 = (0 : Int) : Prop)) => ?_)
  ·
    intro z60 (z60a : (0 : Int) ≤ z60) (z60b : z60 ≤ (1 : Int)) (z60c : z60 = S 49 0 15)
    refine And.intro (fun (h61 : (z60 = (0 : Int) : Prop)) => ?_) (fun (h61 : (z60 ≠ (0 : Int) : Prop)) => ?_)
    ·
      refine And.intro (by decide) ?_
      refine And.intro (by decide) ?_
      exact (z_StubHouseModel_told p0 p1 hk (201 - (0 : Int)).toNat) (0 : Int) (0 : Int) (fx_up S 49 0 0 (0 : Int)) (fxfr_up fxfr_rfl rfl) (by omega) (by omega) g56 (by omega)
    ·
      refine c_StubHouseModel_in (x := w) (a := (1 : Int)) (b := (5 : Int))  (fun (z62 : Int) (q63 : 0 ≤ z62 ∧ z62 ≤ 1 ∧ (z62 = 1 → (1 : Int) ≤ w ∧ w ≤ (5 : Int)) ∧ (z62 = 0 → w < (1 : Int) ∨ (5 : Int) < w)) => ?_)
      refine And.intro (fun (h64 : (z62 ≠ (0 : Int) : Prop)) => ?_) (fun (h64 : (z62 = (0 : Int) : Prop)) => ?_)
      ·
        exact hk (0 : Int) (fx_up S 49 0 0 (0 : Int)) ⟨(fxfr_up fxfr_rfl rfl), by omega⟩
      ·
        refine And.intro (fun (h65 : (w = (9 : Int) : Prop)) => ?_) (fun (h65 : (w ≠ (9 : Int) : Prop)) => ?_)
        ·
          exact hk (0 : Int) (fx_up S 49 0 0 (0 : Int)) ⟨(fxfr_up fxfr_rfl rfl), by omega⟩
        ·
          refine And.intro (fun (h66 : (w = (10 : Int) : Prop)) => ?_) (fun (h66 : (w ≠ (10 : Int) : Prop)) => ?_)
          ·
            exact hk (0 : Int) (fx_up S 49 0 0 (0 : Int)) ⟨(fxfr_up fxfr_rfl rfl), by omega⟩
          ·
            refine And.intro (fun (h67 : (w ≠ (18 : Int) : Prop)) => ?_) (fun (h67 : (w = (18 : Int) : Prop)) => ?_)
            ·
              refine And.intro (by decide) ?_
              refine And.intro (by decide) ?_
              exact (z_StubHouseModel_told p0 p1 hk (201 - (0 : Int)).toNat) (0 : Int) (0 : Int) (fx_up S 49 0 0 (0 : Int)) (fxfr_up fxfr_rfl rfl) (by omega) (by omega) g56 (by omega)
            ·
              exact hk (0 : Int) (fx_up S 49 0 0 (0 : Int)) ⟨(fxfr_up fxfr_rfl rfl), by omega⟩
  ·
    exact hk (-1 : Int) (fx_up S 49 0 0 (0 : Int)) ⟨(fxfr_up fxfr_rfl rfl), by omega⟩
