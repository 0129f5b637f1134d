/-! contracts of the reference: calls that leave tapes alone -/
theorem z_StubHouseModel_write {l : Launch} {k : fxK} {S : fxS} {f : Int} {p : Int} (p0 : COL S) (p1 : WTM S) (p2 : INJ S) (p3 : AON S) (p4 : USE S) (p5 : SNP S) (p6 : REC S) (p7 : -2147483648 ≤ f ∧ f < 2147483648) (p8 : -2147483648 ≤ p ∧ p < 2147483648) (hk : ∀ (r : Int) (S' : fxS) , (fxfr [(49, 0), (49, 7), (49, 14), (49, 17), (49, 36), (50, 9999), (52, 9999), (53, 9999), (55, 9999), (56, 9999), (57, 9999), (58, 9999), (75, 9999)] S S' ∧ (-2147483648 ≤ r ∧ r < 2147483648) ∧ (COL S') ∧ (WTM S') ∧ (INJ S') ∧ (AON S') ∧ (USE S') ∧ (SNP S') ∧ (REC S')) → k (some (.inl r)) S') : ∀ m : Nat, (∀ (e j : Int) (S1 : fxS), (fxfr [(49, 0), (49, 7), (49, 14), (49, 17), (49, 36), (50, 9999), (52, 9999), (53, 9999), (55, 9999), (56, 9999), (57, 9999), (58, 9999), (75, 9999)] S S1) → (0 ≤ f ∧ f < 60) → (0 ≤ p ∧ p ≤ aN S1 f 3 ∧ e = (p + S 49 0 17 - 1) / 32) → (1 ≤ S 49 0 17 ∧ p + S 49 0 17 ≤ 1024 ∧ S1 49 0 17 = S 49 0 17) → (p / 32 ≤ j ∧ j ≤ e + 1) → (e - j + 1 ≤ fcn (S1 56 0) 0 208) → (aN S1 f 0 = 2) → (aN S1 f 3 ≤ 0 ∨ 0 ≤ aN S1 f 10) → (0 ≤ S1 49 0 7 ∧ S1 49 0 7 ≤ 199) → (COL S1) → (WTM S1) → (INJ S1) → (AON S1) → (USE S1) → (SNP S1) → (REC S1) → (GEB f (p / 32) j S1) → 1000 - j ≤ (m : Int) → fZ l 110 k 123 [some (.inr (.inr (49, 0))), some (.inl f), some (.inl p), none, none, some (.inl e), some (.inl j), none] [] S1) ∧ (∀ (j : Int) (S1 : fxS), (fxfr [(49, 0), (49, 7), (49, 14), (49, 17), (49, 36), (50, 9999), (52, 9999), (53, 9999), (55, 9999), (56, 9999), (57, 9999), (58, 9999), (75, 9999)] S S1) → (0 ≤ f ∧ f < 60) → (0 ≤ p ∧ p ≤ aN S1 f 3) → (1 ≤ S 49 0 17 ∧ p + S 49 0 17 ≤ 1024 ∧ S1 49 0 17 = S 49 0 17) → (0 ≤ j ∧ j ≤ 256) → (aN S1 f 0 = 2) → (aN S1 f 3 ≤ 0 ∨ 0 ≤ aN S1 f 10) → (0 ≤ S1 49 0 7 ∧ S1 49 0 7 ≤ 199) → (COL S1) → (WTM S1) → (INJ S1) → (AON S1) → (USE S1) → (SNP S1) → (REC S1) → (GEB f (p / 32) ((p + S 49 0 17 - 1) / 32 + 1) S1) → 300 - j ≤ (m : Int) → fZ l 110 k 146 [some (.inr (.inr (49, 0))), some (.inl f), some (.inl p), none, none, none, some (.inl j), none] [] S1) := by
  intro m
  induction m with
  | zero =>
    refine ⟨?_, ?_⟩
    · intro e j S1 hf i0 i1 i2 i3 i4 i5 i6 i7 i8 i9 i10 i11 i12 i13 i14 i15 hmu
      exfalso
      omega
    · intro j S1 hf i0 i1 i2 i3 i4 i5 i6 i7 i8 i9 i10 i11 i12 i13 i14 hmu
      exfalso
      omega
  | succ m ih =>
    refine ⟨?_, ?_⟩
    · intro e j S1 hf i0 i1 i2 i3 i4 i5 i6 i7 i8 i9 i10 i11 i12 i13 i14 i15 hmu
      refine fxz_110 400 ?_
      refine And.intro (fun (h1 : (e < j : Prop)) => ?_) (fun (h1 : (j ≤ e : Prop)) => ?_)
      ·
        refine And.intro (by decide) ?_
        have gq : GEB f (p / 32) ((p + S 49 0 17 - 1) / 32 + 1) S1 := GEB_to i15 (by omega)
        exact ih.2 (0 : Int) S1 hf (by omega) (by omega) (by omega) (by omega) (by omega) (by omega) (by omega) i8 i9 i10 i11 i12 i13 i14 gq (by omega)
      ·
        refine c_StubHouseModel_renew (f := f) (p := j) i8 i9 i10 i11 i12 i14 (show 0 ≤ f ∧ f < 60 by omega) (show 0 ≤ j ∧ j < 32 by omega) (show aN S1 f 0 = 2 by omega) (show 1 ≤ fcn (S1 56 0) 0 208 by omega) (show j ≠ 0 ∨ 0 ≤ aN S1 f 10 ∨ aN S1 f 3 ≤ 0 by omega) (fun (S2 : fxS) ⟨(f3 : fxfr [(50, 9999), (56, 9999), (57, 9999)] S1 S2), (g4 : COL S2), (g5 : WTM S2), (g6 : INJ S2), (g7 : AON S2), (g8 : USE S2), (g9 : REC S2), (g10 : RNW f j S1 S2)⟩ => ?_)
        have w11 : S2 49 0 7 = S1 49 0 7 := f3 49 0 7 rfl
        have w12 : S2 49 0 17 = S1 49 0 17 := f3 49 0 17 rfl
        have g13 : SNP S2 := fx_pfr SNP_stab f3 rfl i13
        have rn := (by assumption : RNW f j S1 S2)
        have e0 : aN S2 f 0 = aN S1 f 0 := rn.1 f 0 (by omega) (by omega) (by omega) (by omega) (Or.inr (by omega))
        have e3 : aN S2 f 3 = aN S1 f 3 := rn.1 f 3 (by omega) (by omega) (by omega) (by omega) (Or.inr (by omega))
        have e10 : 0 ≤ aN S1 f 10 → 0 ≤ aN S2 f 10 := RNW_10 rn (by omega)
        have ef := rn.2.2
        have gb : GEB f (p / 32) (j + (1 : Int)) S2 := GEB_rnw i15 rn (by omega)
        refine And.intro (by decide) (And.intro (show -2147483648 ≤ j + (1 : Int) ∧ j + (1 : Int) < 2147483648 by omega) ?_)
        exact ih.1 e (j + (1 : Int)) S2 (fxfr_tr hf f3 rfl) (by omega) (by omega) (by omega) (by omega) (by omega) (by omega) (by omega) (by omega) g4 g5 g6 g7 g8 g13 g9 gb (by omega)
    · intro j S1 hf i0 i1 i2 i3 i4 i5 i6 i7 i8 i9 i10 i11 i12 i13 i14 hmu
      refine fxz_110 400 ?_
      intro z15 (z15a : (0 : Int) ≤ z15) (z15b : z15 ≤ (256 : Int)) (z15c : z15 = S1 49 0 17)
      refine And.intro (fun (h16 : (z15 ≤ j : Prop)) => ?_) (fun (h16 : (j < z15 : Prop)) => ?_)
      ·
        intro z17 (z17a : (0 : Int) ≤ z17) (z17b : z17 ≤ (256 : Int)) (z17c : z17 = S1 49 0 17)
        obtain rfl : z15 = z17 := by omega
        refine And.intro (show -2147483648 ≤ (p + z15) ∧ (p + z15) < 2147483648 by omega) ?_
        refine c_at3 (n := f) i7 (show 0 ≤ f ∧ f < 60 by omega) (fun (z18 : Int) (q19 : z18 = aN S1 f 3 ∧ 0 ≤ z18 ∧ z18 ≤ 1024) => ?_)
        refine And.intro (fun (h20 : ((p + z15) ≤ z18 : Prop)) => ?_) (fun (h20 : (z18 < (p + z15) : Prop)) => ?_)
        ·
          refine c_at3 (n := f) i7 (show 0 ≤ f ∧ f < 60 by omega) (fun (z21 : Int) (q22 : z21 = aN S1 f 3 ∧ 0 ≤ z21 ∧ z21 ≤ 1024) => ?_)
          refine c_set (n := f) (w := (3 : Int)) (v := z21) (show 0 ≤ f ∧ f < 60 by omega) (show 0 ≤ (3 : Int) ∧ (3 : Int) < 42 by omega) (show -2147483648 ≤ z21 ∧ z21 < 2147483648 by omega) ?_
          have w23 : (fx_up S1 50 0 (42 * f + (3 : Int)).toNat z21) 49 0 7 = S1 49 0 7 := rfl
          have w24 : (fx_up S1 50 0 (42 * f + (3 : Int)).toNat z21) 49 0 17 = S1 49 0 17 := rfl
          have w25 : aN (fx_up S1 50 0 (42 * f + (3 : Int)).toNat z21) f (0 : Int) = aN S1 f (0 : Int) := (aN_ne (S := S1) (by omega) (by omega) (by omega))
          have w26 : aN (fx_up S1 50 0 (42 * f + (3 : Int)).toNat z21) f (3 : Int) = z21 := aN_eq
          have w27 : aN (fx_up S1 50 0 (42 * f + (3 : Int)).toNat z21) f (10 : Int) = aN S1 f (10 : Int) := (aN_ne (S := S1) (by omega) (by omega) (by omega))
          have g28 : COL (fx_up S1 50 0 (42 * f + (3 : Int)).toNat z21) := COL_set i7 (by omega) (by omega) (by omega)
          have g29 : WTM (fx_up S1 50 0 (42 * f + (3 : Int)).toNat z21) := WTM_set i8 (by omega) (by omega)
          have g30 : INJ (fx_up S1 50 0 (42 * f + (3 : Int)).toNat z21) := INJ_set i9 (by omega) (by omega)
          have g31 : USE (fx_up S1 50 0 (42 * f + (3 : Int)).toNat z21) := USE_set i11 (by omega) (by omega)
          have g32 : SNP (fx_up S1 50 0 (42 * f + (3 : Int)).toNat z21) := fx_pup SNP_stab rfl i12
          have g33 : REC (fx_up S1 50 0 (42 * f + (3 : Int)).toNat z21) := REC_set i13 (by omega) (by omega)
          have g34 : GEB f (p / 32) ((p + S 49 0 17 - 1) / 32 + 1) (fx_up S1 50 0 (42 * f + (3 : Int)).toNat z21) := GEB_set i14 (by omega) (by omega)
          have ao : AON (fx_up S1 50 0 (42 * f + (3 : Int)).toNat z21) := AON_grow (p := p) (c := S 49 0 17) i10 (by omega) i14 (by omega) (by omega) (by omega) (by omega)
          refine And.intro (show (0 : Int) ≤ (0 : Int) ∧ (0 : Int) ≤ (256 : Int) by omega) ?_
          have w35 : aN (fx_up (fx_up S1 50 0 (42 * f + (3 : Int)).toNat z21) 49 0 17 (0 : Int)) f (0 : Int) = aN (fx_up S1 50 0 (42 * f + (3 : Int)).toNat z21) f (0 : Int) := (aN_o rfl)
          have w36 : aN (fx_up (fx_up S1 50 0 (42 * f + (3 : Int)).toNat z21) 49 0 17 (0 : Int)) f (3 : Int) = aN (fx_up S1 50 0 (42 * f + (3 : Int)).toNat z21) f (3 : Int) := (aN_o rfl)
          have w37 : aN (fx_up (fx_up S1 50 0 (42 * f + (3 : Int)).toNat z21) 49 0 17 (0 : Int)) f (10 : Int) = aN (fx_up S1 50 0 (42 * f + (3 : Int)).toNat z21) f (10 : Int) := (aN_o rfl)
          have w38 : (fx_up (fx_up S1 50 0 (42 * f + (3 : Int)).toNat z21) 49 0 17 (0 : Int)) 49 0 7 = (fx_up S1 50 0 (42 * f + (3 : Int)).toNat z21) 49 0 7 := if_neg (fun q => absurd q.2.2 (by decide))
          have w39 : (fx_up (fx_up S1 50 0 (42 * f + (3 : Int)).toNat z21) 49 0 17 (0 : Int)) 49 0 17 = (0 : Int) := fx_up_at _ _ _ _ _
          have g40 : COL (fx_up (fx_up S1 50 0 (42 * f + (3 : Int)).toNat z21) 49 0 17 (0 : Int)) := fx_pup COL_stab rfl g28
          have g41 : WTM (fx_up (fx_up S1 50 0 (42 * f + (3 : Int)).toNat z21) 49 0 17 (0 : Int)) := fx_pup WTM_stab rfl g29
          have g42 : INJ (fx_up (fx_up S1 50 0 (42 * f + (3 : Int)).toNat z21) 49 0 17 (0 : Int)) := fx_pup INJ_stab rfl g30
          have g43 : USE (fx_up (fx_up S1 50 0 (42 * f + (3 : Int)).toNat z21) 49 0 17 (0 : Int)) := fx_pup USE_stab rfl g31
          have g44 : SNP (fx_up (fx_up S1 50 0 (42 * f + (3 : Int)).toNat z21) 49 0 17 (0 : Int)) := fx_pup SNP_stab rfl g32
          have g45 : REC (fx_up (fx_up S1 50 0 (42 * f + (3 : Int)).toNat z21) 49 0 17 (0 : Int)) := fx_pup REC_stab rfl g33
          have g46 : GEB f (p / 32) ((p + S 49 0 17 - 1) / 32 + 1) (fx_up (fx_up S1 50 0 (42 * f + (3 : Int)).toNat z21) 49 0 17 (0 : Int)) := fx_pup GEB_stab rfl g34
          have g47 : AON (fx_up (fx_up S1 50 0 (42 * f + (3 : Int)).toNat z21) 49 0 17 (0 : Int)) := fx_pup AON_stab rfl ao
          refine c_StubHouseModel_changed (f := f) g40 g41 g42 g47 g43 g45 (show 0 ≤ f ∧ f < 60 by omega) (fun (S48 : fxS) ⟨(f49 : fxfr [(49, 14), (50, 9999), (52, 9999)] (fx_up (fx_up S1 50 0 (42 * f + (3 : Int)).toNat z21) 49 0 17 (0 : Int)) S48), (g50 : COL S48), (g51 : WTM S48), (g52 : INJ S48), (g53 : AON S48), (g54 : USE S48), (g55 : REC S48)⟩ => ?_)
          have w56 : S48 49 0 7 = (fx_up (fx_up S1 50 0 (42 * f + (3 : Int)).toNat z21) 49 0 17 (0 : Int)) 49 0 7 := f49 49 0 7 rfl
          have w57 : S48 49 0 17 = (fx_up (fx_up S1 50 0 (42 * f + (3 : Int)).toNat z21) 49 0 17 (0 : Int)) 49 0 17 := f49 49 0 17 rfl
          have g58 : SNP S48 := fx_pfr SNP_stab f49 rfl g44
          refine c_StubHouseModel_blocks (n := f) g50 (show 0 ≤ f ∧ f < 60 by omega) (fun (z59 : Int) (q60 : z59 = (aN S48 f 3 + 31) / 32 ∧ 0 ≤ z59 ∧ z59 ≤ 32) => ?_)
          refine And.intro (show -2147483648 ≤ ((4 : Int) * z59) ∧ ((4 : Int) * z59) < 2147483648 by omega) ?_
          refine And.intro (show -2147483648 ≤ ((8 : Int) + ((4 : Int) * z59)) ∧ ((8 : Int) + ((4 : Int) * z59)) < 2147483648 by omega) ?_
          refine c_StubHouseModel_record (e := ((8 : Int) + ((4 : Int) * z59))) g50 g51 g52 g53 g58 (show S48 49 0 7 ≤ 199 by omega) (show 0 ≤ ((8 : Int) + ((4 : Int) * z59)) ∧ ((8 : Int) + ((4 : Int) * z59)) ≤ 1000 by omega) (fun (S61 : fxS) ⟨(f62 : fxfr [(49, 7), (53, 9999), (55, 9999)] S48 S61), (g63 : SNP S61)⟩ => ?_)
          have w64 : aN S61 f (0 : Int) = aN S48 f (0 : Int) := (aN_fr f62 rfl)
          have w65 : aN S61 f (3 : Int) = aN S48 f (3 : Int) := (aN_fr f62 rfl)
          have w66 : aN S61 f (10 : Int) = aN S48 f (10 : Int) := (aN_fr f62 rfl)
          have w67 : S61 49 0 17 = S48 49 0 17 := f62 49 0 17 rfl
          have g68 : COL S61 := fx_pfr COL_stab f62 rfl g50
          have g69 : WTM S61 := fx_pfr WTM_stab f62 rfl g51
          have g70 : INJ S61 := fx_pfr INJ_stab f62 rfl g52
          have g71 : USE S61 := fx_pfr USE_stab f62 rfl g54
          have g72 : REC S61 := fx_pfr REC_stab f62 rfl g55
          have g73 : AON S61 := fx_pfr AON_stab f62 rfl g53
          have rd : RECd S61 := g72.1
          refine c_StubHouseModel_purge  g68 rd (fun (S74 : fxS) ⟨(f75 : fxfr [(49, 36), (75, 9999)] S61 S74), (g76 : REC S74)⟩ => ?_)
          have w77 : aN S74 f (0 : Int) = aN S61 f (0 : Int) := (aN_fr f75 rfl)
          have w78 : aN S74 f (3 : Int) = aN S61 f (3 : Int) := (aN_fr f75 rfl)
          have w79 : aN S74 f (10 : Int) = aN S61 f (10 : Int) := (aN_fr f75 rfl)
          have w80 : S74 49 0 7 = S61 49 0 7 := f75 49 0 7 rfl
          have w81 : S74 49 0 17 = S61 49 0 17 := f75 49 0 17 rfl
          have g82 : COL S74 := fx_pfr COL_stab f75 rfl g68
          have g83 : WTM S74 := fx_pfr WTM_stab f75 rfl g69
          have g84 : INJ S74 := fx_pfr INJ_stab f75 rfl g70
          have g85 : USE S74 := fx_pfr USE_stab f75 rfl g71
          have g86 : SNP S74 := fx_pfr SNP_stab f75 rfl g63
          have g87 : AON S74 := fx_pfr AON_stab f75 rfl g73
          refine c_at3 (n := f) g82 (show 0 ≤ f ∧ f < 60 by omega) (fun (z88 : Int) (q89 : z88 = aN S74 f 3 ∧ 0 ≤ z88 ∧ z88 ≤ 1024) => ?_)
          exact hk z88 S74 ⟨(fxfr_tr (fxfr_tr (fxfr_tr (fxfr_up (fxfr_up hf rfl) rfl) f49 rfl) f62 rfl) f75 rfl), by omega, g82, g83, g84, g87, g85, g86, g76⟩
        ·
          intro z90 (z90a : (0 : Int) ≤ z90) (z90b : z90 ≤ (256 : Int)) (z90c : z90 = S1 49 0 17)
          obtain rfl : z15 = z90 := by omega
          refine And.intro (show -2147483648 ≤ (p + z15) ∧ (p + z15) < 2147483648 by omega) ?_
          refine c_set (n := f) (w := (3 : Int)) (v := (p + z15)) (show 0 ≤ f ∧ f < 60 by omega) (show 0 ≤ (3 : Int) ∧ (3 : Int) < 42 by omega) (show -2147483648 ≤ (p + z15) ∧ (p + z15) < 2147483648 by omega) ?_
          have w91 : (fx_up S1 50 0 (42 * f + (3 : Int)).toNat (p + z15)) 49 0 7 = S1 49 0 7 := rfl
          have w92 : (fx_up S1 50 0 (42 * f + (3 : Int)).toNat (p + z15)) 49 0 17 = S1 49 0 17 := rfl
          have w93 : aN (fx_up S1 50 0 (42 * f + (3 : Int)).toNat (p + z15)) f (0 : Int) = aN S1 f (0 : Int) := (aN_ne (S := S1) (by omega) (by omega) (by omega))
          have w94 : aN (fx_up S1 50 0 (42 * f + (3 : Int)).toNat (p + z15)) f (3 : Int) = (p + z15) := aN_eq
          have w95 : aN (fx_up S1 50 0 (42 * f + (3 : Int)).toNat (p + z15)) f (10 : Int) = aN S1 f (10 : Int) := (aN_ne (S := S1) (by omega) (by omega) (by omega))
          have g96 : COL (fx_up S1 50 0 (42 * f + (3 : Int)).toNat (p + z15)) := COL_set i7 (by omega) (by omega) (by omega)
          have g97 : WTM (fx_up S1 50 0 (42 * f + (3 : Int)).toNat (p + z15)) := WTM_set i8 (by omega) (by omega)
          have g98 : INJ (fx_up S1 50 0 (42 * f + (3 : Int)).toNat (p + z15)) := INJ_set i9 (by omega) (by omega)
          have g99 : USE (fx_up S1 50 0 (42 * f + (3 : Int)).toNat (p + z15)) := USE_set i11 (by omega) (by omega)
          have g100 : SNP (fx_up S1 50 0 (42 * f + (3 : Int)).toNat (p + z15)) := fx_pup SNP_stab rfl i12
          have g101 : REC (fx_up S1 50 0 (42 * f + (3 : Int)).toNat (p + z15)) := REC_set i13 (by omega) (by omega)
          have g102 : GEB f (p / 32) ((p + S 49 0 17 - 1) / 32 + 1) (fx_up S1 50 0 (42 * f + (3 : Int)).toNat (p + z15)) := GEB_set i14 (by omega) (by omega)
          have ao : AON (fx_up S1 50 0 (42 * f + (3 : Int)).toNat (p + z15)) := AON_grow (p := p) (c := S 49 0 17) i10 (by omega) i14 (by omega) (by omega) (by omega) (by omega)
          refine And.intro (show (0 : Int) ≤ (0 : Int) ∧ (0 : Int) ≤ (256 : Int) by omega) ?_
          have w103 : aN (fx_up (fx_up S1 50 0 (42 * f + (3 : Int)).toNat (p + z15)) 49 0 17 (0 : Int)) f (0 : Int) = aN (fx_up S1 50 0 (42 * f + (3 : Int)).toNat (p + z15)) f (0 : Int) := (aN_o rfl)
          have w104 : aN (fx_up (fx_up S1 50 0 (42 * f + (3 : Int)).toNat (p + z15)) 49 0 17 (0 : Int)) f (3 : Int) = aN (fx_up S1 50 0 (42 * f + (3 : Int)).toNat (p + z15)) f (3 : Int) := (aN_o rfl)
          have w105 : aN (fx_up (fx_up S1 50 0 (42 * f + (3 : Int)).toNat (p + z15)) 49 0 17 (0 : Int)) f (10 : Int) = aN (fx_up S1 50 0 (42 * f + (3 : Int)).toNat (p + z15)) f (10 : Int) := (aN_o rfl)
          have w106 : (fx_up (fx_up S1 50 0 (42 * f + (3 : Int)).toNat (p + z15)) 49 0 17 (0 : Int)) 49 0 7 = (fx_up S1 50 0 (42 * f + (3 : Int)).toNat (p + z15)) 49 0 7 := if_neg (fun q => absurd q.2.2 (by decide))
          have w107 : (fx_up (fx_up S1 50 0 (42 * f + (3 : Int)).toNat (p + z15)) 49 0 17 (0 : Int)) 49 0 17 = (0 : Int) := fx_up_at _ _ _ _ _
          have g108 : COL (fx_up (fx_up S1 50 0 (42 * f + (3 : Int)).toNat (p + z15)) 49 0 17 (0 : Int)) := fx_pup COL_stab rfl g96
          have g109 : WTM (fx_up (fx_up S1 50 0 (42 * f + (3 : Int)).toNat (p + z15)) 49 0 17 (0 : Int)) := fx_pup WTM_stab rfl g97
          have g110 : INJ (fx_up (fx_up S1 50 0 (42 * f + (3 : Int)).toNat (p + z15)) 49 0 17 (0 : Int)) := fx_pup INJ_stab rfl g98
          have g111 : USE (fx_up (fx_up S1 50 0 (42 * f + (3 : Int)).toNat (p + z15)) 49 0 17 (0 : Int)) := fx_pup USE_stab rfl g99
          have g112 : SNP (fx_up (fx_up S1 50 0 (42 * f + (3 : Int)).toNat (p + z15)) 49 0 17 (0 : Int)) := fx_pup SNP_stab rfl g100
          have g113 : REC (fx_up (fx_up S1 50 0 (42 * f + (3 : Int)).toNat (p + z15)) 49 0 17 (0 : Int)) := fx_pup REC_stab rfl g101
          have g114 : GEB f (p / 32) ((p + S 49 0 17 - 1) / 32 + 1) (fx_up (fx_up S1 50 0 (42 * f + (3 : Int)).toNat (p + z15)) 49 0 17 (0 : Int)) := fx_pup GEB_stab rfl g102
          have g115 : AON (fx_up (fx_up S1 50 0 (42 * f + (3 : Int)).toNat (p + z15)) 49 0 17 (0 : Int)) := fx_pup AON_stab rfl ao
          refine c_StubHouseModel_changed (f := f) g108 g109 g110 g115 g111 g113 (show 0 ≤ f ∧ f < 60 by omega) (fun (S116 : fxS) ⟨(f117 : fxfr [(49, 14), (50, 9999), (52, 9999)] (fx_up (fx_up S1 50 0 (42 * f + (3 : Int)).toNat (p + z15)) 49 0 17 (0 : Int)) S116), (g118 : COL S116), (g119 : WTM S116), (g120 : INJ S116), (g121 : AON S116), (g122 : USE S116), (g123 : REC S116)⟩ => ?_)
          have w124 : S116 49 0 7 = (fx_up (fx_up S1 50 0 (42 * f + (3 : Int)).toNat (p + z15)) 49 0 17 (0 : Int)) 49 0 7 := f117 49 0 7 rfl
          have w125 : S116 49 0 17 = (fx_up (fx_up S1 50 0 (42 * f + (3 : Int)).toNat (p + z15)) 49 0 17 (0 : Int)) 49 0 17 := f117 49 0 17 rfl
          have g126 : SNP S116 := fx_pfr SNP_stab f117 rfl g112
          refine c_StubHouseModel_blocks (n := f) g118 (show 0 ≤ f ∧ f < 60 by omega) (fun (z127 : Int) (q128 : z127 = (aN S116 f 3 + 31) / 32 ∧ 0 ≤ z127 ∧ z127 ≤ 32) => ?_)
          refine And.intro (show -2147483648 ≤ ((4 : Int) * z127) ∧ ((4 : Int) * z127) < 2147483648 by omega) ?_
          refine And.intro (show -2147483648 ≤ ((8 : Int) + ((4 : Int) * z127)) ∧ ((8 : Int) + ((4 : Int) * z127)) < 2147483648 by omega) ?_
          refine c_StubHouseModel_record (e := ((8 : Int) + ((4 : Int) * z127))) g118 g119 g120 g121 g126 (show S116 49 0 7 ≤ 199 by omega) (show 0 ≤ ((8 : Int) + ((4 : Int) * z127)) ∧ ((8 : Int) + ((4 : Int) * z127)) ≤ 1000 by omega) (fun (S129 : fxS) ⟨(f130 : fxfr [(49, 7), (53, 9999), (55, 9999)] S116 S129), (g131 : SNP S129)⟩ => ?_)
          have w132 : aN S129 f (0 : Int) = aN S116 f (0 : Int) := (aN_fr f130 rfl)
          have w133 : aN S129 f (3 : Int) = aN S116 f (3 : Int) := (aN_fr f130 rfl)
          have w134 : aN S129 f (10 : Int) = aN S116 f (10 : Int) := (aN_fr f130 rfl)
          have w135 : S129 49 0 17 = S116 49 0 17 := f130 49 0 17 rfl
          have g136 : COL S129 := fx_pfr COL_stab f130 rfl g118
          have g137 : WTM S129 := fx_pfr WTM_stab f130 rfl g119
          have g138 : INJ S129 := fx_pfr INJ_stab f130 rfl g120
          have g139 : USE S129 := fx_pfr USE_stab f130 rfl g122
          have g140 : REC S129 := fx_pfr REC_stab f130 rfl g123
          have g141 : AON S129 := fx_pfr AON_stab f130 rfl g121
          have rd : RECd S129 := g140.1
          refine c_StubHouseModel_purge  g136 rd (fun (S142 : fxS) ⟨(f143 : fxfr [(49, 36), (75, 9999)] S129 S142), (g144 : REC S142)⟩ => ?_)
          have w145 : aN S142 f (0 : Int) = aN S129 f (0 : Int) := (aN_fr f143 rfl)
          have w146 : aN S142 f (3 : Int) = aN S129 f (3 : Int) := (aN_fr f143 rfl)
          have w147 : aN S142 f (10 : Int) = aN S129 f (10 : Int) := (aN_fr f143 rfl)
          have w148 : S142 49 0 7 = S129 49 0 7 := f143 49 0 7 rfl
          have w149 : S142 49 0 17 = S129 49 0 17 := f143 49 0 17 rfl
          have g150 : COL S142 := fx_pfr COL_stab f143 rfl g136
          have g151 : WTM S142 := fx_pfr WTM_stab f143 rfl g137
          have g152 : INJ S142 := fx_pfr INJ_stab f143 rfl g138
          have g153 : USE S142 := fx_pfr USE_stab f143 rfl g139
          have g154 : SNP S142 := fx_pfr SNP_stab f143 rfl g131
          have g155 : AON S142 := fx_pfr AON_stab f143 rfl g141
          refine c_at3 (n := f) g150 (show 0 ≤ f ∧ f < 60 by omega) (fun (z156 : Int) (q157 : z156 = aN S142 f 3 ∧ 0 ≤ z156 ∧ z156 ≤ 1024) => ?_)
          exact hk z156 S142 ⟨(fxfr_tr (fxfr_tr (fxfr_tr (fxfr_up (fxfr_up hf rfl) rfl) f117 rfl) f130 rfl) f143 rfl), by omega, g150, g151, g152, g155, g153, g154, g144⟩
      ·
        refine And.intro (show -2147483648 ≤ (p + j) ∧ (p + j) < 2147483648 by omega) ?_
        refine And.intro (by decide) ?_
        refine And.intro (show 0 ≤ (p + j) ∧ 0 < (32 : Int) by omega) ?_
        refine And.intro (show -2147483648 ≤ ((10 : Int) + ((p + j) / (32 : Int))) ∧ ((10 : Int) + ((p + j) / (32 : Int))) < 2147483648 by omega) ?_
        refine c_atb (n := f) (w := ((10 : Int) + ((p + j) / (32 : Int)))) i7 (show 0 ≤ f ∧ f < 60 by omega) (show 10 ≤ ((10 : Int) + ((p + j) / (32 : Int))) ∧ ((10 : Int) + ((p + j) / (32 : Int))) < 42 by omega) (fun (z158 : Int) (q159 : z158 = aN S1 f ((10 : Int) + ((p + j) / (32 : Int))) ∧ -1 ≤ z158 ∧ z158 ≤ 207) => ?_)
        have rp : 0 ≤ z158 := by rw [q159.1]; exact i14 _ (by omega) (by omega) (by omega) (by omega)
        refine And.intro (show -2147483648 ≤ ((32 : Int) * z158) ∧ ((32 : Int) * z158) < 2147483648 by omega) ?_
        refine And.intro (show 0 ≤ (p + j) ∧ 0 < (32 : Int) by omega) ?_
        refine And.intro (show -2147483648 ≤ (((32 : Int) * z158) + ((p + j) % (32 : Int))) ∧ (((32 : Int) * z158) + ((p + j) % (32 : Int))) < 2147483648 by omega) ?_
        refine And.intro (show 0 ≤ j ∧ j < 256 by omega) ?_
        intro z160 (z160a : (-128 : Int) ≤ z160) (z160b : z160 ≤ (127 : Int)) (z160c : z160 = S1 59 0 (j).toNat)
        refine And.intro (show 0 ≤ (((32 : Int) * z158) + ((p + j) % (32 : Int))) ∧ (((32 : Int) * z158) + ((p + j) % (32 : Int))) < 6656 by omega) ?_
        intro z161 z161a z161b z161c
        have w162 : aN (fx_up S1 57 0 ((((32 : Int) * z158) + ((p + j) % (32 : Int)))).toNat z161) f (0 : Int) = aN S1 f (0 : Int) := (aN_o rfl)
        have w163 : aN (fx_up S1 57 0 ((((32 : Int) * z158) + ((p + j) % (32 : Int)))).toNat z161) f (3 : Int) = aN S1 f (3 : Int) := (aN_o rfl)
        have w164 : aN (fx_up S1 57 0 ((((32 : Int) * z158) + ((p + j) % (32 : Int)))).toNat z161) f (10 : Int) = aN S1 f (10 : Int) := (aN_o rfl)
        have w165 : (fx_up S1 57 0 ((((32 : Int) * z158) + ((p + j) % (32 : Int)))).toNat z161) 49 0 7 = S1 49 0 7 := rfl
        have w166 : (fx_up S1 57 0 ((((32 : Int) * z158) + ((p + j) % (32 : Int)))).toNat z161) 49 0 17 = S1 49 0 17 := rfl
        have g167 : COL (fx_up S1 57 0 ((((32 : Int) * z158) + ((p + j) % (32 : Int)))).toNat z161) := fx_pup COL_stab rfl i7
        have g168 : WTM (fx_up S1 57 0 ((((32 : Int) * z158) + ((p + j) % (32 : Int)))).toNat z161) := fx_pup WTM_stab rfl i8
        have g169 : INJ (fx_up S1 57 0 ((((32 : Int) * z158) + ((p + j) % (32 : Int)))).toNat z161) := fx_pup INJ_stab rfl i9
        have g170 : AON (fx_up S1 57 0 ((((32 : Int) * z158) + ((p + j) % (32 : Int)))).toNat z161) := fx_pup AON_stab rfl i10
        have g171 : USE (fx_up S1 57 0 ((((32 : Int) * z158) + ((p + j) % (32 : Int)))).toNat z161) := fx_pup USE_stab rfl i11
        have g172 : SNP (fx_up S1 57 0 ((((32 : Int) * z158) + ((p + j) % (32 : Int)))).toNat z161) := fx_pup SNP_stab rfl i12
        have g173 : REC (fx_up S1 57 0 ((((32 : Int) * z158) + ((p + j) % (32 : Int)))).toNat z161) := fx_pup REC_stab rfl i13
        have g174 : GEB f (p / 32) ((p + S 49 0 17 - 1) / 32 + 1) (fx_up S1 57 0 ((((32 : Int) * z158) + ((p + j) % (32 : Int)))).toNat z161) := fx_pup GEB_stab rfl i14
        refine And.intro (by decide) (And.intro (show -2147483648 ≤ j + (1 : Int) ∧ j + (1 : Int) < 2147483648 by omega) ?_)
        exact ih.2 (j + (1 : Int)) (fx_up S1 57 0 ((((32 : Int) * z158) + ((p + j) % (32 : Int)))).toNat z161) (fxfr_up hf rfl) (by omega) (by omega) (by omega) (by omega) (by omega) (by omega) (by omega) g167 g168 g169 g170 g171 g172 g173 g174 (by omega)
theorem c_StubHouseModel_write {l : Launch} {k : fxK} {S : fxS} {f : Int} {p : Int} (p0 : COL S) (p1 : WTM S) (p2 : INJ S) (p3 : AON S) (p4 : USE S) (p5 : SNP S) (p6 : REC S) (p7 : -2147483648 ≤ f ∧ f < 2147483648) (p8 : -2147483648 ≤ p ∧ p < 2147483648) (hk : ∀ (r : Int) (S' : fxS) , (fxfr [(49, 0), (49, 7), (49, 14), (49, 17), (49, 36), (50, 9999), (52, 9999), (53, 9999), (55, 9999), (56, 9999), (57, 9999), (58, 9999), (75, 9999)] S S' ∧ (-2147483648 ≤ r ∧ r < 2147483648) ∧ (COL S') ∧ (WTM S') ∧ (INJ S') ∧ (AON S') ∧ (USE S') ∧ (SNP S') ∧ (REC S')) → k (some (.inl r)) S') : fC l 110 [.inr (.inr (49, 0)), .inl f, .inl p] S k := by
  refine fxe_110 (Nat.le_of_ble_eq_true rfl) (fxz_110 400 ?_)
  refine And.intro (show (-2147483648 : Int) ≤ (0 : Int) ∧ (0 : Int) ≤ (2147483647 : Int) by omega) ?_
  have w176 : aN (fx_up S 49 0 0 (0 : Int)) f (0 : Int) = aN S f (0 : Int) := (aN_o rfl)
  have w177 : aN (fx_up S 49 0 0 (0 : Int)) f (3 : Int) = aN S f (3 : Int) := (aN_o rfl)
  have w178 : aN (fx_up S 49 0 0 (0 : Int)) f (10 : Int) = aN S f (10 : Int) := (aN_o rfl)
  have w179 : (fx_up S 49 0 0 (0 : Int)) 49 0 7 = S 49 0 7 := if_neg (fun q => absurd q.2.2 (by decide))
  have w180 : (fx_up S 49 0 0 (0 : Int)) 49 0 17 = S 49 0 17 := if_neg (fun q => absurd q.2.2 (by decide))
  have g181 : COL (fx_up S 49 0 0 (0 : Int)) := fx_pup COL_stab rfl p0
  have g182 : WTM (fx_up S 49 0 0 (0 : Int)) := fx_pup WTM_stab rfl p1
  have g183 : INJ (fx_up S 49 0 0 (0 : Int)) := fx_pup INJ_stab rfl p2
  have g184 : AON (fx_up S 49 0 0 (0 : Int)) := fx_pup AON_stab rfl p3
  have g185 : USE (fx_up S 49 0 0 (0 : Int)) := fx_pup USE_stab rfl p4
  have g186 : SNP (fx_up S 49 0 0 (0 : Int)) := fx_pup SNP_stab rfl p5
  have g187 : REC (fx_up S 49 0 0 (0 : Int)) := fx_pup REC_stab rfl p6
  intro z188 (z188a : (0 : Int) ≤ z188) (z188b : z188 ≤ (1 : Int)) (z188c : z188 = S 49 0 15)
  refine And.intro (fun (h189 : (z188 = (0 : Int) : Prop)) => ?_) (fun (h189 : (z188 ≠ (0 : Int) : Prop)) => ?_)
  ·
    refine c_StubHouseModel_isFile (n := f) g181 (show -2147483648 ≤ f ∧ f < 2147483648 by omega) (fun (z190 : Int) (q191 : 0 ≤ z190 ∧ z190 ≤ 1 ∧ (z190 = 1 → 0 ≤ f ∧ f < 60 ∧ aN S f 0 = 2)) => ?_)
    refine And.intro (fun (h192 : (z190 = (0 : Int) : Prop)) => ?_) (fun (h192 : (z190 ≠ (0 : Int) : Prop)) => ?_)
    ·
      exact hk (-1 : Int) (fx_up S 49 0 0 (0 : Int)) ⟨(fxfr_up fxfr_rfl rfl), by omega, g181, g182, g183, g184, g185, g186, g187⟩
    ·
      refine c_at3 (n := f) g181 (show 0 ≤ f ∧ f < 60 by omega) (fun (z193 : Int) (q194 : z193 = aN S f 3 ∧ 0 ≤ z193 ∧ z193 ≤ 1024) => ?_)
      refine c_StubHouseModel_in (x := p) (a := (0 : Int)) (b := z193)  (fun (z195 : Int) (q196 : 0 ≤ z195 ∧ z195 ≤ 1 ∧ (z195 = 1 → (0 : Int) ≤ p ∧ p ≤ z193) ∧ (z195 = 0 → p < (0 : Int) ∨ z193 < p)) => ?_)
      refine And.intro (fun (h197 : (z195 = (0 : Int) : Prop)) => ?_) (fun (h197 : (z195 ≠ (0 : Int) : Prop)) => ?_)
      ·
        exact hk (-1 : Int) (fx_up S 49 0 0 (0 : Int)) ⟨(fxfr_up fxfr_rfl rfl), by omega, g181, g182, g183, g184, g185, g186, g187⟩
      ·
        intro z198 (z198a : (0 : Int) ≤ z198) (z198b : z198 ≤ (256 : Int)) (z198c : z198 = S 49 0 17)
        refine And.intro (fun (h199 : (z198 ≠ (0 : Int) : Prop)) => ?_) (fun (h199 : (z198 = (0 : Int) : Prop)) => ?_)
        ·
          intro z200 (z200a : (0 : Int) ≤ z200) (z200b : z200 ≤ (256 : Int)) (z200c : z200 = S 49 0 17)
          obtain rfl : z198 = z200 := by omega
          refine And.intro (show -2147483648 ≤ (p + z198) ∧ (p + z198) < 2147483648 by omega) ?_
          refine And.intro (fun (h201 : ((p + z198) ≤ (1024 : Int) : Prop)) => ?_) (fun (h201 : ((1024 : Int) < (p + z198) : Prop)) => ?_)
          ·
            refine c_StubHouseModel_stubbed (f := f) g181 g182 g187 (show 0 ≤ f ∧ f < 60 by omega) (show aN S f 0 = 2 by omega) (fun (z202 : Int) (S203 : fxS) ⟨(f204 : fxfr [(49, 36), (75, 9999)] (fx_up S 49 0 0 (0 : Int)) S203), (q205 : -5 ≤ z202 ∧ z202 ≤ 0 ∧ (z202 = 0 → aN S f 3 ≤ 0 ∨ 0 ≤ aN S f 10)), (g206 : REC S203)⟩ => ?_)
            have w207 : aN S203 f (0 : Int) = aN S f (0 : Int) := (aN_fr f204 rfl).trans (aN_o rfl)
            have w208 : aN S203 f (3 : Int) = aN S f (3 : Int) := (aN_fr f204 rfl).trans (aN_o rfl)
            have w209 : aN S203 f (10 : Int) = aN S f (10 : Int) := (aN_fr f204 rfl).trans (aN_o rfl)
            have w210 : S203 49 0 7 = (fx_up S 49 0 0 (0 : Int)) 49 0 7 := f204 49 0 7 rfl
            have w211 : S203 49 0 17 = (fx_up S 49 0 0 (0 : Int)) 49 0 17 := f204 49 0 17 rfl
            have g212 : COL S203 := fx_pfr COL_stab f204 rfl g181
            have g213 : WTM S203 := fx_pfr WTM_stab f204 rfl g182
            have g214 : INJ S203 := fx_pfr INJ_stab f204 rfl g183
            have g215 : AON S203 := fx_pfr AON_stab f204 rfl g184
            have g216 : USE S203 := fx_pfr USE_stab f204 rfl g185
            have g217 : SNP S203 := fx_pfr SNP_stab f204 rfl g186
            refine And.intro (by decide) ?_
            refine And.intro (fun (h218 : (z202 = (0 : Int) : Prop)) => ?_) (fun (h218 : (z202 ≠ (0 : Int) : Prop)) => ?_)
            ·
              refine And.intro (show 0 ≤ p ∧ 0 < (32 : Int) by omega) ?_
              refine And.intro (by decide) ?_
              intro z219 (z219a : (0 : Int) ≤ z219) (z219b : z219 ≤ (256 : Int)) (z219c : z219 = S203 49 0 17)
              obtain rfl : z198 = z219 := by omega
              refine And.intro (show -2147483648 ≤ (p + z198) ∧ (p + z198) < 2147483648 by omega) ?_
              refine And.intro (show -2147483648 ≤ ((p + z198) - (1 : Int)) ∧ ((p + z198) - (1 : Int)) < 2147483648 by omega) ?_
              refine And.intro (show 0 ≤ ((p + z198) - (1 : Int)) ∧ 0 < (32 : Int) by omega) ?_
              refine And.intro (by decide) ?_
              refine And.intro (show -2147483648 ≤ ((((p + z198) - (1 : Int)) / (32 : Int)) - (p / (32 : Int))) ∧ ((((p + z198) - (1 : Int)) / (32 : Int)) - (p / (32 : Int))) < 2147483648 by omega) ?_
              refine And.intro (show -2147483648 ≤ (((((p + z198) - (1 : Int)) / (32 : Int)) - (p / (32 : Int))) + (1 : Int)) ∧ (((((p + z198) - (1 : Int)) / (32 : Int)) - (p / (32 : Int))) + (1 : Int)) < 2147483648 by omega) ?_
              refine c_freeIn_0_208   (fun (z220 : Int) (q221 : z220 = fcn (S203 56 0) 0 208 ∧ 0 ≤ z220 ∧ z220 ≤ 208) => ?_)
              refine And.intro (fun (h222 : ((((((p + z198) - (1 : Int)) / (32 : Int)) - (p / (32 : Int))) + (1 : Int)) ≤ z220 : Prop)) => ?_) (fun (h222 : (z220 < (((((p + z198) - (1 : Int)) / (32 : Int)) - (p / (32 : Int))) + (1 : Int)) : Prop)) => ?_)
              ·
                refine c_StubHouseModel_ahead  g212 g213 g214 g215 g216 g217 (fun (S223 : fxS) ⟨(f224 : fxfr [(49, 7), (53, 9999), (56, 9999), (58, 9999)] S203 S223), (q225 : 0 ≤ S223 49 0 7 ∧ S223 49 0 7 ≤ 199), (g226 : SNP S223), (g227 : USE S223), (g228 : UZ S203 S223)⟩ => ?_)
                have w229 : aN S223 f (0 : Int) = aN S203 f (0 : Int) := (aN_fr f224 rfl)
                have w230 : aN S223 f (3 : Int) = aN S203 f (3 : Int) := (aN_fr f224 rfl)
                have w231 : aN S223 f (10 : Int) = aN S203 f (10 : Int) := (aN_fr f224 rfl)
                have w232 : S223 49 0 17 = S203 49 0 17 := f224 49 0 17 rfl
                have g233 : COL S223 := fx_pfr COL_stab f224 rfl g212
                have g234 : WTM S223 := fx_pfr WTM_stab f224 rfl g213
                have g235 : INJ S223 := fx_pfr INJ_stab f224 rfl g214
                have g236 : AON S223 := fx_pfr AON_stab f224 rfl g215
                have g237 : REC S223 := fx_pfr REC_stab f224 rfl g206
                have fz : fcn (S203 56 0) 0 208 ≤ fcn (S223 56 0) 0 208 := UZ_fcn (by assumption : UZ S203 S223)
                have g0 : GEB f (p / 32) (p / 32) S223 := GEB_0
                refine And.intro (by decide) ?_
                exact (z_StubHouseModel_write p0 p1 p2 p3 p4 p5 p6 p7 p8 hk (1000 - (p / (32 : Int))).toNat).1 (((p + z198) - (1 : Int)) / (32 : Int)) (p / (32 : Int)) S223 (fxfr_tr (fxfr_tr (fxfr_up fxfr_rfl rfl) f204 rfl) f224 rfl) (by omega) (by omega) (by omega) (by omega) (by omega) (by omega) (by omega) (by omega) g233 g234 g235 g236 g227 g226 g237 (by assumption) (by omega)
              ·
                exact hk (-3 : Int) S203 ⟨(fxfr_tr (fxfr_up fxfr_rfl rfl) f204 rfl), by omega, g212, g213, g214, g215, g216, g217, g206⟩
            ·
              exact hk z202 S203 ⟨(fxfr_tr (fxfr_up fxfr_rfl rfl) f204 rfl), by omega, g212, g213, g214, g215, g216, g217, g206⟩
          ·
            exact hk (-3 : Int) (fx_up S 49 0 0 (0 : Int)) ⟨(fxfr_up fxfr_rfl rfl), by omega, g181, g182, g183, g184, g185, g186, g187⟩
        ·
          exact hk (-1 : Int) (fx_up S 49 0 0 (0 : Int)) ⟨(fxfr_up fxfr_rfl rfl), by omega, g181, g182, g183, g184, g185, g186, g187⟩
  ·
    exact hk (-8 : Int) (fx_up S 49 0 0 (0 : Int)) ⟨(fxfr_up fxfr_rfl rfl), by omega, g181, g182, g183, g184, g185, g186, g187⟩
theorem z_StubHouseModel_cut {l : Launch} {k : fxK} {S : fxS} {f : Int} {z : Int} (p0 : COL S) (p1 : WTM S) (p2 : INJ S) (p3 : AON S) (p4 : USE S) (p5 : SNP S) (p6 : REC S) (p7 : -2147483648 ≤ f ∧ f < 2147483648) (p8 : -2147483648 ≤ z ∧ z < 2147483648) (hk : ∀ (r : Int) (S' : fxS) , (fxfr [(49, 0), (49, 7), (49, 14), (49, 36), (50, 9999), (52, 9999), (53, 9999), (55, 9999), (56, 9999), (57, 9999), (58, 9999), (75, 9999)] S S' ∧ (-2147483648 ≤ r ∧ r < 2147483648) ∧ (COL S') ∧ (WTM S') ∧ (INJ S') ∧ (AON S') ∧ (USE S') ∧ (SNP S') ∧ (REC S')) → k (some (.inl r)) S') : ∀ m : Nat, (∀ (c j : Int) (S1 : fxS), (fxfr [(49, 0), (49, 7), (49, 14), (49, 36), (50, 9999), (52, 9999), (53, 9999), (55, 9999), (56, 9999), (57, 9999), (58, 9999), (75, 9999)] S S1) → (0 ≤ f ∧ f < 60) → (0 ≤ z ∧ z ≤ aN S1 f 3 ∧ z ≤ 1024 ∧ c = (z + 31) / 32 ∧ 1 ≤ c) → (0 ≤ j ∧ j ≤ 32) → (aN S1 f 0 = 2) → (0 ≤ S1 49 0 7 ∧ S1 49 0 7 ≤ 199) → (COL S1) → (WTM S1) → (INJ S1) → (AON S1) → (USE S1) → (SNP S1) → (REC S1) → (GEB f (c - 1) c S1) → 1000 - j ≤ (m : Int) → fZ l 114 k 139 [some (.inr (.inr (49, 0))), some (.inl f), some (.inl z), none, none, some (.inl c), some (.inl j)] [] S1) ∧ (∀ (c j : Int) (S1 : fxS), (fxfr [(49, 0), (49, 7), (49, 14), (49, 36), (50, 9999), (52, 9999), (53, 9999), (55, 9999), (56, 9999), (57, 9999), (58, 9999), (75, 9999)] S S1) → (0 ≤ f ∧ f < 60) → (0 ≤ z ∧ z ≤ 1024 ∧ c = (z + 31) / 32) → (c ≤ j ∧ j ≤ 32) → (aN S1 f 0 = 2) → (0 ≤ S1 49 0 7 ∧ S1 49 0 7 ≤ 199) → (COL S1) → (WTM S1) → (INJ S1) → (USE S1) → (SNP S1) → (REC S1) → (AONX f z S1) → 100 - j ≤ (m : Int) → fZ l 114 k 180 [some (.inr (.inr (49, 0))), some (.inl f), some (.inl z), none, none, some (.inl c), some (.inl j)] [] S1) := by
  intro m
  induction m with
  | zero =>
    refine ⟨?_, ?_⟩
    · intro c j S1 hf i0 i1 i2 i3 i4 i5 i6 i7 i8 i9 i10 i11 i12 hmu
      exfalso
      omega
    · intro c j S1 hf i0 i1 i2 i3 i4 i5 i6 i7 i8 i9 i10 i11 hmu
      exfalso
      omega
  | succ m ih =>
    refine ⟨?_, ?_⟩
    · intro c j S1 hf i0 i1 i2 i3 i4 i5 i6 i7 i8 i9 i10 i11 i12 hmu
      refine fxz_114 400 ?_
      refine And.intro (fun (h1 : ((32 : Int) ≤ j : Prop)) => ?_) (fun (h1 : (j < (32 : Int) : Prop)) => ?_)
      ·
        refine And.intro (by decide) ?_
        have ax : AONX f z S1 := AONX_of i8 (by omega)
        exact ih.2 c c S1 hf (by omega) (by omega) (by omega) (by omega) (by omega) i5 i6 i7 i9 i10 i11 ax (by omega)
      ·
        refine And.intro (show -2147483648 ≤ ((10 : Int) + c) ∧ ((10 : Int) + c) < 2147483648 by omega) ?_
        refine And.intro (show -2147483648 ≤ (((10 : Int) + c) - (1 : Int)) ∧ (((10 : Int) + c) - (1 : Int)) < 2147483648 by omega) ?_
        refine c_atb (n := f) (w := (((10 : Int) + c) - (1 : Int))) i5 (show 0 ≤ f ∧ f < 60 by omega) (show 10 ≤ (((10 : Int) + c) - (1 : Int)) ∧ (((10 : Int) + c) - (1 : Int)) < 42 by omega) (fun (z2 : Int) (q3 : z2 = aN S1 f (((10 : Int) + c) - (1 : Int)) ∧ -1 ≤ z2 ∧ z2 ≤ 207) => ?_)
        have rp : 0 ≤ z2 := by rw [q3.1, show (10 : Int) + c - 1 = 10 + (c - 1) by omega]; exact i12 _ (by omega) (by omega) (by omega) (by omega)
        refine And.intro (show -2147483648 ≤ ((32 : Int) * z2) ∧ ((32 : Int) * z2) < 2147483648 by omega) ?_
        refine And.intro (show -2147483648 ≤ (((32 : Int) * z2) + j) ∧ (((32 : Int) * z2) + j) < 2147483648 by omega) ?_
        refine And.intro (show 0 ≤ (((32 : Int) * z2) + j) ∧ (((32 : Int) * z2) + j) < 6656 by omega) ?_
        intro z4 z4a z4b z4c
        have w5 : aN (fx_up S1 57 0 ((((32 : Int) * z2) + j)).toNat z4) f (0 : Int) = aN S1 f (0 : Int) := (aN_o rfl)
        have w6 : aN (fx_up S1 57 0 ((((32 : Int) * z2) + j)).toNat z4) f (3 : Int) = aN S1 f (3 : Int) := (aN_o rfl)
        have w7 : aN (fx_up S1 57 0 ((((32 : Int) * z2) + j)).toNat z4) f (10 : Int) = aN S1 f (10 : Int) := (aN_o rfl)
        have w8 : (fx_up S1 57 0 ((((32 : Int) * z2) + j)).toNat z4) 49 0 7 = S1 49 0 7 := rfl
        have g9 : COL (fx_up S1 57 0 ((((32 : Int) * z2) + j)).toNat z4) := fx_pup COL_stab rfl i5
        have g10 : WTM (fx_up S1 57 0 ((((32 : Int) * z2) + j)).toNat z4) := fx_pup WTM_stab rfl i6
        have g11 : INJ (fx_up S1 57 0 ((((32 : Int) * z2) + j)).toNat z4) := fx_pup INJ_stab rfl i7
        have g12 : AON (fx_up S1 57 0 ((((32 : Int) * z2) + j)).toNat z4) := fx_pup AON_stab rfl i8
        have g13 : USE (fx_up S1 57 0 ((((32 : Int) * z2) + j)).toNat z4) := fx_pup USE_stab rfl i9
        have g14 : SNP (fx_up S1 57 0 ((((32 : Int) * z2) + j)).toNat z4) := fx_pup SNP_stab rfl i10
        have g15 : REC (fx_up S1 57 0 ((((32 : Int) * z2) + j)).toNat z4) := fx_pup REC_stab rfl i11
        have g16 : GEB f (c - 1) c (fx_up S1 57 0 ((((32 : Int) * z2) + j)).toNat z4) := fx_pup GEB_stab rfl i12
        refine And.intro (by decide) (And.intro (show -2147483648 ≤ j + (1 : Int) ∧ j + (1 : Int) < 2147483648 by omega) ?_)
        exact ih.1 c (j + (1 : Int)) (fx_up S1 57 0 ((((32 : Int) * z2) + j)).toNat z4) (fxfr_up hf rfl) (by omega) (by omega) (by omega) (by omega) (by omega) g9 g10 g11 g12 g13 g14 g15 g16 (by omega)
    · intro c j S1 hf i0 i1 i2 i3 i4 i5 i6 i7 i8 i9 i10 i11 hmu
      refine fxz_114 400 ?_
      refine And.intro (fun (h18 : ((32 : Int) ≤ j : Prop)) => ?_) (fun (h18 : (j < (32 : Int) : Prop)) => ?_)
      ·
        refine c_set (n := f) (w := (3 : Int)) (v := z) (show 0 ≤ f ∧ f < 60 by omega) (show 0 ≤ (3 : Int) ∧ (3 : Int) < 42 by omega) (show -2147483648 ≤ z ∧ z < 2147483648 by omega) ?_
        have w19 : (fx_up S1 50 0 (42 * f + (3 : Int)).toNat z) 49 0 7 = S1 49 0 7 := rfl
        have w20 : aN (fx_up S1 50 0 (42 * f + (3 : Int)).toNat z) f (0 : Int) = aN S1 f (0 : Int) := (aN_ne (S := S1) (by omega) (by omega) (by omega))
        have w21 : aN (fx_up S1 50 0 (42 * f + (3 : Int)).toNat z) f (3 : Int) = z := aN_eq
        have w22 : aN (fx_up S1 50 0 (42 * f + (3 : Int)).toNat z) f (10 : Int) = aN S1 f (10 : Int) := (aN_ne (S := S1) (by omega) (by omega) (by omega))
        have g23 : COL (fx_up S1 50 0 (42 * f + (3 : Int)).toNat z) := COL_set i5 (by omega) (by omega) (by omega)
        have g24 : WTM (fx_up S1 50 0 (42 * f + (3 : Int)).toNat z) := WTM_set i6 (by omega) (by omega)
        have g25 : INJ (fx_up S1 50 0 (42 * f + (3 : Int)).toNat z) := INJ_set i7 (by omega) (by omega)
        have g26 : USE (fx_up S1 50 0 (42 * f + (3 : Int)).toNat z) := USE_set i8 (by omega) (by omega)
        have g27 : SNP (fx_up S1 50 0 (42 * f + (3 : Int)).toNat z) := fx_pup SNP_stab rfl i9
        have g28 : REC (fx_up S1 50 0 (42 * f + (3 : Int)).toNat z) := REC_set i10 (by omega) (by omega)
        have ao : AON (fx_up S1 50 0 (42 * f + (3 : Int)).toNat z) := AONX_size i11 (by omega)
        refine c_StubHouseModel_changed (f := f) g23 g24 g25 ao g26 g28 (show 0 ≤ f ∧ f < 60 by omega) (fun (S29 : fxS) ⟨(f30 : fxfr [(49, 14), (50, 9999), (52, 9999)] (fx_up S1 50 0 (42 * f + (3 : Int)).toNat z) S29), (g31 : COL S29), (g32 : WTM S29), (g33 : INJ S29), (g34 : AON S29), (g35 : USE S29), (g36 : REC S29)⟩ => ?_)
        have w37 : S29 49 0 7 = (fx_up S1 50 0 (42 * f + (3 : Int)).toNat z) 49 0 7 := f30 49 0 7 rfl
        have g38 : SNP S29 := fx_pfr SNP_stab f30 rfl g27
        refine And.intro (show -2147483648 ≤ ((4 : Int) * c) ∧ ((4 : Int) * c) < 2147483648 by omega) ?_
        refine And.intro (show -2147483648 ≤ ((8 : Int) + ((4 : Int) * c)) ∧ ((8 : Int) + ((4 : Int) * c)) < 2147483648 by omega) ?_
        refine c_StubHouseModel_record (e := ((8 : Int) + ((4 : Int) * c))) g31 g32 g33 g34 g38 (show S29 49 0 7 ≤ 199 by omega) (show 0 ≤ ((8 : Int) + ((4 : Int) * c)) ∧ ((8 : Int) + ((4 : Int) * c)) ≤ 1000 by omega) (fun (S39 : fxS) ⟨(f40 : fxfr [(49, 7), (53, 9999), (55, 9999)] S29 S39), (g41 : SNP S39)⟩ => ?_)
        have w42 : aN S39 f (0 : Int) = aN S29 f (0 : Int) := (aN_fr f40 rfl)
        have w43 : aN S39 f (3 : Int) = aN S29 f (3 : Int) := (aN_fr f40 rfl)
        have w44 : aN S39 f (10 : Int) = aN S29 f (10 : Int) := (aN_fr f40 rfl)
        have g45 : COL S39 := fx_pfr COL_stab f40 rfl g31
        have g46 : WTM S39 := fx_pfr WTM_stab f40 rfl g32
        have g47 : INJ S39 := fx_pfr INJ_stab f40 rfl g33
        have g48 : USE S39 := fx_pfr USE_stab f40 rfl g35
        have g49 : REC S39 := fx_pfr REC_stab f40 rfl g36
        have g50 : AON S39 := fx_pfr AON_stab f40 rfl g34
        have rd : RECd S39 := g49.1
        refine c_StubHouseModel_purge  g45 rd (fun (S51 : fxS) ⟨(f52 : fxfr [(49, 36), (75, 9999)] S39 S51), (g53 : REC S51)⟩ => ?_)
        have w54 : aN S51 f (0 : Int) = aN S39 f (0 : Int) := (aN_fr f52 rfl)
        have w55 : aN S51 f (3 : Int) = aN S39 f (3 : Int) := (aN_fr f52 rfl)
        have w56 : aN S51 f (10 : Int) = aN S39 f (10 : Int) := (aN_fr f52 rfl)
        have w57 : S51 49 0 7 = S39 49 0 7 := f52 49 0 7 rfl
        have g58 : COL S51 := fx_pfr COL_stab f52 rfl g45
        have g59 : WTM S51 := fx_pfr WTM_stab f52 rfl g46
        have g60 : INJ S51 := fx_pfr INJ_stab f52 rfl g47
        have g61 : USE S51 := fx_pfr USE_stab f52 rfl g48
        have g62 : SNP S51 := fx_pfr SNP_stab f52 rfl g41
        have g63 : AON S51 := fx_pfr AON_stab f52 rfl g50
        exact hk z S51 ⟨(fxfr_tr (fxfr_tr (fxfr_tr (fxfr_up hf rfl) f30 rfl) f40 rfl) f52 rfl), by omega, g58, g59, g60, g63, g61, g62, g53⟩
      ·
        refine And.intro (show -2147483648 ≤ ((10 : Int) + j) ∧ ((10 : Int) + j) < 2147483648 by omega) ?_
        refine c_atb (n := f) (w := ((10 : Int) + j)) i5 (show 0 ≤ f ∧ f < 60 by omega) (show 10 ≤ ((10 : Int) + j) ∧ ((10 : Int) + j) < 42 by omega) (fun (z64 : Int) (q65 : z64 = aN S1 f ((10 : Int) + j) ∧ -1 ≤ z64 ∧ z64 ≤ 207) => ?_)
        refine And.intro (fun (h66 : (z64 < (0 : Int) : Prop)) => ?_) (fun (h66 : ((0 : Int) ≤ z64 : Prop)) => ?_)
        ·
          refine And.intro (by decide) (And.intro (show -2147483648 ≤ j + (1 : Int) ∧ j + (1 : Int) < 2147483648 by omega) ?_)
          exact ih.2 c (j + (1 : Int)) S1 hf (by omega) (by omega) (by omega) (by omega) (by omega) i5 i6 i7 i8 i9 i10 i11 (by omega)
        ·
          refine And.intro (show -2147483648 ≤ ((10 : Int) + j) ∧ ((10 : Int) + j) < 2147483648 by omega) ?_
          refine c_atb (n := f) (w := ((10 : Int) + j)) i5 (show 0 ≤ f ∧ f < 60 by omega) (show 10 ≤ ((10 : Int) + j) ∧ ((10 : Int) + j) < 42 by omega) (fun (z68 : Int) (q69 : z68 = aN S1 f ((10 : Int) + j) ∧ -1 ≤ z68 ∧ z68 ≤ 207) => ?_)
          refine And.intro (show 0 ≤ z68 ∧ z68 < 208 by omega) ?_
          refine And.intro (show (0 : Int) ≤ (2 : Int) ∧ (2 : Int) ≤ (2 : Int) by omega) ?_
          have w70 : aN (fx_up S1 56 0 (z68).toNat (2 : Int)) f (0 : Int) = aN S1 f (0 : Int) := (aN_o rfl)
          have w71 : aN (fx_up S1 56 0 (z68).toNat (2 : Int)) f (3 : Int) = aN S1 f (3 : Int) := (aN_o rfl)
          have w72 : aN (fx_up S1 56 0 (z68).toNat (2 : Int)) f (10 : Int) = aN S1 f (10 : Int) := (aN_o rfl)
          have w73 : (fx_up S1 56 0 (z68).toNat (2 : Int)) 49 0 7 = S1 49 0 7 := rfl
          have g74 : COL (fx_up S1 56 0 (z68).toNat (2 : Int)) := fx_pup COL_stab rfl i5
          have g75 : WTM (fx_up S1 56 0 (z68).toNat (2 : Int)) := fx_pup WTM_stab rfl i6
          have g76 : INJ (fx_up S1 56 0 (z68).toNat (2 : Int)) := fx_pup INJ_stab rfl i7
          have g77 : SNP (fx_up S1 56 0 (z68).toNat (2 : Int)) := fx_pup SNP_stab rfl i9
          have g78 : REC (fx_up S1 56 0 (z68).toNat (2 : Int)) := fx_pup REC_stab rfl i10
          have g79 : AONX f z (fx_up S1 56 0 (z68).toNat (2 : Int)) := fx_pup AONX_stab rfl i11
          refine And.intro (show -2147483648 ≤ ((10 : Int) + j) ∧ ((10 : Int) + j) < 2147483648 by omega) ?_
          refine c_set (n := f) (w := ((10 : Int) + j)) (v := (-1 : Int)) (show 0 ≤ f ∧ f < 60 by omega) (show 0 ≤ ((10 : Int) + j) ∧ ((10 : Int) + j) < 42 by omega) (show -2147483648 ≤ (-1 : Int) ∧ (-1 : Int) < 2147483648 by omega) ?_
          have w80 : (fx_up (fx_up S1 56 0 (z68).toNat (2 : Int)) 50 0 (42 * f + ((10 : Int) + j)).toNat (-1 : Int)) 49 0 7 = (fx_up S1 56 0 (z68).toNat (2 : Int)) 49 0 7 := rfl
          have w81 : aN (fx_up (fx_up S1 56 0 (z68).toNat (2 : Int)) 50 0 (42 * f + ((10 : Int) + j)).toNat (-1 : Int)) f (0 : Int) = aN S1 f (0 : Int) := (aN_ne (S := (fx_up S1 56 0 (z68).toNat (2 : Int))) (by omega) (by omega) (by omega)).trans (aN_o rfl)
          have w82 : aN (fx_up (fx_up S1 56 0 (z68).toNat (2 : Int)) 50 0 (42 * f + ((10 : Int) + j)).toNat (-1 : Int)) f (3 : Int) = aN S1 f (3 : Int) := (aN_ne (S := (fx_up S1 56 0 (z68).toNat (2 : Int))) (by omega) (by omega) (by omega)).trans (aN_o rfl)
          have g83 : COL (fx_up (fx_up S1 56 0 (z68).toNat (2 : Int)) 50 0 (42 * f + ((10 : Int) + j)).toNat (-1 : Int)) := COL_set g74 (by omega) (by omega) (by omega)
          have g84 : WTM (fx_up (fx_up S1 56 0 (z68).toNat (2 : Int)) 50 0 (42 * f + ((10 : Int) + j)).toNat (-1 : Int)) := WTM_set g75 (by omega) (by omega)
          have g85 : INJ (fx_up (fx_up S1 56 0 (z68).toNat (2 : Int)) 50 0 (42 * f + ((10 : Int) + j)).toNat (-1 : Int)) := INJ_set g76 (by omega) (by omega)
          have g86 : SNP (fx_up (fx_up S1 56 0 (z68).toNat (2 : Int)) 50 0 (42 * f + ((10 : Int) + j)).toNat (-1 : Int)) := fx_pup SNP_stab rfl g77
          have g87 : REC (fx_up (fx_up S1 56 0 (z68).toNat (2 : Int)) 50 0 (42 * f + ((10 : Int) + j)).toNat (-1 : Int)) := REC_set g78 (by omega) (by omega)
          have us : USE (fx_up (fx_up S1 56 0 (z68).toNat (2 : Int)) 50 0 (42 * f + ((10 : Int) + j)).toNat (-1 : Int)) := USE_out (b := -1) i8 i7 (by omega) (by omega) (by omega) (by omega) (by omega) (Or.inl (by omega))
          have ax : AONX f z (fx_up (fx_up S1 56 0 (z68).toNat (2 : Int)) 50 0 (42 * f + ((10 : Int) + j)).toNat (-1 : Int)) := AONX_out2 i11 (by omega) (by omega) (by omega) (by omega)
          refine And.intro (by decide) (And.intro (show -2147483648 ≤ j + (1 : Int) ∧ j + (1 : Int) < 2147483648 by omega) ?_)
          exact ih.2 c (j + (1 : Int)) (fx_up (fx_up S1 56 0 (z68).toNat (2 : Int)) 50 0 (42 * f + ((10 : Int) + j)).toNat (-1 : Int)) (fxfr_up (fxfr_up hf rfl) rfl) (by omega) (by omega) (by omega) (by omega) (by omega) g83 g84 g85 us g86 g87 ax (by omega)
theorem c_StubHouseModel_cut {l : Launch} {k : fxK} {S : fxS} {f : Int} {z : Int} (p0 : COL S) (p1 : WTM S) (p2 : INJ S) (p3 : AON S) (p4 : USE S) (p5 : SNP S) (p6 : REC S) (p7 : -2147483648 ≤ f ∧ f < 2147483648) (p8 : -2147483648 ≤ z ∧ z < 2147483648) (hk : ∀ (r : Int) (S' : fxS) , (fxfr [(49, 0), (49, 7), (49, 14), (49, 36), (50, 9999), (52, 9999), (53, 9999), (55, 9999), (56, 9999), (57, 9999), (58, 9999), (75, 9999)] S S' ∧ (-2147483648 ≤ r ∧ r < 2147483648) ∧ (COL S') ∧ (WTM S') ∧ (INJ S') ∧ (AON S') ∧ (USE S') ∧ (SNP S') ∧ (REC S')) → k (some (.inl r)) S') : fC l 114 [.inr (.inr (49, 0)), .inl f, .inl z] S k := by
  refine fxe_114 (Nat.le_of_ble_eq_true rfl) (fxz_114 400 ?_)
  refine And.intro (show (-2147483648 : Int) ≤ (0 : Int) ∧ (0 : Int) ≤ (2147483647 : Int) by omega) ?_
  have w89 : aN (fx_up S 49 0 0 (0 : Int)) f (0 : Int) = aN S f (0 : Int) := (aN_o rfl)
  have w90 : aN (fx_up S 49 0 0 (0 : Int)) f (3 : Int) = aN S f (3 : Int) := (aN_o rfl)
  have w91 : aN (fx_up S 49 0 0 (0 : Int)) f (10 : Int) = aN S f (10 : Int) := (aN_o rfl)
  have w92 : (fx_up S 49 0 0 (0 : Int)) 49 0 7 = S 49 0 7 := if_neg (fun q => absurd q.2.2 (by decide))
  have g93 : COL (fx_up S 49 0 0 (0 : Int)) := fx_pup COL_stab rfl p0
  have g94 : WTM (fx_up S 49 0 0 (0 : Int)) := fx_pup WTM_stab rfl p1
  have g95 : INJ (fx_up S 49 0 0 (0 : Int)) := fx_pup INJ_stab rfl p2
  have g96 : AON (fx_up S 49 0 0 (0 : Int)) := fx_pup AON_stab rfl p3
  have g97 : USE (fx_up S 49 0 0 (0 : Int)) := fx_pup USE_stab rfl p4
  have g98 : SNP (fx_up S 49 0 0 (0 : Int)) := fx_pup SNP_stab rfl p5
  have g99 : REC (fx_up S 49 0 0 (0 : Int)) := fx_pup REC_stab rfl p6
  intro z100 (z100a : (0 : Int) ≤ z100) (z100b : z100 ≤ (1 : Int)) (z100c : z100 = S 49 0 15)
  refine And.intro (fun (h101 : (z100 = (0 : Int) : Prop)) => ?_) (fun (h101 : (z100 ≠ (0 : Int) : Prop)) => ?_)
  ·
    refine c_StubHouseModel_isFile (n := f) g93 (show -2147483648 ≤ f ∧ f < 2147483648 by omega) (fun (z102 : Int) (q103 : 0 ≤ z102 ∧ z102 ≤ 1 ∧ (z102 = 1 → 0 ≤ f ∧ f < 60 ∧ aN S f 0 = 2)) => ?_)
    refine And.intro (fun (h104 : (z102 = (0 : Int) : Prop)) => ?_) (fun (h104 : (z102 ≠ (0 : Int) : Prop)) => ?_)
    ·
      exact hk (-1 : Int) (fx_up S 49 0 0 (0 : Int)) ⟨(fxfr_up fxfr_rfl rfl), by omega, g93, g94, g95, g96, g97, g98, g99⟩
    ·
      refine c_at3 (n := f) g93 (show 0 ≤ f ∧ f < 60 by omega) (fun (z105 : Int) (q106 : z105 = aN S f 3 ∧ 0 ≤ z105 ∧ z105 ≤ 1024) => ?_)
      refine c_StubHouseModel_in (x := z) (a := (0 : Int)) (b := z105)  (fun (z107 : Int) (q108 : 0 ≤ z107 ∧ z107 ≤ 1 ∧ (z107 = 1 → (0 : Int) ≤ z ∧ z ≤ z105) ∧ (z107 = 0 → z < (0 : Int) ∨ z105 < z)) => ?_)
      refine And.intro (fun (h109 : (z107 ≠ (0 : Int) : Prop)) => ?_) (fun (h109 : (z107 = (0 : Int) : Prop)) => ?_)
      ·
        refine And.intro (fun (h110 : (z ≤ (0 : Int) : Prop)) => ?_) (fun (h110 : ((0 : Int) < z : Prop)) => ?_)
        ·
          refine And.intro (by decide) ?_
          refine And.intro (fun _ => ?_) (fun h => absurd h (by decide))
          refine c_at3 (n := f) g93 (show 0 ≤ f ∧ f < 60 by omega) (fun (z111 : Int) (q112 : z111 = aN S f 3 ∧ 0 ≤ z111 ∧ z111 ≤ 1024) => ?_)
          refine And.intro (fun (h113 : (z111 ≤ z : Prop)) => ?_) (fun (h113 : (z < z111 : Prop)) => ?_)
          ·
            refine And.intro (by decide) ?_
            refine And.intro (fun _ => ?_) (fun h => absurd h (by decide))
            refine c_StubHouseModel_ahead  g93 g94 g95 g96 g97 g98 (fun (S114 : fxS) ⟨(f115 : fxfr [(49, 7), (53, 9999), (56, 9999), (58, 9999)] (fx_up S 49 0 0 (0 : Int)) S114), (q116 : 0 ≤ S114 49 0 7 ∧ S114 49 0 7 ≤ 199), (g117 : SNP S114), (g118 : USE S114), (g119 : UZ (fx_up S 49 0 0 (0 : Int)) S114)⟩ => ?_)
            have w120 : aN S114 f (0 : Int) = aN S f (0 : Int) := (aN_fr f115 rfl).trans (aN_o rfl)
            have w121 : aN S114 f (3 : Int) = aN S f (3 : Int) := (aN_fr f115 rfl).trans (aN_o rfl)
            have w122 : aN S114 f (10 : Int) = aN S f (10 : Int) := (aN_fr f115 rfl).trans (aN_o rfl)
            have g123 : COL S114 := fx_pfr COL_stab f115 rfl g93
            have g124 : WTM S114 := fx_pfr WTM_stab f115 rfl g94
            have g125 : INJ S114 := fx_pfr INJ_stab f115 rfl g95
            have g126 : AON S114 := fx_pfr AON_stab f115 rfl g96
            have g127 : REC S114 := fx_pfr REC_stab f115 rfl g99
            have fz : fcn ((fx_up S 49 0 0 (0 : Int)) 56 0) 0 208 ≤ fcn (S114 56 0) 0 208 := UZ_fcn (by assumption : UZ (fx_up S 49 0 0 (0 : Int)) S114)
            refine And.intro (show -2147483648 ≤ (z + (32 : Int)) ∧ (z + (32 : Int)) < 2147483648 by omega) ?_
            refine And.intro (show -2147483648 ≤ ((z + (32 : Int)) - (1 : Int)) ∧ ((z + (32 : Int)) - (1 : Int)) < 2147483648 by omega) ?_
            refine And.intro (show 0 ≤ ((z + (32 : Int)) - (1 : Int)) ∧ 0 < (32 : Int) by omega) ?_
            refine And.intro (by decide) ?_
            refine And.intro (fun _ => ?_) (fun h => absurd h (by decide))
            refine And.intro (by decide) ?_
            have ax : AONX f z S114 := AONX_of g126 (by omega)
            exact (z_StubHouseModel_cut p0 p1 p2 p3 p4 p5 p6 p7 p8 hk (100 - (((z + (32 : Int)) - (1 : Int)) / (32 : Int))).toNat).2 (((z + (32 : Int)) - (1 : Int)) / (32 : Int)) (((z + (32 : Int)) - (1 : Int)) / (32 : Int)) S114 (fxfr_tr (fxfr_up fxfr_rfl rfl) f115 rfl) (by omega) (by omega) (by omega) (by omega) (by omega) g123 g124 g125 g118 g117 g127 ax (by omega)
          ·
            refine And.intro (show 0 ≤ z ∧ 0 < (32 : Int) by omega) ?_
            refine And.intro (fun (h128 : ((z % (32 : Int)) = (0 : Int) : Prop)) => ?_) (fun (h128 : ((z % (32 : Int)) ≠ (0 : Int) : Prop)) => ?_)
            ·
              refine And.intro (by decide) ?_
              refine And.intro (fun _ => ?_) (fun h => absurd h (by decide))
              refine c_StubHouseModel_ahead  g93 g94 g95 g96 g97 g98 (fun (S129 : fxS) ⟨(f130 : fxfr [(49, 7), (53, 9999), (56, 9999), (58, 9999)] (fx_up S 49 0 0 (0 : Int)) S129), (q131 : 0 ≤ S129 49 0 7 ∧ S129 49 0 7 ≤ 199), (g132 : SNP S129), (g133 : USE S129), (g134 : UZ (fx_up S 49 0 0 (0 : Int)) S129)⟩ => ?_)
              have w135 : aN S129 f (0 : Int) = aN S f (0 : Int) := (aN_fr f130 rfl).trans (aN_o rfl)
              have w136 : aN S129 f (3 : Int) = aN S f (3 : Int) := (aN_fr f130 rfl).trans (aN_o rfl)
              have w137 : aN S129 f (10 : Int) = aN S f (10 : Int) := (aN_fr f130 rfl).trans (aN_o rfl)
              have g138 : COL S129 := fx_pfr COL_stab f130 rfl g93
              have g139 : WTM S129 := fx_pfr WTM_stab f130 rfl g94
              have g140 : INJ S129 := fx_pfr INJ_stab f130 rfl g95
              have g141 : AON S129 := fx_pfr AON_stab f130 rfl g96
              have g142 : REC S129 := fx_pfr REC_stab f130 rfl g99
              have fz : fcn ((fx_up S 49 0 0 (0 : Int)) 56 0) 0 208 ≤ fcn (S129 56 0) 0 208 := UZ_fcn (by assumption : UZ (fx_up S 49 0 0 (0 : Int)) S129)
              refine And.intro (show -2147483648 ≤ (z + (32 : Int)) ∧ (z + (32 : Int)) < 2147483648 by omega) ?_
              refine And.intro (show -2147483648 ≤ ((z + (32 : Int)) - (1 : Int)) ∧ ((z + (32 : Int)) - (1 : Int)) < 2147483648 by omega) ?_
              refine And.intro (show 0 ≤ ((z + (32 : Int)) - (1 : Int)) ∧ 0 < (32 : Int) by omega) ?_
              refine And.intro (by decide) ?_
              refine And.intro (fun _ => ?_) (fun h => absurd h (by decide))
              refine And.intro (by decide) ?_
              have ax : AONX f z S129 := AONX_of g141 (by omega)
              exact (z_StubHouseModel_cut p0 p1 p2 p3 p4 p5 p6 p7 p8 hk (100 - (((z + (32 : Int)) - (1 : Int)) / (32 : Int))).toNat).2 (((z + (32 : Int)) - (1 : Int)) / (32 : Int)) (((z + (32 : Int)) - (1 : Int)) / (32 : Int)) S129 (fxfr_tr (fxfr_up fxfr_rfl rfl) f130 rfl) (by omega) (by omega) (by omega) (by omega) (by omega) g138 g139 g140 g133 g132 g142 ax (by omega)
            ·
              refine And.intro (by decide) ?_
              refine And.intro (fun h => absurd h (by decide)) (fun _ => ?_)
              refine c_freeIn_0_208   (fun (z143 : Int) (q144 : z143 = fcn (S 56 0) 0 208 ∧ 0 ≤ z143 ∧ z143 ≤ 208) => ?_)
              refine And.intro (fun (h145 : (z143 ≠ (0 : Int) : Prop)) => ?_) (fun (h145 : (z143 = (0 : Int) : Prop)) => ?_)
              ·
                refine c_StubHouseModel_ahead  g93 g94 g95 g96 g97 g98 (fun (S146 : fxS) ⟨(f147 : fxfr [(49, 7), (53, 9999), (56, 9999), (58, 9999)] (fx_up S 49 0 0 (0 : Int)) S146), (q148 : 0 ≤ S146 49 0 7 ∧ S146 49 0 7 ≤ 199), (g149 : SNP S146), (g150 : USE S146), (g151 : UZ (fx_up S 49 0 0 (0 : Int)) S146)⟩ => ?_)
                have w152 : aN S146 f (0 : Int) = aN S f (0 : Int) := (aN_fr f147 rfl).trans (aN_o rfl)
                have w153 : aN S146 f (3 : Int) = aN S f (3 : Int) := (aN_fr f147 rfl).trans (aN_o rfl)
                have w154 : aN S146 f (10 : Int) = aN S f (10 : Int) := (aN_fr f147 rfl).trans (aN_o rfl)
                have g155 : COL S146 := fx_pfr COL_stab f147 rfl g93
                have g156 : WTM S146 := fx_pfr WTM_stab f147 rfl g94
                have g157 : INJ S146 := fx_pfr INJ_stab f147 rfl g95
                have g158 : AON S146 := fx_pfr AON_stab f147 rfl g96
                have g159 : REC S146 := fx_pfr REC_stab f147 rfl g99
                have fz : fcn ((fx_up S 49 0 0 (0 : Int)) 56 0) 0 208 ≤ fcn (S146 56 0) 0 208 := UZ_fcn (by assumption : UZ (fx_up S 49 0 0 (0 : Int)) S146)
                refine And.intro (show -2147483648 ≤ (z + (32 : Int)) ∧ (z + (32 : Int)) < 2147483648 by omega) ?_
                refine And.intro (show -2147483648 ≤ ((z + (32 : Int)) - (1 : Int)) ∧ ((z + (32 : Int)) - (1 : Int)) < 2147483648 by omega) ?_
                refine And.intro (show 0 ≤ ((z + (32 : Int)) - (1 : Int)) ∧ 0 < (32 : Int) by omega) ?_
                refine And.intro (by decide) ?_
                refine And.intro (fun h => absurd h (by decide)) (fun _ => ?_)
                refine And.intro (show -2147483648 ≤ ((((z + (32 : Int)) - (1 : Int)) / (32 : Int)) - (1 : Int)) ∧ ((((z + (32 : Int)) - (1 : Int)) / (32 : Int)) - (1 : Int)) < 2147483648 by omega) ?_
                refine c_StubHouseModel_renew (f := f) (p := ((((z + (32 : Int)) - (1 : Int)) / (32 : Int)) - (1 : Int))) g155 g156 g157 g158 g150 g159 (show 0 ≤ f ∧ f < 60 by omega) (show 0 ≤ ((((z + (32 : Int)) - (1 : Int)) / (32 : Int)) - (1 : Int)) ∧ ((((z + (32 : Int)) - (1 : Int)) / (32 : Int)) - (1 : Int)) < 32 by omega) (show aN S146 f 0 = 2 by omega) (show 1 ≤ fcn (S146 56 0) 0 208 by omega) (show ((((z + (32 : Int)) - (1 : Int)) / (32 : Int)) - (1 : Int)) ≠ 0 ∨ 0 ≤ aN S146 f 10 ∨ aN S146 f 3 ≤ 0 by omega) (fun (S160 : fxS) ⟨(f161 : fxfr [(50, 9999), (56, 9999), (57, 9999)] S146 S160), (g162 : COL S160), (g163 : WTM S160), (g164 : INJ S160), (g165 : AON S160), (g166 : USE S160), (g167 : REC S160), (g168 : RNW f ((((z + (32 : Int)) - (1 : Int)) / (32 : Int)) - (1 : Int)) S146 S160)⟩ => ?_)
                have w169 : S160 49 0 7 = S146 49 0 7 := f161 49 0 7 rfl
                have g170 : SNP S160 := fx_pfr SNP_stab f161 rfl g149
                have rn := (by assumption : RNW f ((((z + (32 : Int)) - (1 : Int)) / (32 : Int)) - (1 : Int)) S146 S160)
                have e0 : aN S160 f 0 = aN S146 f 0 := rn.1 f 0 (by omega) (by omega) (by omega) (by omega) (Or.inr (by omega))
                have e3 : aN S160 f 3 = aN S146 f 3 := rn.1 f 3 (by omega) (by omega) (by omega) (by omega) (Or.inr (by omega))
                have e10 : 0 ≤ aN S146 f 10 → 0 ≤ aN S160 f 10 := RNW_10 rn (by omega)
                have ef := rn.2.2
                have gb : GEB f ((((z + (32 : Int)) - (1 : Int)) / (32 : Int)) - 1) (((z + (32 : Int)) - (1 : Int)) / (32 : Int)) S160 := GEB_one rn.2.1 (by omega)
                refine And.intro (show 0 ≤ z ∧ 0 < (32 : Int) by omega) ?_
                refine And.intro (by decide) ?_
                exact (z_StubHouseModel_cut p0 p1 p2 p3 p4 p5 p6 p7 p8 hk (1000 - (z % (32 : Int))).toNat).1 (((z + (32 : Int)) - (1 : Int)) / (32 : Int)) (z % (32 : Int)) S160 (fxfr_tr (fxfr_tr (fxfr_up fxfr_rfl rfl) f147 rfl) f161 rfl) (by omega) (by omega) (by omega) (by omega) (by omega) g162 g163 g164 g165 g166 g170 g167 gb (by omega)
              ·
                exact hk (-3 : Int) (fx_up S 49 0 0 (0 : Int)) ⟨(fxfr_up fxfr_rfl rfl), by omega, g93, g94, g95, g96, g97, g98, g99⟩
        ·
          refine c_StubHouseModel_stubbed (f := f) g93 g94 g99 (show 0 ≤ f ∧ f < 60 by omega) (show aN S f 0 = 2 by omega) (fun (z171 : Int) (S172 : fxS) ⟨(f173 : fxfr [(49, 36), (75, 9999)] (fx_up S 49 0 0 (0 : Int)) S172), (q174 : -5 ≤ z171 ∧ z171 ≤ 0 ∧ (z171 = 0 → aN S f 3 ≤ 0 ∨ 0 ≤ aN S f 10)), (g175 : REC S172)⟩ => ?_)
          have w176 : aN S172 f (0 : Int) = aN S f (0 : Int) := (aN_fr f173 rfl).trans (aN_o rfl)
          have w177 : aN S172 f (3 : Int) = aN S f (3 : Int) := (aN_fr f173 rfl).trans (aN_o rfl)
          have w178 : aN S172 f (10 : Int) = aN S f (10 : Int) := (aN_fr f173 rfl).trans (aN_o rfl)
          have w179 : S172 49 0 7 = (fx_up S 49 0 0 (0 : Int)) 49 0 7 := f173 49 0 7 rfl
          have g180 : COL S172 := fx_pfr COL_stab f173 rfl g93
          have g181 : WTM S172 := fx_pfr WTM_stab f173 rfl g94
          have g182 : INJ S172 := fx_pfr INJ_stab f173 rfl g95
          have g183 : AON S172 := fx_pfr AON_stab f173 rfl g96
          have g184 : USE S172 := fx_pfr USE_stab f173 rfl g97
          have g185 : SNP S172 := fx_pfr SNP_stab f173 rfl g98
          refine And.intro (by decide) ?_
          refine And.intro (fun (h186 : (z171 = (0 : Int) : Prop)) => ?_) (fun (h186 : (z171 ≠ (0 : Int) : Prop)) => ?_)
          ·
            refine c_at3 (n := f) g180 (show 0 ≤ f ∧ f < 60 by omega) (fun (z187 : Int) (q188 : z187 = aN S172 f 3 ∧ 0 ≤ z187 ∧ z187 ≤ 1024) => ?_)
            refine And.intro (fun (h189 : (z187 ≤ z : Prop)) => ?_) (fun (h189 : (z < z187 : Prop)) => ?_)
            ·
              refine And.intro (by decide) ?_
              refine And.intro (fun _ => ?_) (fun h => absurd h (by decide))
              refine c_StubHouseModel_ahead  g180 g181 g182 g183 g184 g185 (fun (S190 : fxS) ⟨(f191 : fxfr [(49, 7), (53, 9999), (56, 9999), (58, 9999)] S172 S190), (q192 : 0 ≤ S190 49 0 7 ∧ S190 49 0 7 ≤ 199), (g193 : SNP S190), (g194 : USE S190), (g195 : UZ S172 S190)⟩ => ?_)
              have w196 : aN S190 f (0 : Int) = aN S172 f (0 : Int) := (aN_fr f191 rfl)
              have w197 : aN S190 f (3 : Int) = aN S172 f (3 : Int) := (aN_fr f191 rfl)
              have w198 : aN S190 f (10 : Int) = aN S172 f (10 : Int) := (aN_fr f191 rfl)
              have g199 : COL S190 := fx_pfr COL_stab f191 rfl g180
              have g200 : WTM S190 := fx_pfr WTM_stab f191 rfl g181
              have g201 : INJ S190 := fx_pfr INJ_stab f191 rfl g182
              have g202 : AON S190 := fx_pfr AON_stab f191 rfl g183
              have g203 : REC S190 := fx_pfr REC_stab f191 rfl g175
              have fz : fcn (S172 56 0) 0 208 ≤ fcn (S190 56 0) 0 208 := UZ_fcn (by assumption : UZ S172 S190)
              refine And.intro (show -2147483648 ≤ (z + (32 : Int)) ∧ (z + (32 : Int)) < 2147483648 by omega) ?_
              refine And.intro (show -2147483648 ≤ ((z + (32 : Int)) - (1 : Int)) ∧ ((z + (32 : Int)) - (1 : Int)) < 2147483648 by omega) ?_
              refine And.intro (show 0 ≤ ((z + (32 : Int)) - (1 : Int)) ∧ 0 < (32 : Int) by omega) ?_
              refine And.intro (by decide) ?_
              refine And.intro (fun _ => ?_) (fun h => absurd h (by decide))
              refine And.intro (by decide) ?_
              have ax : AONX f z S190 := AONX_of g202 (by omega)
              exact (z_StubHouseModel_cut p0 p1 p2 p3 p4 p5 p6 p7 p8 hk (100 - (((z + (32 : Int)) - (1 : Int)) / (32 : Int))).toNat).2 (((z + (32 : Int)) - (1 : Int)) / (32 : Int)) (((z + (32 : Int)) - (1 : Int)) / (32 : Int)) S190 (fxfr_tr (fxfr_tr (fxfr_up fxfr_rfl rfl) f173 rfl) f191 rfl) (by omega) (by omega) (by omega) (by omega) (by omega) g199 g200 g201 g194 g193 g203 ax (by omega)
            ·
              refine And.intro (show 0 ≤ z ∧ 0 < (32 : Int) by omega) ?_
              refine And.intro (fun (h204 : ((z % (32 : Int)) = (0 : Int) : Prop)) => ?_) (fun (h204 : ((z % (32 : Int)) ≠ (0 : Int) : Prop)) => ?_)
              ·
                refine And.intro (by decide) ?_
                refine And.intro (fun _ => ?_) (fun h => absurd h (by decide))
                refine c_StubHouseModel_ahead  g180 g181 g182 g183 g184 g185 (fun (S205 : fxS) ⟨(f206 : fxfr [(49, 7), (53, 9999), (56, 9999), (58, 9999)] S172 S205), (q207 : 0 ≤ S205 49 0 7 ∧ S205 49 0 7 ≤ 199), (g208 : SNP S205), (g209 : USE S205), (g210 : UZ S172 S205)⟩ => ?_)
                have w211 : aN S205 f (0 : Int) = aN S172 f (0 : Int) := (aN_fr f206 rfl)
                have w212 : aN S205 f (3 : Int) = aN S172 f (3 : Int) := (aN_fr f206 rfl)
                have w213 : aN S205 f (10 : Int) = aN S172 f (10 : Int) := (aN_fr f206 rfl)
                have g214 : COL S205 := fx_pfr COL_stab f206 rfl g180
                have g215 : WTM S205 := fx_pfr WTM_stab f206 rfl g181
                have g216 : INJ S205 := fx_pfr INJ_stab f206 rfl g182
                have g217 : AON S205 := fx_pfr AON_stab f206 rfl g183
                have g218 : REC S205 := fx_pfr REC_stab f206 rfl g175
                have fz : fcn (S172 56 0) 0 208 ≤ fcn (S205 56 0) 0 208 := UZ_fcn (by assumption : UZ S172 S205)
                refine And.intro (show -2147483648 ≤ (z + (32 : Int)) ∧ (z + (32 : Int)) < 2147483648 by omega) ?_
                refine And.intro (show -2147483648 ≤ ((z + (32 : Int)) - (1 : Int)) ∧ ((z + (32 : Int)) - (1 : Int)) < 2147483648 by omega) ?_
                refine And.intro (show 0 ≤ ((z + (32 : Int)) - (1 : Int)) ∧ 0 < (32 : Int) by omega) ?_
                refine And.intro (by decide) ?_
                refine And.intro (fun _ => ?_) (fun h => absurd h (by decide))
                refine And.intro (by decide) ?_
                have ax : AONX f z S205 := AONX_of g217 (by omega)
                exact (z_StubHouseModel_cut p0 p1 p2 p3 p4 p5 p6 p7 p8 hk (100 - (((z + (32 : Int)) - (1 : Int)) / (32 : Int))).toNat).2 (((z + (32 : Int)) - (1 : Int)) / (32 : Int)) (((z + (32 : Int)) - (1 : Int)) / (32 : Int)) S205 (fxfr_tr (fxfr_tr (fxfr_up fxfr_rfl rfl) f173 rfl) f206 rfl) (by omega) (by omega) (by omega) (by omega) (by omega) g214 g215 g216 g209 g208 g218 ax (by omega)
              ·
                refine And.intro (by decide) ?_
                refine And.intro (fun h => absurd h (by decide)) (fun _ => ?_)
                refine c_freeIn_0_208   (fun (z219 : Int) (q220 : z219 = fcn (S172 56 0) 0 208 ∧ 0 ≤ z219 ∧ z219 ≤ 208) => ?_)
                refine And.intro (fun (h221 : (z219 ≠ (0 : Int) : Prop)) => ?_) (fun (h221 : (z219 = (0 : Int) : Prop)) => ?_)
                ·
                  refine c_StubHouseModel_ahead  g180 g181 g182 g183 g184 g185 (fun (S222 : fxS) ⟨(f223 : fxfr [(49, 7), (53, 9999), (56, 9999), (58, 9999)] S172 S222), (q224 : 0 ≤ S222 49 0 7 ∧ S222 49 0 7 ≤ 199), (g225 : SNP S222), (g226 : USE S222), (g227 : UZ S172 S222)⟩ => ?_)
                  have w228 : aN S222 f (0 : Int) = aN S172 f (0 : Int) := (aN_fr f223 rfl)
                  have w229 : aN S222 f (3 : Int) = aN S172 f (3 : Int) := (aN_fr f223 rfl)
                  have w230 : aN S222 f (10 : Int) = aN S172 f (10 : Int) := (aN_fr f223 rfl)
                  have g231 : COL S222 := fx_pfr COL_stab f223 rfl g180
                  have g232 : WTM S222 := fx_pfr WTM_stab f223 rfl g181
                  have g233 : INJ S222 := fx_pfr INJ_stab f223 rfl g182
                  have g234 : AON S222 := fx_pfr AON_stab f223 rfl g183
                  have g235 : REC S222 := fx_pfr REC_stab f223 rfl g175
                  have fz : fcn (S172 56 0) 0 208 ≤ fcn (S222 56 0) 0 208 := UZ_fcn (by assumption : UZ S172 S222)
                  refine And.intro (show -2147483648 ≤ (z + (32 : Int)) ∧ (z + (32 : Int)) < 2147483648 by omega) ?_
                  refine And.intro (show -2147483648 ≤ ((z + (32 : Int)) - (1 : Int)) ∧ ((z + (32 : Int)) - (1 : Int)) < 2147483648 by omega) ?_
                  refine And.intro (show 0 ≤ ((z + (32 : Int)) - (1 : Int)) ∧ 0 < (32 : Int) by omega) ?_
                  refine And.intro (by decide) ?_
                  refine And.intro (fun h => absurd h (by decide)) (fun _ => ?_)
                  refine And.intro (show -2147483648 ≤ ((((z + (32 : Int)) - (1 : Int)) / (32 : Int)) - (1 : Int)) ∧ ((((z + (32 : Int)) - (1 : Int)) / (32 : Int)) - (1 : Int)) < 2147483648 by omega) ?_
                  refine c_StubHouseModel_renew (f := f) (p := ((((z + (32 : Int)) - (1 : Int)) / (32 : Int)) - (1 : Int))) g231 g232 g233 g234 g226 g235 (show 0 ≤ f ∧ f < 60 by omega) (show 0 ≤ ((((z + (32 : Int)) - (1 : Int)) / (32 : Int)) - (1 : Int)) ∧ ((((z + (32 : Int)) - (1 : Int)) / (32 : Int)) - (1 : Int)) < 32 by omega) (show aN S222 f 0 = 2 by omega) (show 1 ≤ fcn (S222 56 0) 0 208 by omega) (show ((((z + (32 : Int)) - (1 : Int)) / (32 : Int)) - (1 : Int)) ≠ 0 ∨ 0 ≤ aN S222 f 10 ∨ aN S222 f 3 ≤ 0 by omega) (fun (S236 : fxS) ⟨(f237 : fxfr [(50, 9999), (56, 9999), (57, 9999)] S222 S236), (g238 : COL S236), (g239 : WTM S236), (g240 : INJ S236), (g241 : AON S236), (g242 : USE S236), (g243 : REC S236), (g244 : RNW f ((((z + (32 : Int)) - (1 : Int)) / (32 : Int)) - (1 : Int)) S222 S236)⟩ => ?_)
                  have w245 : S236 49 0 7 = S222 49 0 7 := f237 49 0 7 rfl
                  have g246 : SNP S236 := fx_pfr SNP_stab f237 rfl g225
                  have rn := (by assumption : RNW f ((((z + (32 : Int)) - (1 : Int)) / (32 : Int)) - (1 : Int)) S222 S236)
                  have e0 : aN S236 f 0 = aN S222 f 0 := rn.1 f 0 (by omega) (by omega) (by omega) (by omega) (Or.inr (by omega))
                  have e3 : aN S236 f 3 = aN S222 f 3 := rn.1 f 3 (by omega) (by omega) (by omega) (by omega) (Or.inr (by omega))
                  have e10 : 0 ≤ aN S222 f 10 → 0 ≤ aN S236 f 10 := RNW_10 rn (by omega)
                  have ef := rn.2.2
                  have gb : GEB f ((((z + (32 : Int)) - (1 : Int)) / (32 : Int)) - 1) (((z + (32 : Int)) - (1 : Int)) / (32 : Int)) S236 := GEB_one rn.2.1 (by omega)
                  refine And.intro (show 0 ≤ z ∧ 0 < (32 : Int) by omega) ?_
                  refine And.intro (by decide) ?_
                  exact (z_StubHouseModel_cut p0 p1 p2 p3 p4 p5 p6 p7 p8 hk (1000 - (z % (32 : Int))).toNat).1 (((z + (32 : Int)) - (1 : Int)) / (32 : Int)) (z % (32 : Int)) S236 (fxfr_tr (fxfr_tr (fxfr_tr (fxfr_up fxfr_rfl rfl) f173 rfl) f223 rfl) f237 rfl) (by omega) (by omega) (by omega) (by omega) (by omega) g238 g239 g240 g241 g242 g246 g243 gb (by omega)
                ·
                  exact hk (-3 : Int) S172 ⟨(fxfr_tr (fxfr_up fxfr_rfl rfl) f173 rfl), by omega, g180, g181, g182, g183, g184, g185, g175⟩
          ·
            exact hk z171 S172 ⟨(fxfr_tr (fxfr_up fxfr_rfl rfl) f173 rfl), by omega, g180, g181, g182, g183, g184, g185, g175⟩
      ·
        exact hk (-1 : Int) (fx_up S 49 0 0 (0 : Int)) ⟨(fxfr_up fxfr_rfl rfl), by omega, g93, g94, g95, g96, g97, g98, g99⟩
  ·
    exact hk (-8 : Int) (fx_up S 49 0 0 (0 : Int)) ⟨(fxfr_up fxfr_rfl rfl), by omega, g93, g94, g95, g96, g97, g98, g99⟩
theorem c_StubHouseModel_read {l : Launch} {k : fxK} {S : fxS} {f : Int} {p : Int} (p0 : COL S) (p1 : WTM S) (p2 : AON S) (p3 : REC S) (p4 : -2147483648 ≤ f ∧ f < 2147483648) (p5 : -2147483648 ≤ p ∧ p < 2147483648) (hk : ∀ (r : Int) (S' : fxS) , (fxfr [(49, 0), (49, 36), (52, 9999), (75, 9999)] S S' ∧ (-2147483648 ≤ r ∧ r < 2147483648) ∧ (REC S')) → k (some (.inl r)) S') : fC l 117 [.inr (.inr (49, 0)), .inl f, .inl p] S k := by
  refine fxe_117 (Nat.le_of_ble_eq_true rfl) (fxz_117 400 ?_)
  refine And.intro (show (-2147483648 : Int) ≤ (0 : Int) ∧ (0 : Int) ≤ (2147483647 : Int) by omega) ?_
  have w1 : aN (fx_up S 49 0 0 (0 : Int)) f (0 : Int) = aN S f (0 : Int) := (aN_o rfl)
  have w2 : aN (fx_up S 49 0 0 (0 : Int)) f (3 : Int) = aN S f (3 : Int) := (aN_o rfl)
  have w3 : aN (fx_up S 49 0 0 (0 : Int)) f (10 : Int) = aN S f (10 : Int) := (aN_o rfl)
  have g4 : COL (fx_up S 49 0 0 (0 : Int)) := fx_pup COL_stab rfl p0
  have g5 : WTM (fx_up S 49 0 0 (0 : Int)) := fx_pup WTM_stab rfl p1
  have g6 : AON (fx_up S 49 0 0 (0 : Int)) := fx_pup AON_stab rfl p2
  have g7 : REC (fx_up S 49 0 0 (0 : Int)) := fx_pup REC_stab rfl p3
  intro z8 (z8a : (0 : Int) ≤ z8) (z8b : z8 ≤ (1 : Int)) (z8c : z8 = S 49 0 15)
  refine And.intro (fun (h9 : (z8 = (0 : Int) : Prop)) => ?_) (fun (h9 : (z8 ≠ (0 : Int) : Prop)) => ?_)
  ·
    refine c_StubHouseModel_isFile (n := f) g4 (show -2147483648 ≤ f ∧ f < 2147483648 by omega) (fun (z10 : Int) (q11 : 0 ≤ z10 ∧ z10 ≤ 1 ∧ (z10 = 1 → 0 ≤ f ∧ f < 60 ∧ aN S f 0 = 2)) => ?_)
    refine And.intro (fun (h12 : (z10 = (0 : Int) : Prop)) => ?_) (fun (h12 : (z10 ≠ (0 : Int) : Prop)) => ?_)
    ·
      exact hk (-1 : Int) (fx_up S 49 0 0 (0 : Int)) ⟨(fxfr_up fxfr_rfl rfl), by omega, g7⟩
    ·
      refine c_at3 (n := f) g4 (show 0 ≤ f ∧ f < 60 by omega) (fun (z13 : Int) (q14 : z13 = aN S f 3 ∧ 0 ≤ z13 ∧ z13 ≤ 1024) => ?_)
      refine And.intro (show -2147483648 ≤ (z13 - (1 : Int)) ∧ (z13 - (1 : Int)) < 2147483648 by omega) ?_
      refine c_StubHouseModel_in (x := p) (a := (0 : Int)) (b := (z13 - (1 : Int)))  (fun (z15 : Int) (q16 : 0 ≤ z15 ∧ z15 ≤ 1 ∧ (z15 = 1 → (0 : Int) ≤ p ∧ p ≤ (z13 - (1 : Int))) ∧ (z15 = 0 → p < (0 : Int) ∨ (z13 - (1 : Int)) < p)) => ?_)
      refine And.intro (fun (h17 : (z15 ≠ (0 : Int) : Prop)) => ?_) (fun (h17 : (z15 = (0 : Int) : Prop)) => ?_)
      ·
        refine c_StubHouseModel_stubbed (f := f) g4 g5 g7 (show 0 ≤ f ∧ f < 60 by omega) (show aN S f 0 = 2 by omega) (fun (z18 : Int) (S19 : fxS) ⟨(f20 : fxfr [(49, 36), (75, 9999)] (fx_up S 49 0 0 (0 : Int)) S19), (q21 : -5 ≤ z18 ∧ z18 ≤ 0 ∧ (z18 = 0 → aN S f 3 ≤ 0 ∨ 0 ≤ aN S f 10)), (g22 : REC S19)⟩ => ?_)
        have w23 : aN S19 f (0 : Int) = aN S f (0 : Int) := (aN_fr f20 rfl).trans (aN_o rfl)
        have w24 : aN S19 f (3 : Int) = aN S f (3 : Int) := (aN_fr f20 rfl).trans (aN_o rfl)
        have w25 : aN S19 f (10 : Int) = aN S f (10 : Int) := (aN_fr f20 rfl).trans (aN_o rfl)
        have g26 : COL S19 := fx_pfr COL_stab f20 rfl g4
        have g27 : WTM S19 := fx_pfr WTM_stab f20 rfl g5
        have g28 : AON S19 := fx_pfr AON_stab f20 rfl g6
        refine And.intro (by decide) ?_
        refine And.intro (fun (h29 : (z18 = (0 : Int) : Prop)) => ?_) (fun (h29 : (z18 ≠ (0 : Int) : Prop)) => ?_)
        ·
          intro z30 (z30a : (-2147483648 : Int) ≤ z30) (z30b : z30 ≤ (2147483647 : Int)) (z30c : z30 = S19 49 0 11)
          refine And.intro (show 0 ≤ f ∧ f < 60 by omega) ?_
          refine And.intro (show (-2147483648 : Int) ≤ z30 ∧ z30 ≤ (2147483647 : Int) by omega) ?_
          have w31 : aN (fx_up S19 52 0 (f).toNat z30) f (0 : Int) = aN S19 f (0 : Int) := (aN_o rfl)
          have w32 : aN (fx_up S19 52 0 (f).toNat z30) f (3 : Int) = aN S19 f (3 : Int) := (aN_o rfl)
          have w33 : aN (fx_up S19 52 0 (f).toNat z30) f (10 : Int) = aN S19 f (10 : Int) := (aN_o rfl)
          have g34 : COL (fx_up S19 52 0 (f).toNat z30) := fx_pup COL_stab rfl g26
          have g35 : WTM (fx_up S19 52 0 (f).toNat z30) := fx_pup WTM_stab rfl g27
          have g36 : AON (fx_up S19 52 0 (f).toNat z30) := fx_pup AON_stab rfl g28
          have g37 : REC (fx_up S19 52 0 (f).toNat z30) := fx_pup REC_stab rfl g22
          refine And.intro (show 0 ≤ p ∧ 0 < (32 : Int) by omega) ?_
          refine And.intro (show -2147483648 ≤ ((10 : Int) + (p / (32 : Int))) ∧ ((10 : Int) + (p / (32 : Int))) < 2147483648 by omega) ?_
          refine c_atb (n := f) (w := ((10 : Int) + (p / (32 : Int)))) g34 (show 0 ≤ f ∧ f < 60 by omega) (show 10 ≤ ((10 : Int) + (p / (32 : Int))) ∧ ((10 : Int) + (p / (32 : Int))) < 42 by omega) (fun (z38 : Int) (q39 : z38 = aN S19 f ((10 : Int) + (p / (32 : Int))) ∧ -1 ≤ z38 ∧ z38 ≤ 207) => ?_)
          have rp : 0 ≤ z38 := by rw [q39.1]; exact AON_at g36 (by omega) (by omega) (by omega) (by omega) (by omega)
          refine And.intro (show -2147483648 ≤ ((32 : Int) * z38) ∧ ((32 : Int) * z38) < 2147483648 by omega) ?_
          refine And.intro (show 0 ≤ p ∧ 0 < (32 : Int) by omega) ?_
          refine And.intro (show -2147483648 ≤ (((32 : Int) * z38) + (p % (32 : Int))) ∧ (((32 : Int) * z38) + (p % (32 : Int))) < 2147483648 by omega) ?_
          refine And.intro (show 0 ≤ (((32 : Int) * z38) + (p % (32 : Int))) ∧ (((32 : Int) * z38) + (p % (32 : Int))) < 6656 by omega) ?_
          intro z40 (z40a : (-128 : Int) ≤ z40) (z40b : z40 ≤ (127 : Int)) (z40c : z40 = S19 57 0 ((((32 : Int) * z38) + (p % (32 : Int)))).toNat)
          refine And.intro (show (0 : Int) ≤ (255 : Int) by omega) ?_
          intro z41 (z41a : 0 ≤ z41) (z41b : z41 ≤ (255 : Int)) z41d
          have z41c : z41 = z40 % 256 := z41d rfl
          exact hk z41 (fx_up S19 52 0 (f).toNat z30) ⟨(fxfr_up (fxfr_tr (fxfr_up fxfr_rfl rfl) f20 rfl) rfl), by omega, g37⟩
        ·
          exact hk z18 S19 ⟨(fxfr_tr (fxfr_up fxfr_rfl rfl) f20 rfl), by omega, g22⟩
      ·
        exact hk (-1 : Int) (fx_up S 49 0 0 (0 : Int)) ⟨(fxfr_up fxfr_rfl rfl), by omega, g7⟩
  ·
    exact hk (-8 : Int) (fx_up S 49 0 0 (0 : Int)) ⟨(fxfr_up fxfr_rfl rfl), by omega, g7⟩
theorem z_StubHouseModel_move {l : Launch} {k : fxK} {S : fxS} {n : Int} {o : Int} {x : Int} (p0 : COL S) (p1 : WTM S) (p2 : INJ S) (p3 : AON S) (p4 : USE S) (p5 : SNP S) (p6 : REC S) (p7 : -2147483648 ≤ n ∧ n < 2147483648) (p8 : -2147483648 ≤ o ∧ o < 2147483648) (hk : ∀ (r : Int) (S' : fxS) , (fxfr [(49, 0), (49, 7), (50, 9999), (53, 9999), (55, 9999), (56, 9999), (58, 9999)] S S' ∧ (-2147483648 ≤ r ∧ r < 2147483648) ∧ (COL S') ∧ (WTM S') ∧ (INJ S') ∧ (AON S') ∧ (USE S') ∧ (SNP S') ∧ (REC S')) → k (some (.inl r)) S') : ∀ m : Nat, (∀ (a j : Int) (S1 : fxS), (fxfr [(49, 0), (49, 7), (50, 9999), (53, 9999), (55, 9999), (56, 9999), (58, 9999)] S S1) → (1 ≤ n ∧ n < 60 ∧ 0 ≤ o ∧ o < 60) → (1 ≤ j ∧ j ≤ 60) → (a = (depF (ovf (S1 50 0)) 60 o : Int) + 1 - (depF (ovf (S1 50 0)) 60 n : Int) ∧ -10 ≤ a ∧ a ≤ 10) → (COL S1) → (WTM S1) → (INJ S1) → (AON S1) → (USE S1) → (SNP S1) → (REC S1) → (MVM n o S1) → (HGM n o j S1) → 61 - j ≤ (m : Int) → fZ l 84 k 105 [some (.inr (.inr (49, 0))), some (.inl n), some (.inl o), some (.inr (.inl x)), none, none, some (.inl a), some (.inl j)] [] S1) := by
  intro m
  induction m with
  | zero =>
    intro a j S1 hf i0 i1 i2 i3 i4 i5 i6 i7 i8 i9 i10 i11 hmu
    exfalso
    omega
  | succ m ih =>
    intro a j S1 hf i0 i1 i2 i3 i4 i5 i6 i7 i8 i9 i10 i11 hmu
    refine fxz_84 400 ?_
    refine And.intro (fun (h1 : ((60 : Int) ≤ j : Prop)) => ?_) (fun (h1 : (j < (60 : Int) : Prop)) => ?_)
    ·
      refine c_StubHouseModel_ahead  i3 i4 i5 i6 i7 i8 (fun (S2 : fxS) ⟨(f3 : fxfr [(49, 7), (53, 9999), (56, 9999), (58, 9999)] S1 S2), (q4 : 0 ≤ S2 49 0 7 ∧ S2 49 0 7 ≤ 199), (g5 : SNP S2), (g6 : USE S2), (g7 : UZ S1 S2)⟩ => ?_)
      have g8 : COL S2 := fx_pfr COL_stab f3 rfl i3
      have g9 : WTM S2 := fx_pfr WTM_stab f3 rfl i4
      have g10 : INJ S2 := fx_pfr INJ_stab f3 rfl i5
      have g11 : AON S2 := fx_pfr AON_stab f3 rfl i6
      have g12 : REC S2 := fx_pfr REC_stab f3 rfl i9
      have g13 : MVM n o S2 := fx_pfr MVM_stab f3 rfl i10
      have g14 : HGM n o j S2 := fx_pfr HGM_stab f3 rfl i11
      refine c_set (n := n) (w := (1 : Int)) (v := o) (show 0 ≤ n ∧ n < 60 by omega) (show 0 ≤ (1 : Int) ∧ (1 : Int) < 42 by omega) (show -2147483648 ≤ o ∧ o < 2147483648 by omega) ?_
      have w15 : (fx_up S2 50 0 (42 * n + (1 : Int)).toNat o) 49 0 7 = S2 49 0 7 := rfl
      have g16 : COL (fx_up S2 50 0 (42 * n + (1 : Int)).toNat o) := COL_set g8 (by omega) (by omega) (by omega)
      have g17 : INJ (fx_up S2 50 0 (42 * n + (1 : Int)).toNat o) := INJ_set g10 (by omega) (by omega)
      have g18 : AON (fx_up S2 50 0 (42 * n + (1 : Int)).toNat o) := AON_set g11 (by omega) (by omega)
      have g19 : USE (fx_up S2 50 0 (42 * n + (1 : Int)).toNat o) := USE_set g6 (by omega) (by omega)
      have g20 : SNP (fx_up S2 50 0 (42 * n + (1 : Int)).toNat o) := fx_pup SNP_stab rfl g5
      have g21 : REC (fx_up S2 50 0 (42 * n + (1 : Int)).toNat o) := REC_set g12 (by omega) (by omega)
      have g22 : UZ S1 (fx_up S2 50 0 (42 * n + (1 : Int)).toNat o) := fx_pup UZ_stab rfl g7
      have wt : WTM (fx_up S2 50 0 (42 * n + (1 : Int)).toNat o) := WTM_move g9 (by omega) (by omega) g13 g14 (by omega)
      refine And.intro (show 0 ≤ n ∧ n < 60 by omega) ?_
      refine c_StubHouseModel_record (e := (16 : Int)) g16 wt g17 g18 g20 (show S2 49 0 7 ≤ 199 by omega) (show 0 ≤ (16 : Int) ∧ (16 : Int) ≤ 1000 by omega) (fun (S23 : fxS) ⟨(f24 : fxfr [(49, 7), (53, 9999), (55, 9999)] (fx_up S2 50 0 (42 * n + (1 : Int)).toNat o) S23), (g25 : SNP S23)⟩ => ?_)
      have g26 : COL S23 := fx_pfr COL_stab f24 rfl g16
      have g27 : INJ S23 := fx_pfr INJ_stab f24 rfl g17
      have g28 : AON S23 := fx_pfr AON_stab f24 rfl g18
      have g29 : USE S23 := fx_pfr USE_stab f24 rfl g19
      have g30 : REC S23 := fx_pfr REC_stab f24 rfl g21
      have g31 : UZ S1 S23 := fx_pfr UZ_stab f24 rfl g22
      have g32 : WTM S23 := fx_pfr WTM_stab f24 rfl wt
      exact hk (0 : Int) S23 ⟨(fxfr_tr (fxfr_up (fxfr_tr hf f3 rfl) rfl) f24 rfl), by omega, g26, g32, g27, g28, g29, g25, g30⟩
    ·
      refine c_at0 (n := j) i3 (show 0 ≤ j ∧ j < 60 by omega) (fun (z33 : Int) (q34 : z33 = aN S1 j 0 ∧ 0 ≤ z33 ∧ z33 ≤ 2) => ?_)
      refine And.intro (fun (h35 : (z33 = (0 : Int) : Prop)) => ?_) (fun (h35 : (z33 ≠ (0 : Int) : Prop)) => ?_)
      ·
        refine And.intro (by decide) (And.intro (show -2147483648 ≤ j + (1 : Int) ∧ j + (1 : Int) < 2147483648 by omega) ?_)
        have hs : HGM n o (j + (1 : Int)) S1 := HGM_step i11 (fun x y => by first | omega | (rw [wk (by omega)] at y; cases y))
        exact ih a (j + (1 : Int)) S1 hf (by omega) (by omega) (by omega) i3 i4 i5 i6 i7 i8 i9 i10 hs (by omega)
      ·
        refine c_StubHouseModel_isBelow (n := j) (t := n) i3 i4 (show 0 ≤ j ∧ j < 60 by omega) (show 1 ≤ n by omega) (fun (z37 : Int) (q38 : 0 ≤ z37 ∧ z37 ≤ 1 ∧ (z37 = 1 → wiF (ovf (S1 50 0)) n 60 j = true) ∧ (z37 = 0 → wiF (ovf (S1 50 0)) n 60 j = false)) => ?_)
        have wk : z37 = 0 → wiF (ovf (S1 50 0)) n 60 j = false := q38.2.2.2
        refine And.intro (fun (h39 : (z37 = (0 : Int) : Prop)) => ?_) (fun (h39 : (z37 ≠ (0 : Int) : Prop)) => ?_)
        ·
          refine And.intro (by decide) (And.intro (show -2147483648 ≤ j + (1 : Int) ∧ j + (1 : Int) < 2147483648 by omega) ?_)
          have hs : HGM n o (j + (1 : Int)) S1 := HGM_step i11 (fun x y => by first | omega | (rw [wk (by omega)] at y; cases y))
          exact ih a (j + (1 : Int)) S1 hf (by omega) (by omega) (by omega) i3 i4 i5 i6 i7 i8 i9 i10 hs (by omega)
        ·
          refine c_StubHouseModel_depth (n := j) i3 i4 (show 0 ≤ j ∧ j < 60 by omega) (fun (z41 : Int) (q42 : z41 = (depF (ovf (S1 50 0)) 60 j : Int) ∧ 0 ≤ z41 ∧ z41 ≤ 5) => ?_)
          refine And.intro (show -2147483648 ≤ (z41 + a) ∧ (z41 + a) < 2147483648 by omega) ?_
          refine And.intro (fun (h43 : ((z41 + a) ≤ (5 : Int) : Prop)) => ?_) (fun (h43 : ((5 : Int) < (z41 + a) : Prop)) => ?_)
          ·
            refine And.intro (by decide) (And.intro (show -2147483648 ≤ j + (1 : Int) ∧ j + (1 : Int) < 2147483648 by omega) ?_)
            have hs : HGM n o (j + (1 : Int)) S1 := HGM_step i11 (fun x y => by first | omega | (rw [wk (by omega)] at y; cases y))
            exact ih a (j + (1 : Int)) S1 hf (by omega) (by omega) (by omega) i3 i4 i5 i6 i7 i8 i9 i10 hs (by omega)
          ·
            exact hk (-3 : Int) S1 ⟨hf, by omega, i3, i4, i5, i6, i7, i8, i9⟩
theorem c_StubHouseModel_move {l : Launch} {k : fxK} {S : fxS} {n : Int} {o : Int} {x : Int} (p0 : COL S) (p1 : WTM S) (p2 : INJ S) (p3 : AON S) (p4 : USE S) (p5 : SNP S) (p6 : REC S) (p7 : -2147483648 ≤ n ∧ n < 2147483648) (p8 : -2147483648 ≤ o ∧ o < 2147483648) (hk : ∀ (r : Int) (S' : fxS) , (fxfr [(49, 0), (49, 7), (50, 9999), (53, 9999), (55, 9999), (56, 9999), (58, 9999)] S S' ∧ (-2147483648 ≤ r ∧ r < 2147483648) ∧ (COL S') ∧ (WTM S') ∧ (INJ S') ∧ (AON S') ∧ (USE S') ∧ (SNP S') ∧ (REC S')) → k (some (.inl r)) S') : fC l 84 [.inr (.inr (49, 0)), .inl n, .inl o, .inr (.inl x)] S k := by
  refine fxe_84 (Nat.le_of_ble_eq_true rfl) (fxz_84 400 ?_)
  refine And.intro (show (-2147483648 : Int) ≤ (0 : Int) ∧ (0 : Int) ≤ (2147483647 : Int) by omega) ?_
  have w45 : (fx_up S 49 0 0 (0 : Int)) 49 0 7 = S 49 0 7 := if_neg (fun q => absurd q.2.2 (by decide))
  have g46 : COL (fx_up S 49 0 0 (0 : Int)) := fx_pup COL_stab rfl p0
  have g47 : WTM (fx_up S 49 0 0 (0 : Int)) := fx_pup WTM_stab rfl p1
  have g48 : INJ (fx_up S 49 0 0 (0 : Int)) := fx_pup INJ_stab rfl p2
  have g49 : AON (fx_up S 49 0 0 (0 : Int)) := fx_pup AON_stab rfl p3
  have g50 : USE (fx_up S 49 0 0 (0 : Int)) := fx_pup USE_stab rfl p4
  have g51 : SNP (fx_up S 49 0 0 (0 : Int)) := fx_pup SNP_stab rfl p5
  have g52 : REC (fx_up S 49 0 0 (0 : Int)) := fx_pup REC_stab rfl p6
  intro z53 (z53a : (0 : Int) ≤ z53) (z53b : z53 ≤ (1 : Int)) (z53c : z53 = S 49 0 15)
  refine And.intro (fun (h54 : (z53 = (0 : Int) : Prop)) => ?_) (fun (h54 : (z53 ≠ (0 : Int) : Prop)) => ?_)
  ·
    refine c_StubHouseModel_in (x := n) (a := (1 : Int)) (b := (59 : Int))  (fun (z55 : Int) (q56 : 0 ≤ z55 ∧ z55 ≤ 1 ∧ (z55 = 1 → (1 : Int) ≤ n ∧ n ≤ (59 : Int)) ∧ (z55 = 0 → n < (1 : Int) ∨ (59 : Int) < n)) => ?_)
    refine And.intro (fun (h57 : (z55 = (0 : Int) : Prop)) => ?_) (fun (h57 : (z55 ≠ (0 : Int) : Prop)) => ?_)
    ·
      exact hk (-1 : Int) (fx_up S 49 0 0 (0 : Int)) ⟨(fxfr_up fxfr_rfl rfl), by omega, g46, g47, g48, g49, g50, g51, g52⟩
    ·
      refine c_at0 (n := n) g46 (show 0 ≤ n ∧ n < 60 by omega) (fun (z58 : Int) (q59 : z58 = aN S n 0 ∧ 0 ≤ z58 ∧ z58 ≤ 2) => ?_)
      refine And.intro (fun (h60 : (z58 = (0 : Int) : Prop)) => ?_) (fun (h60 : (z58 ≠ (0 : Int) : Prop)) => ?_)
      ·
        exact hk (-1 : Int) (fx_up S 49 0 0 (0 : Int)) ⟨(fxfr_up fxfr_rfl rfl), by omega, g46, g47, g48, g49, g50, g51, g52⟩
      ·
        refine c_StubHouseModel_isDirectory (n := o) g46 (show -2147483648 ≤ o ∧ o < 2147483648 by omega) (fun (z61 : Int) (q62 : 0 ≤ z61 ∧ z61 ≤ 1 ∧ (z61 = 1 → 0 ≤ o ∧ o < 60 ∧ aN S o 0 = 1)) => ?_)
        refine And.intro (fun (h63 : (z61 = (0 : Int) : Prop)) => ?_) (fun (h63 : (z61 ≠ (0 : Int) : Prop)) => ?_)
        ·
          exact hk (-1 : Int) (fx_up S 49 0 0 (0 : Int)) ⟨(fxfr_up fxfr_rfl rfl), by omega, g46, g47, g48, g49, g50, g51, g52⟩
        ·
          intro z64 (z64a : 0 ≤ z64) (z64b : z64 ≤ 1)
          refine And.intro (fun (h65 : (z64 ≠ (0 : Int) : Prop)) => ?_) (fun (h65 : (z64 = (0 : Int) : Prop)) => ?_)
          ·
            refine c_StubHouseModel_look (o := o) (x := x) g46 (show -2147483648 ≤ o ∧ o < 2147483648 by omega) (fun (z66 : Int) (q67 : -2 ≤ z66 ∧ z66 < 60 ∧ z66 ≠ -1 ∧ z66 ≠ 0 ∧ (0 ≤ z66 → aN S z66 0 ≠ 0 ∧ aN S z66 1 = o)) => ?_)
            refine And.intro (by decide) ?_
            refine And.intro (fun (h68 : (z66 < (0 : Int) : Prop)) => ?_) (fun (h68 : ((0 : Int) ≤ z66 : Prop)) => ?_)
            ·
              refine c_StubHouseModel_isBelow (n := o) (t := n) g46 g47 (show 0 ≤ o ∧ o < 60 by omega) (show 1 ≤ n by omega) (fun (z69 : Int) (q70 : 0 ≤ z69 ∧ z69 ≤ 1 ∧ (z69 = 1 → wiF (ovf (S 50 0)) n 60 o = true) ∧ (z69 = 0 → wiF (ovf (S 50 0)) n 60 o = false)) => ?_)
              have wb : z69 = 0 → wiF (ovf (S 50 0)) n 60 o = false := q70.2.2.2
              refine And.intro (fun (h71 : (z69 = (0 : Int) : Prop)) => ?_) (fun (h71 : (z69 ≠ (0 : Int) : Prop)) => ?_)
              ·
                refine c_StubHouseModel_depth (n := o) g46 g47 (show 0 ≤ o ∧ o < 60 by omega) (fun (z72 : Int) (q73 : z72 = (depF (ovf (S 50 0)) 60 o : Int) ∧ 0 ≤ z72 ∧ z72 ≤ 5) => ?_)
                have dq : z72 = (depF (ovf (S 50 0)) 60 o : Int) := q73.1
                refine And.intro (show -2147483648 ≤ (z72 + (1 : Int)) ∧ (z72 + (1 : Int)) < 2147483648 by omega) ?_
                refine c_StubHouseModel_depth (n := n) g46 g47 (show 0 ≤ n ∧ n < 60 by omega) (fun (z74 : Int) (q75 : z74 = (depF (ovf (S 50 0)) 60 n : Int) ∧ 0 ≤ z74 ∧ z74 ≤ 5) => ?_)
                have dn : z74 = (depF (ovf (S 50 0)) 60 n : Int) := q75.1
                refine And.intro (show -2147483648 ≤ ((z72 + (1 : Int)) - z74) ∧ ((z72 + (1 : Int)) - z74) < 2147483648 by omega) ?_
                refine And.intro (by decide) ?_
                refine And.intro (by decide) ?_
                have dd : (depF (ovf ((fx_up S 49 0 0 (0 : Int)) 50 0)) 60 o : Int) = (depF (ovf (S 50 0)) 60 o : Int) := rfl
                have de : (depF (ovf ((fx_up S 49 0 0 (0 : Int)) 50 0)) 60 n : Int) = (depF (ovf (S 50 0)) 60 n : Int) := rfl
                have mv : MVM n o (fx_up S 49 0 0 (0 : Int)) := (⟨by omega, by omega, wb (by omega)⟩ : MVM n o S)
                have h0 : HGM n o (1 : Int) (fx_up S 49 0 0 (0 : Int)) := HGM_0
                exact (z_StubHouseModel_move p0 p1 p2 p3 p4 p5 p6 p7 p8 hk (61 - (1 : Int)).toNat) ((z72 + (1 : Int)) - z74) (1 : Int) (fx_up S 49 0 0 (0 : Int)) (fxfr_up fxfr_rfl rfl) (by omega) (by omega) (by omega) g46 g47 g48 g49 g50 g51 g52 mv h0 (by omega)
              ·
                exact hk (-6 : Int) (fx_up S 49 0 0 (0 : Int)) ⟨(fxfr_up fxfr_rfl rfl), by omega, g46, g47, g48, g49, g50, g51, g52⟩
            ·
              refine And.intro (fun (h76 : (z66 = n : Prop)) => ?_) (fun (h76 : (z66 ≠ n : Prop)) => ?_)
              ·
                refine c_StubHouseModel_isBelow (n := o) (t := n) g46 g47 (show 0 ≤ o ∧ o < 60 by omega) (show 1 ≤ n by omega) (fun (z77 : Int) (q78 : 0 ≤ z77 ∧ z77 ≤ 1 ∧ (z77 = 1 → wiF (ovf (S 50 0)) n 60 o = true) ∧ (z77 = 0 → wiF (ovf (S 50 0)) n 60 o = false)) => ?_)
                have wb : z77 = 0 → wiF (ovf (S 50 0)) n 60 o = false := q78.2.2.2
                refine And.intro (fun (h79 : (z77 = (0 : Int) : Prop)) => ?_) (fun (h79 : (z77 ≠ (0 : Int) : Prop)) => ?_)
                ·
                  refine c_StubHouseModel_depth (n := o) g46 g47 (show 0 ≤ o ∧ o < 60 by omega) (fun (z80 : Int) (q81 : z80 = (depF (ovf (S 50 0)) 60 o : Int) ∧ 0 ≤ z80 ∧ z80 ≤ 5) => ?_)
                  have dq : z80 = (depF (ovf (S 50 0)) 60 o : Int) := q81.1
                  refine And.intro (show -2147483648 ≤ (z80 + (1 : Int)) ∧ (z80 + (1 : Int)) < 2147483648 by omega) ?_
                  refine c_StubHouseModel_depth (n := n) g46 g47 (show 0 ≤ n ∧ n < 60 by omega) (fun (z82 : Int) (q83 : z82 = (depF (ovf (S 50 0)) 60 n : Int) ∧ 0 ≤ z82 ∧ z82 ≤ 5) => ?_)
                  have dn : z82 = (depF (ovf (S 50 0)) 60 n : Int) := q83.1
                  refine And.intro (show -2147483648 ≤ ((z80 + (1 : Int)) - z82) ∧ ((z80 + (1 : Int)) - z82) < 2147483648 by omega) ?_
                  refine And.intro (by decide) ?_
                  refine And.intro (by decide) ?_
                  have dd : (depF (ovf ((fx_up S 49 0 0 (0 : Int)) 50 0)) 60 o : Int) = (depF (ovf (S 50 0)) 60 o : Int) := rfl
                  have de : (depF (ovf ((fx_up S 49 0 0 (0 : Int)) 50 0)) 60 n : Int) = (depF (ovf (S 50 0)) 60 n : Int) := rfl
                  have mv : MVM n o (fx_up S 49 0 0 (0 : Int)) := (⟨by omega, by omega, wb (by omega)⟩ : MVM n o S)
                  have h0 : HGM n o (1 : Int) (fx_up S 49 0 0 (0 : Int)) := HGM_0
                  exact (z_StubHouseModel_move p0 p1 p2 p3 p4 p5 p6 p7 p8 hk (61 - (1 : Int)).toNat) ((z80 + (1 : Int)) - z82) (1 : Int) (fx_up S 49 0 0 (0 : Int)) (fxfr_up fxfr_rfl rfl) (by omega) (by omega) (by omega) g46 g47 g48 g49 g50 g51 g52 mv h0 (by omega)
                ·
                  exact hk (-6 : Int) (fx_up S 49 0 0 (0 : Int)) ⟨(fxfr_up fxfr_rfl rfl), by omega, g46, g47, g48, g49, g50, g51, g52⟩
              ·
                exact hk (-7 : Int) (fx_up S 49 0 0 (0 : Int)) ⟨(fxfr_up fxfr_rfl rfl), by omega, g46, g47, g48, g49, g50, g51, g52⟩
          ·
            exact hk (-1 : Int) (fx_up S 49 0 0 (0 : Int)) ⟨(fxfr_up fxfr_rfl rfl), by omega, g46, g47, g48, g49, g50, g51, g52⟩
  ·
    exact hk (-8 : Int) (fx_up S 49 0 0 (0 : Int)) ⟨(fxfr_up fxfr_rfl rfl), by omega, g46, g47, g48, g49, g50, g51, g52⟩
theorem z_StubHouseModel_feed {l : Launch} {k : fxK} {S : fxS} {n : Int} {x : Int} (p0 : -2147483648 ≤ n ∧ n < 2147483648) (hk : ∀ (r : Int) (S' : fxS) , (fxfr [(49, 0), (49, 17), (59, 9999)] S S' ∧ (-2147483648 ≤ r ∧ r < 2147483648)) → k (some (.inl r)) S') : ∀ m : Nat, (∀ (j : Int) (S1 : fxS), (fxfr [(49, 0), (49, 17), (59, 9999)] S S1) → (1 ≤ n ∧ n ≤ 8) → (0 ≤ j ∧ j ≤ n) → (0 ≤ S1 49 0 17 ∧ S1 49 0 17 + n ≤ 256) → n + 1 - j ≤ (m : Int) → fZ l 86 k 37 [some (.inr (.inr (49, 0))), some (.inl n), some (.inr (.inl x)), none, some (.inl j)] [] S1) := by
  intro m
  induction m with
  | zero =>
    intro j S1 hf i0 i1 i2 hmu
    exfalso
    omega
  | succ m ih =>
    intro j S1 hf i0 i1 i2 hmu
    refine fxz_86 400 ?_
    refine And.intro (fun (h1 : (n ≤ j : Prop)) => ?_) (fun (h1 : (j < n : Prop)) => ?_)
    ·
      intro z2 (z2a : (0 : Int) ≤ z2) (z2b : z2 ≤ (256 : Int)) (z2c : z2 = S1 49 0 17)
      refine And.intro (show -2147483648 ≤ (z2 + n) ∧ (z2 + n) < 2147483648 by omega) ?_
      refine And.intro (show (0 : Int) ≤ (z2 + n) ∧ (z2 + n) ≤ (256 : Int) by omega) ?_
      have w3 : (fx_up S1 49 0 17 (z2 + n)) 49 0 17 = (z2 + n) := fx_up_at _ _ _ _ _
      intro z4 (z4a : (0 : Int) ≤ z4) (z4b : z4 ≤ (256 : Int)) (z4c : z4 = (z2 + n))
      exact hk z4 (fx_up S1 49 0 17 (z2 + n)) ⟨(fxfr_up hf rfl), by omega⟩
    ·
      intro z5 (z5a : (0 : Int) ≤ z5) (z5b : z5 ≤ (256 : Int)) (z5c : z5 = S1 49 0 17)
      refine And.intro (show -2147483648 ≤ (z5 + j) ∧ (z5 + j) < 2147483648 by omega) ?_
      refine And.intro (show -2147483648 ≤ ((8 : Int) * j) ∧ ((8 : Int) * j) < 2147483648 by omega) ?_
      intro z6
      intro z7 z7a z7b
      intro z8 z8a z8b
      refine And.intro (show 0 ≤ (z5 + j) ∧ (z5 + j) < 256 by omega) ?_
      intro z9 z9a z9b z9c
      have w10 : (fx_up S1 59 0 ((z5 + j)).toNat z9) 49 0 17 = S1 49 0 17 := rfl
      refine And.intro (by decide) (And.intro (show -2147483648 ≤ j + (1 : Int) ∧ j + (1 : Int) < 2147483648 by omega) ?_)
      exact ih (j + (1 : Int)) (fx_up S1 59 0 ((z5 + j)).toNat z9) (fxfr_up hf rfl) (by omega) (by omega) (by omega) (by omega)
theorem c_StubHouseModel_feed {l : Launch} {k : fxK} {S : fxS} {n : Int} {x : Int} (p0 : -2147483648 ≤ n ∧ n < 2147483648) (hk : ∀ (r : Int) (S' : fxS) , (fxfr [(49, 0), (49, 17), (59, 9999)] S S' ∧ (-2147483648 ≤ r ∧ r < 2147483648)) → k (some (.inl r)) S') : fC l 86 [.inr (.inr (49, 0)), .inl n, .inr (.inl x)] S k := by
  refine fxe_86 (Nat.le_of_ble_eq_true rfl) (fxz_86 400 ?_)
  refine And.intro (show (-2147483648 : Int) ≤ (0 : Int) ∧ (0 : Int) ≤ (2147483647 : Int) by omega) ?_
  have w12 : (fx_up S 49 0 0 (0 : Int)) 49 0 17 = S 49 0 17 := if_neg (fun q => absurd q.2.2 (by decide))
  refine c_StubHouseModel_in (x := n) (a := (1 : Int)) (b := (8 : Int))  (fun (z13 : Int) (q14 : 0 ≤ z13 ∧ z13 ≤ 1 ∧ (z13 = 1 → (1 : Int) ≤ n ∧ n ≤ (8 : Int)) ∧ (z13 = 0 → n < (1 : Int) ∨ (8 : Int) < n)) => ?_)
  refine And.intro (fun (h15 : (z13 ≠ (0 : Int) : Prop)) => ?_) (fun (h15 : (z13 = (0 : Int) : Prop)) => ?_)
  ·
    intro z16 (z16a : (0 : Int) ≤ z16) (z16b : z16 ≤ (256 : Int)) (z16c : z16 = S 49 0 17)
    refine And.intro (show -2147483648 ≤ (z16 + n) ∧ (z16 + n) < 2147483648 by omega) ?_
    refine And.intro (fun (h17 : ((z16 + n) ≤ (256 : Int) : Prop)) => ?_) (fun (h17 : ((256 : Int) < (z16 + n) : Prop)) => ?_)
    ·
      refine And.intro (by decide) ?_
      exact (z_StubHouseModel_feed p0 hk (n + 1 - (0 : Int)).toNat) (0 : Int) (fx_up S 49 0 0 (0 : Int)) (fxfr_up fxfr_rfl rfl) (by omega) (by omega) (by omega) (by omega)
    ·
      exact hk (-3 : Int) (fx_up S 49 0 0 (0 : Int)) ⟨(fxfr_up fxfr_rfl rfl), by omega⟩
  ·
    exact hk (-1 : Int) (fx_up S 49 0 0 (0 : Int)) ⟨(fxfr_up fxfr_rfl rfl), by omega⟩
theorem z_StubHouseModel_fill {l : Launch} {k : fxK} {S : fxS} {n : Int} {v : Int} (p0 : -2147483648 ≤ n ∧ n < 2147483648) (p1 : -2147483648 ≤ v ∧ v < 2147483648) (hk : ∀ (r : Int) (S' : fxS) , (fxfr [(49, 0), (49, 17), (59, 9999)] S S' ∧ (-2147483648 ≤ r ∧ r < 2147483648)) → k (some (.inl r)) S') : ∀ m : Nat, (∀ (j : Int) (S1 : fxS), (fxfr [(49, 0), (49, 17), (59, 9999)] S S1) → (1 ≤ n ∧ n ≤ 256) → (0 ≤ j ∧ j ≤ n) → (0 ≤ S1 49 0 17 ∧ S1 49 0 17 + n ≤ 256) → n + 1 - j ≤ (m : Int) → fZ l 88 k 36 [some (.inr (.inr (49, 0))), some (.inl n), some (.inl v), some (.inl j)] [] S1) := by
  intro m
  induction m with
  | zero =>
    intro j S1 hf i0 i1 i2 hmu
    exfalso
    omega
  | succ m ih =>
    intro j S1 hf i0 i1 i2 hmu
    refine fxz_88 400 ?_
    refine And.intro (fun (h1 : (n ≤ j : Prop)) => ?_) (fun (h1 : (j < n : Prop)) => ?_)
    ·
      intro z2 (z2a : (0 : Int) ≤ z2) (z2b : z2 ≤ (256 : Int)) (z2c : z2 = S1 49 0 17)
      refine And.intro (show -2147483648 ≤ (z2 + n) ∧ (z2 + n) < 2147483648 by omega) ?_
      refine And.intro (show (0 : Int) ≤ (z2 + n) ∧ (z2 + n) ≤ (256 : Int) by omega) ?_
      have w3 : (fx_up S1 49 0 17 (z2 + n)) 49 0 17 = (z2 + n) := fx_up_at _ _ _ _ _
      intro z4 (z4a : (0 : Int) ≤ z4) (z4b : z4 ≤ (256 : Int)) (z4c : z4 = (z2 + n))
      exact hk z4 (fx_up S1 49 0 17 (z2 + n)) ⟨(fxfr_up hf rfl), by omega⟩
    ·
      intro z5 (z5a : (0 : Int) ≤ z5) (z5b : z5 ≤ (256 : Int)) (z5c : z5 = S1 49 0 17)
      refine And.intro (show -2147483648 ≤ (z5 + j) ∧ (z5 + j) < 2147483648 by omega) ?_
      intro z6 (z6a : -2147483648 ≤ z6) (z6b : z6 < 2147483648) (z6c : -2147483648 ≤ (v + j) ∧ (v + j) < 2147483648 → z6 = (v + j))
      intro z7 z7a z7b
      refine And.intro (show 0 ≤ (z5 + j) ∧ (z5 + j) < 256 by omega) ?_
      intro z8 z8a z8b z8c
      have w9 : (fx_up S1 59 0 ((z5 + j)).toNat z8) 49 0 17 = S1 49 0 17 := rfl
      refine And.intro (by decide) (And.intro (show -2147483648 ≤ j + (1 : Int) ∧ j + (1 : Int) < 2147483648 by omega) ?_)
      exact ih (j + (1 : Int)) (fx_up S1 59 0 ((z5 + j)).toNat z8) (fxfr_up hf rfl) (by omega) (by omega) (by omega) (by omega)
theorem c_StubHouseModel_fill {l : Launch} {k : fxK} {S : fxS} {n : Int} {v : Int} (p0 : -2147483648 ≤ n ∧ n < 2147483648) (p1 : -2147483648 ≤ v ∧ v < 2147483648) (hk : ∀ (r : Int) (S' : fxS) , (fxfr [(49, 0), (49, 17), (59, 9999)] S S' ∧ (-2147483648 ≤ r ∧ r < 2147483648)) → k (some (.inl r)) S') : fC l 88 [.inr (.inr (49, 0)), .inl n, .inl v] S k := by
  refine fxe_88 (Nat.le_of_ble_eq_true rfl) (fxz_88 400 ?_)
  refine And.intro (show (-2147483648 : Int) ≤ (0 : Int) ∧ (0 : Int) ≤ (2147483647 : Int) by omega) ?_
  have w11 : (fx_up S 49 0 0 (0 : Int)) 49 0 17 = S 49 0 17 := if_neg (fun q => absurd q.2.2 (by decide))
  refine c_StubHouseModel_in (x := n) (a := (1 : Int)) (b := (256 : Int))  (fun (z12 : Int) (q13 : 0 ≤ z12 ∧ z12 ≤ 1 ∧ (z12 = 1 → (1 : Int) ≤ n ∧ n ≤ (256 : Int)) ∧ (z12 = 0 → n < (1 : Int) ∨ (256 : Int) < n)) => ?_)
  refine And.intro (fun (h14 : (z12 ≠ (0 : Int) : Prop)) => ?_) (fun (h14 : (z12 = (0 : Int) : Prop)) => ?_)
  ·
    intro z15 (z15a : (0 : Int) ≤ z15) (z15b : z15 ≤ (256 : Int)) (z15c : z15 = S 49 0 17)
    refine And.intro (show -2147483648 ≤ (z15 + n) ∧ (z15 + n) < 2147483648 by omega) ?_
    refine And.intro (fun (h16 : ((z15 + n) ≤ (256 : Int) : Prop)) => ?_) (fun (h16 : ((256 : Int) < (z15 + n) : Prop)) => ?_)
    ·
      refine And.intro (by decide) ?_
      exact (z_StubHouseModel_fill p0 p1 hk (n + 1 - (0 : Int)).toNat) (0 : Int) (fx_up S 49 0 0 (0 : Int)) (fxfr_up fxfr_rfl rfl) (by omega) (by omega) (by omega) (by omega)
    ·
      exact hk (-3 : Int) (fx_up S 49 0 0 (0 : Int)) ⟨(fxfr_up fxfr_rfl rfl), by omega⟩
  ·
    exact hk (-1 : Int) (fx_up S 49 0 0 (0 : Int)) ⟨(fxfr_up fxfr_rfl rfl), by omega⟩
theorem c_StubHouseModel_about {l : Launch} {k : fxK} {S : fxS} {n : Int} {w : Int} (p0 : COL S) (p1 : WTM S) (p2 : -2147483648 ≤ n ∧ n < 2147483648) (p3 : -2147483648 ≤ w ∧ w < 2147483648) (hk : ∀ (r : Int) (S' : fxS) , (fxfr [(49, 0)] S S' ∧ (-2147483648 ≤ r ∧ r < 2147483648)) → k (some (.inl r)) S') : fC l 124 [.inr (.inr (49, 0)), .inl n, .inl w] S k := by
  refine fxe_124 (Nat.le_of_ble_eq_true rfl) (fxz_124 400 ?_)
  refine And.intro (show (-2147483648 : Int) ≤ (0 : Int) ∧ (0 : Int) ≤ (2147483647 : Int) by omega) ?_
  have g1 : COL (fx_up S 49 0 0 (0 : Int)) := fx_pup COL_stab rfl p0
  have g2 : WTM (fx_up S 49 0 0 (0 : Int)) := fx_pup WTM_stab rfl p1
  intro z3 (z3a : (0 : Int) ≤ z3) (z3b : z3 ≤ (1 : Int)) (z3c : z3 = S 49 0 15)
  refine And.intro (fun (h4 : (z3 = (0 : Int) : Prop)) => ?_) (fun (h4 : (z3 ≠ (0 : Int) : Prop)) => ?_)
  ·
    refine c_StubHouseModel_in (x := n) (a := (0 : Int)) (b := (59 : Int))  (fun (z5 : Int) (q6 : 0 ≤ z5 ∧ z5 ≤ 1 ∧ (z5 = 1 → (0 : Int) ≤ n ∧ n ≤ (59 : Int)) ∧ (z5 = 0 → n < (0 : Int) ∨ (59 : Int) < n)) => ?_)
    refine And.intro (fun (h7 : (z5 = (0 : Int) : Prop)) => ?_) (fun (h7 : (z5 ≠ (0 : Int) : Prop)) => ?_)
    ·
      exact hk (-1 : Int) (fx_up S 49 0 0 (0 : Int)) ⟨(fxfr_up fxfr_rfl rfl), by omega⟩
    ·
      refine c_StubHouseModel_in (x := w) (a := (0 : Int)) (b := (10 : Int))  (fun (z8 : Int) (q9 : 0 ≤ z8 ∧ z8 ≤ 1 ∧ (z8 = 1 → (0 : Int) ≤ w ∧ w ≤ (10 : Int)) ∧ (z8 = 0 → w < (0 : Int) ∨ (10 : Int) < w)) => ?_)
      refine And.intro (fun (h10 : (z8 ≠ (0 : Int) : Prop)) => ?_) (fun (h10 : (z8 = (0 : Int) : Prop)) => ?_)
      ·
        refine c_at0 (n := n) g1 (show 0 ≤ n ∧ n < 60 by omega) (fun (z11 : Int) (q12 : z11 = aN S n 0 ∧ 0 ≤ z11 ∧ z11 ≤ 2) => ?_)
        refine And.intro (by decide) ?_
        refine And.intro (fun (h13 : (w ≠ (0 : Int) : Prop)) => ?_) (fun (h13 : (w = (0 : Int) : Prop)) => ?_)
        ·
          refine And.intro (fun (h14 : (z11 = (0 : Int) : Prop)) => ?_) (fun (h14 : (z11 ≠ (0 : Int) : Prop)) => ?_)
          ·
            exact hk (-1 : Int) (fx_up S 49 0 0 (0 : Int)) ⟨(fxfr_up fxfr_rfl rfl), by omega⟩
          ·
            refine And.intro (fun (h15 : (z11 ≠ (1 : Int) : Prop)) => ?_) (fun (h15 : (z11 = (1 : Int) : Prop)) => ?_)
            ·
              refine And.intro (fun (h16 : w = (1 : Int)) => ?_) (fun (h16 : w ≠ (1 : Int)) => ?_)
              ·
                refine And.intro (fun (h17 : (n ≠ (0 : Int) : Prop)) => ?_) (fun (h17 : (n = (0 : Int) : Prop)) => ?_)
                ·
                  refine c_at1 (n := n) g1 (show 0 ≤ n ∧ n < 60 by omega) (fun (z18 : Int) (q19 : z18 = aN S n 1 ∧ -1 ≤ z18 ∧ z18 < 60) => ?_)
                  exact hk z18 (fx_up S 49 0 0 (0 : Int)) ⟨(fxfr_up fxfr_rfl rfl), by omega⟩
                ·
                  exact hk (-2 : Int) (fx_up S 49 0 0 (0 : Int)) ⟨(fxfr_up fxfr_rfl rfl), by omega⟩
              refine And.intro (fun (h20 : w = (2 : Int)) => ?_) (fun (h20 : w ≠ (2 : Int)) => ?_)
              ·
                refine c_StubHouseModel_depth (n := n) g1 g2 (show 0 ≤ n ∧ n < 60 by omega) (fun (z21 : Int) (q22 : z21 = (depF (ovf (S 50 0)) 60 n : Int) ∧ 0 ≤ z21 ∧ z21 ≤ 5) => ?_)
                exact hk z21 (fx_up S 49 0 0 (0 : Int)) ⟨(fxfr_up fxfr_rfl rfl), by omega⟩
              refine And.intro (fun (h23 : w = (3 : Int)) => ?_) (fun (h23 : w ≠ (3 : Int)) => ?_)
              ·
                refine c_at2 (n := n) g1 (show 0 ≤ n ∧ n < 60 by omega) (fun (z24 : Int) (q25 : z24 = aN S n 2 ∧ -2147483648 ≤ z24 ∧ z24 < 2147483648) => ?_)
                exact hk z24 (fx_up S 49 0 0 (0 : Int)) ⟨(fxfr_up fxfr_rfl rfl), by omega⟩
              refine And.intro (fun (h26 : w = (4 : Int)) => ?_) (fun (h26 : w ≠ (4 : Int)) => ?_)
              ·
                refine c_at3 (n := n) g1 (show 0 ≤ n ∧ n < 60 by omega) (fun (z27 : Int) (q28 : z27 = aN S n 3 ∧ 0 ≤ z27 ∧ z27 ≤ 1024) => ?_)
                exact hk z27 (fx_up S 49 0 0 (0 : Int)) ⟨(fxfr_up fxfr_rfl rfl), by omega⟩
              refine And.intro (fun (h29 : w = (5 : Int)) => ?_) (fun (h29 : w ≠ (5 : Int)) => ?_)
              ·
                refine c_at4 (n := n) g1 (show 0 ≤ n ∧ n < 60 by omega) (fun (z30 : Int) (q31 : z30 = aN S n 4 ∧ -2147483648 ≤ z30 ∧ z30 < 2147483648) => ?_)
                exact hk z30 (fx_up S 49 0 0 (0 : Int)) ⟨(fxfr_up fxfr_rfl rfl), by omega⟩
              refine And.intro (fun (h32 : w = (6 : Int)) => ?_) (fun (h32 : w ≠ (6 : Int)) => ?_)
              ·
                refine And.intro (show 0 ≤ n ∧ n < 60 by omega) ?_
                intro z33 (z33a : (-2147483648 : Int) ≤ z33) (z33b : z33 ≤ (2147483647 : Int)) (z33c : z33 = S 52 0 (n).toNat)
                exact hk z33 (fx_up S 49 0 0 (0 : Int)) ⟨(fxfr_up fxfr_rfl rfl), by omega⟩
              refine And.intro (fun (h34 : w = (7 : Int)) => ?_) (fun (h34 : w ≠ (7 : Int)) => ?_)
              ·
                refine c_at5 (n := n) g1 (show 0 ≤ n ∧ n < 60 by omega) (fun (z35 : Int) (q36 : z35 = aN S n 5 ∧ 0 ≤ z35 ∧ z35 ≤ 2) => ?_)
                exact hk z35 (fx_up S 49 0 0 (0 : Int)) ⟨(fxfr_up fxfr_rfl rfl), by omega⟩
              refine And.intro (fun (h37 : w = (8 : Int)) => ?_) (fun (h37 : w ≠ (8 : Int)) => ?_)
              ·
                refine c_StubHouseModel_inStore (f := n) (s := (0 : Int)) g1 (show 0 ≤ n ∧ n < 60 by omega) (show -2147483648 ≤ (0 : Int) ∧ (0 : Int) < 2147483648 by omega) (fun (z38 : Int) (q39 : 0 ≤ z38 ∧ z38 ≤ 32 ∧ (0 < z38 → SOM n (0 : Int) (fx_up S 49 0 0 (0 : Int)))) => ?_)
                exact hk z38 (fx_up S 49 0 0 (0 : Int)) ⟨(fxfr_up fxfr_rfl rfl), by omega⟩
              refine And.intro (fun (h40 : w = (9 : Int)) => ?_) (fun (h40 : w ≠ (9 : Int)) => ?_)
              ·
                refine c_StubHouseModel_inStore (f := n) (s := (1 : Int)) g1 (show 0 ≤ n ∧ n < 60 by omega) (show -2147483648 ≤ (1 : Int) ∧ (1 : Int) < 2147483648 by omega) (fun (z41 : Int) (q42 : 0 ≤ z41 ∧ z41 ≤ 32 ∧ (0 < z41 → SOM n (1 : Int) (fx_up S 49 0 0 (0 : Int)))) => ?_)
                exact hk z41 (fx_up S 49 0 0 (0 : Int)) ⟨(fxfr_up fxfr_rfl rfl), by omega⟩
              refine c_at3 (n := n) g1 (show 0 ≤ n ∧ n < 60 by omega) (fun (z43 : Int) (q44 : z43 = aN S n 3 ∧ 0 ≤ z43 ∧ z43 ≤ 1024) => ?_)
              refine And.intro (fun (h45 : (z43 ≠ (0 : Int) : Prop)) => ?_) (fun (h45 : (z43 = (0 : Int) : Prop)) => ?_)
              ·
                refine c_StubHouseModel_isStub (n := n) g1 (show 0 ≤ n ∧ n < 60 by omega) (fun (z46 : Int) (q47 : 0 ≤ z46 ∧ z46 ≤ 1 ∧ (z46 = 1 → 0 < aN S n 3 ∧ aN S n 10 < 0) ∧ (z46 = 0 → aN S n 3 ≤ 0 ∨ 0 ≤ aN S n 10)) => ?_)
                refine And.intro (fun (h48 : (z46 = (0 : Int) : Prop)) => ?_) (fun (h48 : (z46 ≠ (0 : Int) : Prop)) => ?_)
                ·
                  refine c_StubHouseModel_hasCopies (n := n) g1 (show 0 ≤ n ∧ n < 60 by omega) (fun (z49 : Int) (q50 : 0 ≤ z49 ∧ z49 ≤ 1) => ?_)
                  refine And.intro (fun (h51 : (z49 = (0 : Int) : Prop)) => ?_) (fun (h51 : (z49 ≠ (0 : Int) : Prop)) => ?_)
                  ·
                    exact hk (1 : Int) (fx_up S 49 0 0 (0 : Int)) ⟨(fxfr_up fxfr_rfl rfl), by omega⟩
                  ·
                    exact hk (2 : Int) (fx_up S 49 0 0 (0 : Int)) ⟨(fxfr_up fxfr_rfl rfl), by omega⟩
                ·
                  refine c_at5 (n := n) g1 (show 0 ≤ n ∧ n < 60 by omega) (fun (z52 : Int) (q53 : z52 = aN S n 5 ∧ 0 ≤ z52 ∧ z52 ≤ 2) => ?_)
                  refine And.intro (fun (h54 : (z52 ≤ (0 : Int) : Prop)) => ?_) (fun (h54 : ((0 : Int) < z52 : Prop)) => ?_)
                  ·
                    exact hk (4 : Int) (fx_up S 49 0 0 (0 : Int)) ⟨(fxfr_up fxfr_rfl rfl), by omega⟩
                  ·
                    exact hk (3 : Int) (fx_up S 49 0 0 (0 : Int)) ⟨(fxfr_up fxfr_rfl rfl), by omega⟩
              ·
                exact hk (0 : Int) (fx_up S 49 0 0 (0 : Int)) ⟨(fxfr_up fxfr_rfl rfl), by omega⟩
            ·
              refine And.intro (fun (h55 : (w ≤ (2 : Int) : Prop)) => ?_) (fun (h55 : ((2 : Int) < w : Prop)) => ?_)
              ·
                refine And.intro (fun (h56 : w = (1 : Int)) => ?_) (fun (h56 : w ≠ (1 : Int)) => ?_)
                ·
                  refine And.intro (fun (h57 : (n ≠ (0 : Int) : Prop)) => ?_) (fun (h57 : (n = (0 : Int) : Prop)) => ?_)
                  ·
                    refine c_at1 (n := n) g1 (show 0 ≤ n ∧ n < 60 by omega) (fun (z58 : Int) (q59 : z58 = aN S n 1 ∧ -1 ≤ z58 ∧ z58 < 60) => ?_)
                    exact hk z58 (fx_up S 49 0 0 (0 : Int)) ⟨(fxfr_up fxfr_rfl rfl), by omega⟩
                  ·
                    exact hk (-2 : Int) (fx_up S 49 0 0 (0 : Int)) ⟨(fxfr_up fxfr_rfl rfl), by omega⟩
                refine And.intro (fun (h60 : w = (2 : Int)) => ?_) (fun (h60 : w ≠ (2 : Int)) => ?_)
                ·
                  refine c_StubHouseModel_depth (n := n) g1 g2 (show 0 ≤ n ∧ n < 60 by omega) (fun (z61 : Int) (q62 : z61 = (depF (ovf (S 50 0)) 60 n : Int) ∧ 0 ≤ z61 ∧ z61 ≤ 5) => ?_)
                  exact hk z61 (fx_up S 49 0 0 (0 : Int)) ⟨(fxfr_up fxfr_rfl rfl), by omega⟩
                refine And.intro (fun (h63 : w = (3 : Int)) => ?_) (fun (h63 : w ≠ (3 : Int)) => ?_)
                ·
                  refine c_at2 (n := n) g1 (show 0 ≤ n ∧ n < 60 by omega) (fun (z64 : Int) (q65 : z64 = aN S n 2 ∧ -2147483648 ≤ z64 ∧ z64 < 2147483648) => ?_)
                  exact hk z64 (fx_up S 49 0 0 (0 : Int)) ⟨(fxfr_up fxfr_rfl rfl), by omega⟩
                refine And.intro (fun (h66 : w = (4 : Int)) => ?_) (fun (h66 : w ≠ (4 : Int)) => ?_)
                ·
                  refine c_at3 (n := n) g1 (show 0 ≤ n ∧ n < 60 by omega) (fun (z67 : Int) (q68 : z67 = aN S n 3 ∧ 0 ≤ z67 ∧ z67 ≤ 1024) => ?_)
                  exact hk z67 (fx_up S 49 0 0 (0 : Int)) ⟨(fxfr_up fxfr_rfl rfl), by omega⟩
                refine And.intro (fun (h69 : w = (5 : Int)) => ?_) (fun (h69 : w ≠ (5 : Int)) => ?_)
                ·
                  refine c_at4 (n := n) g1 (show 0 ≤ n ∧ n < 60 by omega) (fun (z70 : Int) (q71 : z70 = aN S n 4 ∧ -2147483648 ≤ z70 ∧ z70 < 2147483648) => ?_)
                  exact hk z70 (fx_up S 49 0 0 (0 : Int)) ⟨(fxfr_up fxfr_rfl rfl), by omega⟩
                refine And.intro (fun (h72 : w = (6 : Int)) => ?_) (fun (h72 : w ≠ (6 : Int)) => ?_)
                ·
                  refine And.intro (show 0 ≤ n ∧ n < 60 by omega) ?_
                  intro z73 (z73a : (-2147483648 : Int) ≤ z73) (z73b : z73 ≤ (2147483647 : Int)) (z73c : z73 = S 52 0 (n).toNat)
                  exact hk z73 (fx_up S 49 0 0 (0 : Int)) ⟨(fxfr_up fxfr_rfl rfl), by omega⟩
                refine And.intro (fun (h74 : w = (7 : Int)) => ?_) (fun (h74 : w ≠ (7 : Int)) => ?_)
                ·
                  refine c_at5 (n := n) g1 (show 0 ≤ n ∧ n < 60 by omega) (fun (z75 : Int) (q76 : z75 = aN S n 5 ∧ 0 ≤ z75 ∧ z75 ≤ 2) => ?_)
                  exact hk z75 (fx_up S 49 0 0 (0 : Int)) ⟨(fxfr_up fxfr_rfl rfl), by omega⟩
                refine And.intro (fun (h77 : w = (8 : Int)) => ?_) (fun (h77 : w ≠ (8 : Int)) => ?_)
                ·
                  refine c_StubHouseModel_inStore (f := n) (s := (0 : Int)) g1 (show 0 ≤ n ∧ n < 60 by omega) (show -2147483648 ≤ (0 : Int) ∧ (0 : Int) < 2147483648 by omega) (fun (z78 : Int) (q79 : 0 ≤ z78 ∧ z78 ≤ 32 ∧ (0 < z78 → SOM n (0 : Int) (fx_up S 49 0 0 (0 : Int)))) => ?_)
                  exact hk z78 (fx_up S 49 0 0 (0 : Int)) ⟨(fxfr_up fxfr_rfl rfl), by omega⟩
                refine And.intro (fun (h80 : w = (9 : Int)) => ?_) (fun (h80 : w ≠ (9 : Int)) => ?_)
                ·
                  refine c_StubHouseModel_inStore (f := n) (s := (1 : Int)) g1 (show 0 ≤ n ∧ n < 60 by omega) (show -2147483648 ≤ (1 : Int) ∧ (1 : Int) < 2147483648 by omega) (fun (z81 : Int) (q82 : 0 ≤ z81 ∧ z81 ≤ 32 ∧ (0 < z81 → SOM n (1 : Int) (fx_up S 49 0 0 (0 : Int)))) => ?_)
                  exact hk z81 (fx_up S 49 0 0 (0 : Int)) ⟨(fxfr_up fxfr_rfl rfl), by omega⟩
                refine c_at3 (n := n) g1 (show 0 ≤ n ∧ n < 60 by omega) (fun (z83 : Int) (q84 : z83 = aN S n 3 ∧ 0 ≤ z83 ∧ z83 ≤ 1024) => ?_)
                refine And.intro (fun (h85 : (z83 ≠ (0 : Int) : Prop)) => ?_) (fun (h85 : (z83 = (0 : Int) : Prop)) => ?_)
                ·
                  refine c_StubHouseModel_isStub (n := n) g1 (show 0 ≤ n ∧ n < 60 by omega) (fun (z86 : Int) (q87 : 0 ≤ z86 ∧ z86 ≤ 1 ∧ (z86 = 1 → 0 < aN S n 3 ∧ aN S n 10 < 0) ∧ (z86 = 0 → aN S n 3 ≤ 0 ∨ 0 ≤ aN S n 10)) => ?_)
                  refine And.intro (fun (h88 : (z86 = (0 : Int) : Prop)) => ?_) (fun (h88 : (z86 ≠ (0 : Int) : Prop)) => ?_)
                  ·
                    refine c_StubHouseModel_hasCopies (n := n) g1 (show 0 ≤ n ∧ n < 60 by omega) (fun (z89 : Int) (q90 : 0 ≤ z89 ∧ z89 ≤ 1) => ?_)
                    refine And.intro (fun (h91 : (z89 = (0 : Int) : Prop)) => ?_) (fun (h91 : (z89 ≠ (0 : Int) : Prop)) => ?_)
                    ·
                      exact hk (1 : Int) (fx_up S 49 0 0 (0 : Int)) ⟨(fxfr_up fxfr_rfl rfl), by omega⟩
                    ·
                      exact hk (2 : Int) (fx_up S 49 0 0 (0 : Int)) ⟨(fxfr_up fxfr_rfl rfl), by omega⟩
                  ·
                    refine c_at5 (n := n) g1 (show 0 ≤ n ∧ n < 60 by omega) (fun (z92 : Int) (q93 : z92 = aN S n 5 ∧ 0 ≤ z92 ∧ z92 ≤ 2) => ?_)
                    refine And.intro (fun (h94 : (z92 ≤ (0 : Int) : Prop)) => ?_) (fun (h94 : ((0 : Int) < z92 : Prop)) => ?_)
                    ·
                      exact hk (4 : Int) (fx_up S 49 0 0 (0 : Int)) ⟨(fxfr_up fxfr_rfl rfl), by omega⟩
                    ·
                      exact hk (3 : Int) (fx_up S 49 0 0 (0 : Int)) ⟨(fxfr_up fxfr_rfl rfl), by omega⟩
                ·
                  exact hk (0 : Int) (fx_up S 49 0 0 (0 : Int)) ⟨(fxfr_up fxfr_rfl rfl), by omega⟩
              ·
                exact hk (-1 : Int) (fx_up S 49 0 0 (0 : Int)) ⟨(fxfr_up fxfr_rfl rfl), by omega⟩
        ·
          exact hk z11 (fx_up S 49 0 0 (0 : Int)) ⟨(fxfr_up fxfr_rfl rfl), by omega⟩
      ·
        exact hk (-1 : Int) (fx_up S 49 0 0 (0 : Int)) ⟨(fxfr_up fxfr_rfl rfl), by omega⟩
  ·
    exact hk (-8 : Int) (fx_up S 49 0 0 (0 : Int)) ⟨(fxfr_up fxfr_rfl rfl), by omega⟩
theorem c_StubHouseModel_name {l : Launch} {k : fxK} {S : fxS} {n : Int} (p0 : COL S) (p1 : -2147483648 ≤ n ∧ n < 2147483648) (hk : ∀ (r : Int) (S' : fxS) , (fxfr [(49, 0)] S S') → k (some (.inr (.inl r))) S') : fC l 126 [.inr (.inr (49, 0)), .inl n] S k := by
  refine fxe_126 (Nat.le_of_ble_eq_true rfl) (fxz_126 400 ?_)
  refine And.intro (show (-2147483648 : Int) ≤ (0 : Int) ∧ (0 : Int) ≤ (2147483647 : Int) by omega) ?_
  have g1 : COL (fx_up S 49 0 0 (0 : Int)) := fx_pup COL_stab rfl p0
  intro z2 (z2a : (0 : Int) ≤ z2) (z2b : z2 ≤ (1 : Int)) (z2c : z2 = S 49 0 15)
  refine And.intro (fun (h3 : (z2 ≠ (0 : Int) : Prop)) => ?_) (fun (h3 : (z2 = (0 : Int) : Prop)) => ?_)
  ·
    exact hk (0 : Int) (fx_up S 49 0 0 (0 : Int)) (fxfr_up fxfr_rfl rfl)
  ·
    refine c_StubHouseModel_in (x := n) (a := (1 : Int)) (b := (59 : Int))  (fun (z4 : Int) (q5 : 0 ≤ z4 ∧ z4 ≤ 1 ∧ (z4 = 1 → (1 : Int) ≤ n ∧ n ≤ (59 : Int)) ∧ (z4 = 0 → n < (1 : Int) ∨ (59 : Int) < n)) => ?_)
    refine And.intro (fun (h6 : (z4 = (0 : Int) : Prop)) => ?_) (fun (h6 : (z4 ≠ (0 : Int) : Prop)) => ?_)
    ·
      exact hk (0 : Int) (fx_up S 49 0 0 (0 : Int)) (fxfr_up fxfr_rfl rfl)
    ·
      refine c_at0 (n := n) g1 (show 0 ≤ n ∧ n < 60 by omega) (fun (z7 : Int) (q8 : z7 = aN S n 0 ∧ 0 ≤ z7 ∧ z7 ≤ 2) => ?_)
      refine And.intro (fun (h9 : (z7 ≠ (0 : Int) : Prop)) => ?_) (fun (h9 : (z7 = (0 : Int) : Prop)) => ?_)
      ·
        refine And.intro (show 0 ≤ n ∧ n < 60 by omega) ?_
        intro z10
        exact hk z10 (fx_up S 49 0 0 (0 : Int)) (fxfr_up fxfr_rfl rfl)
      ·
        exact hk (0 : Int) (fx_up S 49 0 0 (0 : Int)) (fxfr_up fxfr_rfl rfl)
theorem c_StubHouseModel_block {l : Launch} {k : fxK} {S : fxS} {f : Int} {i : Int} (p0 : COL S) (p1 : -2147483648 ≤ f ∧ f < 2147483648) (p2 : -2147483648 ≤ i ∧ i < 2147483648) (hk : ∀ (r : Int) (S' : fxS) , (fxfr [(49, 0)] S S' ∧ (-2147483648 ≤ r ∧ r < 2147483648)) → k (some (.inl r)) S') : fC l 128 [.inr (.inr (49, 0)), .inl f, .inl i] S k := by
  refine fxe_128 (Nat.le_of_ble_eq_true rfl) (fxz_128 400 ?_)
  refine And.intro (show (-2147483648 : Int) ≤ (0 : Int) ∧ (0 : Int) ≤ (2147483647 : Int) by omega) ?_
  have g1 : COL (fx_up S 49 0 0 (0 : Int)) := fx_pup COL_stab rfl p0
  intro z2 (z2a : (0 : Int) ≤ z2) (z2b : z2 ≤ (1 : Int)) (z2c : z2 = S 49 0 15)
  refine And.intro (fun (h3 : (z2 = (0 : Int) : Prop)) => ?_) (fun (h3 : (z2 ≠ (0 : Int) : Prop)) => ?_)
  ·
    refine c_StubHouseModel_isFile (n := f) g1 (show -2147483648 ≤ f ∧ f < 2147483648 by omega) (fun (z4 : Int) (q5 : 0 ≤ z4 ∧ z4 ≤ 1 ∧ (z4 = 1 → 0 ≤ f ∧ f < 60 ∧ aN S f 0 = 2)) => ?_)
    refine And.intro (fun (h6 : (z4 = (0 : Int) : Prop)) => ?_) (fun (h6 : (z4 ≠ (0 : Int) : Prop)) => ?_)
    ·
      exact hk (-1 : Int) (fx_up S 49 0 0 (0 : Int)) ⟨(fxfr_up fxfr_rfl rfl), by omega⟩
    ·
      refine c_StubHouseModel_blocks (n := f) g1 (show 0 ≤ f ∧ f < 60 by omega) (fun (z7 : Int) (q8 : z7 = (aN S f 3 + 31) / 32 ∧ 0 ≤ z7 ∧ z7 ≤ 32) => ?_)
      refine And.intro (show -2147483648 ≤ (z7 - (1 : Int)) ∧ (z7 - (1 : Int)) < 2147483648 by omega) ?_
      refine c_StubHouseModel_in (x := i) (a := (0 : Int)) (b := (z7 - (1 : Int)))  (fun (z9 : Int) (q10 : 0 ≤ z9 ∧ z9 ≤ 1 ∧ (z9 = 1 → (0 : Int) ≤ i ∧ i ≤ (z7 - (1 : Int))) ∧ (z9 = 0 → i < (0 : Int) ∨ (z7 - (1 : Int)) < i)) => ?_)
      refine And.intro (fun (h11 : (z9 ≠ (0 : Int) : Prop)) => ?_) (fun (h11 : (z9 = (0 : Int) : Prop)) => ?_)
      ·
        refine And.intro (show -2147483648 ≤ ((10 : Int) + i) ∧ ((10 : Int) + i) < 2147483648 by omega) ?_
        refine c_atb (n := f) (w := ((10 : Int) + i)) g1 (show 0 ≤ f ∧ f < 60 by omega) (show 10 ≤ ((10 : Int) + i) ∧ ((10 : Int) + i) < 42 by omega) (fun (z12 : Int) (q13 : z12 = aN S f ((10 : Int) + i) ∧ -1 ≤ z12 ∧ z12 ≤ 207) => ?_)
        refine And.intro (by decide) ?_
        refine And.intro (fun (h14 : ((0 : Int) ≤ z12 : Prop)) => ?_) (fun (h14 : (z12 < (0 : Int) : Prop)) => ?_)
        ·
          refine And.intro (fun (h15 : ((48 : Int) ≤ z12 : Prop)) => ?_) (fun (h15 : (z12 < (48 : Int) : Prop)) => ?_)
          ·
            refine And.intro (show -2147483648 ≤ ((1000 : Int) + z12) ∧ ((1000 : Int) + z12) < 2147483648 by omega) ?_
            refine And.intro (show -2147483648 ≤ (((1000 : Int) + z12) - (48 : Int)) ∧ (((1000 : Int) + z12) - (48 : Int)) < 2147483648 by omega) ?_
            exact hk (((1000 : Int) + z12) - (48 : Int)) (fx_up S 49 0 0 (0 : Int)) ⟨(fxfr_up fxfr_rfl rfl), by omega⟩
          ·
            exact hk z12 (fx_up S 49 0 0 (0 : Int)) ⟨(fxfr_up fxfr_rfl rfl), by omega⟩
        ·
          exact hk (-2 : Int) (fx_up S 49 0 0 (0 : Int)) ⟨(fxfr_up fxfr_rfl rfl), by omega⟩
      ·
        exact hk (-1 : Int) (fx_up S 49 0 0 (0 : Int)) ⟨(fxfr_up fxfr_rfl rfl), by omega⟩
  ·
    exact hk (-8 : Int) (fx_up S 49 0 0 (0 : Int)) ⟨(fxfr_up fxfr_rfl rfl), by omega⟩
theorem c_StubHouseModel_copy {l : Launch} {k : fxK} {S : fxS} {f : Int} {i : Int} {w : Int} (p0 : COL S) (p1 : -2147483648 ≤ f ∧ f < 2147483648) (p2 : -2147483648 ≤ i ∧ i < 2147483648) (p3 : -2147483648 ≤ w ∧ w < 2147483648) (hk : ∀ (r : Int) (S' : fxS) , (fxfr [(49, 0)] S S' ∧ (-2147483648 ≤ r ∧ r < 2147483648)) → k (some (.inl r)) S') : fC l 130 [.inr (.inr (49, 0)), .inl f, .inl i, .inl w] S k := by
  refine fxe_130 (Nat.le_of_ble_eq_true rfl) (fxz_130 400 ?_)
  refine And.intro (show (-2147483648 : Int) ≤ (0 : Int) ∧ (0 : Int) ≤ (2147483647 : Int) by omega) ?_
  have g1 : COL (fx_up S 49 0 0 (0 : Int)) := fx_pup COL_stab rfl p0
  intro z2 (z2a : (0 : Int) ≤ z2) (z2b : z2 ≤ (1 : Int)) (z2c : z2 = S 49 0 15)
  refine And.intro (fun (h3 : (z2 = (0 : Int) : Prop)) => ?_) (fun (h3 : (z2 ≠ (0 : Int) : Prop)) => ?_)
  ·
    refine c_StubHouseModel_isFile (n := f) g1 (show -2147483648 ≤ f ∧ f < 2147483648 by omega) (fun (z4 : Int) (q5 : 0 ≤ z4 ∧ z4 ≤ 1 ∧ (z4 = 1 → 0 ≤ f ∧ f < 60 ∧ aN S f 0 = 2)) => ?_)
    refine And.intro (fun (h6 : (z4 = (0 : Int) : Prop)) => ?_) (fun (h6 : (z4 ≠ (0 : Int) : Prop)) => ?_)
    ·
      exact hk (-1 : Int) (fx_up S 49 0 0 (0 : Int)) ⟨(fxfr_up fxfr_rfl rfl), by omega⟩
    ·
      refine c_StubHouseModel_in (x := i) (a := (0 : Int)) (b := (1 : Int))  (fun (z7 : Int) (q8 : 0 ≤ z7 ∧ z7 ≤ 1 ∧ (z7 = 1 → (0 : Int) ≤ i ∧ i ≤ (1 : Int)) ∧ (z7 = 0 → i < (0 : Int) ∨ (1 : Int) < i)) => ?_)
      refine And.intro (fun (h9 : (z7 = (0 : Int) : Prop)) => ?_) (fun (h9 : (z7 ≠ (0 : Int) : Prop)) => ?_)
      ·
        exact hk (-1 : Int) (fx_up S 49 0 0 (0 : Int)) ⟨(fxfr_up fxfr_rfl rfl), by omega⟩
      ·
        refine c_StubHouseModel_in (x := w) (a := (0 : Int)) (b := (1 : Int))  (fun (z10 : Int) (q11 : 0 ≤ z10 ∧ z10 ≤ 1 ∧ (z10 = 1 → (0 : Int) ≤ w ∧ w ≤ (1 : Int)) ∧ (z10 = 0 → w < (0 : Int) ∨ (1 : Int) < w)) => ?_)
        refine And.intro (fun (h12 : (z10 ≠ (0 : Int) : Prop)) => ?_) (fun (h12 : (z10 = (0 : Int) : Prop)) => ?_)
        ·
          refine c_at5 (n := f) g1 (show 0 ≤ f ∧ f < 60 by omega) (fun (z13 : Int) (q14 : z13 = aN S f 5 ∧ 0 ≤ z13 ∧ z13 ≤ 2) => ?_)
          refine And.intro (fun (h15 : (z13 ≤ i : Prop)) => ?_) (fun (h15 : (i < z13 : Prop)) => ?_)
          ·
            exact hk (-2 : Int) (fx_up S 49 0 0 (0 : Int)) ⟨(fxfr_up fxfr_rfl rfl), by omega⟩
          ·
            refine And.intro (show -2147483648 ≤ ((2 : Int) * i) ∧ ((2 : Int) * i) < 2147483648 by omega) ?_
            refine And.intro (show -2147483648 ≤ ((6 : Int) + ((2 : Int) * i)) ∧ ((6 : Int) + ((2 : Int) * i)) < 2147483648 by omega) ?_
            refine And.intro (show -2147483648 ≤ (((6 : Int) + ((2 : Int) * i)) + w) ∧ (((6 : Int) + ((2 : Int) * i)) + w) < 2147483648 by omega) ?_
            refine c_StubHouseModel_at (n := f) (w := (((6 : Int) + ((2 : Int) * i)) + w)) g1 (show 0 ≤ f ∧ f < 60 by omega) (show 0 ≤ (((6 : Int) + ((2 : Int) * i)) + w) ∧ (((6 : Int) + ((2 : Int) * i)) + w) < 42 by omega) (fun (z16 : Int) (q17 : z16 = aN S f (((6 : Int) + ((2 : Int) * i)) + w) ∧ ((((6 : Int) + ((2 : Int) * i)) + w) = 0 → 0 ≤ z16 ∧ z16 ≤ 2) ∧ ((((6 : Int) + ((2 : Int) * i)) + w) = 1 → -1 ≤ z16 ∧ z16 < 60) ∧ ((((6 : Int) + ((2 : Int) * i)) + w) = 3 → 0 ≤ z16 ∧ z16 ≤ 1024) ∧ ((((6 : Int) + ((2 : Int) * i)) + w) = 5 → 0 ≤ z16 ∧ z16 ≤ 2) ∧ ((((6 : Int) + ((2 : Int) * i)) + w) = 6 ∨ (((6 : Int) + ((2 : Int) * i)) + w) = 8 → 0 ≤ z16 ∧ z16 ≤ 5) ∧ ((((6 : Int) + ((2 : Int) * i)) + w) = 7 ∨ (((6 : Int) + ((2 : Int) * i)) + w) = 9 → 0 ≤ z16 ∧ z16 ≤ 6000) ∧ (10 ≤ (((6 : Int) + ((2 : Int) * i)) + w) → -1 ≤ z16 ∧ z16 ≤ 207)) => ?_)
            exact hk z16 (fx_up S 49 0 0 (0 : Int)) ⟨(fxfr_up fxfr_rfl rfl), by omega⟩
        ·
          exact hk (-1 : Int) (fx_up S 49 0 0 (0 : Int)) ⟨(fxfr_up fxfr_rfl rfl), by omega⟩
  ·
    exact hk (-8 : Int) (fx_up S 49 0 0 (0 : Int)) ⟨(fxfr_up fxfr_rfl rfl), by omega⟩
theorem c_StubHouseModel_copies {l : Launch} {k : fxK} {S : fxS} {n : Int} (p0 : -2147483648 ≤ n ∧ n < 2147483648) (hk : ∀ (r : Int) (S' : fxS) , (fxfr [(49, 0), (49, 18)] S S' ∧ (-2147483648 ≤ r ∧ r < 2147483648)) → k (some (.inl r)) S') : fC l 134 [.inr (.inr (49, 0)), .inl n] S k := by
  refine fxe_134 (Nat.le_of_ble_eq_true rfl) (fxz_134 400 ?_)
  refine And.intro (show (-2147483648 : Int) ≤ (0 : Int) ∧ (0 : Int) ≤ (2147483647 : Int) by omega) ?_
  refine c_StubHouseModel_in (x := n) (a := (1 : Int)) (b := (2 : Int))  (fun (z1 : Int) (q2 : 0 ≤ z1 ∧ z1 ≤ 1 ∧ (z1 = 1 → (1 : Int) ≤ n ∧ n ≤ (2 : Int)) ∧ (z1 = 0 → n < (1 : Int) ∨ (2 : Int) < n)) => ?_)
  refine And.intro (fun (h3 : (z1 ≠ (0 : Int) : Prop)) => ?_) (fun (h3 : (z1 = (0 : Int) : Prop)) => ?_)
  ·
    intro z4 (z4a : (1 : Int) ≤ z4) (z4b : z4 ≤ (2 : Int)) (z4c : z4 = S 49 0 18)
    refine And.intro (by decide) ?_
    refine And.intro (show (1 : Int) ≤ n ∧ n ≤ (2 : Int) by omega) ?_
    exact hk z4 (fx_up (fx_up S 49 0 0 (0 : Int)) 49 0 18 n) ⟨(fxfr_up (fxfr_up fxfr_rfl rfl) rfl), by omega⟩
  ·
    exact hk (-1 : Int) (fx_up S 49 0 0 (0 : Int)) ⟨(fxfr_up fxfr_rfl rfl), by omega⟩
theorem c_StubHouseModel_sync {l : Launch} {k : fxK} {S : fxS}  (p0 : COL S) (p1 : WTM S) (p2 : INJ S) (p3 : AON S) (p4 : USE S) (p5 : SNP S) (hk : ∀ (r : Int) (S' : fxS) , (fxfr [(49, 0), (49, 7), (53, 9999), (56, 9999), (58, 9999)] S S' ∧ (-2147483648 ≤ r ∧ r < 2147483648) ∧ (SNP S') ∧ (USE S')) → k (some (.inl r)) S') : fC l 136 [.inr (.inr (49, 0))] S k := by
  refine fxe_136 (Nat.le_of_ble_eq_true rfl) (fxz_136 400 ?_)
  refine And.intro (show (-2147483648 : Int) ≤ (0 : Int) ∧ (0 : Int) ≤ (2147483647 : Int) by omega) ?_
  have g1 : COL (fx_up S 49 0 0 (0 : Int)) := fx_pup COL_stab rfl p0
  have g2 : WTM (fx_up S 49 0 0 (0 : Int)) := fx_pup WTM_stab rfl p1
  have g3 : INJ (fx_up S 49 0 0 (0 : Int)) := fx_pup INJ_stab rfl p2
  have g4 : AON (fx_up S 49 0 0 (0 : Int)) := fx_pup AON_stab rfl p3
  have g5 : USE (fx_up S 49 0 0 (0 : Int)) := fx_pup USE_stab rfl p4
  have g6 : SNP (fx_up S 49 0 0 (0 : Int)) := fx_pup SNP_stab rfl p5
  intro z7 (z7a : (0 : Int) ≤ z7) (z7b : z7 ≤ (1 : Int)) (z7c : z7 = S 49 0 15)
  refine And.intro (fun (h8 : (z7 = (0 : Int) : Prop)) => ?_) (fun (h8 : (z7 ≠ (0 : Int) : Prop)) => ?_)
  ·
    refine c_StubHouseModel_syncAll  g1 g2 g3 g4 g5 (fun (z9 : Int) (S10 : fxS) ⟨(f11 : fxfr [(49, 7), (53, 9999), (56, 9999), (58, 9999)] (fx_up S 49 0 0 (0 : Int)) S10), (q12 : 0 ≤ z9 ∧ z9 ≤ 200 ∧ S10 49 0 7 = 0), (g13 : SNP S10), (g14 : USE S10), (g15 : UZ (fx_up S 49 0 0 (0 : Int)) S10)⟩ => ?_)
    have g16 : COL S10 := fx_pfr COL_stab f11 rfl g1
    have g17 : WTM S10 := fx_pfr WTM_stab f11 rfl g2
    have g18 : INJ S10 := fx_pfr INJ_stab f11 rfl g3
    have g19 : AON S10 := fx_pfr AON_stab f11 rfl g4
    exact hk z9 S10 ⟨(fxfr_tr (fxfr_up fxfr_rfl rfl) f11 rfl), by omega, g13, g14⟩
  ·
    exact hk (-8 : Int) (fx_up S 49 0 0 (0 : Int)) ⟨(fxfr_up fxfr_rfl rfl), by omega, g6, g5⟩
theorem z_StubHouseModel_stopAll {l : Launch} {k : fxK} {S : fxS}   (hk : ∀ (S' : fxS) , (fxfr [(49, 36), (49, 38), (49, 39), (49, 43), (70, 9999), (71, 9999), (72, 9999), (73, 9999), (79, 9999)] S S' ∧ (S' 49 0 36 = 0) ∧ (WNW S') ∧ (WNR S')) → k none S') : ∀ m : Nat, (∀ (d : Int) (S1 : fxS), (fxfr [(49, 36), (49, 38), (49, 39), (49, 43), (70, 9999), (71, 9999), (72, 9999), (73, 9999), (79, 9999)] S S1) → (0 ≤ d ∧ d ≤ 2) → ((1 ≤ d → S1 72 0 0 = 0) ∧ (2 ≤ d → S1 72 0 1 = 0)) → 3 - d ≤ (m : Int) → fZ l 149 k 2 [some (.inr (.inr (49, 0))), some (.inl d)] [] S1) := by
  intro m
  induction m with
  | zero =>
    intro d S1 hf i0 i1 hmu
    exfalso
    omega
  | succ m ih =>
    intro d S1 hf i0 i1 hmu
    refine fxz_149 400 ?_
    refine And.intro (fun (h1 : ((2 : Int) ≤ d : Prop)) => ?_) (fun (h1 : (d < (2 : Int) : Prop)) => ?_)
    ·
      refine And.intro (show (0 : Int) ≤ (0 : Int) ∧ (0 : Int) ≤ (60 : Int) by omega) ?_
      have w2 : (fx_up S1 49 0 36 (0 : Int)) 49 0 36 = (0 : Int) := fx_up_at _ _ _ _ _
      have w3 : (fx_up S1 49 0 36 (0 : Int)) 72 0 0 = S1 72 0 0 := rfl
      have w4 : (fx_up S1 49 0 36 (0 : Int)) 72 0 1 = S1 72 0 1 := rfl
      refine And.intro (show (0 : Int) ≤ (0 : Int) ∧ (0 : Int) ≤ (20 : Int) by omega) ?_
      have w5 : (fx_up (fx_up S1 49 0 36 (0 : Int)) 49 0 38 (0 : Int)) 49 0 36 = (fx_up S1 49 0 36 (0 : Int)) 49 0 36 := if_neg (fun q => absurd q.2.2 (by decide))
      have w6 : (fx_up (fx_up S1 49 0 36 (0 : Int)) 49 0 38 (0 : Int)) 72 0 0 = (fx_up S1 49 0 36 (0 : Int)) 72 0 0 := rfl
      have w7 : (fx_up (fx_up S1 49 0 36 (0 : Int)) 49 0 38 (0 : Int)) 72 0 1 = (fx_up S1 49 0 36 (0 : Int)) 72 0 1 := rfl
      refine And.intro (show (-2 : Int) ≤ (-2 : Int) ∧ (-2 : Int) ≤ (5 : Int) by omega) ?_
      have w8 : (fx_up (fx_up (fx_up S1 49 0 36 (0 : Int)) 49 0 38 (0 : Int)) 49 0 39 (-2 : Int)) 49 0 36 = (fx_up (fx_up S1 49 0 36 (0 : Int)) 49 0 38 (0 : Int)) 49 0 36 := if_neg (fun q => absurd q.2.2 (by decide))
      have w9 : (fx_up (fx_up (fx_up S1 49 0 36 (0 : Int)) 49 0 38 (0 : Int)) 49 0 39 (-2 : Int)) 72 0 0 = (fx_up (fx_up S1 49 0 36 (0 : Int)) 49 0 38 (0 : Int)) 72 0 0 := rfl
      have w10 : (fx_up (fx_up (fx_up S1 49 0 36 (0 : Int)) 49 0 38 (0 : Int)) 49 0 39 (-2 : Int)) 72 0 1 = (fx_up (fx_up S1 49 0 36 (0 : Int)) 49 0 38 (0 : Int)) 72 0 1 := rfl
      refine And.intro (show (0 : Int) ≤ (0 : Int) ∧ (0 : Int) ≤ (1 : Int) by omega) ?_
      have w11 : (fx_up (fx_up (fx_up (fx_up S1 49 0 36 (0 : Int)) 49 0 38 (0 : Int)) 49 0 39 (-2 : Int)) 49 0 43 (0 : Int)) 49 0 36 = (fx_up (fx_up (fx_up S1 49 0 36 (0 : Int)) 49 0 38 (0 : Int)) 49 0 39 (-2 : Int)) 49 0 36 := if_neg (fun q => absurd q.2.2 (by decide))
      have w12 : (fx_up (fx_up (fx_up (fx_up S1 49 0 36 (0 : Int)) 49 0 38 (0 : Int)) 49 0 39 (-2 : Int)) 49 0 43 (0 : Int)) 72 0 0 = (fx_up (fx_up (fx_up S1 49 0 36 (0 : Int)) 49 0 38 (0 : Int)) 49 0 39 (-2 : Int)) 72 0 0 := rfl
      have w13 : (fx_up (fx_up (fx_up (fx_up S1 49 0 36 (0 : Int)) 49 0 38 (0 : Int)) 49 0 39 (-2 : Int)) 49 0 43 (0 : Int)) 72 0 1 = (fx_up (fx_up (fx_up S1 49 0 36 (0 : Int)) 49 0 38 (0 : Int)) 49 0 39 (-2 : Int)) 72 0 1 := rfl
      refine And.intro (show 0 ≤ (0 : Int) ∧ (0 : Int) < 2 by omega) ?_
      refine And.intro (show (0 : Int) ≤ (0 : Int) ∧ (0 : Int) ≤ (1 : Int) by omega) ?_
      have w14 : (fx_up (fx_up (fx_up (fx_up (fx_up S1 49 0 36 (0 : Int)) 49 0 38 (0 : Int)) 49 0 39 (-2 : Int)) 49 0 43 (0 : Int)) 79 0 0 (0 : Int)) 49 0 36 = (fx_up (fx_up (fx_up (fx_up S1 49 0 36 (0 : Int)) 49 0 38 (0 : Int)) 49 0 39 (-2 : Int)) 49 0 43 (0 : Int)) 49 0 36 := rfl
      have w15 : (fx_up (fx_up (fx_up (fx_up (fx_up S1 49 0 36 (0 : Int)) 49 0 38 (0 : Int)) 49 0 39 (-2 : Int)) 49 0 43 (0 : Int)) 79 0 0 (0 : Int)) 72 0 0 = (fx_up (fx_up (fx_up (fx_up S1 49 0 36 (0 : Int)) 49 0 38 (0 : Int)) 49 0 39 (-2 : Int)) 49 0 43 (0 : Int)) 72 0 0 := rfl
      have w16 : (fx_up (fx_up (fx_up (fx_up (fx_up S1 49 0 36 (0 : Int)) 49 0 38 (0 : Int)) 49 0 39 (-2 : Int)) 49 0 43 (0 : Int)) 79 0 0 (0 : Int)) 72 0 1 = (fx_up (fx_up (fx_up (fx_up S1 49 0 36 (0 : Int)) 49 0 38 (0 : Int)) 49 0 39 (-2 : Int)) 49 0 43 (0 : Int)) 72 0 1 := rfl
      refine And.intro (show 0 ≤ (1 : Int) ∧ (1 : Int) < 2 by omega) ?_
      refine And.intro (show (0 : Int) ≤ (0 : Int) ∧ (0 : Int) ≤ (1 : Int) by omega) ?_
      have w17 : (fx_up (fx_up (fx_up (fx_up (fx_up (fx_up S1 49 0 36 (0 : Int)) 49 0 38 (0 : Int)) 49 0 39 (-2 : Int)) 49 0 43 (0 : Int)) 79 0 0 (0 : Int)) 79 0 1 (0 : Int)) 49 0 36 = (fx_up (fx_up (fx_up (fx_up (fx_up S1 49 0 36 (0 : Int)) 49 0 38 (0 : Int)) 49 0 39 (-2 : Int)) 49 0 43 (0 : Int)) 79 0 0 (0 : Int)) 49 0 36 := rfl
      have w18 : (fx_up (fx_up (fx_up (fx_up (fx_up (fx_up S1 49 0 36 (0 : Int)) 49 0 38 (0 : Int)) 49 0 39 (-2 : Int)) 49 0 43 (0 : Int)) 79 0 0 (0 : Int)) 79 0 1 (0 : Int)) 72 0 0 = (fx_up (fx_up (fx_up (fx_up (fx_up S1 49 0 36 (0 : Int)) 49 0 38 (0 : Int)) 49 0 39 (-2 : Int)) 49 0 43 (0 : Int)) 79 0 0 (0 : Int)) 72 0 0 := rfl
      have w19 : (fx_up (fx_up (fx_up (fx_up (fx_up (fx_up S1 49 0 36 (0 : Int)) 49 0 38 (0 : Int)) 49 0 39 (-2 : Int)) 49 0 43 (0 : Int)) 79 0 0 (0 : Int)) 79 0 1 (0 : Int)) 72 0 1 = (fx_up (fx_up (fx_up (fx_up (fx_up S1 49 0 36 (0 : Int)) 49 0 38 (0 : Int)) 49 0 39 (-2 : Int)) 49 0 43 (0 : Int)) 79 0 0 (0 : Int)) 72 0 1 := rfl
      exact hk (fx_up (fx_up (fx_up (fx_up (fx_up (fx_up S1 49 0 36 (0 : Int)) 49 0 38 (0 : Int)) 49 0 39 (-2 : Int)) 49 0 43 (0 : Int)) 79 0 0 (0 : Int)) 79 0 1 (0 : Int)) ⟨(fxfr_up (fxfr_up (fxfr_up (fxfr_up (fxfr_up (fxfr_up hf rfl) rfl) rfl) rfl) rfl) rfl), by omega, by first | exact WNW_n5 (by omega) (by omega) | exact WNR_of (by omega) (by omega), by first | exact WNW_n5 (by omega) (by omega) | exact WNR_of (by omega) (by omega)⟩
    ·
      refine And.intro (show 0 ≤ d ∧ d < 2 by omega) ?_
      refine And.intro (show (-2 : Int) ≤ (-2 : Int) ∧ (-2 : Int) ≤ (5 : Int) by omega) ?_
      have w20 : (fx_up S1 70 0 (d).toNat (-2 : Int)) 49 0 36 = S1 49 0 36 := rfl
      have w21 : (fx_up S1 70 0 (d).toNat (-2 : Int)) 72 0 0 = S1 72 0 0 := rfl
      have w22 : (fx_up S1 70 0 (d).toNat (-2 : Int)) 72 0 1 = S1 72 0 1 := rfl
      refine And.intro (show 0 ≤ d ∧ d < 2 by omega) ?_
      refine And.intro (show (0 : Int) ≤ (0 : Int) ∧ (0 : Int) ≤ (7100 : Int) by omega) ?_
      have w23 : (fx_up (fx_up S1 70 0 (d).toNat (-2 : Int)) 71 0 (d).toNat (0 : Int)) 49 0 36 = (fx_up S1 70 0 (d).toNat (-2 : Int)) 49 0 36 := rfl
      have w24 : (fx_up (fx_up S1 70 0 (d).toNat (-2 : Int)) 71 0 (d).toNat (0 : Int)) 72 0 0 = (fx_up S1 70 0 (d).toNat (-2 : Int)) 72 0 0 := rfl
      have w25 : (fx_up (fx_up S1 70 0 (d).toNat (-2 : Int)) 71 0 (d).toNat (0 : Int)) 72 0 1 = (fx_up S1 70 0 (d).toNat (-2 : Int)) 72 0 1 := rfl
      refine And.intro (show 0 ≤ d ∧ d < 2 by omega) ?_
      refine And.intro (show (0 : Int) ≤ (0 : Int) ∧ (0 : Int) ≤ (5 : Int) by omega) ?_
      have w26 : (fx_up (fx_up (fx_up S1 70 0 (d).toNat (-2 : Int)) 71 0 (d).toNat (0 : Int)) 72 0 (d).toNat (0 : Int)) 49 0 36 = (fx_up (fx_up S1 70 0 (d).toNat (-2 : Int)) 71 0 (d).toNat (0 : Int)) 49 0 36 := rfl
      have u0 : (d = 0 → (fx_up (fx_up (fx_up S1 70 0 (d).toNat (-2 : Int)) 71 0 (d).toNat (0 : Int)) 72 0 (d).toNat (0 : Int)) 72 0 0 = 0) ∧ (d ≠ 0 → (fx_up (fx_up (fx_up S1 70 0 (d).toNat (-2 : Int)) 71 0 (d).toNat (0 : Int)) 72 0 (d).toNat (0 : Int)) 72 0 0 = S1 72 0 0) := up_lit (k := 0) (by omega)
      have u1 : (d = 1 → (fx_up (fx_up (fx_up S1 70 0 (d).toNat (-2 : Int)) 71 0 (d).toNat (0 : Int)) 72 0 (d).toNat (0 : Int)) 72 0 1 = 0) ∧ (d ≠ 1 → (fx_up (fx_up (fx_up S1 70 0 (d).toNat (-2 : Int)) 71 0 (d).toNat (0 : Int)) 72 0 (d).toNat (0 : Int)) 72 0 1 = S1 72 0 1) := up_lit (k := 1) (by omega)
      refine And.intro (show 0 ≤ d ∧ d < 2 by omega) ?_
      refine And.intro (show (-2147483648 : Int) ≤ (0 : Int) ∧ (0 : Int) ≤ (2147483647 : Int) by omega) ?_
      have w27 : (fx_up (fx_up (fx_up (fx_up S1 70 0 (d).toNat (-2 : Int)) 71 0 (d).toNat (0 : Int)) 72 0 (d).toNat (0 : Int)) 73 0 (d).toNat (0 : Int)) 49 0 36 = (fx_up (fx_up (fx_up S1 70 0 (d).toNat (-2 : Int)) 71 0 (d).toNat (0 : Int)) 72 0 (d).toNat (0 : Int)) 49 0 36 := rfl
      have w28 : (fx_up (fx_up (fx_up (fx_up S1 70 0 (d).toNat (-2 : Int)) 71 0 (d).toNat (0 : Int)) 72 0 (d).toNat (0 : Int)) 73 0 (d).toNat (0 : Int)) 72 0 0 = (fx_up (fx_up (fx_up S1 70 0 (d).toNat (-2 : Int)) 71 0 (d).toNat (0 : Int)) 72 0 (d).toNat (0 : Int)) 72 0 0 := rfl
      have w29 : (fx_up (fx_up (fx_up (fx_up S1 70 0 (d).toNat (-2 : Int)) 71 0 (d).toNat (0 : Int)) 72 0 (d).toNat (0 : Int)) 73 0 (d).toNat (0 : Int)) 72 0 1 = (fx_up (fx_up (fx_up S1 70 0 (d).toNat (-2 : Int)) 71 0 (d).toNat (0 : Int)) 72 0 (d).toNat (0 : Int)) 72 0 1 := rfl
      refine And.intro (by decide) (And.intro (show -2147483648 ≤ d + (1 : Int) ∧ d + (1 : Int) < 2147483648 by omega) ?_)
      exact ih (d + (1 : Int)) (fx_up (fx_up (fx_up (fx_up S1 70 0 (d).toNat (-2 : Int)) 71 0 (d).toNat (0 : Int)) 72 0 (d).toNat (0 : Int)) 73 0 (d).toNat (0 : Int)) (fxfr_up (fxfr_up (fxfr_up (fxfr_up hf rfl) rfl) rfl) rfl) (by omega) (by omega) (by omega)
theorem c_StubHouseModel_stopAll {l : Launch} {k : fxK} {S : fxS}   (hk : ∀ (S' : fxS) , (fxfr [(49, 36), (49, 38), (49, 39), (49, 43), (70, 9999), (71, 9999), (72, 9999), (73, 9999), (79, 9999)] S S' ∧ (S' 49 0 36 = 0) ∧ (WNW S') ∧ (WNR S')) → k none S') : fC l 149 [.inr (.inr (49, 0))] S k := by
  refine fxe_149 (Nat.le_of_ble_eq_true rfl) (fxz_149 400 ?_)
  refine And.intro (by decide) ?_
  exact (z_StubHouseModel_stopAll  hk (3 - (0 : Int)).toNat) (0 : Int) S fxfr_rfl (by omega) (by omega) (by omega)
theorem z_StubHouseModel_files {l : Launch} {k : fxK} {S : fxS}  (p0 : COL S) (hk : ∀ (r : Int) , (0 ≤ r ∧ r ≤ 60) → k (some (.inl r)) S) : ∀ m : Nat, (∀ (u j : Int), (1 ≤ j ∧ j ≤ 60) → (0 ≤ u ∧ u < j) → 61 - j ≤ (m : Int) → fZ l 155 k 4 [some (.inr (.inr (49, 0))), some (.inl u), some (.inl j)] [] S) := by
  intro m
  induction m with
  | zero =>
    intro u j  i0 i1 hmu
    exfalso
    omega
  | succ m ih =>
    intro u j  i0 i1 hmu
    refine fxz_155 400 ?_
    refine And.intro (fun (h1 : ((60 : Int) ≤ j : Prop)) => ?_) (fun (h1 : (j < (60 : Int) : Prop)) => ?_)
    ·
      exact hk u (by omega)
    ·
      refine c_at0 (n := j) p0 (show 0 ≤ j ∧ j < 60 by omega) (fun (z2 : Int) (q3 : z2 = aN S j 0 ∧ 0 ≤ z2 ∧ z2 ≤ 2) => ?_)
      refine And.intro (fun (h4 : (z2 ≠ (2 : Int) : Prop)) => ?_) (fun (h4 : (z2 = (2 : Int) : Prop)) => ?_)
      ·
        refine And.intro (show -2147483648 ≤ (u + (0 : Int)) ∧ (u + (0 : Int)) < 2147483648 by omega) ?_
        refine And.intro (by decide) ?_
        refine And.intro (by decide) (And.intro (show -2147483648 ≤ j + (1 : Int) ∧ j + (1 : Int) < 2147483648 by omega) ?_)
        exact ih (u + (0 : Int)) (j + (1 : Int))  (by omega) (by omega) (by omega)
      ·
        refine And.intro (show -2147483648 ≤ (u + (1 : Int)) ∧ (u + (1 : Int)) < 2147483648 by omega) ?_
        refine And.intro (by decide) ?_
        refine And.intro (by decide) (And.intro (show -2147483648 ≤ j + (1 : Int) ∧ j + (1 : Int) < 2147483648 by omega) ?_)
        exact ih (u + (1 : Int)) (j + (1 : Int))  (by omega) (by omega) (by omega)
theorem c_StubHouseModel_files {l : Launch} {k : fxK} {S : fxS}  (p0 : COL S) (hk : ∀ (r : Int) , (0 ≤ r ∧ r ≤ 60) → k (some (.inl r)) S) : fC l 155 [.inr (.inr (49, 0))] S k := by
  refine fxe_155 (Nat.le_of_ble_eq_true rfl) (fxz_155 400 ?_)
  refine And.intro (by decide) ?_
  refine And.intro (by decide) ?_
  exact (z_StubHouseModel_files p0 hk (61 - (1 : Int)).toNat) (0 : Int) (1 : Int)  (by omega) (by omega) (by omega)
