/-! contracts of the reference: calls that leave tapes alone -/
theorem z_StubHouseModel_write {l : Launch} {k : fxK} {S : fxS} {f : Int} {p : Int} (p0 : COL S) (p1 : WTM S) (p2 : INJ S) (p3 : AON S) (p4 : USE S) (p5 : SNP S) (p6 : REC S) (p7 : LCM S) (p8 : -2147483648 ≤ f ∧ f < 2147483648) (p9 : -2147483648 ≤ p ∧ p < 2147483648) (hk : ∀ (r : Int) (S' : fxS) , (fxfr [(49, 0), (49, 7), (49, 14), (49, 17), (49, 36), (50, 9999), (52, 9999), (53, 9999), (55, 9999), (56, 9999), (57, 9999), (58, 9999), (75, 9999)] S S' ∧ (-2147483648 ≤ r ∧ r < 2147483648) ∧ (COL S') ∧ (WTM S') ∧ (INJ S') ∧ (AON S') ∧ (USE S') ∧ (SNP S') ∧ (REC S') ∧ (LCM S')) → k (some (.inl r)) S') : ∀ m : Nat, (∀ (e j : Int) (S1 : fxS), (fxfr [(49, 0), (49, 7), (49, 14), (49, 17), (49, 36), (50, 9999), (52, 9999), (53, 9999), (55, 9999), (56, 9999), (57, 9999), (58, 9999), (75, 9999)] S S1) → (0 ≤ f ∧ f < 60) → (0 ≤ p ∧ p ≤ aN S1 f 3 ∧ e = (p + S 49 0 17 - 1) / 32) → (1 ≤ S 49 0 17 ∧ p + S 49 0 17 ≤ 1024 ∧ S1 49 0 17 = S 49 0 17) → (p / 32 ≤ j ∧ j ≤ e + 1) → (e - j + 1 ≤ fcn (S1 56 0) 0 208) → (aN S1 f 0 = 2) → (aN S1 f 3 ≤ 0 ∨ 0 ≤ aN S1 f 10) → (0 ≤ S1 49 0 7 ∧ S1 49 0 7 ≤ 199) → (S1 49 0 15 = 0) → (COL S1) → (WTM S1) → (INJ S1) → (AON S1) → (USE S1) → (SNP S1) → (REC S1) → (GEB f (p / 32) j S1) → 1000 - j ≤ (m : Int) → fZ l 110 k 123 [some (.inr (.inr (49, 0))), some (.inl f), some (.inl p), none, none, some (.inl e), some (.inl j), none] [] S1) ∧ (∀ (j : Int) (S1 : fxS), (fxfr [(49, 0), (49, 7), (49, 14), (49, 17), (49, 36), (50, 9999), (52, 9999), (53, 9999), (55, 9999), (56, 9999), (57, 9999), (58, 9999), (75, 9999)] S S1) → (0 ≤ f ∧ f < 60) → (0 ≤ p ∧ p ≤ aN S1 f 3) → (1 ≤ S 49 0 17 ∧ p + S 49 0 17 ≤ 1024 ∧ S1 49 0 17 = S 49 0 17) → (0 ≤ j ∧ j ≤ 256) → (aN S1 f 0 = 2) → (aN S1 f 3 ≤ 0 ∨ 0 ≤ aN S1 f 10) → (0 ≤ S1 49 0 7 ∧ S1 49 0 7 ≤ 199) → (S1 49 0 15 = 0) → (COL S1) → (WTM S1) → (INJ S1) → (AON S1) → (USE S1) → (SNP S1) → (REC S1) → (GEB f (p / 32) ((p + S 49 0 17 - 1) / 32 + 1) S1) → 300 - j ≤ (m : Int) → fZ l 110 k 146 [some (.inr (.inr (49, 0))), some (.inl f), some (.inl p), none, none, none, some (.inl j), none] [] S1) := by
  intro m
  induction m with
  | zero =>
    refine ⟨?_, ?_⟩
    · intro e j S1 hf i0 i1 i2 i3 i4 i5 i6 i7 i8 i9 i10 i11 i12 i13 i14 i15 i16 hmu
      exfalso
      omega
    · intro j S1 hf i0 i1 i2 i3 i4 i5 i6 i7 i8 i9 i10 i11 i12 i13 i14 i15 hmu
      exfalso
      omega
  | succ m ih =>
    refine ⟨?_, ?_⟩
    · intro e j S1 hf i0 i1 i2 i3 i4 i5 i6 i7 i8 i9 i10 i11 i12 i13 i14 i15 i16 hmu
      refine fxz_110 400 ?_
      refine And.intro (fun (h1 : (e < j : Prop)) => ?_) (fun (h1 : (j ≤ e : Prop)) => ?_)
      ·
        refine And.intro (by decide) ?_
        have gq : GEB f (p / 32) ((p + S 49 0 17 - 1) / 32 + 1) S1 := GEB_to i16 (by omega)
        exact ih.2 (0 : Int) S1 hf (by omega) (by omega) (by omega) (by omega) (by omega) (by omega) (by omega) (by omega) i9 i10 i11 i12 i13 i14 i15 gq (by omega)
      ·
        refine c_StubHouseModel_renew (f := f) (p := j) i9 i10 i11 i12 i13 i15 (show 0 ≤ f ∧ f < 60 by omega) (show 0 ≤ j ∧ j < 32 by omega) (show aN S1 f 0 = 2 by omega) (show 1 ≤ fcn (S1 56 0) 0 208 by omega) (show j ≠ 0 ∨ 0 ≤ aN S1 f 10 ∨ aN S1 f 3 ≤ 0 by omega) (fun (S2 : fxS) ⟨(f3 : fxfr [(50, 9999), (56, 9999), (57, 9999)] S1 S2), (g4 : COL S2), (g5 : WTM S2), (g6 : INJ S2), (g7 : AON S2), (g8 : USE S2), (g9 : REC S2), (g10 : RNW f j S1 S2)⟩ => ?_)
        have w11 : S2 49 0 7 = S1 49 0 7 := f3 49 0 7 rfl
        have w12 : S2 49 0 17 = S1 49 0 17 := f3 49 0 17 rfl
        have w13 : S2 49 0 15 = S1 49 0 15 := f3 49 0 15 rfl
        have g14 : SNP S2 := fx_pfr SNP_stab f3 rfl i14
        have rn := (by assumption : RNW f j S1 S2)
        have e0 : aN S2 f 0 = aN S1 f 0 := rn.1 f 0 (by omega) (by omega) (by omega) (by omega) (Or.inr (by omega))
        have e3 : aN S2 f 3 = aN S1 f 3 := rn.1 f 3 (by omega) (by omega) (by omega) (by omega) (Or.inr (by omega))
        have e10 : 0 ≤ aN S1 f 10 → 0 ≤ aN S2 f 10 := RNW_10 rn (by omega)
        have ef := rn.2.2
        have gb : GEB f (p / 32) (j + (1 : Int)) S2 := GEB_rnw i16 rn (by omega)
        refine And.intro (by decide) (And.intro (show -2147483648 ≤ j + (1 : Int) ∧ j + (1 : Int) < 2147483648 by omega) ?_)
        exact ih.1 e (j + (1 : Int)) S2 (fxfr_tr hf f3 rfl) (by omega) (by omega) (by omega) (by omega) (by omega) (by omega) (by omega) (by omega) (by omega) g4 g5 g6 g7 g8 g14 g9 gb (by omega)
    · intro j S1 hf i0 i1 i2 i3 i4 i5 i6 i7 i8 i9 i10 i11 i12 i13 i14 i15 hmu
      refine fxz_110 400 ?_
      intro z16 (z16a : (0 : Int) ≤ z16) (z16b : z16 ≤ (256 : Int)) (z16c : z16 = S1 49 0 17)
      refine And.intro (fun (h17 : (z16 ≤ j : Prop)) => ?_) (fun (h17 : (j < z16 : Prop)) => ?_)
      ·
        intro z18 (z18a : (0 : Int) ≤ z18) (z18b : z18 ≤ (256 : Int)) (z18c : z18 = S1 49 0 17)
        obtain rfl : z16 = z18 := by omega
        refine And.intro (show -2147483648 ≤ (p + z16) ∧ (p + z16) < 2147483648 by omega) ?_
        refine c_at3 (n := f) i8 (show 0 ≤ f ∧ f < 60 by omega) (fun (z19 : Int) (q20 : z19 = aN S1 f 3 ∧ 0 ≤ z19 ∧ z19 ≤ 1024) => ?_)
        refine And.intro (fun (h21 : ((p + z16) ≤ z19 : Prop)) => ?_) (fun (h21 : (z19 < (p + z16) : Prop)) => ?_)
        ·
          refine c_at3 (n := f) i8 (show 0 ≤ f ∧ f < 60 by omega) (fun (z22 : Int) (q23 : z22 = aN S1 f 3 ∧ 0 ≤ z22 ∧ z22 ≤ 1024) => ?_)
          refine c_set (n := f) (w := (3 : Int)) (v := z22) (show 0 ≤ f ∧ f < 60 by omega) (show 0 ≤ (3 : Int) ∧ (3 : Int) < 42 by omega) (show -2147483648 ≤ z22 ∧ z22 < 2147483648 by omega) ?_
          have w24 : (fx_up S1 50 0 (42 * f + (3 : Int)).toNat z22) 49 0 7 = S1 49 0 7 := rfl
          have w25 : (fx_up S1 50 0 (42 * f + (3 : Int)).toNat z22) 49 0 17 = S1 49 0 17 := rfl
          have w26 : (fx_up S1 50 0 (42 * f + (3 : Int)).toNat z22) 49 0 15 = S1 49 0 15 := rfl
          have w27 : aN (fx_up S1 50 0 (42 * f + (3 : Int)).toNat z22) f (0 : Int) = aN S1 f (0 : Int) := (aN_ne (S := S1) (by omega) (by omega) (by omega))
          have w28 : aN (fx_up S1 50 0 (42 * f + (3 : Int)).toNat z22) f (3 : Int) = z22 := aN_eq
          have w29 : aN (fx_up S1 50 0 (42 * f + (3 : Int)).toNat z22) f (10 : Int) = aN S1 f (10 : Int) := (aN_ne (S := S1) (by omega) (by omega) (by omega))
          have g30 : COL (fx_up S1 50 0 (42 * f + (3 : Int)).toNat z22) := COL_set i8 (by omega) (by omega) (by omega)
          have g31 : WTM (fx_up S1 50 0 (42 * f + (3 : Int)).toNat z22) := WTM_set i9 (by omega) (by omega)
          have g32 : INJ (fx_up S1 50 0 (42 * f + (3 : Int)).toNat z22) := INJ_set i10 (by omega) (by omega)
          have g33 : USE (fx_up S1 50 0 (42 * f + (3 : Int)).toNat z22) := USE_set i12 (by omega) (by omega)
          have g34 : SNP (fx_up S1 50 0 (42 * f + (3 : Int)).toNat z22) := fx_pup SNP_stab rfl i13
          have g35 : REC (fx_up S1 50 0 (42 * f + (3 : Int)).toNat z22) := REC_set i14 (by omega) (by omega)
          have g36 : GEB f (p / 32) ((p + S 49 0 17 - 1) / 32 + 1) (fx_up S1 50 0 (42 * f + (3 : Int)).toNat z22) := GEB_set i15 (by omega) (by omega)
          have ao : AON (fx_up S1 50 0 (42 * f + (3 : Int)).toNat z22) := AON_grow (p := p) (c := S 49 0 17) i11 (by omega) i15 (by omega) (by omega) (by omega) (by omega)
          refine And.intro (show (0 : Int) ≤ (0 : Int) ∧ (0 : Int) ≤ (256 : Int) by omega) ?_
          have w37 : aN (fx_up (fx_up S1 50 0 (42 * f + (3 : Int)).toNat z22) 49 0 17 (0 : Int)) f (0 : Int) = aN (fx_up S1 50 0 (42 * f + (3 : Int)).toNat z22) f (0 : Int) := (aN_o rfl)
          have w38 : aN (fx_up (fx_up S1 50 0 (42 * f + (3 : Int)).toNat z22) 49 0 17 (0 : Int)) f (3 : Int) = aN (fx_up S1 50 0 (42 * f + (3 : Int)).toNat z22) f (3 : Int) := (aN_o rfl)
          have w39 : aN (fx_up (fx_up S1 50 0 (42 * f + (3 : Int)).toNat z22) 49 0 17 (0 : Int)) f (10 : Int) = aN (fx_up S1 50 0 (42 * f + (3 : Int)).toNat z22) f (10 : Int) := (aN_o rfl)
          have w40 : (fx_up (fx_up S1 50 0 (42 * f + (3 : Int)).toNat z22) 49 0 17 (0 : Int)) 49 0 7 = (fx_up S1 50 0 (42 * f + (3 : Int)).toNat z22) 49 0 7 := if_neg (fun q => absurd q.2.2 (by decide))
          have w41 : (fx_up (fx_up S1 50 0 (42 * f + (3 : Int)).toNat z22) 49 0 17 (0 : Int)) 49 0 17 = (0 : Int) := fx_up_at _ _ _ _ _
          have w42 : (fx_up (fx_up S1 50 0 (42 * f + (3 : Int)).toNat z22) 49 0 17 (0 : Int)) 49 0 15 = (fx_up S1 50 0 (42 * f + (3 : Int)).toNat z22) 49 0 15 := if_neg (fun q => absurd q.2.2 (by decide))
          have g43 : COL (fx_up (fx_up S1 50 0 (42 * f + (3 : Int)).toNat z22) 49 0 17 (0 : Int)) := fx_pup COL_stab rfl g30
          have g44 : WTM (fx_up (fx_up S1 50 0 (42 * f + (3 : Int)).toNat z22) 49 0 17 (0 : Int)) := fx_pup WTM_stab rfl g31
          have g45 : INJ (fx_up (fx_up S1 50 0 (42 * f + (3 : Int)).toNat z22) 49 0 17 (0 : Int)) := fx_pup INJ_stab rfl g32
          have g46 : USE (fx_up (fx_up S1 50 0 (42 * f + (3 : Int)).toNat z22) 49 0 17 (0 : Int)) := fx_pup USE_stab rfl g33
          have g47 : SNP (fx_up (fx_up S1 50 0 (42 * f + (3 : Int)).toNat z22) 49 0 17 (0 : Int)) := fx_pup SNP_stab rfl g34
          have g48 : REC (fx_up (fx_up S1 50 0 (42 * f + (3 : Int)).toNat z22) 49 0 17 (0 : Int)) := fx_pup REC_stab rfl g35
          have g49 : GEB f (p / 32) ((p + S 49 0 17 - 1) / 32 + 1) (fx_up (fx_up S1 50 0 (42 * f + (3 : Int)).toNat z22) 49 0 17 (0 : Int)) := fx_pup GEB_stab rfl g36
          have g50 : AON (fx_up (fx_up S1 50 0 (42 * f + (3 : Int)).toNat z22) 49 0 17 (0 : Int)) := fx_pup AON_stab rfl ao
          refine c_StubHouseModel_changed (f := f) g43 g44 g45 g50 g46 g48 (show 0 ≤ f ∧ f < 60 by omega) (fun (S51 : fxS) ⟨(f52 : fxfr [(49, 14), (50, 9999), (52, 9999)] (fx_up (fx_up S1 50 0 (42 * f + (3 : Int)).toNat z22) 49 0 17 (0 : Int)) S51), (g53 : COL S51), (g54 : WTM S51), (g55 : INJ S51), (g56 : AON S51), (g57 : USE S51), (g58 : REC S51)⟩ => ?_)
          have w59 : S51 49 0 7 = (fx_up (fx_up S1 50 0 (42 * f + (3 : Int)).toNat z22) 49 0 17 (0 : Int)) 49 0 7 := f52 49 0 7 rfl
          have w60 : S51 49 0 17 = (fx_up (fx_up S1 50 0 (42 * f + (3 : Int)).toNat z22) 49 0 17 (0 : Int)) 49 0 17 := f52 49 0 17 rfl
          have w61 : S51 49 0 15 = (fx_up (fx_up S1 50 0 (42 * f + (3 : Int)).toNat z22) 49 0 17 (0 : Int)) 49 0 15 := f52 49 0 15 rfl
          have g62 : SNP S51 := fx_pfr SNP_stab f52 rfl g47
          refine c_StubHouseModel_blocks (n := f) g53 (show 0 ≤ f ∧ f < 60 by omega) (fun (z63 : Int) (q64 : z63 = (aN S51 f 3 + 31) / 32 ∧ 0 ≤ z63 ∧ z63 ≤ 32) => ?_)
          refine And.intro (show -2147483648 ≤ ((4 : Int) * z63) ∧ ((4 : Int) * z63) < 2147483648 by omega) ?_
          refine And.intro (show -2147483648 ≤ ((8 : Int) + ((4 : Int) * z63)) ∧ ((8 : Int) + ((4 : Int) * z63)) < 2147483648 by omega) ?_
          refine c_StubHouseModel_record (e := ((8 : Int) + ((4 : Int) * z63))) g53 g54 g55 g56 g62 (show S51 49 0 7 ≤ 199 by omega) (show 0 ≤ ((8 : Int) + ((4 : Int) * z63)) ∧ ((8 : Int) + ((4 : Int) * z63)) ≤ 1000 by omega) (fun (S65 : fxS) ⟨(f66 : fxfr [(49, 7), (53, 9999), (55, 9999)] S51 S65), (g67 : SNP S65)⟩ => ?_)
          have w68 : aN S65 f (0 : Int) = aN S51 f (0 : Int) := (aN_fr f66 rfl)
          have w69 : aN S65 f (3 : Int) = aN S51 f (3 : Int) := (aN_fr f66 rfl)
          have w70 : aN S65 f (10 : Int) = aN S51 f (10 : Int) := (aN_fr f66 rfl)
          have w71 : S65 49 0 17 = S51 49 0 17 := f66 49 0 17 rfl
          have w72 : S65 49 0 15 = S51 49 0 15 := f66 49 0 15 rfl
          have g73 : COL S65 := fx_pfr COL_stab f66 rfl g53
          have g74 : WTM S65 := fx_pfr WTM_stab f66 rfl g54
          have g75 : INJ S65 := fx_pfr INJ_stab f66 rfl g55
          have g76 : USE S65 := fx_pfr USE_stab f66 rfl g57
          have g77 : REC S65 := fx_pfr REC_stab f66 rfl g58
          have g78 : AON S65 := fx_pfr AON_stab f66 rfl g56
          have rd : RECd S65 := g77.1
          refine c_StubHouseModel_purge  g73 rd (fun (S79 : fxS) ⟨(f80 : fxfr [(49, 36), (75, 9999)] S65 S79), (g81 : REC S79)⟩ => ?_)
          have w82 : aN S79 f (0 : Int) = aN S65 f (0 : Int) := (aN_fr f80 rfl)
          have w83 : aN S79 f (3 : Int) = aN S65 f (3 : Int) := (aN_fr f80 rfl)
          have w84 : aN S79 f (10 : Int) = aN S65 f (10 : Int) := (aN_fr f80 rfl)
          have w85 : S79 49 0 7 = S65 49 0 7 := f80 49 0 7 rfl
          have w86 : S79 49 0 17 = S65 49 0 17 := f80 49 0 17 rfl
          have w87 : S79 49 0 15 = S65 49 0 15 := f80 49 0 15 rfl
          have g88 : COL S79 := fx_pfr COL_stab f80 rfl g73
          have g89 : WTM S79 := fx_pfr WTM_stab f80 rfl g74
          have g90 : INJ S79 := fx_pfr INJ_stab f80 rfl g75
          have g91 : USE S79 := fx_pfr USE_stab f80 rfl g76
          have g92 : SNP S79 := fx_pfr SNP_stab f80 rfl g67
          have g93 : AON S79 := fx_pfr AON_stab f80 rfl g78
          refine c_at3 (n := f) g88 (show 0 ≤ f ∧ f < 60 by omega) (fun (z94 : Int) (q95 : z94 = aN S79 f 3 ∧ 0 ≤ z94 ∧ z94 ≤ 1024) => ?_)
          exact hk z94 S79 ⟨(fxfr_tr (fxfr_tr (fxfr_tr (fxfr_up (fxfr_up hf rfl) rfl) f52 rfl) f66 rfl) f80 rfl), by omega, g88, g89, g90, g93, g91, g92, g81, by first | assumption | exact LCM_of (by omega)⟩
        ·
          intro z96 (z96a : (0 : Int) ≤ z96) (z96b : z96 ≤ (256 : Int)) (z96c : z96 = S1 49 0 17)
          obtain rfl : z16 = z96 := by omega
          refine And.intro (show -2147483648 ≤ (p + z16) ∧ (p + z16) < 2147483648 by omega) ?_
          refine c_set (n := f) (w := (3 : Int)) (v := (p + z16)) (show 0 ≤ f ∧ f < 60 by omega) (show 0 ≤ (3 : Int) ∧ (3 : Int) < 42 by omega) (show -2147483648 ≤ (p + z16) ∧ (p + z16) < 2147483648 by omega) ?_
          have w97 : (fx_up S1 50 0 (42 * f + (3 : Int)).toNat (p + z16)) 49 0 7 = S1 49 0 7 := rfl
          have w98 : (fx_up S1 50 0 (42 * f + (3 : Int)).toNat (p + z16)) 49 0 17 = S1 49 0 17 := rfl
          have w99 : (fx_up S1 50 0 (42 * f + (3 : Int)).toNat (p + z16)) 49 0 15 = S1 49 0 15 := rfl
          have w100 : aN (fx_up S1 50 0 (42 * f + (3 : Int)).toNat (p + z16)) f (0 : Int) = aN S1 f (0 : Int) := (aN_ne (S := S1) (by omega) (by omega) (by omega))
          have w101 : aN (fx_up S1 50 0 (42 * f + (3 : Int)).toNat (p + z16)) f (3 : Int) = (p + z16) := aN_eq
          have w102 : aN (fx_up S1 50 0 (42 * f + (3 : Int)).toNat (p + z16)) f (10 : Int) = aN S1 f (10 : Int) := (aN_ne (S := S1) (by omega) (by omega) (by omega))
          have g103 : COL (fx_up S1 50 0 (42 * f + (3 : Int)).toNat (p + z16)) := COL_set i8 (by omega) (by omega) (by omega)
          have g104 : WTM (fx_up S1 50 0 (42 * f + (3 : Int)).toNat (p + z16)) := WTM_set i9 (by omega) (by omega)
          have g105 : INJ (fx_up S1 50 0 (42 * f + (3 : Int)).toNat (p + z16)) := INJ_set i10 (by omega) (by omega)
          have g106 : USE (fx_up S1 50 0 (42 * f + (3 : Int)).toNat (p + z16)) := USE_set i12 (by omega) (by omega)
          have g107 : SNP (fx_up S1 50 0 (42 * f + (3 : Int)).toNat (p + z16)) := fx_pup SNP_stab rfl i13
          have g108 : REC (fx_up S1 50 0 (42 * f + (3 : Int)).toNat (p + z16)) := REC_set i14 (by omega) (by omega)
          have g109 : GEB f (p / 32) ((p + S 49 0 17 - 1) / 32 + 1) (fx_up S1 50 0 (42 * f + (3 : Int)).toNat (p + z16)) := GEB_set i15 (by omega) (by omega)
          have ao : AON (fx_up S1 50 0 (42 * f + (3 : Int)).toNat (p + z16)) := AON_grow (p := p) (c := S 49 0 17) i11 (by omega) i15 (by omega) (by omega) (by omega) (by omega)
          refine And.intro (show (0 : Int) ≤ (0 : Int) ∧ (0 : Int) ≤ (256 : Int) by omega) ?_
          have w110 : aN (fx_up (fx_up S1 50 0 (42 * f + (3 : Int)).toNat (p + z16)) 49 0 17 (0 : Int)) f (0 : Int) = aN (fx_up S1 50 0 (42 * f + (3 : Int)).toNat (p + z16)) f (0 : Int) := (aN_o rfl)
          have w111 : aN (fx_up (fx_up S1 50 0 (42 * f + (3 : Int)).toNat (p + z16)) 49 0 17 (0 : Int)) f (3 : Int) = aN (fx_up S1 50 0 (42 * f + (3 : Int)).toNat (p + z16)) f (3 : Int) := (aN_o rfl)
          have w112 : aN (fx_up (fx_up S1 50 0 (42 * f + (3 : Int)).toNat (p + z16)) 49 0 17 (0 : Int)) f (10 : Int) = aN (fx_up S1 50 0 (42 * f + (3 : Int)).toNat (p + z16)) f (10 : Int) := (aN_o rfl)
          have w113 : (fx_up (fx_up S1 50 0 (42 * f + (3 : Int)).toNat (p + z16)) 49 0 17 (0 : Int)) 49 0 7 = (fx_up S1 50 0 (42 * f + (3 : Int)).toNat (p + z16)) 49 0 7 := if_neg (fun q => absurd q.2.2 (by decide))
          have w114 : (fx_up (fx_up S1 50 0 (42 * f + (3 : Int)).toNat (p + z16)) 49 0 17 (0 : Int)) 49 0 17 = (0 : Int) := fx_up_at _ _ _ _ _
          have w115 : (fx_up (fx_up S1 50 0 (42 * f + (3 : Int)).toNat (p + z16)) 49 0 17 (0 : Int)) 49 0 15 = (fx_up S1 50 0 (42 * f + (3 : Int)).toNat (p + z16)) 49 0 15 := if_neg (fun q => absurd q.2.2 (by decide))
          have g116 : COL (fx_up (fx_up S1 50 0 (42 * f + (3 : Int)).toNat (p + z16)) 49 0 17 (0 : Int)) := fx_pup COL_stab rfl g103
          have g117 : WTM (fx_up (fx_up S1 50 0 (42 * f + (3 : Int)).toNat (p + z16)) 49 0 17 (0 : Int)) := fx_pup WTM_stab rfl g104
          have g118 : INJ (fx_up (fx_up S1 50 0 (42 * f + (3 : Int)).toNat (p + z16)) 49 0 17 (0 : Int)) := fx_pup INJ_stab rfl g105
          have g119 : USE (fx_up (fx_up S1 50 0 (42 * f + (3 : Int)).toNat (p + z16)) 49 0 17 (0 : Int)) := fx_pup USE_stab rfl g106
          have g120 : SNP (fx_up (fx_up S1 50 0 (42 * f + (3 : Int)).toNat (p + z16)) 49 0 17 (0 : Int)) := fx_pup SNP_stab rfl g107
          have g121 : REC (fx_up (fx_up S1 50 0 (42 * f + (3 : Int)).toNat (p + z16)) 49 0 17 (0 : Int)) := fx_pup REC_stab rfl g108
          have g122 : GEB f (p / 32) ((p + S 49 0 17 - 1) / 32 + 1) (fx_up (fx_up S1 50 0 (42 * f + (3 : Int)).toNat (p + z16)) 49 0 17 (0 : Int)) := fx_pup GEB_stab rfl g109
          have g123 : AON (fx_up (fx_up S1 50 0 (42 * f + (3 : Int)).toNat (p + z16)) 49 0 17 (0 : Int)) := fx_pup AON_stab rfl ao
          refine c_StubHouseModel_changed (f := f) g116 g117 g118 g123 g119 g121 (show 0 ≤ f ∧ f < 60 by omega) (fun (S124 : fxS) ⟨(f125 : fxfr [(49, 14), (50, 9999), (52, 9999)] (fx_up (fx_up S1 50 0 (42 * f + (3 : Int)).toNat (p + z16)) 49 0 17 (0 : Int)) S124), (g126 : COL S124), (g127 : WTM S124), (g128 : INJ S124), (g129 : AON S124), (g130 : USE S124), (g131 : REC S124)⟩ => ?_)
          have w132 : S124 49 0 7 = (fx_up (fx_up S1 50 0 (42 * f + (3 : Int)).toNat (p + z16)) 49 0 17 (0 : Int)) 49 0 7 := f125 49 0 7 rfl
          have w133 : S124 49 0 17 = (fx_up (fx_up S1 50 0 (42 * f + (3 : Int)).toNat (p + z16)) 49 0 17 (0 : Int)) 49 0 17 := f125 49 0 17 rfl
          have w134 : S124 49 0 15 = (fx_up (fx_up S1 50 0 (42 * f + (3 : Int)).toNat (p + z16)) 49 0 17 (0 : Int)) 49 0 15 := f125 49 0 15 rfl
          have g135 : SNP S124 := fx_pfr SNP_stab f125 rfl g120
          refine c_StubHouseModel_blocks (n := f) g126 (show 0 ≤ f ∧ f < 60 by omega) (fun (z136 : Int) (q137 : z136 = (aN S124 f 3 + 31) / 32 ∧ 0 ≤ z136 ∧ z136 ≤ 32) => ?_)
          refine And.intro (show -2147483648 ≤ ((4 : Int) * z136) ∧ ((4 : Int) * z136) < 2147483648 by omega) ?_
          refine And.intro (show -2147483648 ≤ ((8 : Int) + ((4 : Int) * z136)) ∧ ((8 : Int) + ((4 : Int) * z136)) < 2147483648 by omega) ?_
          refine c_StubHouseModel_record (e := ((8 : Int) + ((4 : Int) * z136))) g126 g127 g128 g129 g135 (show S124 49 0 7 ≤ 199 by omega) (show 0 ≤ ((8 : Int) + ((4 : Int) * z136)) ∧ ((8 : Int) + ((4 : Int) * z136)) ≤ 1000 by omega) (fun (S138 : fxS) ⟨(f139 : fxfr [(49, 7), (53, 9999), (55, 9999)] S124 S138), (g140 : SNP S138)⟩ => ?_)
          have w141 : aN S138 f (0 : Int) = aN S124 f (0 : Int) := (aN_fr f139 rfl)
          have w142 : aN S138 f (3 : Int) = aN S124 f (3 : Int) := (aN_fr f139 rfl)
          have w143 : aN S138 f (10 : Int) = aN S124 f (10 : Int) := (aN_fr f139 rfl)
          have w144 : S138 49 0 17 = S124 49 0 17 := f139 49 0 17 rfl
          have w145 : S138 49 0 15 = S124 49 0 15 := f139 49 0 15 rfl
          have g146 : COL S138 := fx_pfr COL_stab f139 rfl g126
          have g147 : WTM S138 := fx_pfr WTM_stab f139 rfl g127
          have g148 : INJ S138 := fx_pfr INJ_stab f139 rfl g128
          have g149 : USE S138 := fx_pfr USE_stab f139 rfl g130
          have g150 : REC S138 := fx_pfr REC_stab f139 rfl g131
          have g151 : AON S138 := fx_pfr AON_stab f139 rfl g129
          have rd : RECd S138 := g150.1
          refine c_StubHouseModel_purge  g146 rd (fun (S152 : fxS) ⟨(f153 : fxfr [(49, 36), (75, 9999)] S138 S152), (g154 : REC S152)⟩ => ?_)
          have w155 : aN S152 f (0 : Int) = aN S138 f (0 : Int) := (aN_fr f153 rfl)
          have w156 : aN S152 f (3 : Int) = aN S138 f (3 : Int) := (aN_fr f153 rfl)
          have w157 : aN S152 f (10 : Int) = aN S138 f (10 : Int) := (aN_fr f153 rfl)
          have w158 : S152 49 0 7 = S138 49 0 7 := f153 49 0 7 rfl
          have w159 : S152 49 0 17 = S138 49 0 17 := f153 49 0 17 rfl
          have w160 : S152 49 0 15 = S138 49 0 15 := f153 49 0 15 rfl
          have g161 : COL S152 := fx_pfr COL_stab f153 rfl g146
          have g162 : WTM S152 := fx_pfr WTM_stab f153 rfl g147
          have g163 : INJ S152 := fx_pfr INJ_stab f153 rfl g148
          have g164 : USE S152 := fx_pfr USE_stab f153 rfl g149
          have g165 : SNP S152 := fx_pfr SNP_stab f153 rfl g140
          have g166 : AON S152 := fx_pfr AON_stab f153 rfl g151
          refine c_at3 (n := f) g161 (show 0 ≤ f ∧ f < 60 by omega) (fun (z167 : Int) (q168 : z167 = aN S152 f 3 ∧ 0 ≤ z167 ∧ z167 ≤ 1024) => ?_)
          exact hk z167 S152 ⟨(fxfr_tr (fxfr_tr (fxfr_tr (fxfr_up (fxfr_up hf rfl) rfl) f125 rfl) f139 rfl) f153 rfl), by omega, g161, g162, g163, g166, g164, g165, g154, by first | assumption | exact LCM_of (by omega)⟩
      ·
        refine And.intro (show -2147483648 ≤ (p + j) ∧ (p + j) < 2147483648 by omega) ?_
        refine And.intro (by decide) ?_
        refine And.intro (show 0 ≤ (p + j) ∧ 0 < (32 : Int) by omega) ?_
        refine And.intro (show -2147483648 ≤ ((10 : Int) + ((p + j) / (32 : Int))) ∧ ((10 : Int) + ((p + j) / (32 : Int))) < 2147483648 by omega) ?_
        refine c_atb (n := f) (w := ((10 : Int) + ((p + j) / (32 : Int)))) i8 (show 0 ≤ f ∧ f < 60 by omega) (show 10 ≤ ((10 : Int) + ((p + j) / (32 : Int))) ∧ ((10 : Int) + ((p + j) / (32 : Int))) < 42 by omega) (fun (z169 : Int) (q170 : z169 = aN S1 f ((10 : Int) + ((p + j) / (32 : Int))) ∧ -1 ≤ z169 ∧ z169 ≤ 207) => ?_)
        have rp : 0 ≤ z169 := by rw [q170.1]; exact i15 _ (by omega) (by omega) (by omega) (by omega)
        refine And.intro (show -2147483648 ≤ ((32 : Int) * z169) ∧ ((32 : Int) * z169) < 2147483648 by omega) ?_
        refine And.intro (show 0 ≤ (p + j) ∧ 0 < (32 : Int) by omega) ?_
        refine And.intro (show -2147483648 ≤ (((32 : Int) * z169) + ((p + j) % (32 : Int))) ∧ (((32 : Int) * z169) + ((p + j) % (32 : Int))) < 2147483648 by omega) ?_
        refine And.intro (show 0 ≤ j ∧ j < 256 by omega) ?_
        intro z171 (z171a : (-128 : Int) ≤ z171) (z171b : z171 ≤ (127 : Int)) (z171c : z171 = S1 59 0 (j).toNat)
        refine And.intro (show 0 ≤ (((32 : Int) * z169) + ((p + j) % (32 : Int))) ∧ (((32 : Int) * z169) + ((p + j) % (32 : Int))) < 6656 by omega) ?_
        intro z172 z172a z172b z172c
        have w173 : aN (fx_up S1 57 0 ((((32 : Int) * z169) + ((p + j) % (32 : Int)))).toNat z172) f (0 : Int) = aN S1 f (0 : Int) := (aN_o rfl)
        have w174 : aN (fx_up S1 57 0 ((((32 : Int) * z169) + ((p + j) % (32 : Int)))).toNat z172) f (3 : Int) = aN S1 f (3 : Int) := (aN_o rfl)
        have w175 : aN (fx_up S1 57 0 ((((32 : Int) * z169) + ((p + j) % (32 : Int)))).toNat z172) f (10 : Int) = aN S1 f (10 : Int) := (aN_o rfl)
        have w176 : (fx_up S1 57 0 ((((32 : Int) * z169) + ((p + j) % (32 : Int)))).toNat z172) 49 0 7 = S1 49 0 7 := rfl
        have w177 : (fx_up S1 57 0 ((((32 : Int) * z169) + ((p + j) % (32 : Int)))).toNat z172) 49 0 17 = S1 49 0 17 := rfl
        have w178 : (fx_up S1 57 0 ((((32 : Int) * z169) + ((p + j) % (32 : Int)))).toNat z172) 49 0 15 = S1 49 0 15 := rfl
        have g179 : COL (fx_up S1 57 0 ((((32 : Int) * z169) + ((p + j) % (32 : Int)))).toNat z172) := fx_pup COL_stab rfl i8
        have g180 : WTM (fx_up S1 57 0 ((((32 : Int) * z169) + ((p + j) % (32 : Int)))).toNat z172) := fx_pup WTM_stab rfl i9
        have g181 : INJ (fx_up S1 57 0 ((((32 : Int) * z169) + ((p + j) % (32 : Int)))).toNat z172) := fx_pup INJ_stab rfl i10
        have g182 : AON (fx_up S1 57 0 ((((32 : Int) * z169) + ((p + j) % (32 : Int)))).toNat z172) := fx_pup AON_stab rfl i11
        have g183 : USE (fx_up S1 57 0 ((((32 : Int) * z169) + ((p + j) % (32 : Int)))).toNat z172) := fx_pup USE_stab rfl i12
        have g184 : SNP (fx_up S1 57 0 ((((32 : Int) * z169) + ((p + j) % (32 : Int)))).toNat z172) := fx_pup SNP_stab rfl i13
        have g185 : REC (fx_up S1 57 0 ((((32 : Int) * z169) + ((p + j) % (32 : Int)))).toNat z172) := fx_pup REC_stab rfl i14
        have g186 : GEB f (p / 32) ((p + S 49 0 17 - 1) / 32 + 1) (fx_up S1 57 0 ((((32 : Int) * z169) + ((p + j) % (32 : Int)))).toNat z172) := fx_pup GEB_stab rfl i15
        refine And.intro (by decide) (And.intro (show -2147483648 ≤ j + (1 : Int) ∧ j + (1 : Int) < 2147483648 by omega) ?_)
        exact ih.2 (j + (1 : Int)) (fx_up S1 57 0 ((((32 : Int) * z169) + ((p + j) % (32 : Int)))).toNat z172) (fxfr_up hf rfl) (by omega) (by omega) (by omega) (by omega) (by omega) (by omega) (by omega) (by omega) g179 g180 g181 g182 g183 g184 g185 g186 (by omega)
theorem c_StubHouseModel_write {l : Launch} {k : fxK} {S : fxS} {f : Int} {p : Int} (p0 : COL S) (p1 : WTM S) (p2 : INJ S) (p3 : AON S) (p4 : USE S) (p5 : SNP S) (p6 : REC S) (p7 : LCM S) (p8 : -2147483648 ≤ f ∧ f < 2147483648) (p9 : -2147483648 ≤ p ∧ p < 2147483648) (hk : ∀ (r : Int) (S' : fxS) , (fxfr [(49, 0), (49, 7), (49, 14), (49, 17), (49, 36), (50, 9999), (52, 9999), (53, 9999), (55, 9999), (56, 9999), (57, 9999), (58, 9999), (75, 9999)] S S' ∧ (-2147483648 ≤ r ∧ r < 2147483648) ∧ (COL S') ∧ (WTM S') ∧ (INJ S') ∧ (AON S') ∧ (USE S') ∧ (SNP S') ∧ (REC S') ∧ (LCM S')) → k (some (.inl r)) S') : fC l 110 [.inr (.inr (49, 0)), .inl f, .inl p] S k := by
  refine fxe_110 (Nat.le_of_ble_eq_true rfl) (fxz_110 400 ?_)
  refine And.intro (show (-2147483648 : Int) ≤ (0 : Int) ∧ (0 : Int) ≤ (2147483647 : Int) by omega) ?_
  have w188 : aN (fx_up S 49 0 0 (0 : Int)) f (0 : Int) = aN S f (0 : Int) := (aN_o rfl)
  have w189 : aN (fx_up S 49 0 0 (0 : Int)) f (3 : Int) = aN S f (3 : Int) := (aN_o rfl)
  have w190 : aN (fx_up S 49 0 0 (0 : Int)) f (10 : Int) = aN S f (10 : Int) := (aN_o rfl)
  have w191 : (fx_up S 49 0 0 (0 : Int)) 49 0 7 = S 49 0 7 := if_neg (fun q => absurd q.2.2 (by decide))
  have w192 : (fx_up S 49 0 0 (0 : Int)) 49 0 17 = S 49 0 17 := if_neg (fun q => absurd q.2.2 (by decide))
  have w193 : (fx_up S 49 0 0 (0 : Int)) 49 0 15 = S 49 0 15 := if_neg (fun q => absurd q.2.2 (by decide))
  have g194 : COL (fx_up S 49 0 0 (0 : Int)) := fx_pup COL_stab rfl p0
  have g195 : WTM (fx_up S 49 0 0 (0 : Int)) := fx_pup WTM_stab rfl p1
  have g196 : INJ (fx_up S 49 0 0 (0 : Int)) := fx_pup INJ_stab rfl p2
  have g197 : AON (fx_up S 49 0 0 (0 : Int)) := fx_pup AON_stab rfl p3
  have g198 : USE (fx_up S 49 0 0 (0 : Int)) := fx_pup USE_stab rfl p4
  have g199 : SNP (fx_up S 49 0 0 (0 : Int)) := fx_pup SNP_stab rfl p5
  have g200 : REC (fx_up S 49 0 0 (0 : Int)) := fx_pup REC_stab rfl p6
  have g201 : LCM (fx_up S 49 0 0 (0 : Int)) := fx_pup LCM_stab rfl p7
  intro z202 (z202a : (0 : Int) ≤ z202) (z202b : z202 ≤ (1 : Int)) (z202c : z202 = S 49 0 15)
  refine And.intro (fun (h203 : (z202 = (0 : Int) : Prop)) => ?_) (fun (h203 : (z202 ≠ (0 : Int) : Prop)) => ?_)
  ·
    refine c_StubHouseModel_isFile (n := f) g194 (show -2147483648 ≤ f ∧ f < 2147483648 by omega) (fun (z204 : Int) (q205 : 0 ≤ z204 ∧ z204 ≤ 1 ∧ (z204 = 1 → 0 ≤ f ∧ f < 60 ∧ aN S f 0 = 2)) => ?_)
    refine And.intro (fun (h206 : (z204 = (0 : Int) : Prop)) => ?_) (fun (h206 : (z204 ≠ (0 : Int) : Prop)) => ?_)
    ·
      exact hk (-1 : Int) (fx_up S 49 0 0 (0 : Int)) ⟨(fxfr_up fxfr_rfl rfl), by omega, g194, g195, g196, g197, g198, g199, g200, g201⟩
    ·
      refine c_at3 (n := f) g194 (show 0 ≤ f ∧ f < 60 by omega) (fun (z207 : Int) (q208 : z207 = aN S f 3 ∧ 0 ≤ z207 ∧ z207 ≤ 1024) => ?_)
      refine c_StubHouseModel_in (x := p) (a := (0 : Int)) (b := z207)  (fun (z209 : Int) (q210 : 0 ≤ z209 ∧ z209 ≤ 1 ∧ (z209 = 1 → (0 : Int) ≤ p ∧ p ≤ z207) ∧ (z209 = 0 → p < (0 : Int) ∨ z207 < p)) => ?_)
      refine And.intro (fun (h211 : (z209 = (0 : Int) : Prop)) => ?_) (fun (h211 : (z209 ≠ (0 : Int) : Prop)) => ?_)
      ·
        exact hk (-1 : Int) (fx_up S 49 0 0 (0 : Int)) ⟨(fxfr_up fxfr_rfl rfl), by omega, g194, g195, g196, g197, g198, g199, g200, g201⟩
      ·
        intro z212 (z212a : (0 : Int) ≤ z212) (z212b : z212 ≤ (256 : Int)) (z212c : z212 = S 49 0 17)
        refine And.intro (fun (h213 : (z212 ≠ (0 : Int) : Prop)) => ?_) (fun (h213 : (z212 = (0 : Int) : Prop)) => ?_)
        ·
          intro z214 (z214a : (0 : Int) ≤ z214) (z214b : z214 ≤ (256 : Int)) (z214c : z214 = S 49 0 17)
          obtain rfl : z212 = z214 := by omega
          refine And.intro (show -2147483648 ≤ (p + z212) ∧ (p + z212) < 2147483648 by omega) ?_
          refine And.intro (fun (h215 : ((p + z212) ≤ (1024 : Int) : Prop)) => ?_) (fun (h215 : ((1024 : Int) < (p + z212) : Prop)) => ?_)
          ·
            refine c_StubHouseModel_stubbed (f := f) g194 g195 g200 (show 0 ≤ f ∧ f < 60 by omega) (show aN S f 0 = 2 by omega) (fun (z216 : Int) (S217 : fxS) ⟨(f218 : fxfr [(49, 36), (75, 9999)] (fx_up S 49 0 0 (0 : Int)) S217), (q219 : -5 ≤ z216 ∧ z216 ≤ 0 ∧ (z216 = 0 → aN S f 3 ≤ 0 ∨ 0 ≤ aN S f 10)), (g220 : REC S217)⟩ => ?_)
            have w221 : aN S217 f (0 : Int) = aN S f (0 : Int) := (aN_fr f218 rfl).trans (aN_o rfl)
            have w222 : aN S217 f (3 : Int) = aN S f (3 : Int) := (aN_fr f218 rfl).trans (aN_o rfl)
            have w223 : aN S217 f (10 : Int) = aN S f (10 : Int) := (aN_fr f218 rfl).trans (aN_o rfl)
            have w224 : S217 49 0 7 = (fx_up S 49 0 0 (0 : Int)) 49 0 7 := f218 49 0 7 rfl
            have w225 : S217 49 0 17 = (fx_up S 49 0 0 (0 : Int)) 49 0 17 := f218 49 0 17 rfl
            have w226 : S217 49 0 15 = (fx_up S 49 0 0 (0 : Int)) 49 0 15 := f218 49 0 15 rfl
            have g227 : COL S217 := fx_pfr COL_stab f218 rfl g194
            have g228 : WTM S217 := fx_pfr WTM_stab f218 rfl g195
            have g229 : INJ S217 := fx_pfr INJ_stab f218 rfl g196
            have g230 : AON S217 := fx_pfr AON_stab f218 rfl g197
            have g231 : USE S217 := fx_pfr USE_stab f218 rfl g198
            have g232 : SNP S217 := fx_pfr SNP_stab f218 rfl g199
            refine And.intro (by decide) ?_
            refine And.intro (fun (h233 : (z216 = (0 : Int) : Prop)) => ?_) (fun (h233 : (z216 ≠ (0 : Int) : Prop)) => ?_)
            ·
              refine And.intro (show 0 ≤ p ∧ 0 < (32 : Int) by omega) ?_
              refine And.intro (by decide) ?_
              intro z234 (z234a : (0 : Int) ≤ z234) (z234b : z234 ≤ (256 : Int)) (z234c : z234 = S217 49 0 17)
              obtain rfl : z212 = z234 := by omega
              refine And.intro (show -2147483648 ≤ (p + z212) ∧ (p + z212) < 2147483648 by omega) ?_
              refine And.intro (show -2147483648 ≤ ((p + z212) - (1 : Int)) ∧ ((p + z212) - (1 : Int)) < 2147483648 by omega) ?_
              refine And.intro (show 0 ≤ ((p + z212) - (1 : Int)) ∧ 0 < (32 : Int) by omega) ?_
              refine And.intro (by decide) ?_
              refine And.intro (show -2147483648 ≤ ((((p + z212) - (1 : Int)) / (32 : Int)) - (p / (32 : Int))) ∧ ((((p + z212) - (1 : Int)) / (32 : Int)) - (p / (32 : Int))) < 2147483648 by omega) ?_
              refine And.intro (show -2147483648 ≤ (((((p + z212) - (1 : Int)) / (32 : Int)) - (p / (32 : Int))) + (1 : Int)) ∧ (((((p + z212) - (1 : Int)) / (32 : Int)) - (p / (32 : Int))) + (1 : Int)) < 2147483648 by omega) ?_
              refine c_freeIn_0_208   (fun (z235 : Int) (q236 : z235 = fcn (S217 56 0) 0 208 ∧ 0 ≤ z235 ∧ z235 ≤ 208) => ?_)
              refine And.intro (fun (h237 : ((((((p + z212) - (1 : Int)) / (32 : Int)) - (p / (32 : Int))) + (1 : Int)) ≤ z235 : Prop)) => ?_) (fun (h237 : (z235 < (((((p + z212) - (1 : Int)) / (32 : Int)) - (p / (32 : Int))) + (1 : Int)) : Prop)) => ?_)
              ·
                refine c_StubHouseModel_ahead  g227 g228 g229 g230 g231 g232 (fun (S238 : fxS) ⟨(f239 : fxfr [(49, 7), (53, 9999), (56, 9999), (58, 9999)] S217 S238), (q240 : 0 ≤ S238 49 0 7 ∧ S238 49 0 7 ≤ 199), (g241 : SNP S238), (g242 : USE S238), (g243 : UZ S217 S238)⟩ => ?_)
                have w244 : aN S238 f (0 : Int) = aN S217 f (0 : Int) := (aN_fr f239 rfl)
                have w245 : aN S238 f (3 : Int) = aN S217 f (3 : Int) := (aN_fr f239 rfl)
                have w246 : aN S238 f (10 : Int) = aN S217 f (10 : Int) := (aN_fr f239 rfl)
                have w247 : S238 49 0 17 = S217 49 0 17 := f239 49 0 17 rfl
                have w248 : S238 49 0 15 = S217 49 0 15 := f239 49 0 15 rfl
                have g249 : COL S238 := fx_pfr COL_stab f239 rfl g227
                have g250 : WTM S238 := fx_pfr WTM_stab f239 rfl g228
                have g251 : INJ S238 := fx_pfr INJ_stab f239 rfl g229
                have g252 : AON S238 := fx_pfr AON_stab f239 rfl g230
                have g253 : REC S238 := fx_pfr REC_stab f239 rfl g220
                have fz : fcn (S217 56 0) 0 208 ≤ fcn (S238 56 0) 0 208 := UZ_fcn (by assumption : UZ S217 S238)
                have g0 : GEB f (p / 32) (p / 32) S238 := GEB_0
                refine And.intro (by decide) ?_
                exact (z_StubHouseModel_write p0 p1 p2 p3 p4 p5 p6 p7 p8 p9 hk (1000 - (p / (32 : Int))).toNat).1 (((p + z212) - (1 : Int)) / (32 : Int)) (p / (32 : Int)) S238 (fxfr_tr (fxfr_tr (fxfr_up fxfr_rfl rfl) f218 rfl) f239 rfl) (by omega) (by omega) (by omega) (by omega) (by omega) (by omega) (by omega) (by omega) (by omega) g249 g250 g251 g252 g242 g241 g253 (by assumption) (by omega)
              ·
                exact hk (-3 : Int) S217 ⟨(fxfr_tr (fxfr_up fxfr_rfl rfl) f218 rfl), by omega, g227, g228, g229, g230, g231, g232, g220, by first | assumption | exact LCM_of (by omega)⟩
            ·
              exact hk z216 S217 ⟨(fxfr_tr (fxfr_up fxfr_rfl rfl) f218 rfl), by omega, g227, g228, g229, g230, g231, g232, g220, by first | assumption | exact LCM_of (by omega)⟩
          ·
            exact hk (-3 : Int) (fx_up S 49 0 0 (0 : Int)) ⟨(fxfr_up fxfr_rfl rfl), by omega, g194, g195, g196, g197, g198, g199, g200, g201⟩
        ·
          exact hk (-1 : Int) (fx_up S 49 0 0 (0 : Int)) ⟨(fxfr_up fxfr_rfl rfl), by omega, g194, g195, g196, g197, g198, g199, g200, g201⟩
  ·
    exact hk (-8 : Int) (fx_up S 49 0 0 (0 : Int)) ⟨(fxfr_up fxfr_rfl rfl), by omega, g194, g195, g196, g197, g198, g199, g200, g201⟩
theorem z_StubHouseModel_cut {l : Launch} {k : fxK} {S : fxS} {f : Int} {z : Int} (p0 : COL S) (p1 : WTM S) (p2 : INJ S) (p3 : AON S) (p4 : USE S) (p5 : SNP S) (p6 : REC S) (p7 : LCM S) (p8 : -2147483648 ≤ f ∧ f < 2147483648) (p9 : -2147483648 ≤ z ∧ z < 2147483648) (hk : ∀ (r : Int) (S' : fxS) , (fxfr [(49, 0), (49, 7), (49, 14), (49, 36), (50, 9999), (52, 9999), (53, 9999), (55, 9999), (56, 9999), (57, 9999), (58, 9999), (75, 9999)] S S' ∧ (-2147483648 ≤ r ∧ r < 2147483648) ∧ (COL S') ∧ (WTM S') ∧ (INJ S') ∧ (AON S') ∧ (USE S') ∧ (SNP S') ∧ (REC S') ∧ (LCM S')) → k (some (.inl r)) S') : ∀ m : Nat, (∀ (c j : Int) (S1 : fxS), (fxfr [(49, 0), (49, 7), (49, 14), (49, 36), (50, 9999), (52, 9999), (53, 9999), (55, 9999), (56, 9999), (57, 9999), (58, 9999), (75, 9999)] S S1) → (0 ≤ f ∧ f < 60) → (0 ≤ z ∧ z ≤ aN S1 f 3 ∧ z ≤ 1024 ∧ c = (z + 31) / 32 ∧ 1 ≤ c) → (0 ≤ j ∧ j ≤ 32) → (aN S1 f 0 = 2) → (0 ≤ S1 49 0 7 ∧ S1 49 0 7 ≤ 199) → (S1 49 0 15 = 0) → (COL S1) → (WTM S1) → (INJ S1) → (AON S1) → (USE S1) → (SNP S1) → (REC S1) → (GEB f (c - 1) c S1) → 1000 - j ≤ (m : Int) → fZ l 114 k 139 [some (.inr (.inr (49, 0))), some (.inl f), some (.inl z), none, none, some (.inl c), some (.inl j)] [] S1) ∧ (∀ (c j : Int) (S1 : fxS), (fxfr [(49, 0), (49, 7), (49, 14), (49, 36), (50, 9999), (52, 9999), (53, 9999), (55, 9999), (56, 9999), (57, 9999), (58, 9999), (75, 9999)] S S1) → (0 ≤ f ∧ f < 60) → (0 ≤ z ∧ z ≤ 1024 ∧ c = (z + 31) / 32) → (c ≤ j ∧ j ≤ 32) → (aN S1 f 0 = 2) → (0 ≤ S1 49 0 7 ∧ S1 49 0 7 ≤ 199) → (S1 49 0 15 = 0) → (COL S1) → (WTM S1) → (INJ S1) → (USE S1) → (SNP S1) → (REC S1) → (AONX f z S1) → 100 - j ≤ (m : Int) → fZ l 114 k 180 [some (.inr (.inr (49, 0))), some (.inl f), some (.inl z), none, none, some (.inl c), some (.inl j)] [] S1) := by
  intro m
  induction m with
  | zero =>
    refine ⟨?_, ?_⟩
    · intro c j S1 hf i0 i1 i2 i3 i4 i5 i6 i7 i8 i9 i10 i11 i12 i13 hmu
      exfalso
      omega
    · intro c j S1 hf i0 i1 i2 i3 i4 i5 i6 i7 i8 i9 i10 i11 i12 hmu
      exfalso
      omega
  | succ m ih =>
    refine ⟨?_, ?_⟩
    · intro c j S1 hf i0 i1 i2 i3 i4 i5 i6 i7 i8 i9 i10 i11 i12 i13 hmu
      refine fxz_114 400 ?_
      refine And.intro (fun (h1 : ((32 : Int) ≤ j : Prop)) => ?_) (fun (h1 : (j < (32 : Int) : Prop)) => ?_)
      ·
        refine And.intro (by decide) ?_
        have ax : AONX f z S1 := AONX_of i9 (by omega)
        exact ih.2 c c S1 hf (by omega) (by omega) (by omega) (by omega) (by omega) (by omega) i6 i7 i8 i10 i11 i12 ax (by omega)
      ·
        refine And.intro (show -2147483648 ≤ ((10 : Int) + c) ∧ ((10 : Int) + c) < 2147483648 by omega) ?_
        refine And.intro (show -2147483648 ≤ (((10 : Int) + c) - (1 : Int)) ∧ (((10 : Int) + c) - (1 : Int)) < 2147483648 by omega) ?_
        refine c_atb (n := f) (w := (((10 : Int) + c) - (1 : Int))) i6 (show 0 ≤ f ∧ f < 60 by omega) (show 10 ≤ (((10 : Int) + c) - (1 : Int)) ∧ (((10 : Int) + c) - (1 : Int)) < 42 by omega) (fun (z2 : Int) (q3 : z2 = aN S1 f (((10 : Int) + c) - (1 : Int)) ∧ -1 ≤ z2 ∧ z2 ≤ 207) => ?_)
        have rp : 0 ≤ z2 := by rw [q3.1, show (10 : Int) + c - 1 = 10 + (c - 1) by omega]; exact i13 _ (by omega) (by omega) (by omega) (by omega)
        refine And.intro (show -2147483648 ≤ ((32 : Int) * z2) ∧ ((32 : Int) * z2) < 2147483648 by omega) ?_
        refine And.intro (show -2147483648 ≤ (((32 : Int) * z2) + j) ∧ (((32 : Int) * z2) + j) < 2147483648 by omega) ?_
        refine And.intro (show 0 ≤ (((32 : Int) * z2) + j) ∧ (((32 : Int) * z2) + j) < 6656 by omega) ?_
        intro z4 z4a z4b z4c
        have w5 : aN (fx_up S1 57 0 ((((32 : Int) * z2) + j)).toNat z4) f (0 : Int) = aN S1 f (0 : Int) := (aN_o rfl)
        have w6 : aN (fx_up S1 57 0 ((((32 : Int) * z2) + j)).toNat z4) f (3 : Int) = aN S1 f (3 : Int) := (aN_o rfl)
        have w7 : aN (fx_up S1 57 0 ((((32 : Int) * z2) + j)).toNat z4) f (10 : Int) = aN S1 f (10 : Int) := (aN_o rfl)
        have w8 : (fx_up S1 57 0 ((((32 : Int) * z2) + j)).toNat z4) 49 0 7 = S1 49 0 7 := rfl
        have w9 : (fx_up S1 57 0 ((((32 : Int) * z2) + j)).toNat z4) 49 0 15 = S1 49 0 15 := rfl
        have g10 : COL (fx_up S1 57 0 ((((32 : Int) * z2) + j)).toNat z4) := fx_pup COL_stab rfl i6
        have g11 : WTM (fx_up S1 57 0 ((((32 : Int) * z2) + j)).toNat z4) := fx_pup WTM_stab rfl i7
        have g12 : INJ (fx_up S1 57 0 ((((32 : Int) * z2) + j)).toNat z4) := fx_pup INJ_stab rfl i8
        have g13 : AON (fx_up S1 57 0 ((((32 : Int) * z2) + j)).toNat z4) := fx_pup AON_stab rfl i9
        have g14 : USE (fx_up S1 57 0 ((((32 : Int) * z2) + j)).toNat z4) := fx_pup USE_stab rfl i10
        have g15 : SNP (fx_up S1 57 0 ((((32 : Int) * z2) + j)).toNat z4) := fx_pup SNP_stab rfl i11
        have g16 : REC (fx_up S1 57 0 ((((32 : Int) * z2) + j)).toNat z4) := fx_pup REC_stab rfl i12
        have g17 : GEB f (c - 1) c (fx_up S1 57 0 ((((32 : Int) * z2) + j)).toNat z4) := fx_pup GEB_stab rfl i13
        refine And.intro (by decide) (And.intro (show -2147483648 ≤ j + (1 : Int) ∧ j + (1 : Int) < 2147483648 by omega) ?_)
        exact ih.1 c (j + (1 : Int)) (fx_up S1 57 0 ((((32 : Int) * z2) + j)).toNat z4) (fxfr_up hf rfl) (by omega) (by omega) (by omega) (by omega) (by omega) (by omega) g10 g11 g12 g13 g14 g15 g16 g17 (by omega)
    · intro c j S1 hf i0 i1 i2 i3 i4 i5 i6 i7 i8 i9 i10 i11 i12 hmu
      refine fxz_114 400 ?_
      refine And.intro (fun (h19 : ((32 : Int) ≤ j : Prop)) => ?_) (fun (h19 : (j < (32 : Int) : Prop)) => ?_)
      ·
        refine c_set (n := f) (w := (3 : Int)) (v := z) (show 0 ≤ f ∧ f < 60 by omega) (show 0 ≤ (3 : Int) ∧ (3 : Int) < 42 by omega) (show -2147483648 ≤ z ∧ z < 2147483648 by omega) ?_
        have w20 : (fx_up S1 50 0 (42 * f + (3 : Int)).toNat z) 49 0 7 = S1 49 0 7 := rfl
        have w21 : (fx_up S1 50 0 (42 * f + (3 : Int)).toNat z) 49 0 15 = S1 49 0 15 := rfl
        have w22 : aN (fx_up S1 50 0 (42 * f + (3 : Int)).toNat z) f (0 : Int) = aN S1 f (0 : Int) := (aN_ne (S := S1) (by omega) (by omega) (by omega))
        have w23 : aN (fx_up S1 50 0 (42 * f + (3 : Int)).toNat z) f (3 : Int) = z := aN_eq
        have w24 : aN (fx_up S1 50 0 (42 * f + (3 : Int)).toNat z) f (10 : Int) = aN S1 f (10 : Int) := (aN_ne (S := S1) (by omega) (by omega) (by omega))
        have g25 : COL (fx_up S1 50 0 (42 * f + (3 : Int)).toNat z) := COL_set i6 (by omega) (by omega) (by omega)
        have g26 : WTM (fx_up S1 50 0 (42 * f + (3 : Int)).toNat z) := WTM_set i7 (by omega) (by omega)
        have g27 : INJ (fx_up S1 50 0 (42 * f + (3 : Int)).toNat z) := INJ_set i8 (by omega) (by omega)
        have g28 : USE (fx_up S1 50 0 (42 * f + (3 : Int)).toNat z) := USE_set i9 (by omega) (by omega)
        have g29 : SNP (fx_up S1 50 0 (42 * f + (3 : Int)).toNat z) := fx_pup SNP_stab rfl i10
        have g30 : REC (fx_up S1 50 0 (42 * f + (3 : Int)).toNat z) := REC_set i11 (by omega) (by omega)
        have ao : AON (fx_up S1 50 0 (42 * f + (3 : Int)).toNat z) := AONX_size i12 (by omega)
        refine c_StubHouseModel_changed (f := f) g25 g26 g27 ao g28 g30 (show 0 ≤ f ∧ f < 60 by omega) (fun (S31 : fxS) ⟨(f32 : fxfr [(49, 14), (50, 9999), (52, 9999)] (fx_up S1 50 0 (42 * f + (3 : Int)).toNat z) S31), (g33 : COL S31), (g34 : WTM S31), (g35 : INJ S31), (g36 : AON S31), (g37 : USE S31), (g38 : REC S31)⟩ => ?_)
        have w39 : S31 49 0 7 = (fx_up S1 50 0 (42 * f + (3 : Int)).toNat z) 49 0 7 := f32 49 0 7 rfl
        have w40 : S31 49 0 15 = (fx_up S1 50 0 (42 * f + (3 : Int)).toNat z) 49 0 15 := f32 49 0 15 rfl
        have g41 : SNP S31 := fx_pfr SNP_stab f32 rfl g29
        refine And.intro (show -2147483648 ≤ ((4 : Int) * c) ∧ ((4 : Int) * c) < 2147483648 by omega) ?_
        refine And.intro (show -2147483648 ≤ ((8 : Int) + ((4 : Int) * c)) ∧ ((8 : Int) + ((4 : Int) * c)) < 2147483648 by omega) ?_
        refine c_StubHouseModel_record (e := ((8 : Int) + ((4 : Int) * c))) g33 g34 g35 g36 g41 (show S31 49 0 7 ≤ 199 by omega) (show 0 ≤ ((8 : Int) + ((4 : Int) * c)) ∧ ((8 : Int) + ((4 : Int) * c)) ≤ 1000 by omega) (fun (S42 : fxS) ⟨(f43 : fxfr [(49, 7), (53, 9999), (55, 9999)] S31 S42), (g44 : SNP S42)⟩ => ?_)
        have w45 : aN S42 f (0 : Int) = aN S31 f (0 : Int) := (aN_fr f43 rfl)
        have w46 : aN S42 f (3 : Int) = aN S31 f (3 : Int) := (aN_fr f43 rfl)
        have w47 : aN S42 f (10 : Int) = aN S31 f (10 : Int) := (aN_fr f43 rfl)
        have w48 : S42 49 0 15 = S31 49 0 15 := f43 49 0 15 rfl
        have g49 : COL S42 := fx_pfr COL_stab f43 rfl g33
        have g50 : WTM S42 := fx_pfr WTM_stab f43 rfl g34
        have g51 : INJ S42 := fx_pfr INJ_stab f43 rfl g35
        have g52 : USE S42 := fx_pfr USE_stab f43 rfl g37
        have g53 : REC S42 := fx_pfr REC_stab f43 rfl g38
        have g54 : AON S42 := fx_pfr AON_stab f43 rfl g36
        have rd : RECd S42 := g53.1
        refine c_StubHouseModel_purge  g49 rd (fun (S55 : fxS) ⟨(f56 : fxfr [(49, 36), (75, 9999)] S42 S55), (g57 : REC S55)⟩ => ?_)
        have w58 : aN S55 f (0 : Int) = aN S42 f (0 : Int) := (aN_fr f56 rfl)
        have w59 : aN S55 f (3 : Int) = aN S42 f (3 : Int) := (aN_fr f56 rfl)
        have w60 : aN S55 f (10 : Int) = aN S42 f (10 : Int) := (aN_fr f56 rfl)
        have w61 : S55 49 0 7 = S42 49 0 7 := f56 49 0 7 rfl
        have w62 : S55 49 0 15 = S42 49 0 15 := f56 49 0 15 rfl
        have g63 : COL S55 := fx_pfr COL_stab f56 rfl g49
        have g64 : WTM S55 := fx_pfr WTM_stab f56 rfl g50
        have g65 : INJ S55 := fx_pfr INJ_stab f56 rfl g51
        have g66 : USE S55 := fx_pfr USE_stab f56 rfl g52
        have g67 : SNP S55 := fx_pfr SNP_stab f56 rfl g44
        have g68 : AON S55 := fx_pfr AON_stab f56 rfl g54
        exact hk z S55 ⟨(fxfr_tr (fxfr_tr (fxfr_tr (fxfr_up hf rfl) f32 rfl) f43 rfl) f56 rfl), by omega, g63, g64, g65, g68, g66, g67, g57, by first | assumption | exact LCM_of (by omega)⟩
      ·
        refine And.intro (show -2147483648 ≤ ((10 : Int) + j) ∧ ((10 : Int) + j) < 2147483648 by omega) ?_
        refine c_atb (n := f) (w := ((10 : Int) + j)) i6 (show 0 ≤ f ∧ f < 60 by omega) (show 10 ≤ ((10 : Int) + j) ∧ ((10 : Int) + j) < 42 by omega) (fun (z69 : Int) (q70 : z69 = aN S1 f ((10 : Int) + j) ∧ -1 ≤ z69 ∧ z69 ≤ 207) => ?_)
        refine And.intro (fun (h71 : (z69 < (0 : Int) : Prop)) => ?_) (fun (h71 : ((0 : Int) ≤ z69 : Prop)) => ?_)
        ·
          refine And.intro (by decide) (And.intro (show -2147483648 ≤ j + (1 : Int) ∧ j + (1 : Int) < 2147483648 by omega) ?_)
          exact ih.2 c (j + (1 : Int)) S1 hf (by omega) (by omega) (by omega) (by omega) (by omega) (by omega) i6 i7 i8 i9 i10 i11 i12 (by omega)
        ·
          refine And.intro (show -2147483648 ≤ ((10 : Int) + j) ∧ ((10 : Int) + j) < 2147483648 by omega) ?_
          refine c_atb (n := f) (w := ((10 : Int) + j)) i6 (show 0 ≤ f ∧ f < 60 by omega) (show 10 ≤ ((10 : Int) + j) ∧ ((10 : Int) + j) < 42 by omega) (fun (z73 : Int) (q74 : z73 = aN S1 f ((10 : Int) + j) ∧ -1 ≤ z73 ∧ z73 ≤ 207) => ?_)
          refine And.intro (show 0 ≤ z73 ∧ z73 < 208 by omega) ?_
          refine And.intro (show (0 : Int) ≤ (2 : Int) ∧ (2 : Int) ≤ (2 : Int) by omega) ?_
          have w75 : aN (fx_up S1 56 0 (z73).toNat (2 : Int)) f (0 : Int) = aN S1 f (0 : Int) := (aN_o rfl)
          have w76 : aN (fx_up S1 56 0 (z73).toNat (2 : Int)) f (3 : Int) = aN S1 f (3 : Int) := (aN_o rfl)
          have w77 : aN (fx_up S1 56 0 (z73).toNat (2 : Int)) f (10 : Int) = aN S1 f (10 : Int) := (aN_o rfl)
          have w78 : (fx_up S1 56 0 (z73).toNat (2 : Int)) 49 0 7 = S1 49 0 7 := rfl
          have w79 : (fx_up S1 56 0 (z73).toNat (2 : Int)) 49 0 15 = S1 49 0 15 := rfl
          have g80 : COL (fx_up S1 56 0 (z73).toNat (2 : Int)) := fx_pup COL_stab rfl i6
          have g81 : WTM (fx_up S1 56 0 (z73).toNat (2 : Int)) := fx_pup WTM_stab rfl i7
          have g82 : INJ (fx_up S1 56 0 (z73).toNat (2 : Int)) := fx_pup INJ_stab rfl i8
          have g83 : SNP (fx_up S1 56 0 (z73).toNat (2 : Int)) := fx_pup SNP_stab rfl i10
          have g84 : REC (fx_up S1 56 0 (z73).toNat (2 : Int)) := fx_pup REC_stab rfl i11
          have g85 : AONX f z (fx_up S1 56 0 (z73).toNat (2 : Int)) := fx_pup AONX_stab rfl i12
          refine And.intro (show -2147483648 ≤ ((10 : Int) + j) ∧ ((10 : Int) + j) < 2147483648 by omega) ?_
          refine c_set (n := f) (w := ((10 : Int) + j)) (v := (-1 : Int)) (show 0 ≤ f ∧ f < 60 by omega) (show 0 ≤ ((10 : Int) + j) ∧ ((10 : Int) + j) < 42 by omega) (show -2147483648 ≤ (-1 : Int) ∧ (-1 : Int) < 2147483648 by omega) ?_
          have w86 : (fx_up (fx_up S1 56 0 (z73).toNat (2 : Int)) 50 0 (42 * f + ((10 : Int) + j)).toNat (-1 : Int)) 49 0 7 = (fx_up S1 56 0 (z73).toNat (2 : Int)) 49 0 7 := rfl
          have w87 : (fx_up (fx_up S1 56 0 (z73).toNat (2 : Int)) 50 0 (42 * f + ((10 : Int) + j)).toNat (-1 : Int)) 49 0 15 = (fx_up S1 56 0 (z73).toNat (2 : Int)) 49 0 15 := rfl
          have w88 : aN (fx_up (fx_up S1 56 0 (z73).toNat (2 : Int)) 50 0 (42 * f + ((10 : Int) + j)).toNat (-1 : Int)) f (0 : Int) = aN S1 f (0 : Int) := (aN_ne (S := (fx_up S1 56 0 (z73).toNat (2 : Int))) (by omega) (by omega) (by omega)).trans (aN_o rfl)
          have w89 : aN (fx_up (fx_up S1 56 0 (z73).toNat (2 : Int)) 50 0 (42 * f + ((10 : Int) + j)).toNat (-1 : Int)) f (3 : Int) = aN S1 f (3 : Int) := (aN_ne (S := (fx_up S1 56 0 (z73).toNat (2 : Int))) (by omega) (by omega) (by omega)).trans (aN_o rfl)
          have g90 : COL (fx_up (fx_up S1 56 0 (z73).toNat (2 : Int)) 50 0 (42 * f + ((10 : Int) + j)).toNat (-1 : Int)) := COL_set g80 (by omega) (by omega) (by omega)
          have g91 : WTM (fx_up (fx_up S1 56 0 (z73).toNat (2 : Int)) 50 0 (42 * f + ((10 : Int) + j)).toNat (-1 : Int)) := WTM_set g81 (by omega) (by omega)
          have g92 : INJ (fx_up (fx_up S1 56 0 (z73).toNat (2 : Int)) 50 0 (42 * f + ((10 : Int) + j)).toNat (-1 : Int)) := INJ_set g82 (by omega) (by omega)
          have g93 : SNP (fx_up (fx_up S1 56 0 (z73).toNat (2 : Int)) 50 0 (42 * f + ((10 : Int) + j)).toNat (-1 : Int)) := fx_pup SNP_stab rfl g83
          have g94 : REC (fx_up (fx_up S1 56 0 (z73).toNat (2 : Int)) 50 0 (42 * f + ((10 : Int) + j)).toNat (-1 : Int)) := REC_set g84 (by omega) (by omega)
          have us : USE (fx_up (fx_up S1 56 0 (z73).toNat (2 : Int)) 50 0 (42 * f + ((10 : Int) + j)).toNat (-1 : Int)) := USE_out (b := -1) i9 i8 (by omega) (by omega) (by omega) (by omega) (by omega) (Or.inl (by omega))
          have ax : AONX f z (fx_up (fx_up S1 56 0 (z73).toNat (2 : Int)) 50 0 (42 * f + ((10 : Int) + j)).toNat (-1 : Int)) := AONX_out2 i12 (by omega) (by omega) (by omega) (by omega)
          refine And.intro (by decide) (And.intro (show -2147483648 ≤ j + (1 : Int) ∧ j + (1 : Int) < 2147483648 by omega) ?_)
          exact ih.2 c (j + (1 : Int)) (fx_up (fx_up S1 56 0 (z73).toNat (2 : Int)) 50 0 (42 * f + ((10 : Int) + j)).toNat (-1 : Int)) (fxfr_up (fxfr_up hf rfl) rfl) (by omega) (by omega) (by omega) (by omega) (by omega) (by omega) g90 g91 g92 us g93 g94 ax (by omega)
theorem c_StubHouseModel_cut {l : Launch} {k : fxK} {S : fxS} {f : Int} {z : Int} (p0 : COL S) (p1 : WTM S) (p2 : INJ S) (p3 : AON S) (p4 : USE S) (p5 : SNP S) (p6 : REC S) (p7 : LCM S) (p8 : -2147483648 ≤ f ∧ f < 2147483648) (p9 : -2147483648 ≤ z ∧ z < 2147483648) (hk : ∀ (r : Int) (S' : fxS) , (fxfr [(49, 0), (49, 7), (49, 14), (49, 36), (50, 9999), (52, 9999), (53, 9999), (55, 9999), (56, 9999), (57, 9999), (58, 9999), (75, 9999)] S S' ∧ (-2147483648 ≤ r ∧ r < 2147483648) ∧ (COL S') ∧ (WTM S') ∧ (INJ S') ∧ (AON S') ∧ (USE S') ∧ (SNP S') ∧ (REC S') ∧ (LCM S')) → k (some (.inl r)) S') : fC l 114 [.inr (.inr (49, 0)), .inl f, .inl z] S k := by
  refine fxe_114 (Nat.le_of_ble_eq_true rfl) (fxz_114 400 ?_)
  refine And.intro (show (-2147483648 : Int) ≤ (0 : Int) ∧ (0 : Int) ≤ (2147483647 : Int) by omega) ?_
  have w96 : aN (fx_up S 49 0 0 (0 : Int)) f (0 : Int) = aN S f (0 : Int) := (aN_o rfl)
  have w97 : aN (fx_up S 49 0 0 (0 : Int)) f (3 : Int) = aN S f (3 : Int) := (aN_o rfl)
  have w98 : aN (fx_up S 49 0 0 (0 : Int)) f (10 : Int) = aN S f (10 : Int) := (aN_o rfl)
  have w99 : (fx_up S 49 0 0 (0 : Int)) 49 0 7 = S 49 0 7 := if_neg (fun q => absurd q.2.2 (by decide))
  have w100 : (fx_up S 49 0 0 (0 : Int)) 49 0 15 = S 49 0 15 := if_neg (fun q => absurd q.2.2 (by decide))
  have g101 : COL (fx_up S 49 0 0 (0 : Int)) := fx_pup COL_stab rfl p0
  have g102 : WTM (fx_up S 49 0 0 (0 : Int)) := fx_pup WTM_stab rfl p1
  have g103 : INJ (fx_up S 49 0 0 (0 : Int)) := fx_pup INJ_stab rfl p2
  have g104 : AON (fx_up S 49 0 0 (0 : Int)) := fx_pup AON_stab rfl p3
  have g105 : USE (fx_up S 49 0 0 (0 : Int)) := fx_pup USE_stab rfl p4
  have g106 : SNP (fx_up S 49 0 0 (0 : Int)) := fx_pup SNP_stab rfl p5
  have g107 : REC (fx_up S 49 0 0 (0 : Int)) := fx_pup REC_stab rfl p6
  have g108 : LCM (fx_up S 49 0 0 (0 : Int)) := fx_pup LCM_stab rfl p7
  intro z109 (z109a : (0 : Int) ≤ z109) (z109b : z109 ≤ (1 : Int)) (z109c : z109 = S 49 0 15)
  refine And.intro (fun (h110 : (z109 = (0 : Int) : Prop)) => ?_) (fun (h110 : (z109 ≠ (0 : Int) : Prop)) => ?_)
  ·
    refine c_StubHouseModel_isFile (n := f) g101 (show -2147483648 ≤ f ∧ f < 2147483648 by omega) (fun (z111 : Int) (q112 : 0 ≤ z111 ∧ z111 ≤ 1 ∧ (z111 = 1 → 0 ≤ f ∧ f < 60 ∧ aN S f 0 = 2)) => ?_)
    refine And.intro (fun (h113 : (z111 = (0 : Int) : Prop)) => ?_) (fun (h113 : (z111 ≠ (0 : Int) : Prop)) => ?_)
    ·
      exact hk (-1 : Int) (fx_up S 49 0 0 (0 : Int)) ⟨(fxfr_up fxfr_rfl rfl), by omega, g101, g102, g103, g104, g105, g106, g107, g108⟩
    ·
      refine c_at3 (n := f) g101 (show 0 ≤ f ∧ f < 60 by omega) (fun (z114 : Int) (q115 : z114 = aN S f 3 ∧ 0 ≤ z114 ∧ z114 ≤ 1024) => ?_)
      refine c_StubHouseModel_in (x := z) (a := (0 : Int)) (b := z114)  (fun (z116 : Int) (q117 : 0 ≤ z116 ∧ z116 ≤ 1 ∧ (z116 = 1 → (0 : Int) ≤ z ∧ z ≤ z114) ∧ (z116 = 0 → z < (0 : Int) ∨ z114 < z)) => ?_)
      refine And.intro (fun (h118 : (z116 ≠ (0 : Int) : Prop)) => ?_) (fun (h118 : (z116 = (0 : Int) : Prop)) => ?_)
      ·
        refine And.intro (fun (h119 : (z ≤ (0 : Int) : Prop)) => ?_) (fun (h119 : ((0 : Int) < z : Prop)) => ?_)
        ·
          refine And.intro (by decide) ?_
          refine And.intro (fun _ => ?_) (fun h => absurd h (by decide))
          refine c_at3 (n := f) g101 (show 0 ≤ f ∧ f < 60 by omega) (fun (z120 : Int) (q121 : z120 = aN S f 3 ∧ 0 ≤ z120 ∧ z120 ≤ 1024) => ?_)
          refine And.intro (fun (h122 : (z120 ≤ z : Prop)) => ?_) (fun (h122 : (z < z120 : Prop)) => ?_)
          ·
            refine And.intro (by decide) ?_
            refine And.intro (fun _ => ?_) (fun h => absurd h (by decide))
            refine c_StubHouseModel_ahead  g101 g102 g103 g104 g105 g106 (fun (S123 : fxS) ⟨(f124 : fxfr [(49, 7), (53, 9999), (56, 9999), (58, 9999)] (fx_up S 49 0 0 (0 : Int)) S123), (q125 : 0 ≤ S123 49 0 7 ∧ S123 49 0 7 ≤ 199), (g126 : SNP S123), (g127 : USE S123), (g128 : UZ (fx_up S 49 0 0 (0 : Int)) S123)⟩ => ?_)
            have w129 : aN S123 f (0 : Int) = aN S f (0 : Int) := (aN_fr f124 rfl).trans (aN_o rfl)
            have w130 : aN S123 f (3 : Int) = aN S f (3 : Int) := (aN_fr f124 rfl).trans (aN_o rfl)
            have w131 : aN S123 f (10 : Int) = aN S f (10 : Int) := (aN_fr f124 rfl).trans (aN_o rfl)
            have w132 : S123 49 0 15 = (fx_up S 49 0 0 (0 : Int)) 49 0 15 := f124 49 0 15 rfl
            have g133 : COL S123 := fx_pfr COL_stab f124 rfl g101
            have g134 : WTM S123 := fx_pfr WTM_stab f124 rfl g102
            have g135 : INJ S123 := fx_pfr INJ_stab f124 rfl g103
            have g136 : AON S123 := fx_pfr AON_stab f124 rfl g104
            have g137 : REC S123 := fx_pfr REC_stab f124 rfl g107
            have g138 : LCM S123 := fx_pfr LCM_stab f124 rfl g108
            have fz : fcn ((fx_up S 49 0 0 (0 : Int)) 56 0) 0 208 ≤ fcn (S123 56 0) 0 208 := UZ_fcn (by assumption : UZ (fx_up S 49 0 0 (0 : Int)) S123)
            refine And.intro (show -2147483648 ≤ (z + (32 : Int)) ∧ (z + (32 : Int)) < 2147483648 by omega) ?_
            refine And.intro (show -2147483648 ≤ ((z + (32 : Int)) - (1 : Int)) ∧ ((z + (32 : Int)) - (1 : Int)) < 2147483648 by omega) ?_
            refine And.intro (show 0 ≤ ((z + (32 : Int)) - (1 : Int)) ∧ 0 < (32 : Int) by omega) ?_
            refine And.intro (by decide) ?_
            refine And.intro (fun _ => ?_) (fun h => absurd h (by decide))
            refine And.intro (by decide) ?_
            have ax : AONX f z S123 := AONX_of g136 (by omega)
            exact (z_StubHouseModel_cut p0 p1 p2 p3 p4 p5 p6 p7 p8 p9 hk (100 - (((z + (32 : Int)) - (1 : Int)) / (32 : Int))).toNat).2 (((z + (32 : Int)) - (1 : Int)) / (32 : Int)) (((z + (32 : Int)) - (1 : Int)) / (32 : Int)) S123 (fxfr_tr (fxfr_up fxfr_rfl rfl) f124 rfl) (by omega) (by omega) (by omega) (by omega) (by omega) (by omega) g133 g134 g135 g127 g126 g137 ax (by omega)
          ·
            refine And.intro (show 0 ≤ z ∧ 0 < (32 : Int) by omega) ?_
            refine And.intro (fun (h139 : ((z % (32 : Int)) = (0 : Int) : Prop)) => ?_) (fun (h139 : ((z % (32 : Int)) ≠ (0 : Int) : Prop)) => ?_)
            ·
              refine And.intro (by decide) ?_
              refine And.intro (fun _ => ?_) (fun h => absurd h (by decide))
              refine c_StubHouseModel_ahead  g101 g102 g103 g104 g105 g106 (fun (S140 : fxS) ⟨(f141 : fxfr [(49, 7), (53, 9999), (56, 9999), (58, 9999)] (fx_up S 49 0 0 (0 : Int)) S140), (q142 : 0 ≤ S140 49 0 7 ∧ S140 49 0 7 ≤ 199), (g143 : SNP S140), (g144 : USE S140), (g145 : UZ (fx_up S 49 0 0 (0 : Int)) S140)⟩ => ?_)
              have w146 : aN S140 f (0 : Int) = aN S f (0 : Int) := (aN_fr f141 rfl).trans (aN_o rfl)
              have w147 : aN S140 f (3 : Int) = aN S f (3 : Int) := (aN_fr f141 rfl).trans (aN_o rfl)
              have w148 : aN S140 f (10 : Int) = aN S f (10 : Int) := (aN_fr f141 rfl).trans (aN_o rfl)
              have w149 : S140 49 0 15 = (fx_up S 49 0 0 (0 : Int)) 49 0 15 := f141 49 0 15 rfl
              have g150 : COL S140 := fx_pfr COL_stab f141 rfl g101
              have g151 : WTM S140 := fx_pfr WTM_stab f141 rfl g102
              have g152 : INJ S140 := fx_pfr INJ_stab f141 rfl g103
              have g153 : AON S140 := fx_pfr AON_stab f141 rfl g104
              have g154 : REC S140 := fx_pfr REC_stab f141 rfl g107
              have g155 : LCM S140 := fx_pfr LCM_stab f141 rfl g108
              have fz : fcn ((fx_up S 49 0 0 (0 : Int)) 56 0) 0 208 ≤ fcn (S140 56 0) 0 208 := UZ_fcn (by assumption : UZ (fx_up S 49 0 0 (0 : Int)) S140)
              refine And.intro (show -2147483648 ≤ (z + (32 : Int)) ∧ (z + (32 : Int)) < 2147483648 by omega) ?_
              refine And.intro (show -2147483648 ≤ ((z + (32 : Int)) - (1 : Int)) ∧ ((z + (32 : Int)) - (1 : Int)) < 2147483648 by omega) ?_
              refine And.intro (show 0 ≤ ((z + (32 : Int)) - (1 : Int)) ∧ 0 < (32 : Int) by omega) ?_
              refine And.intro (by decide) ?_
              refine And.intro (fun _ => ?_) (fun h => absurd h (by decide))
              refine And.intro (by decide) ?_
              have ax : AONX f z S140 := AONX_of g153 (by omega)
              exact (z_StubHouseModel_cut p0 p1 p2 p3 p4 p5 p6 p7 p8 p9 hk (100 - (((z + (32 : Int)) - (1 : Int)) / (32 : Int))).toNat).2 (((z + (32 : Int)) - (1 : Int)) / (32 : Int)) (((z + (32 : Int)) - (1 : Int)) / (32 : Int)) S140 (fxfr_tr (fxfr_up fxfr_rfl rfl) f141 rfl) (by omega) (by omega) (by omega) (by omega) (by omega) (by omega) g150 g151 g152 g144 g143 g154 ax (by omega)
            ·
              refine And.intro (by decide) ?_
              refine And.intro (fun h => absurd h (by decide)) (fun _ => ?_)
              refine c_freeIn_0_208   (fun (z156 : Int) (q157 : z156 = fcn (S 56 0) 0 208 ∧ 0 ≤ z156 ∧ z156 ≤ 208) => ?_)
              refine And.intro (fun (h158 : (z156 ≠ (0 : Int) : Prop)) => ?_) (fun (h158 : (z156 = (0 : Int) : Prop)) => ?_)
              ·
                refine c_StubHouseModel_ahead  g101 g102 g103 g104 g105 g106 (fun (S159 : fxS) ⟨(f160 : fxfr [(49, 7), (53, 9999), (56, 9999), (58, 9999)] (fx_up S 49 0 0 (0 : Int)) S159), (q161 : 0 ≤ S159 49 0 7 ∧ S159 49 0 7 ≤ 199), (g162 : SNP S159), (g163 : USE S159), (g164 : UZ (fx_up S 49 0 0 (0 : Int)) S159)⟩ => ?_)
                have w165 : aN S159 f (0 : Int) = aN S f (0 : Int) := (aN_fr f160 rfl).trans (aN_o rfl)
                have w166 : aN S159 f (3 : Int) = aN S f (3 : Int) := (aN_fr f160 rfl).trans (aN_o rfl)
                have w167 : aN S159 f (10 : Int) = aN S f (10 : Int) := (aN_fr f160 rfl).trans (aN_o rfl)
                have w168 : S159 49 0 15 = (fx_up S 49 0 0 (0 : Int)) 49 0 15 := f160 49 0 15 rfl
                have g169 : COL S159 := fx_pfr COL_stab f160 rfl g101
                have g170 : WTM S159 := fx_pfr WTM_stab f160 rfl g102
                have g171 : INJ S159 := fx_pfr INJ_stab f160 rfl g103
                have g172 : AON S159 := fx_pfr AON_stab f160 rfl g104
                have g173 : REC S159 := fx_pfr REC_stab f160 rfl g107
                have g174 : LCM S159 := fx_pfr LCM_stab f160 rfl g108
                have fz : fcn ((fx_up S 49 0 0 (0 : Int)) 56 0) 0 208 ≤ fcn (S159 56 0) 0 208 := UZ_fcn (by assumption : UZ (fx_up S 49 0 0 (0 : Int)) S159)
                refine And.intro (show -2147483648 ≤ (z + (32 : Int)) ∧ (z + (32 : Int)) < 2147483648 by omega) ?_
                refine And.intro (show -2147483648 ≤ ((z + (32 : Int)) - (1 : Int)) ∧ ((z + (32 : Int)) - (1 : Int)) < 2147483648 by omega) ?_
                refine And.intro (show 0 ≤ ((z + (32 : Int)) - (1 : Int)) ∧ 0 < (32 : Int) by omega) ?_
                refine And.intro (by decide) ?_
                refine And.intro (fun h => absurd h (by decide)) (fun _ => ?_)
                refine And.intro (show -2147483648 ≤ ((((z + (32 : Int)) - (1 : Int)) / (32 : Int)) - (1 : Int)) ∧ ((((z + (32 : Int)) - (1 : Int)) / (32 : Int)) - (1 : Int)) < 2147483648 by omega) ?_
                refine c_StubHouseModel_renew (f := f) (p := ((((z + (32 : Int)) - (1 : Int)) / (32 : Int)) - (1 : Int))) g169 g170 g171 g172 g163 g173 (show 0 ≤ f ∧ f < 60 by omega) (show 0 ≤ ((((z + (32 : Int)) - (1 : Int)) / (32 : Int)) - (1 : Int)) ∧ ((((z + (32 : Int)) - (1 : Int)) / (32 : Int)) - (1 : Int)) < 32 by omega) (show aN S159 f 0 = 2 by omega) (show 1 ≤ fcn (S159 56 0) 0 208 by omega) (show ((((z + (32 : Int)) - (1 : Int)) / (32 : Int)) - (1 : Int)) ≠ 0 ∨ 0 ≤ aN S159 f 10 ∨ aN S159 f 3 ≤ 0 by omega) (fun (S175 : fxS) ⟨(f176 : fxfr [(50, 9999), (56, 9999), (57, 9999)] S159 S175), (g177 : COL S175), (g178 : WTM S175), (g179 : INJ S175), (g180 : AON S175), (g181 : USE S175), (g182 : REC S175), (g183 : RNW f ((((z + (32 : Int)) - (1 : Int)) / (32 : Int)) - (1 : Int)) S159 S175)⟩ => ?_)
                have w184 : S175 49 0 7 = S159 49 0 7 := f176 49 0 7 rfl
                have w185 : S175 49 0 15 = S159 49 0 15 := f176 49 0 15 rfl
                have g186 : SNP S175 := fx_pfr SNP_stab f176 rfl g162
                have g187 : LCM S175 := fx_pfr LCM_stab f176 rfl g174
                have rn := (by assumption : RNW f ((((z + (32 : Int)) - (1 : Int)) / (32 : Int)) - (1 : Int)) S159 S175)
                have e0 : aN S175 f 0 = aN S159 f 0 := rn.1 f 0 (by omega) (by omega) (by omega) (by omega) (Or.inr (by omega))
                have e3 : aN S175 f 3 = aN S159 f 3 := rn.1 f 3 (by omega) (by omega) (by omega) (by omega) (Or.inr (by omega))
                have e10 : 0 ≤ aN S159 f 10 → 0 ≤ aN S175 f 10 := RNW_10 rn (by omega)
                have ef := rn.2.2
                have gb : GEB f ((((z + (32 : Int)) - (1 : Int)) / (32 : Int)) - 1) (((z + (32 : Int)) - (1 : Int)) / (32 : Int)) S175 := GEB_one rn.2.1 (by omega)
                refine And.intro (show 0 ≤ z ∧ 0 < (32 : Int) by omega) ?_
                refine And.intro (by decide) ?_
                exact (z_StubHouseModel_cut p0 p1 p2 p3 p4 p5 p6 p7 p8 p9 hk (1000 - (z % (32 : Int))).toNat).1 (((z + (32 : Int)) - (1 : Int)) / (32 : Int)) (z % (32 : Int)) S175 (fxfr_tr (fxfr_tr (fxfr_up fxfr_rfl rfl) f160 rfl) f176 rfl) (by omega) (by omega) (by omega) (by omega) (by omega) (by omega) g177 g178 g179 g180 g181 g186 g182 gb (by omega)
              ·
                exact hk (-3 : Int) (fx_up S 49 0 0 (0 : Int)) ⟨(fxfr_up fxfr_rfl rfl), by omega, g101, g102, g103, g104, g105, g106, g107, g108⟩
        ·
          refine c_StubHouseModel_stubbed (f := f) g101 g102 g107 (show 0 ≤ f ∧ f < 60 by omega) (show aN S f 0 = 2 by omega) (fun (z188 : Int) (S189 : fxS) ⟨(f190 : fxfr [(49, 36), (75, 9999)] (fx_up S 49 0 0 (0 : Int)) S189), (q191 : -5 ≤ z188 ∧ z188 ≤ 0 ∧ (z188 = 0 → aN S f 3 ≤ 0 ∨ 0 ≤ aN S f 10)), (g192 : REC S189)⟩ => ?_)
          have w193 : aN S189 f (0 : Int) = aN S f (0 : Int) := (aN_fr f190 rfl).trans (aN_o rfl)
          have w194 : aN S189 f (3 : Int) = aN S f (3 : Int) := (aN_fr f190 rfl).trans (aN_o rfl)
          have w195 : aN S189 f (10 : Int) = aN S f (10 : Int) := (aN_fr f190 rfl).trans (aN_o rfl)
          have w196 : S189 49 0 7 = (fx_up S 49 0 0 (0 : Int)) 49 0 7 := f190 49 0 7 rfl
          have w197 : S189 49 0 15 = (fx_up S 49 0 0 (0 : Int)) 49 0 15 := f190 49 0 15 rfl
          have g198 : COL S189 := fx_pfr COL_stab f190 rfl g101
          have g199 : WTM S189 := fx_pfr WTM_stab f190 rfl g102
          have g200 : INJ S189 := fx_pfr INJ_stab f190 rfl g103
          have g201 : AON S189 := fx_pfr AON_stab f190 rfl g104
          have g202 : USE S189 := fx_pfr USE_stab f190 rfl g105
          have g203 : SNP S189 := fx_pfr SNP_stab f190 rfl g106
          refine And.intro (by decide) ?_
          refine And.intro (fun (h204 : (z188 = (0 : Int) : Prop)) => ?_) (fun (h204 : (z188 ≠ (0 : Int) : Prop)) => ?_)
          ·
            refine c_at3 (n := f) g198 (show 0 ≤ f ∧ f < 60 by omega) (fun (z205 : Int) (q206 : z205 = aN S189 f 3 ∧ 0 ≤ z205 ∧ z205 ≤ 1024) => ?_)
            refine And.intro (fun (h207 : (z205 ≤ z : Prop)) => ?_) (fun (h207 : (z < z205 : Prop)) => ?_)
            ·
              refine And.intro (by decide) ?_
              refine And.intro (fun _ => ?_) (fun h => absurd h (by decide))
              refine c_StubHouseModel_ahead  g198 g199 g200 g201 g202 g203 (fun (S208 : fxS) ⟨(f209 : fxfr [(49, 7), (53, 9999), (56, 9999), (58, 9999)] S189 S208), (q210 : 0 ≤ S208 49 0 7 ∧ S208 49 0 7 ≤ 199), (g211 : SNP S208), (g212 : USE S208), (g213 : UZ S189 S208)⟩ => ?_)
              have w214 : aN S208 f (0 : Int) = aN S189 f (0 : Int) := (aN_fr f209 rfl)
              have w215 : aN S208 f (3 : Int) = aN S189 f (3 : Int) := (aN_fr f209 rfl)
              have w216 : aN S208 f (10 : Int) = aN S189 f (10 : Int) := (aN_fr f209 rfl)
              have w217 : S208 49 0 15 = S189 49 0 15 := f209 49 0 15 rfl
              have g218 : COL S208 := fx_pfr COL_stab f209 rfl g198
              have g219 : WTM S208 := fx_pfr WTM_stab f209 rfl g199
              have g220 : INJ S208 := fx_pfr INJ_stab f209 rfl g200
              have g221 : AON S208 := fx_pfr AON_stab f209 rfl g201
              have g222 : REC S208 := fx_pfr REC_stab f209 rfl g192
              have fz : fcn (S189 56 0) 0 208 ≤ fcn (S208 56 0) 0 208 := UZ_fcn (by assumption : UZ S189 S208)
              refine And.intro (show -2147483648 ≤ (z + (32 : Int)) ∧ (z + (32 : Int)) < 2147483648 by omega) ?_
              refine And.intro (show -2147483648 ≤ ((z + (32 : Int)) - (1 : Int)) ∧ ((z + (32 : Int)) - (1 : Int)) < 2147483648 by omega) ?_
              refine And.intro (show 0 ≤ ((z + (32 : Int)) - (1 : Int)) ∧ 0 < (32 : Int) by omega) ?_
              refine And.intro (by decide) ?_
              refine And.intro (fun _ => ?_) (fun h => absurd h (by decide))
              refine And.intro (by decide) ?_
              have ax : AONX f z S208 := AONX_of g221 (by omega)
              exact (z_StubHouseModel_cut p0 p1 p2 p3 p4 p5 p6 p7 p8 p9 hk (100 - (((z + (32 : Int)) - (1 : Int)) / (32 : Int))).toNat).2 (((z + (32 : Int)) - (1 : Int)) / (32 : Int)) (((z + (32 : Int)) - (1 : Int)) / (32 : Int)) S208 (fxfr_tr (fxfr_tr (fxfr_up fxfr_rfl rfl) f190 rfl) f209 rfl) (by omega) (by omega) (by omega) (by omega) (by omega) (by omega) g218 g219 g220 g212 g211 g222 ax (by omega)
            ·
              refine And.intro (show 0 ≤ z ∧ 0 < (32 : Int) by omega) ?_
              refine And.intro (fun (h223 : ((z % (32 : Int)) = (0 : Int) : Prop)) => ?_) (fun (h223 : ((z % (32 : Int)) ≠ (0 : Int) : Prop)) => ?_)
              ·
                refine And.intro (by decide) ?_
                refine And.intro (fun _ => ?_) (fun h => absurd h (by decide))
                refine c_StubHouseModel_ahead  g198 g199 g200 g201 g202 g203 (fun (S224 : fxS) ⟨(f225 : fxfr [(49, 7), (53, 9999), (56, 9999), (58, 9999)] S189 S224), (q226 : 0 ≤ S224 49 0 7 ∧ S224 49 0 7 ≤ 199), (g227 : SNP S224), (g228 : USE S224), (g229 : UZ S189 S224)⟩ => ?_)
                have w230 : aN S224 f (0 : Int) = aN S189 f (0 : Int) := (aN_fr f225 rfl)
                have w231 : aN S224 f (3 : Int) = aN S189 f (3 : Int) := (aN_fr f225 rfl)
                have w232 : aN S224 f (10 : Int) = aN S189 f (10 : Int) := (aN_fr f225 rfl)
                have w233 : S224 49 0 15 = S189 49 0 15 := f225 49 0 15 rfl
                have g234 : COL S224 := fx_pfr COL_stab f225 rfl g198
                have g235 : WTM S224 := fx_pfr WTM_stab f225 rfl g199
                have g236 : INJ S224 := fx_pfr INJ_stab f225 rfl g200
                have g237 : AON S224 := fx_pfr AON_stab f225 rfl g201
                have g238 : REC S224 := fx_pfr REC_stab f225 rfl g192
                have fz : fcn (S189 56 0) 0 208 ≤ fcn (S224 56 0) 0 208 := UZ_fcn (by assumption : UZ S189 S224)
                refine And.intro (show -2147483648 ≤ (z + (32 : Int)) ∧ (z + (32 : Int)) < 2147483648 by omega) ?_
                refine And.intro (show -2147483648 ≤ ((z + (32 : Int)) - (1 : Int)) ∧ ((z + (32 : Int)) - (1 : Int)) < 2147483648 by omega) ?_
                refine And.intro (show 0 ≤ ((z + (32 : Int)) - (1 : Int)) ∧ 0 < (32 : Int) by omega) ?_
                refine And.intro (by decide) ?_
                refine And.intro (fun _ => ?_) (fun h => absurd h (by decide))
                refine And.intro (by decide) ?_
                have ax : AONX f z S224 := AONX_of g237 (by omega)
                exact (z_StubHouseModel_cut p0 p1 p2 p3 p4 p5 p6 p7 p8 p9 hk (100 - (((z + (32 : Int)) - (1 : Int)) / (32 : Int))).toNat).2 (((z + (32 : Int)) - (1 : Int)) / (32 : Int)) (((z + (32 : Int)) - (1 : Int)) / (32 : Int)) S224 (fxfr_tr (fxfr_tr (fxfr_up fxfr_rfl rfl) f190 rfl) f225 rfl) (by omega) (by omega) (by omega) (by omega) (by omega) (by omega) g234 g235 g236 g228 g227 g238 ax (by omega)
              ·
                refine And.intro (by decide) ?_
                refine And.intro (fun h => absurd h (by decide)) (fun _ => ?_)
                refine c_freeIn_0_208   (fun (z239 : Int) (q240 : z239 = fcn (S189 56 0) 0 208 ∧ 0 ≤ z239 ∧ z239 ≤ 208) => ?_)
                refine And.intro (fun (h241 : (z239 ≠ (0 : Int) : Prop)) => ?_) (fun (h241 : (z239 = (0 : Int) : Prop)) => ?_)
                ·
                  refine c_StubHouseModel_ahead  g198 g199 g200 g201 g202 g203 (fun (S242 : fxS) ⟨(f243 : fxfr [(49, 7), (53, 9999), (56, 9999), (58, 9999)] S189 S242), (q244 : 0 ≤ S242 49 0 7 ∧ S242 49 0 7 ≤ 199), (g245 : SNP S242), (g246 : USE S242), (g247 : UZ S189 S242)⟩ => ?_)
                  have w248 : aN S242 f (0 : Int) = aN S189 f (0 : Int) := (aN_fr f243 rfl)
                  have w249 : aN S242 f (3 : Int) = aN S189 f (3 : Int) := (aN_fr f243 rfl)
                  have w250 : aN S242 f (10 : Int) = aN S189 f (10 : Int) := (aN_fr f243 rfl)
                  have w251 : S242 49 0 15 = S189 49 0 15 := f243 49 0 15 rfl
                  have g252 : COL S242 := fx_pfr COL_stab f243 rfl g198
                  have g253 : WTM S242 := fx_pfr WTM_stab f243 rfl g199
                  have g254 : INJ S242 := fx_pfr INJ_stab f243 rfl g200
                  have g255 : AON S242 := fx_pfr AON_stab f243 rfl g201
                  have g256 : REC S242 := fx_pfr REC_stab f243 rfl g192
                  have fz : fcn (S189 56 0) 0 208 ≤ fcn (S242 56 0) 0 208 := UZ_fcn (by assumption : UZ S189 S242)
                  refine And.intro (show -2147483648 ≤ (z + (32 : Int)) ∧ (z + (32 : Int)) < 2147483648 by omega) ?_
                  refine And.intro (show -2147483648 ≤ ((z + (32 : Int)) - (1 : Int)) ∧ ((z + (32 : Int)) - (1 : Int)) < 2147483648 by omega) ?_
                  refine And.intro (show 0 ≤ ((z + (32 : Int)) - (1 : Int)) ∧ 0 < (32 : Int) by omega) ?_
                  refine And.intro (by decide) ?_
                  refine And.intro (fun h => absurd h (by decide)) (fun _ => ?_)
                  refine And.intro (show -2147483648 ≤ ((((z + (32 : Int)) - (1 : Int)) / (32 : Int)) - (1 : Int)) ∧ ((((z + (32 : Int)) - (1 : Int)) / (32 : Int)) - (1 : Int)) < 2147483648 by omega) ?_
                  refine c_StubHouseModel_renew (f := f) (p := ((((z + (32 : Int)) - (1 : Int)) / (32 : Int)) - (1 : Int))) g252 g253 g254 g255 g246 g256 (show 0 ≤ f ∧ f < 60 by omega) (show 0 ≤ ((((z + (32 : Int)) - (1 : Int)) / (32 : Int)) - (1 : Int)) ∧ ((((z + (32 : Int)) - (1 : Int)) / (32 : Int)) - (1 : Int)) < 32 by omega) (show aN S242 f 0 = 2 by omega) (show 1 ≤ fcn (S242 56 0) 0 208 by omega) (show ((((z + (32 : Int)) - (1 : Int)) / (32 : Int)) - (1 : Int)) ≠ 0 ∨ 0 ≤ aN S242 f 10 ∨ aN S242 f 3 ≤ 0 by omega) (fun (S257 : fxS) ⟨(f258 : fxfr [(50, 9999), (56, 9999), (57, 9999)] S242 S257), (g259 : COL S257), (g260 : WTM S257), (g261 : INJ S257), (g262 : AON S257), (g263 : USE S257), (g264 : REC S257), (g265 : RNW f ((((z + (32 : Int)) - (1 : Int)) / (32 : Int)) - (1 : Int)) S242 S257)⟩ => ?_)
                  have w266 : S257 49 0 7 = S242 49 0 7 := f258 49 0 7 rfl
                  have w267 : S257 49 0 15 = S242 49 0 15 := f258 49 0 15 rfl
                  have g268 : SNP S257 := fx_pfr SNP_stab f258 rfl g245
                  have rn := (by assumption : RNW f ((((z + (32 : Int)) - (1 : Int)) / (32 : Int)) - (1 : Int)) S242 S257)
                  have e0 : aN S257 f 0 = aN S242 f 0 := rn.1 f 0 (by omega) (by omega) (by omega) (by omega) (Or.inr (by omega))
                  have e3 : aN S257 f 3 = aN S242 f 3 := rn.1 f 3 (by omega) (by omega) (by omega) (by omega) (Or.inr (by omega))
                  have e10 : 0 ≤ aN S242 f 10 → 0 ≤ aN S257 f 10 := RNW_10 rn (by omega)
                  have ef := rn.2.2
                  have gb : GEB f ((((z + (32 : Int)) - (1 : Int)) / (32 : Int)) - 1) (((z + (32 : Int)) - (1 : Int)) / (32 : Int)) S257 := GEB_one rn.2.1 (by omega)
                  refine And.intro (show 0 ≤ z ∧ 0 < (32 : Int) by omega) ?_
                  refine And.intro (by decide) ?_
                  exact (z_StubHouseModel_cut p0 p1 p2 p3 p4 p5 p6 p7 p8 p9 hk (1000 - (z % (32 : Int))).toNat).1 (((z + (32 : Int)) - (1 : Int)) / (32 : Int)) (z % (32 : Int)) S257 (fxfr_tr (fxfr_tr (fxfr_tr (fxfr_up fxfr_rfl rfl) f190 rfl) f243 rfl) f258 rfl) (by omega) (by omega) (by omega) (by omega) (by omega) (by omega) g259 g260 g261 g262 g263 g268 g264 gb (by omega)
                ·
                  exact hk (-3 : Int) S189 ⟨(fxfr_tr (fxfr_up fxfr_rfl rfl) f190 rfl), by omega, g198, g199, g200, g201, g202, g203, g192, by first | assumption | exact LCM_of (by omega)⟩
          ·
            exact hk z188 S189 ⟨(fxfr_tr (fxfr_up fxfr_rfl rfl) f190 rfl), by omega, g198, g199, g200, g201, g202, g203, g192, by first | assumption | exact LCM_of (by omega)⟩
      ·
        exact hk (-1 : Int) (fx_up S 49 0 0 (0 : Int)) ⟨(fxfr_up fxfr_rfl rfl), by omega, g101, g102, g103, g104, g105, g106, g107, g108⟩
  ·
    exact hk (-8 : Int) (fx_up S 49 0 0 (0 : Int)) ⟨(fxfr_up fxfr_rfl rfl), by omega, g101, g102, g103, g104, g105, g106, g107, g108⟩
theorem c_StubHouseModel_read {l : Launch} {k : fxK} {S : fxS} {f : Int} {p : Int} (p0 : COL S) (p1 : WTM S) (p2 : AON S) (p3 : REC S) (p4 : LCM S) (p5 : -2147483648 ≤ f ∧ f < 2147483648) (p6 : -2147483648 ≤ p ∧ p < 2147483648) (hk : ∀ (r : Int) (S' : fxS) , (fxfr [(49, 0), (49, 36), (52, 9999), (75, 9999)] S S' ∧ (-2147483648 ≤ r ∧ r < 2147483648) ∧ (REC S') ∧ (LCM S')) → k (some (.inl r)) S') : fC l 117 [.inr (.inr (49, 0)), .inl f, .inl p] S k := by
  refine fxe_117 (Nat.le_of_ble_eq_true rfl) (fxz_117 400 ?_)
  refine And.intro (show (-2147483648 : Int) ≤ (0 : Int) ∧ (0 : Int) ≤ (2147483647 : Int) by omega) ?_
  have w1 : aN (fx_up S 49 0 0 (0 : Int)) f (0 : Int) = aN S f (0 : Int) := (aN_o rfl)
  have w2 : aN (fx_up S 49 0 0 (0 : Int)) f (3 : Int) = aN S f (3 : Int) := (aN_o rfl)
  have w3 : aN (fx_up S 49 0 0 (0 : Int)) f (10 : Int) = aN S f (10 : Int) := (aN_o rfl)
  have w4 : (fx_up S 49 0 0 (0 : Int)) 49 0 15 = S 49 0 15 := if_neg (fun q => absurd q.2.2 (by decide))
  have g5 : COL (fx_up S 49 0 0 (0 : Int)) := fx_pup COL_stab rfl p0
  have g6 : WTM (fx_up S 49 0 0 (0 : Int)) := fx_pup WTM_stab rfl p1
  have g7 : AON (fx_up S 49 0 0 (0 : Int)) := fx_pup AON_stab rfl p2
  have g8 : REC (fx_up S 49 0 0 (0 : Int)) := fx_pup REC_stab rfl p3
  have g9 : LCM (fx_up S 49 0 0 (0 : Int)) := fx_pup LCM_stab rfl p4
  intro z10 (z10a : (0 : Int) ≤ z10) (z10b : z10 ≤ (1 : Int)) (z10c : z10 = S 49 0 15)
  refine And.intro (fun (h11 : (z10 = (0 : Int) : Prop)) => ?_) (fun (h11 : (z10 ≠ (0 : Int) : Prop)) => ?_)
  ·
    refine c_StubHouseModel_isFile (n := f) g5 (show -2147483648 ≤ f ∧ f < 2147483648 by omega) (fun (z12 : Int) (q13 : 0 ≤ z12 ∧ z12 ≤ 1 ∧ (z12 = 1 → 0 ≤ f ∧ f < 60 ∧ aN S f 0 = 2)) => ?_)
    refine And.intro (fun (h14 : (z12 = (0 : Int) : Prop)) => ?_) (fun (h14 : (z12 ≠ (0 : Int) : Prop)) => ?_)
    ·
      exact hk (-1 : Int) (fx_up S 49 0 0 (0 : Int)) ⟨(fxfr_up fxfr_rfl rfl), by omega, g8, g9⟩
    ·
      refine c_at3 (n := f) g5 (show 0 ≤ f ∧ f < 60 by omega) (fun (z15 : Int) (q16 : z15 = aN S f 3 ∧ 0 ≤ z15 ∧ z15 ≤ 1024) => ?_)
      refine And.intro (show -2147483648 ≤ (z15 - (1 : Int)) ∧ (z15 - (1 : Int)) < 2147483648 by omega) ?_
      refine c_StubHouseModel_in (x := p) (a := (0 : Int)) (b := (z15 - (1 : Int)))  (fun (z17 : Int) (q18 : 0 ≤ z17 ∧ z17 ≤ 1 ∧ (z17 = 1 → (0 : Int) ≤ p ∧ p ≤ (z15 - (1 : Int))) ∧ (z17 = 0 → p < (0 : Int) ∨ (z15 - (1 : Int)) < p)) => ?_)
      refine And.intro (fun (h19 : (z17 ≠ (0 : Int) : Prop)) => ?_) (fun (h19 : (z17 = (0 : Int) : Prop)) => ?_)
      ·
        refine c_StubHouseModel_stubbed (f := f) g5 g6 g8 (show 0 ≤ f ∧ f < 60 by omega) (show aN S f 0 = 2 by omega) (fun (z20 : Int) (S21 : fxS) ⟨(f22 : fxfr [(49, 36), (75, 9999)] (fx_up S 49 0 0 (0 : Int)) S21), (q23 : -5 ≤ z20 ∧ z20 ≤ 0 ∧ (z20 = 0 → aN S f 3 ≤ 0 ∨ 0 ≤ aN S f 10)), (g24 : REC S21)⟩ => ?_)
        have w25 : aN S21 f (0 : Int) = aN S f (0 : Int) := (aN_fr f22 rfl).trans (aN_o rfl)
        have w26 : aN S21 f (3 : Int) = aN S f (3 : Int) := (aN_fr f22 rfl).trans (aN_o rfl)
        have w27 : aN S21 f (10 : Int) = aN S f (10 : Int) := (aN_fr f22 rfl).trans (aN_o rfl)
        have w28 : S21 49 0 15 = (fx_up S 49 0 0 (0 : Int)) 49 0 15 := f22 49 0 15 rfl
        have g29 : COL S21 := fx_pfr COL_stab f22 rfl g5
        have g30 : WTM S21 := fx_pfr WTM_stab f22 rfl g6
        have g31 : AON S21 := fx_pfr AON_stab f22 rfl g7
        refine And.intro (by decide) ?_
        refine And.intro (fun (h32 : (z20 = (0 : Int) : Prop)) => ?_) (fun (h32 : (z20 ≠ (0 : Int) : Prop)) => ?_)
        ·
          intro z33 (z33a : (-2147483648 : Int) ≤ z33) (z33b : z33 ≤ (2147483647 : Int)) (z33c : z33 = S21 49 0 11)
          refine And.intro (show 0 ≤ f ∧ f < 60 by omega) ?_
          refine And.intro (show (-2147483648 : Int) ≤ z33 ∧ z33 ≤ (2147483647 : Int) by omega) ?_
          have w34 : aN (fx_up S21 52 0 (f).toNat z33) f (0 : Int) = aN S21 f (0 : Int) := (aN_o rfl)
          have w35 : aN (fx_up S21 52 0 (f).toNat z33) f (3 : Int) = aN S21 f (3 : Int) := (aN_o rfl)
          have w36 : aN (fx_up S21 52 0 (f).toNat z33) f (10 : Int) = aN S21 f (10 : Int) := (aN_o rfl)
          have w37 : (fx_up S21 52 0 (f).toNat z33) 49 0 15 = S21 49 0 15 := rfl
          have g38 : COL (fx_up S21 52 0 (f).toNat z33) := fx_pup COL_stab rfl g29
          have g39 : WTM (fx_up S21 52 0 (f).toNat z33) := fx_pup WTM_stab rfl g30
          have g40 : AON (fx_up S21 52 0 (f).toNat z33) := fx_pup AON_stab rfl g31
          have g41 : REC (fx_up S21 52 0 (f).toNat z33) := fx_pup REC_stab rfl g24
          refine And.intro (show 0 ≤ p ∧ 0 < (32 : Int) by omega) ?_
          refine And.intro (show -2147483648 ≤ ((10 : Int) + (p / (32 : Int))) ∧ ((10 : Int) + (p / (32 : Int))) < 2147483648 by omega) ?_
          refine c_atb (n := f) (w := ((10 : Int) + (p / (32 : Int)))) g38 (show 0 ≤ f ∧ f < 60 by omega) (show 10 ≤ ((10 : Int) + (p / (32 : Int))) ∧ ((10 : Int) + (p / (32 : Int))) < 42 by omega) (fun (z42 : Int) (q43 : z42 = aN S21 f ((10 : Int) + (p / (32 : Int))) ∧ -1 ≤ z42 ∧ z42 ≤ 207) => ?_)
          have rp : 0 ≤ z42 := by rw [q43.1]; exact AON_at g40 (by omega) (by omega) (by omega) (by omega) (by omega)
          refine And.intro (show -2147483648 ≤ ((32 : Int) * z42) ∧ ((32 : Int) * z42) < 2147483648 by omega) ?_
          refine And.intro (show 0 ≤ p ∧ 0 < (32 : Int) by omega) ?_
          refine And.intro (show -2147483648 ≤ (((32 : Int) * z42) + (p % (32 : Int))) ∧ (((32 : Int) * z42) + (p % (32 : Int))) < 2147483648 by omega) ?_
          refine And.intro (show 0 ≤ (((32 : Int) * z42) + (p % (32 : Int))) ∧ (((32 : Int) * z42) + (p % (32 : Int))) < 6656 by omega) ?_
          intro z44 (z44a : (-128 : Int) ≤ z44) (z44b : z44 ≤ (127 : Int)) (z44c : z44 = S21 57 0 ((((32 : Int) * z42) + (p % (32 : Int)))).toNat)
          refine And.intro (show (0 : Int) ≤ (255 : Int) by omega) ?_
          intro z45 (z45a : 0 ≤ z45) (z45b : z45 ≤ (255 : Int)) z45d
          have z45c : z45 = z44 % 256 := z45d rfl
          exact hk z45 (fx_up S21 52 0 (f).toNat z33) ⟨(fxfr_up (fxfr_tr (fxfr_up fxfr_rfl rfl) f22 rfl) rfl), by omega, g41, by first | assumption | exact LCM_of (by omega)⟩
        ·
          exact hk z20 S21 ⟨(fxfr_tr (fxfr_up fxfr_rfl rfl) f22 rfl), by omega, g24, by first | assumption | exact LCM_of (by omega)⟩
      ·
        exact hk (-1 : Int) (fx_up S 49 0 0 (0 : Int)) ⟨(fxfr_up fxfr_rfl rfl), by omega, g8, g9⟩
  ·
    exact hk (-8 : Int) (fx_up S 49 0 0 (0 : Int)) ⟨(fxfr_up fxfr_rfl rfl), by omega, g8, g9⟩
theorem z_StubHouseModel_move {l : Launch} {k : fxK} {S : fxS} {n : Int} {o : Int} {x : Int} (p0 : COL S) (p1 : WTM S) (p2 : INJ S) (p3 : AON S) (p4 : USE S) (p5 : SNP S) (p6 : REC S) (p7 : -2147483648 ≤ n ∧ n < 2147483648) (p8 : -2147483648 ≤ o ∧ o < 2147483648) (hk : ∀ (r : Int) (S' : fxS) , (fxfr [(49, 0), (49, 7), (50, 9999), (53, 9999), (55, 9999), (56, 9999), (58, 9999)] S S' ∧ (-2147483648 ≤ r ∧ r < 2147483648) ∧ (COL S') ∧ (WTM S') ∧ (INJ S') ∧ (AON S') ∧ (USE S') ∧ (SNP S') ∧ (REC S')) → k (some (.inl r)) S') : ∀ m : Nat, (∀ (a j : Int) (S1 : fxS), (fxfr [(49, 0), (49, 7), (50, 9999), (53, 9999), (55, 9999), (56, 9999), (58, 9999)] S S1) → (1 ≤ n ∧ n < 60 ∧ 0 ≤ o ∧ o < 60) → (1 ≤ j ∧ j ≤ 60) → (a = (depF (ovf (S1 50 0)) 60 o : Int) + 1 - (depF (ovf (S1 50 0)) 60 n : Int) ∧ -10 ≤ a ∧ a ≤ 10) → (COL S1) → (WTM S1) → (INJ S1) → (AON S1) → (USE S1) → (SNP S1) → (REC S1) → (MVM n o S1) → (HGM n o j S1) → 61 - j ≤ (m : Int) → fZ l 84 k 105 [some (.inr (.inr (49, 0))), some (.inl n), some (.inl o), some (.inr (.inl x)), none, none, some (.inl a), some (.inl j)] [] S1) := by
  intro m
  induction m with
  | zero =>
    intro a j S1 hf i0 i1 i2 i3 i4 i5 i6 i7 i8 i9 i10 i11 hmu
    exfalso
    omega
  | succ m ih =>
    intro a j S1 hf i0 i1 i2 i3 i4 i5 i6 i7 i8 i9 i10 i11 hmu
    refine fxz_84 400 ?_
    refine And.intro (fun (h1 : ((60 : Int) ≤ j : Prop)) => ?_) (fun (h1 : (j < (60 : Int) : Prop)) => ?_)
    ·
      refine c_StubHouseModel_ahead  i3 i4 i5 i6 i7 i8 (fun (S2 : fxS) ⟨(f3 : fxfr [(49, 7), (53, 9999), (56, 9999), (58, 9999)] S1 S2), (q4 : 0 ≤ S2 49 0 7 ∧ S2 49 0 7 ≤ 199), (g5 : SNP S2), (g6 : USE S2), (g7 : UZ S1 S2)⟩ => ?_)
      have g8 : COL S2 := fx_pfr COL_stab f3 rfl i3
      have g9 : WTM S2 := fx_pfr WTM_stab f3 rfl i4
      have g10 : INJ S2 := fx_pfr INJ_stab f3 rfl i5
      have g11 : AON S2 := fx_pfr AON_stab f3 rfl i6
      have g12 : REC S2 := fx_pfr REC_stab f3 rfl i9
      have g13 : MVM n o S2 := fx_pfr MVM_stab f3 rfl i10
      have g14 : HGM n o j S2 := fx_pfr HGM_stab f3 rfl i11
      refine c_set (n := n) (w := (1 : Int)) (v := o) (show 0 ≤ n ∧ n < 60 by omega) (show 0 ≤ (1 : Int) ∧ (1 : Int) < 42 by omega) (show -2147483648 ≤ o ∧ o < 2147483648 by omega) ?_
      have w15 : (fx_up S2 50 0 (42 * n + (1 : Int)).toNat o) 49 0 7 = S2 49 0 7 := rfl
      have g16 : COL (fx_up S2 50 0 (42 * n + (1 : Int)).toNat o) := COL_set g8 (by omega) (by omega) (by omega)
      have g17 : INJ (fx_up S2 50 0 (42 * n + (1 : Int)).toNat o) := INJ_set g10 (by omega) (by omega)
      have g18 : AON (fx_up S2 50 0 (42 * n + (1 : Int)).toNat o) := AON_set g11 (by omega) (by omega)
      have g19 : USE (fx_up S2 50 0 (42 * n + (1 : Int)).toNat o) := USE_set g6 (by omega) (by omega)
      have g20 : SNP (fx_up S2 50 0 (42 * n + (1 : Int)).toNat o) := fx_pup SNP_stab rfl g5
      have g21 : REC (fx_up S2 50 0 (42 * n + (1 : Int)).toNat o) := REC_set g12 (by omega) (by omega)
      have g22 : UZ S1 (fx_up S2 50 0 (42 * n + (1 : Int)).toNat o) := fx_pup UZ_stab rfl g7
      have wt : WTM (fx_up S2 50 0 (42 * n + (1 : Int)).toNat o) := WTM_move g9 (by omega) (by omega) g13 g14 (by omega)
      refine And.intro (show 0 ≤ n ∧ n < 60 by omega) ?_
      refine c_StubHouseModel_record (e := (16 : Int)) g16 wt g17 g18 g20 (show S2 49 0 7 ≤ 199 by omega) (show 0 ≤ (16 : Int) ∧ (16 : Int) ≤ 1000 by omega) (fun (S23 : fxS) ⟨(f24 : fxfr [(49, 7), (53, 9999), (55, 9999)] (fx_up S2 50 0 (42 * n + (1 : Int)).toNat o) S23), (g25 : SNP S23)⟩ => ?_)
      have g26 : COL S23 := fx_pfr COL_stab f24 rfl g16
      have g27 : INJ S23 := fx_pfr INJ_stab f24 rfl g17
      have g28 : AON S23 := fx_pfr AON_stab f24 rfl g18
      have g29 : USE S23 := fx_pfr USE_stab f24 rfl g19
      have g30 : REC S23 := fx_pfr REC_stab f24 rfl g21
      have g31 : UZ S1 S23 := fx_pfr UZ_stab f24 rfl g22
      have g32 : WTM S23 := fx_pfr WTM_stab f24 rfl wt
      exact hk (0 : Int) S23 ⟨(fxfr_tr (fxfr_up (fxfr_tr hf f3 rfl) rfl) f24 rfl), by omega, g26, g32, g27, g28, g29, g25, g30⟩
    ·
      refine c_at0 (n := j) i3 (show 0 ≤ j ∧ j < 60 by omega) (fun (z33 : Int) (q34 : z33 = aN S1 j 0 ∧ 0 ≤ z33 ∧ z33 ≤ 2) => ?_)
      refine And.intro (fun (h35 : (z33 = (0 : Int) : Prop)) => ?_) (fun (h35 : (z33 ≠ (0 : Int) : Prop)) => ?_)
      ·
        refine And.intro (by decide) (And.intro (show -2147483648 ≤ j + (1 : Int) ∧ j + (1 : Int) < 2147483648 by omega) ?_)
        have hs : HGM n o (j + (1 : Int)) S1 := HGM_step i11 (fun x y => by first | omega | (rw [wk (by omega)] at y; cases y))
        exact ih a (j + (1 : Int)) S1 hf (by omega) (by omega) (by omega) i3 i4 i5 i6 i7 i8 i9 i10 hs (by omega)
      ·
        refine c_StubHouseModel_isBelow (n := j) (t := n) i3 i4 (show 0 ≤ j ∧ j < 60 by omega) (show 1 ≤ n by omega) (fun (z37 : Int) (q38 : 0 ≤ z37 ∧ z37 ≤ 1 ∧ (z37 = 1 → wiF (ovf (S1 50 0)) n 60 j = true) ∧ (z37 = 0 → wiF (ovf (S1 50 0)) n 60 j = false)) => ?_)
        have wk : z37 = 0 → wiF (ovf (S1 50 0)) n 60 j = false := q38.2.2.2
        refine And.intro (fun (h39 : (z37 = (0 : Int) : Prop)) => ?_) (fun (h39 : (z37 ≠ (0 : Int) : Prop)) => ?_)
        ·
          refine And.intro (by decide) (And.intro (show -2147483648 ≤ j + (1 : Int) ∧ j + (1 : Int) < 2147483648 by omega) ?_)
          have hs : HGM n o (j + (1 : Int)) S1 := HGM_step i11 (fun x y => by first | omega | (rw [wk (by omega)] at y; cases y))
          exact ih a (j + (1 : Int)) S1 hf (by omega) (by omega) (by omega) i3 i4 i5 i6 i7 i8 i9 i10 hs (by omega)
        ·
          refine c_StubHouseModel_depth (n := j) i3 i4 (show 0 ≤ j ∧ j < 60 by omega) (fun (z41 : Int) (q42 : z41 = (depF (ovf (S1 50 0)) 60 j : Int) ∧ 0 ≤ z41 ∧ z41 ≤ 5) => ?_)
          refine And.intro (show -2147483648 ≤ (z41 + a) ∧ (z41 + a) < 2147483648 by omega) ?_
          refine And.intro (fun (h43 : ((z41 + a) ≤ (5 : Int) : Prop)) => ?_) (fun (h43 : ((5 : Int) < (z41 + a) : Prop)) => ?_)
          ·
            refine And.intro (by decide) (And.intro (show -2147483648 ≤ j + (1 : Int) ∧ j + (1 : Int) < 2147483648 by omega) ?_)
            have hs : HGM n o (j + (1 : Int)) S1 := HGM_step i11 (fun x y => by first | omega | (rw [wk (by omega)] at y; cases y))
            exact ih a (j + (1 : Int)) S1 hf (by omega) (by omega) (by omega) i3 i4 i5 i6 i7 i8 i9 i10 hs (by omega)
          ·
            exact hk (-3 : Int) S1 ⟨hf, by omega, i3, i4, i5, i6, i7, i8, i9⟩
theorem c_StubHouseModel_move {l : Launch} {k : fxK} {S : fxS} {n : Int} {o : Int} {x : Int} (p0 : COL S) (p1 : WTM S) (p2 : INJ S) (p3 : AON S) (p4 : USE S) (p5 : SNP S) (p6 : REC S) (p7 : -2147483648 ≤ n ∧ n < 2147483648) (p8 : -2147483648 ≤ o ∧ o < 2147483648) (hk : ∀ (r : Int) (S' : fxS) , (fxfr [(49, 0), (49, 7), (50, 9999), (53, 9999), (55, 9999), (56, 9999), (58, 9999)] S S' ∧ (-2147483648 ≤ r ∧ r < 2147483648) ∧ (COL S') ∧ (WTM S') ∧ (INJ S') ∧ (AON S') ∧ (USE S') ∧ (SNP S') ∧ (REC S')) → k (some (.inl r)) S') : fC l 84 [.inr (.inr (49, 0)), .inl n, .inl o, .inr (.inl x)] S k := by
  refine fxe_84 (Nat.le_of_ble_eq_true rfl) (fxz_84 400 ?_)
  refine And.intro (show (-2147483648 : Int) ≤ (0 : Int) ∧ (0 : Int) ≤ (2147483647 : Int) by omega) ?_
  have w45 : (fx_up S 49 0 0 (0 : Int)) 49 0 7 = S 49 0 7 := if_neg (fun q => absurd q.2.2 (by decide))
  have g46 : COL (fx_up S 49 0 0 (0 : Int)) := fx_pup COL_stab rfl p0
  have g47 : WTM (fx_up S 49 0 0 (0 : Int)) := fx_pup WTM_stab rfl p1
  have g48 : INJ (fx_up S 49 0 0 (0 : Int)) := fx_pup INJ_stab rfl p2
  have g49 : AON (fx_up S 49 0 0 (0 : Int)) := fx_pup AON_stab rfl p3
  have g50 : USE (fx_up S 49 0 0 (0 : Int)) := fx_pup USE_stab rfl p4
  have g51 : SNP (fx_up S 49 0 0 (0 : Int)) := fx_pup SNP_stab rfl p5
  have g52 : REC (fx_up S 49 0 0 (0 : Int)) := fx_pup REC_stab rfl p6
  intro z53 (z53a : (0 : Int) ≤ z53) (z53b : z53 ≤ (1 : Int)) (z53c : z53 = S 49 0 15)
  refine And.intro (fun (h54 : (z53 = (0 : Int) : Prop)) => ?_) (fun (h54 : (z53 ≠ (0 : Int) : Prop)) => ?_)
  ·
    refine c_StubHouseModel_in (x := n) (a := (1 : Int)) (b := (59 : Int))  (fun (z55 : Int) (q56 : 0 ≤ z55 ∧ z55 ≤ 1 ∧ (z55 = 1 → (1 : Int) ≤ n ∧ n ≤ (59 : Int)) ∧ (z55 = 0 → n < (1 : Int) ∨ (59 : Int) < n)) => ?_)
    refine And.intro (fun (h57 : (z55 = (0 : Int) : Prop)) => ?_) (fun (h57 : (z55 ≠ (0 : Int) : Prop)) => ?_)
    ·
      exact hk (-1 : Int) (fx_up S 49 0 0 (0 : Int)) ⟨(fxfr_up fxfr_rfl rfl), by omega, g46, g47, g48, g49, g50, g51, g52⟩
    ·
      refine c_at0 (n := n) g46 (show 0 ≤ n ∧ n < 60 by omega) (fun (z58 : Int) (q59 : z58 = aN S n 0 ∧ 0 ≤ z58 ∧ z58 ≤ 2) => ?_)
      refine And.intro (fun (h60 : (z58 = (0 : Int) : Prop)) => ?_) (fun (h60 : (z58 ≠ (0 : Int) : Prop)) => ?_)
      ·
        exact hk (-1 : Int) (fx_up S 49 0 0 (0 : Int)) ⟨(fxfr_up fxfr_rfl rfl), by omega, g46, g47, g48, g49, g50, g51, g52⟩
      ·
        refine c_StubHouseModel_isDirectory (n := o) g46 (show -2147483648 ≤ o ∧ o < 2147483648 by omega) (fun (z61 : Int) (q62 : 0 ≤ z61 ∧ z61 ≤ 1 ∧ (z61 = 1 → 0 ≤ o ∧ o < 60 ∧ aN S o 0 = 1)) => ?_)
        refine And.intro (fun (h63 : (z61 = (0 : Int) : Prop)) => ?_) (fun (h63 : (z61 ≠ (0 : Int) : Prop)) => ?_)
        ·
          exact hk (-1 : Int) (fx_up S 49 0 0 (0 : Int)) ⟨(fxfr_up fxfr_rfl rfl), by omega, g46, g47, g48, g49, g50, g51, g52⟩
        ·
          intro z64 (z64a : 0 ≤ z64) (z64b : z64 ≤ 1)
          refine And.intro (fun (h65 : (z64 ≠ (0 : Int) : Prop)) => ?_) (fun (h65 : (z64 = (0 : Int) : Prop)) => ?_)
          ·
            refine c_StubHouseModel_look (o := o) (x := x) g46 (show -2147483648 ≤ o ∧ o < 2147483648 by omega) (fun (z66 : Int) (q67 : -2 ≤ z66 ∧ z66 < 60 ∧ z66 ≠ -1 ∧ z66 ≠ 0 ∧ (0 ≤ z66 → aN S z66 0 ≠ 0 ∧ aN S z66 1 = o)) => ?_)
            refine And.intro (by decide) ?_
            refine And.intro (fun (h68 : (z66 < (0 : Int) : Prop)) => ?_) (fun (h68 : ((0 : Int) ≤ z66 : Prop)) => ?_)
            ·
              refine c_StubHouseModel_isBelow (n := o) (t := n) g46 g47 (show 0 ≤ o ∧ o < 60 by omega) (show 1 ≤ n by omega) (fun (z69 : Int) (q70 : 0 ≤ z69 ∧ z69 ≤ 1 ∧ (z69 = 1 → wiF (ovf (S 50 0)) n 60 o = true) ∧ (z69 = 0 → wiF (ovf (S 50 0)) n 60 o = false)) => ?_)
              have wb : z69 = 0 → wiF (ovf (S 50 0)) n 60 o = false := q70.2.2.2
              refine And.intro (fun (h71 : (z69 = (0 : Int) : Prop)) => ?_) (fun (h71 : (z69 ≠ (0 : Int) : Prop)) => ?_)
              ·
                refine c_StubHouseModel_depth (n := o) g46 g47 (show 0 ≤ o ∧ o < 60 by omega) (fun (z72 : Int) (q73 : z72 = (depF (ovf (S 50 0)) 60 o : Int) ∧ 0 ≤ z72 ∧ z72 ≤ 5) => ?_)
                have dq : z72 = (depF (ovf (S 50 0)) 60 o : Int) := q73.1
                refine And.intro (show -2147483648 ≤ (z72 + (1 : Int)) ∧ (z72 + (1 : Int)) < 2147483648 by omega) ?_
                refine c_StubHouseModel_depth (n := n) g46 g47 (show 0 ≤ n ∧ n < 60 by omega) (fun (z74 : Int) (q75 : z74 = (depF (ovf (S 50 0)) 60 n : Int) ∧ 0 ≤ z74 ∧ z74 ≤ 5) => ?_)
                have dn : z74 = (depF (ovf (S 50 0)) 60 n : Int) := q75.1
                refine And.intro (show -2147483648 ≤ ((z72 + (1 : Int)) - z74) ∧ ((z72 + (1 : Int)) - z74) < 2147483648 by omega) ?_
                refine And.intro (by decide) ?_
                refine And.intro (by decide) ?_
                have dd : (depF (ovf ((fx_up S 49 0 0 (0 : Int)) 50 0)) 60 o : Int) = (depF (ovf (S 50 0)) 60 o : Int) := rfl
                have de : (depF (ovf ((fx_up S 49 0 0 (0 : Int)) 50 0)) 60 n : Int) = (depF (ovf (S 50 0)) 60 n : Int) := rfl
                have mv : MVM n o (fx_up S 49 0 0 (0 : Int)) := (⟨by omega, by omega, wb (by omega)⟩ : MVM n o S)
                have h0 : HGM n o (1 : Int) (fx_up S 49 0 0 (0 : Int)) := HGM_0
                exact (z_StubHouseModel_move p0 p1 p2 p3 p4 p5 p6 p7 p8 hk (61 - (1 : Int)).toNat) ((z72 + (1 : Int)) - z74) (1 : Int) (fx_up S 49 0 0 (0 : Int)) (fxfr_up fxfr_rfl rfl) (by omega) (by omega) (by omega) g46 g47 g48 g49 g50 g51 g52 mv h0 (by omega)
              ·
                exact hk (-6 : Int) (fx_up S 49 0 0 (0 : Int)) ⟨(fxfr_up fxfr_rfl rfl), by omega, g46, g47, g48, g49, g50, g51, g52⟩
            ·
              refine And.intro (fun (h76 : (z66 = n : Prop)) => ?_) (fun (h76 : (z66 ≠ n : Prop)) => ?_)
              ·
                refine c_StubHouseModel_isBelow (n := o) (t := n) g46 g47 (show 0 ≤ o ∧ o < 60 by omega) (show 1 ≤ n by omega) (fun (z77 : Int) (q78 : 0 ≤ z77 ∧ z77 ≤ 1 ∧ (z77 = 1 → wiF (ovf (S 50 0)) n 60 o = true) ∧ (z77 = 0 → wiF (ovf (S 50 0)) n 60 o = false)) => ?_)
                have wb : z77 = 0 → wiF (ovf (S 50 0)) n 60 o = false := q78.2.2.2
                refine And.intro (fun (h79 : (z77 = (0 : Int) : Prop)) => ?_) (fun (h79 : (z77 ≠ (0 : Int) : Prop)) => ?_)
                ·
                  refine c_StubHouseModel_depth (n := o) g46 g47 (show 0 ≤ o ∧ o < 60 by omega) (fun (z80 : Int) (q81 : z80 = (depF (ovf (S 50 0)) 60 o : Int) ∧ 0 ≤ z80 ∧ z80 ≤ 5) => ?_)
                  have dq : z80 = (depF (ovf (S 50 0)) 60 o : Int) := q81.1
                  refine And.intro (show -2147483648 ≤ (z80 + (1 : Int)) ∧ (z80 + (1 : Int)) < 2147483648 by omega) ?_
                  refine c_StubHouseModel_depth (n := n) g46 g47 (show 0 ≤ n ∧ n < 60 by omega) (fun (z82 : Int) (q83 : z82 = (depF (ovf (S 50 0)) 60 n : Int) ∧ 0 ≤ z82 ∧ z82 ≤ 5) => ?_)
                  have dn : z82 = (depF (ovf (S 50 0)) 60 n : Int) := q83.1
                  refine And.intro (show -2147483648 ≤ ((z80 + (1 : Int)) - z82) ∧ ((z80 + (1 : Int)) - z82) < 2147483648 by omega) ?_
                  refine And.intro (by decide) ?_
                  refine And.intro (by decide) ?_
                  have dd : (depF (ovf ((fx_up S 49 0 0 (0 : Int)) 50 0)) 60 o : Int) = (depF (ovf (S 50 0)) 60 o : Int) := rfl
                  have de : (depF (ovf ((fx_up S 49 0 0 (0 : Int)) 50 0)) 60 n : Int) = (depF (ovf (S 50 0)) 60 n : Int) := rfl
                  have mv : MVM n o (fx_up S 49 0 0 (0 : Int)) := (⟨by omega, by omega, wb (by omega)⟩ : MVM n o S)
                  have h0 : HGM n o (1 : Int) (fx_up S 49 0 0 (0 : Int)) := HGM_0
                  exact (z_StubHouseModel_move p0 p1 p2 p3 p4 p5 p6 p7 p8 hk (61 - (1 : Int)).toNat) ((z80 + (1 : Int)) - z82) (1 : Int) (fx_up S 49 0 0 (0 : Int)) (fxfr_up fxfr_rfl rfl) (by omega) (by omega) (by omega) g46 g47 g48 g49 g50 g51 g52 mv h0 (by omega)
                ·
                  exact hk (-6 : Int) (fx_up S 49 0 0 (0 : Int)) ⟨(fxfr_up fxfr_rfl rfl), by omega, g46, g47, g48, g49, g50, g51, g52⟩
              ·
                exact hk (-7 : Int) (fx_up S 49 0 0 (0 : Int)) ⟨(fxfr_up fxfr_rfl rfl), by omega, g46, g47, g48, g49, g50, g51, g52⟩
          ·
            exact hk (-1 : Int) (fx_up S 49 0 0 (0 : Int)) ⟨(fxfr_up fxfr_rfl rfl), by omega, g46, g47, g48, g49, g50, g51, g52⟩
  ·
    exact hk (-8 : Int) (fx_up S 49 0 0 (0 : Int)) ⟨(fxfr_up fxfr_rfl rfl), by omega, g46, g47, g48, g49, g50, g51, g52⟩
theorem z_StubHouseModel_feed {l : Launch} {k : fxK} {S : fxS} {n : Int} {x : Int} (p0 : -2147483648 ≤ n ∧ n < 2147483648) (hk : ∀ (r : Int) (S' : fxS) , (fxfr [(49, 0), (49, 17), (59, 9999)] S S' ∧ (-2147483648 ≤ r ∧ r < 2147483648)) → k (some (.inl r)) S') : ∀ m : Nat, (∀ (j : Int) (S1 : fxS), (fxfr [(49, 0), (49, 17), (59, 9999)] S S1) → (1 ≤ n ∧ n ≤ 8) → (0 ≤ j ∧ j ≤ n) → (0 ≤ S1 49 0 17 ∧ S1 49 0 17 + n ≤ 256) → n + 1 - j ≤ (m : Int) → fZ l 86 k 37 [some (.inr (.inr (49, 0))), some (.inl n), some (.inr (.inl x)), none, some (.inl j)] [] S1) := by
  intro m
  induction m with
  | zero =>
    intro j S1 hf i0 i1 i2 hmu
    exfalso
    omega
  | succ m ih =>
    intro j S1 hf i0 i1 i2 hmu
    refine fxz_86 400 ?_
    refine And.intro (fun (h1 : (n ≤ j : Prop)) => ?_) (fun (h1 : (j < n : Prop)) => ?_)
    ·
      intro z2 (z2a : (0 : Int) ≤ z2) (z2b : z2 ≤ (256 : Int)) (z2c : z2 = S1 49 0 17)
      refine And.intro (show -2147483648 ≤ (z2 + n) ∧ (z2 + n) < 2147483648 by omega) ?_
      refine And.intro (show (0 : Int) ≤ (z2 + n) ∧ (z2 + n) ≤ (256 : Int) by omega) ?_
      have w3 : (fx_up S1 49 0 17 (z2 + n)) 49 0 17 = (z2 + n) := fx_up_at _ _ _ _ _
      intro z4 (z4a : (0 : Int) ≤ z4) (z4b : z4 ≤ (256 : Int)) (z4c : z4 = (z2 + n))
      exact hk z4 (fx_up S1 49 0 17 (z2 + n)) ⟨(fxfr_up hf rfl), by omega⟩
    ·
      intro z5 (z5a : (0 : Int) ≤ z5) (z5b : z5 ≤ (256 : Int)) (z5c : z5 = S1 49 0 17)
      refine And.intro (show -2147483648 ≤ (z5 + j) ∧ (z5 + j) < 2147483648 by omega) ?_
      refine And.intro (show -2147483648 ≤ ((8 : Int) * j) ∧ ((8 : Int) * j) < 2147483648 by omega) ?_
      intro z6
      intro z7 z7a z7b
      intro z8 z8a z8b
      refine And.intro (show 0 ≤ (z5 + j) ∧ (z5 + j) < 256 by omega) ?_
      intro z9 z9a z9b z9c
      have w10 : (fx_up S1 59 0 ((z5 + j)).toNat z9) 49 0 17 = S1 49 0 17 := rfl
      refine And.intro (by decide) (And.intro (show -2147483648 ≤ j + (1 : Int) ∧ j + (1 : Int) < 2147483648 by omega) ?_)
      exact ih (j + (1 : Int)) (fx_up S1 59 0 ((z5 + j)).toNat z9) (fxfr_up hf rfl) (by omega) (by omega) (by omega) (by omega)
theorem c_StubHouseModel_feed {l : Launch} {k : fxK} {S : fxS} {n : Int} {x : Int} (p0 : -2147483648 ≤ n ∧ n < 2147483648) (hk : ∀ (r : Int) (S' : fxS) , (fxfr [(49, 0), (49, 17), (59, 9999)] S S' ∧ (-2147483648 ≤ r ∧ r < 2147483648)) → k (some (.inl r)) S') : fC l 86 [.inr (.inr (49, 0)), .inl n, .inr (.inl x)] S k := by
  refine fxe_86 (Nat.le_of_ble_eq_true rfl) (fxz_86 400 ?_)
  refine And.intro (show (-2147483648 : Int) ≤ (0 : Int) ∧ (0 : Int) ≤ (2147483647 : Int) by omega) ?_
  have w12 : (fx_up S 49 0 0 (0 : Int)) 49 0 17 = S 49 0 17 := if_neg (fun q => absurd q.2.2 (by decide))
  refine c_StubHouseModel_in (x := n) (a := (1 : Int)) (b := (8 : Int))  (fun (z13 : Int) (q14 : 0 ≤ z13 ∧ z13 ≤ 1 ∧ (z13 = 1 → (1 : Int) ≤ n ∧ n ≤ (8 : Int)) ∧ (z13 = 0 → n < (1 : Int) ∨ (8 : Int) < n)) => ?_)
  refine And.intro (fun (h15 : (z13 ≠ (0 : Int) : Prop)) => ?_) (fun (h15 : (z13 = (0 : Int) : Prop)) => ?_)
  ·
    intro z16 (z16a : (0 : Int) ≤ z16) (z16b : z16 ≤ (256 : Int)) (z16c : z16 = S 49 0 17)
    refine And.intro (show -2147483648 ≤ (z16 + n) ∧ (z16 + n) < 2147483648 by omega) ?_
    refine And.intro (fun (h17 : ((z16 + n) ≤ (256 : Int) : Prop)) => ?_) (fun (h17 : ((256 : Int) < (z16 + n) : Prop)) => ?_)
    ·
      refine And.intro (by decide) ?_
      exact (z_StubHouseModel_feed p0 hk (n + 1 - (0 : Int)).toNat) (0 : Int) (fx_up S 49 0 0 (0 : Int)) (fxfr_up fxfr_rfl rfl) (by omega) (by omega) (by omega) (by omega)
    ·
      exact hk (-3 : Int) (fx_up S 49 0 0 (0 : Int)) ⟨(fxfr_up fxfr_rfl rfl), by omega⟩
  ·
    exact hk (-1 : Int) (fx_up S 49 0 0 (0 : Int)) ⟨(fxfr_up fxfr_rfl rfl), by omega⟩
theorem z_StubHouseModel_fill {l : Launch} {k : fxK} {S : fxS} {n : Int} {v : Int} (p0 : -2147483648 ≤ n ∧ n < 2147483648) (p1 : -2147483648 ≤ v ∧ v < 2147483648) (hk : ∀ (r : Int) (S' : fxS) , (fxfr [(49, 0), (49, 17), (59, 9999)] S S' ∧ (-2147483648 ≤ r ∧ r < 2147483648)) → k (some (.inl r)) S') : ∀ m : Nat, (∀ (j : Int) (S1 : fxS), (fxfr [(49, 0), (49, 17), (59, 9999)] S S1) → (1 ≤ n ∧ n ≤ 256) → (0 ≤ j ∧ j ≤ n) → (0 ≤ S1 49 0 17 ∧ S1 49 0 17 + n ≤ 256) → n + 1 - j ≤ (m : Int) → fZ l 88 k 36 [some (.inr (.inr (49, 0))), some (.inl n), some (.inl v), some (.inl j)] [] S1) := by
  intro m
  induction m with
  | zero =>
    intro j S1 hf i0 i1 i2 hmu
    exfalso
    omega
  | succ m ih =>
    intro j S1 hf i0 i1 i2 hmu
    refine fxz_88 400 ?_
    refine And.intro (fun (h1 : (n ≤ j : Prop)) => ?_) (fun (h1 : (j < n : Prop)) => ?_)
    ·
      intro z2 (z2a : (0 : Int) ≤ z2) (z2b : z2 ≤ (256 : Int)) (z2c : z2 = S1 49 0 17)
      refine And.intro (show -2147483648 ≤ (z2 + n) ∧ (z2 + n) < 2147483648 by omega) ?_
      refine And.intro (show (0 : Int) ≤ (z2 + n) ∧ (z2 + n) ≤ (256 : Int) by omega) ?_
      have w3 : (fx_up S1 49 0 17 (z2 + n)) 49 0 17 = (z2 + n) := fx_up_at _ _ _ _ _
      intro z4 (z4a : (0 : Int) ≤ z4) (z4b : z4 ≤ (256 : Int)) (z4c : z4 = (z2 + n))
      exact hk z4 (fx_up S1 49 0 17 (z2 + n)) ⟨(fxfr_up hf rfl), by omega⟩
    ·
      intro z5 (z5a : (0 : Int) ≤ z5) (z5b : z5 ≤ (256 : Int)) (z5c : z5 = S1 49 0 17)
      refine And.intro (show -2147483648 ≤ (z5 + j) ∧ (z5 + j) < 2147483648 by omega) ?_
      intro z6 (z6a : -2147483648 ≤ z6) (z6b : z6 < 2147483648) (z6c : -2147483648 ≤ (v + j) ∧ (v + j) < 2147483648 → z6 = (v + j))
      intro z7 z7a z7b
      refine And.intro (show 0 ≤ (z5 + j) ∧ (z5 + j) < 256 by omega) ?_
      intro z8 z8a z8b z8c
      have w9 : (fx_up S1 59 0 ((z5 + j)).toNat z8) 49 0 17 = S1 49 0 17 := rfl
      refine And.intro (by decide) (And.intro (show -2147483648 ≤ j + (1 : Int) ∧ j + (1 : Int) < 2147483648 by omega) ?_)
      exact ih (j + (1 : Int)) (fx_up S1 59 0 ((z5 + j)).toNat z8) (fxfr_up hf rfl) (by omega) (by omega) (by omega) (by omega)
theorem c_StubHouseModel_fill {l : Launch} {k : fxK} {S : fxS} {n : Int} {v : Int} (p0 : -2147483648 ≤ n ∧ n < 2147483648) (p1 : -2147483648 ≤ v ∧ v < 2147483648) (hk : ∀ (r : Int) (S' : fxS) , (fxfr [(49, 0), (49, 17), (59, 9999)] S S' ∧ (-2147483648 ≤ r ∧ r < 2147483648)) → k (some (.inl r)) S') : fC l 88 [.inr (.inr (49, 0)), .inl n, .inl v] S k := by
  refine fxe_88 (Nat.le_of_ble_eq_true rfl) (fxz_88 400 ?_)
  refine And.intro (show (-2147483648 : Int) ≤ (0 : Int) ∧ (0 : Int) ≤ (2147483647 : Int) by omega) ?_
  have w11 : (fx_up S 49 0 0 (0 : Int)) 49 0 17 = S 49 0 17 := if_neg (fun q => absurd q.2.2 (by decide))
  refine c_StubHouseModel_in (x := n) (a := (1 : Int)) (b := (256 : Int))  (fun (z12 : Int) (q13 : 0 ≤ z12 ∧ z12 ≤ 1 ∧ (z12 = 1 → (1 : Int) ≤ n ∧ n ≤ (256 : Int)) ∧ (z12 = 0 → n < (1 : Int) ∨ (256 : Int) < n)) => ?_)
  refine And.intro (fun (h14 : (z12 ≠ (0 : Int) : Prop)) => ?_) (fun (h14 : (z12 = (0 : Int) : Prop)) => ?_)
  ·
    intro z15 (z15a : (0 : Int) ≤ z15) (z15b : z15 ≤ (256 : Int)) (z15c : z15 = S 49 0 17)
    refine And.intro (show -2147483648 ≤ (z15 + n) ∧ (z15 + n) < 2147483648 by omega) ?_
    refine And.intro (fun (h16 : ((z15 + n) ≤ (256 : Int) : Prop)) => ?_) (fun (h16 : ((256 : Int) < (z15 + n) : Prop)) => ?_)
    ·
      refine And.intro (by decide) ?_
      exact (z_StubHouseModel_fill p0 p1 hk (n + 1 - (0 : Int)).toNat) (0 : Int) (fx_up S 49 0 0 (0 : Int)) (fxfr_up fxfr_rfl rfl) (by omega) (by omega) (by omega) (by omega)
    ·
      exact hk (-3 : Int) (fx_up S 49 0 0 (0 : Int)) ⟨(fxfr_up fxfr_rfl rfl), by omega⟩
  ·
    exact hk (-1 : Int) (fx_up S 49 0 0 (0 : Int)) ⟨(fxfr_up fxfr_rfl rfl), by omega⟩
theorem c_StubHouseModel_about {l : Launch} {k : fxK} {S : fxS} {n : Int} {w : Int} (p0 : COL S) (p1 : WTM S) (p2 : -2147483648 ≤ n ∧ n < 2147483648) (p3 : -2147483648 ≤ w ∧ w < 2147483648) (hk : ∀ (r : Int) (S' : fxS) , (fxfr [(49, 0)] S S' ∧ (-2147483648 ≤ r ∧ r < 2147483648)) → k (some (.inl r)) S') : fC l 124 [.inr (.inr (49, 0)), .inl n, .inl w] S k := by
  refine fxe_124 (Nat.le_of_ble_eq_true rfl) (fxz_124 400 ?_)
  refine And.intro (show (-2147483648 : Int) ≤ (0 : Int) ∧ (0 : Int) ≤ (2147483647 : Int) by omega) ?_
  have g1 : COL (fx_up S 49 0 0 (0 : Int)) := fx_pup COL_stab rfl p0
  have g2 : WTM (fx_up S 49 0 0 (0 : Int)) := fx_pup WTM_stab rfl p1
  intro z3 (z3a : (0 : Int) ≤ z3) (z3b : z3 ≤ (1 : Int)) (z3c : z3 = S 49 0 15)
  refine And.intro (fun (h4 : (z3 = (0 : Int) : Prop)) => ?_) (fun (h4 : (z3 ≠ (0 : Int) : Prop)) => ?_)
  ·
    refine c_StubHouseModel_in (x := n) (a := (0 : Int)) (b := (59 : Int))  (fun (z5 : Int) (q6 : 0 ≤ z5 ∧ z5 ≤ 1 ∧ (z5 = 1 → (0 : Int) ≤ n ∧ n ≤ (59 : Int)) ∧ (z5 = 0 → n < (0 : Int) ∨ (59 : Int) < n)) => ?_)
    refine And.intro (fun (h7 : (z5 = (0 : Int) : Prop)) => ?_) (fun (h7 : (z5 ≠ (0 : Int) : Prop)) => ?_)
    ·
      exact hk (-1 : Int) (fx_up S 49 0 0 (0 : Int)) ⟨(fxfr_up fxfr_rfl rfl), by omega⟩
    ·
      refine c_StubHouseModel_in (x := w) (a := (0 : Int)) (b := (10 : Int))  (fun (z8 : Int) (q9 : 0 ≤ z8 ∧ z8 ≤ 1 ∧ (z8 = 1 → (0 : Int) ≤ w ∧ w ≤ (10 : Int)) ∧ (z8 = 0 → w < (0 : Int) ∨ (10 : Int) < w)) => ?_)
      refine And.intro (fun (h10 : (z8 ≠ (0 : Int) : Prop)) => ?_) (fun (h10 : (z8 = (0 : Int) : Prop)) => ?_)
      ·
        refine c_at0 (n := n) g1 (show 0 ≤ n ∧ n < 60 by omega) (fun (z11 : Int) (q12 : z11 = aN S n 0 ∧ 0 ≤ z11 ∧ z11 ≤ 2) => ?_)
        refine And.intro (by decide) ?_
        refine And.intro (fun (h13 : (w ≠ (0 : Int) : Prop)) => ?_) (fun (h13 : (w = (0 : Int) : Prop)) => ?_)
        ·
          refine And.intro (fun (h14 : (z11 = (0 : Int) : Prop)) => ?_) (fun (h14 : (z11 ≠ (0 : Int) : Prop)) => ?_)
          ·
            exact hk (-1 : Int) (fx_up S 49 0 0 (0 : Int)) ⟨(fxfr_up fxfr_rfl rfl), by omega⟩
          ·
            refine And.intro (fun (h15 : (z11 ≠ (1 : Int) : Prop)) => ?_) (fun (h15 : (z11 = (1 : Int) : Prop)) => ?_)
            ·
              refine And.intro (fun (h16 : w = (1 : Int)) => ?_) (fun (h16 : w ≠ (1 : Int)) => ?_)
              ·
                refine And.intro (fun (h17 : (n ≠ (0 : Int) : Prop)) => ?_) (fun (h17 : (n = (0 : Int) : Prop)) => ?_)
                ·
                  refine c_at1 (n := n) g1 (show 0 ≤ n ∧ n < 60 by omega) (fun (z18 : Int) (q19 : z18 = aN S n 1 ∧ -1 ≤ z18 ∧ z18 < 60) => ?_)
                  exact hk z18 (fx_up S 49 0 0 (0 : Int)) ⟨(fxfr_up fxfr_rfl rfl), by omega⟩
                ·
                  exact hk (-2 : Int) (fx_up S 49 0 0 (0 : Int)) ⟨(fxfr_up fxfr_rfl rfl), by omega⟩
              refine And.intro (fun (h20 : w = (2 : Int)) => ?_) (fun (h20 : w ≠ (2 : Int)) => ?_)
              ·
                refine c_StubHouseModel_depth (n := n) g1 g2 (show 0 ≤ n ∧ n < 60 by omega) (fun (z21 : Int) (q22 : z21 = (depF (ovf (S 50 0)) 60 n : Int) ∧ 0 ≤ z21 ∧ z21 ≤ 5) => ?_)
                exact hk z21 (fx_up S 49 0 0 (0 : Int)) ⟨(fxfr_up fxfr_rfl rfl), by omega⟩
              refine And.intro (fun (h23 : w = (3 : Int)) => ?_) (fun (h23 : w ≠ (3 : Int)) => ?_)
              ·
                refine c_at2 (n := n) g1 (show 0 ≤ n ∧ n < 60 by omega) (fun (z24 : Int) (q25 : z24 = aN S n 2 ∧ -2147483648 ≤ z24 ∧ z24 < 2147483648) => ?_)
                exact hk z24 (fx_up S 49 0 0 (0 : Int)) ⟨(fxfr_up fxfr_rfl rfl), by omega⟩
              refine And.intro (fun (h26 : w = (4 : Int)) => ?_) (fun (h26 : w ≠ (4 : Int)) => ?_)
              ·
                refine c_at3 (n := n) g1 (show 0 ≤ n ∧ n < 60 by omega) (fun (z27 : Int) (q28 : z27 = aN S n 3 ∧ 0 ≤ z27 ∧ z27 ≤ 1024) => ?_)
                exact hk z27 (fx_up S 49 0 0 (0 : Int)) ⟨(fxfr_up fxfr_rfl rfl), by omega⟩
              refine And.intro (fun (h29 : w = (5 : Int)) => ?_) (fun (h29 : w ≠ (5 : Int)) => ?_)
              ·
                refine c_at4 (n := n) g1 (show 0 ≤ n ∧ n < 60 by omega) (fun (z30 : Int) (q31 : z30 = aN S n 4 ∧ -2147483648 ≤ z30 ∧ z30 < 2147483648) => ?_)
                exact hk z30 (fx_up S 49 0 0 (0 : Int)) ⟨(fxfr_up fxfr_rfl rfl), by omega⟩
              refine And.intro (fun (h32 : w = (6 : Int)) => ?_) (fun (h32 : w ≠ (6 : Int)) => ?_)
              ·
                refine And.intro (show 0 ≤ n ∧ n < 60 by omega) ?_
                intro z33 (z33a : (-2147483648 : Int) ≤ z33) (z33b : z33 ≤ (2147483647 : Int)) (z33c : z33 = S 52 0 (n).toNat)
                exact hk z33 (fx_up S 49 0 0 (0 : Int)) ⟨(fxfr_up fxfr_rfl rfl), by omega⟩
              refine And.intro (fun (h34 : w = (7 : Int)) => ?_) (fun (h34 : w ≠ (7 : Int)) => ?_)
              ·
                refine c_at5 (n := n) g1 (show 0 ≤ n ∧ n < 60 by omega) (fun (z35 : Int) (q36 : z35 = aN S n 5 ∧ 0 ≤ z35 ∧ z35 ≤ 2) => ?_)
                exact hk z35 (fx_up S 49 0 0 (0 : Int)) ⟨(fxfr_up fxfr_rfl rfl), by omega⟩
              refine And.intro (fun (h37 : w = (8 : Int)) => ?_) (fun (h37 : w ≠ (8 : Int)) => ?_)
              ·
                refine c_StubHouseModel_inStore (f := n) (s := (0 : Int)) g1 (show 0 ≤ n ∧ n < 60 by omega) (show -2147483648 ≤ (0 : Int) ∧ (0 : Int) < 2147483648 by omega) (fun (z38 : Int) (q39 : 0 ≤ z38 ∧ z38 ≤ 32 ∧ (0 < z38 → SOM n (0 : Int) (fx_up S 49 0 0 (0 : Int)))) => ?_)
                exact hk z38 (fx_up S 49 0 0 (0 : Int)) ⟨(fxfr_up fxfr_rfl rfl), by omega⟩
              refine And.intro (fun (h40 : w = (9 : Int)) => ?_) (fun (h40 : w ≠ (9 : Int)) => ?_)
              ·
                refine c_StubHouseModel_inStore (f := n) (s := (1 : Int)) g1 (show 0 ≤ n ∧ n < 60 by omega) (show -2147483648 ≤ (1 : Int) ∧ (1 : Int) < 2147483648 by omega) (fun (z41 : Int) (q42 : 0 ≤ z41 ∧ z41 ≤ 32 ∧ (0 < z41 → SOM n (1 : Int) (fx_up S 49 0 0 (0 : Int)))) => ?_)
                exact hk z41 (fx_up S 49 0 0 (0 : Int)) ⟨(fxfr_up fxfr_rfl rfl), by omega⟩
              refine c_at3 (n := n) g1 (show 0 ≤ n ∧ n < 60 by omega) (fun (z43 : Int) (q44 : z43 = aN S n 3 ∧ 0 ≤ z43 ∧ z43 ≤ 1024) => ?_)
              refine And.intro (fun (h45 : (z43 ≠ (0 : Int) : Prop)) => ?_) (fun (h45 : (z43 = (0 : Int) : Prop)) => ?_)
              ·
                refine c_StubHouseModel_isStub (n := n) g1 (show 0 ≤ n ∧ n < 60 by omega) (fun (z46 : Int) (q47 : 0 ≤ z46 ∧ z46 ≤ 1 ∧ (z46 = 1 → 0 < aN S n 3 ∧ aN S n 10 < 0) ∧ (z46 = 0 → aN S n 3 ≤ 0 ∨ 0 ≤ aN S n 10)) => ?_)
                refine And.intro (fun (h48 : (z46 = (0 : Int) : Prop)) => ?_) (fun (h48 : (z46 ≠ (0 : Int) : Prop)) => ?_)
                ·
                  refine c_StubHouseModel_hasCopies (n := n) g1 (show 0 ≤ n ∧ n < 60 by omega) (fun (z49 : Int) (q50 : 0 ≤ z49 ∧ z49 ≤ 1) => ?_)
                  refine And.intro (fun (h51 : (z49 = (0 : Int) : Prop)) => ?_) (fun (h51 : (z49 ≠ (0 : Int) : Prop)) => ?_)
                  ·
                    exact hk (1 : Int) (fx_up S 49 0 0 (0 : Int)) ⟨(fxfr_up fxfr_rfl rfl), by omega⟩
                  ·
                    exact hk (2 : Int) (fx_up S 49 0 0 (0 : Int)) ⟨(fxfr_up fxfr_rfl rfl), by omega⟩
                ·
                  refine c_at5 (n := n) g1 (show 0 ≤ n ∧ n < 60 by omega) (fun (z52 : Int) (q53 : z52 = aN S n 5 ∧ 0 ≤ z52 ∧ z52 ≤ 2) => ?_)
                  refine And.intro (fun (h54 : (z52 ≤ (0 : Int) : Prop)) => ?_) (fun (h54 : ((0 : Int) < z52 : Prop)) => ?_)
                  ·
                    exact hk (4 : Int) (fx_up S 49 0 0 (0 : Int)) ⟨(fxfr_up fxfr_rfl rfl), by omega⟩
                  ·
                    exact hk (3 : Int) (fx_up S 49 0 0 (0 : Int)) ⟨(fxfr_up fxfr_rfl rfl), by omega⟩
              ·
                exact hk (0 : Int) (fx_up S 49 0 0 (0 : Int)) ⟨(fxfr_up fxfr_rfl rfl), by omega⟩
            ·
              refine And.intro (fun (h55 : (w ≤ (2 : Int) : Prop)) => ?_) (fun (h55 : ((2 : Int) < w : Prop)) => ?_)
              ·
                refine And.intro (fun (h56 : w = (1 : Int)) => ?_) (fun (h56 : w ≠ (1 : Int)) => ?_)
                ·
                  refine And.intro (fun (h57 : (n ≠ (0 : Int) : Prop)) => ?_) (fun (h57 : (n = (0 : Int) : Prop)) => ?_)
                  ·
                    refine c_at1 (n := n) g1 (show 0 ≤ n ∧ n < 60 by omega) (fun (z58 : Int) (q59 : z58 = aN S n 1 ∧ -1 ≤ z58 ∧ z58 < 60) => ?_)
                    exact hk z58 (fx_up S 49 0 0 (0 : Int)) ⟨(fxfr_up fxfr_rfl rfl), by omega⟩
                  ·
                    exact hk (-2 : Int) (fx_up S 49 0 0 (0 : Int)) ⟨(fxfr_up fxfr_rfl rfl), by omega⟩
                refine And.intro (fun (h60 : w = (2 : Int)) => ?_) (fun (h60 : w ≠ (2 : Int)) => ?_)
                ·
                  refine c_StubHouseModel_depth (n := n) g1 g2 (show 0 ≤ n ∧ n < 60 by omega) (fun (z61 : Int) (q62 : z61 = (depF (ovf (S 50 0)) 60 n : Int) ∧ 0 ≤ z61 ∧ z61 ≤ 5) => ?_)
                  exact hk z61 (fx_up S 49 0 0 (0 : Int)) ⟨(fxfr_up fxfr_rfl rfl), by omega⟩
                refine And.intro (fun (h63 : w = (3 : Int)) => ?_) (fun (h63 : w ≠ (3 : Int)) => ?_)
                ·
                  refine c_at2 (n := n) g1 (show 0 ≤ n ∧ n < 60 by omega) (fun (z64 : Int) (q65 : z64 = aN S n 2 ∧ -2147483648 ≤ z64 ∧ z64 < 2147483648) => ?_)
                  exact hk z64 (fx_up S 49 0 0 (0 : Int)) ⟨(fxfr_up fxfr_rfl rfl), by omega⟩
                refine And.intro (fun (h66 : w = (4 : Int)) => ?_) (fun (h66 : w ≠ (4 : Int)) => ?_)
                ·
                  refine c_at3 (n := n) g1 (show 0 ≤ n ∧ n < 60 by omega) (fun (z67 : Int) (q68 : z67 = aN S n 3 ∧ 0 ≤ z67 ∧ z67 ≤ 1024) => ?_)
                  exact hk z67 (fx_up S 49 0 0 (0 : Int)) ⟨(fxfr_up fxfr_rfl rfl), by omega⟩
                refine And.intro (fun (h69 : w = (5 : Int)) => ?_) (fun (h69 : w ≠ (5 : Int)) => ?_)
                ·
                  refine c_at4 (n := n) g1 (show 0 ≤ n ∧ n < 60 by omega) (fun (z70 : Int) (q71 : z70 = aN S n 4 ∧ -2147483648 ≤ z70 ∧ z70 < 2147483648) => ?_)
                  exact hk z70 (fx_up S 49 0 0 (0 : Int)) ⟨(fxfr_up fxfr_rfl rfl), by omega⟩
                refine And.intro (fun (h72 : w = (6 : Int)) => ?_) (fun (h72 : w ≠ (6 : Int)) => ?_)
                ·
                  refine And.intro (show 0 ≤ n ∧ n < 60 by omega) ?_
                  intro z73 (z73a : (-2147483648 : Int) ≤ z73) (z73b : z73 ≤ (2147483647 : Int)) (z73c : z73 = S 52 0 (n).toNat)
                  exact hk z73 (fx_up S 49 0 0 (0 : Int)) ⟨(fxfr_up fxfr_rfl rfl), by omega⟩
                refine And.intro (fun (h74 : w = (7 : Int)) => ?_) (fun (h74 : w ≠ (7 : Int)) => ?_)
                ·
                  refine c_at5 (n := n) g1 (show 0 ≤ n ∧ n < 60 by omega) (fun (z75 : Int) (q76 : z75 = aN S n 5 ∧ 0 ≤ z75 ∧ z75 ≤ 2) => ?_)
                  exact hk z75 (fx_up S 49 0 0 (0 : Int)) ⟨(fxfr_up fxfr_rfl rfl), by omega⟩
                refine And.intro (fun (h77 : w = (8 : Int)) => ?_) (fun (h77 : w ≠ (8 : Int)) => ?_)
                ·
                  refine c_StubHouseModel_inStore (f := n) (s := (0 : Int)) g1 (show 0 ≤ n ∧ n < 60 by omega) (show -2147483648 ≤ (0 : Int) ∧ (0 : Int) < 2147483648 by omega) (fun (z78 : Int) (q79 : 0 ≤ z78 ∧ z78 ≤ 32 ∧ (0 < z78 → SOM n (0 : Int) (fx_up S 49 0 0 (0 : Int)))) => ?_)
                  exact hk z78 (fx_up S 49 0 0 (0 : Int)) ⟨(fxfr_up fxfr_rfl rfl), by omega⟩
                refine And.intro (fun (h80 : w = (9 : Int)) => ?_) (fun (h80 : w ≠ (9 : Int)) => ?_)
                ·
                  refine c_StubHouseModel_inStore (f := n) (s := (1 : Int)) g1 (show 0 ≤ n ∧ n < 60 by omega) (show -2147483648 ≤ (1 : Int) ∧ (1 : Int) < 2147483648 by omega) (fun (z81 : Int) (q82 : 0 ≤ z81 ∧ z81 ≤ 32 ∧ (0 < z81 → SOM n (1 : Int) (fx_up S 49 0 0 (0 : Int)))) => ?_)
                  exact hk z81 (fx_up S 49 0 0 (0 : Int)) ⟨(fxfr_up fxfr_rfl rfl), by omega⟩
                refine c_at3 (n := n) g1 (show 0 ≤ n ∧ n < 60 by omega) (fun (z83 : Int) (q84 : z83 = aN S n 3 ∧ 0 ≤ z83 ∧ z83 ≤ 1024) => ?_)
                refine And.intro (fun (h85 : (z83 ≠ (0 : Int) : Prop)) => ?_) (fun (h85 : (z83 = (0 : Int) : Prop)) => ?_)
                ·
                  refine c_StubHouseModel_isStub (n := n) g1 (show 0 ≤ n ∧ n < 60 by omega) (fun (z86 : Int) (q87 : 0 ≤ z86 ∧ z86 ≤ 1 ∧ (z86 = 1 → 0 < aN S n 3 ∧ aN S n 10 < 0) ∧ (z86 = 0 → aN S n 3 ≤ 0 ∨ 0 ≤ aN S n 10)) => ?_)
                  refine And.intro (fun (h88 : (z86 = (0 : Int) : Prop)) => ?_) (fun (h88 : (z86 ≠ (0 : Int) : Prop)) => ?_)
                  ·
                    refine c_StubHouseModel_hasCopies (n := n) g1 (show 0 ≤ n ∧ n < 60 by omega) (fun (z89 : Int) (q90 : 0 ≤ z89 ∧ z89 ≤ 1) => ?_)
                    refine And.intro (fun (h91 : (z89 = (0 : Int) : Prop)) => ?_) (fun (h91 : (z89 ≠ (0 : Int) : Prop)) => ?_)
                    ·
                      exact hk (1 : Int) (fx_up S 49 0 0 (0 : Int)) ⟨(fxfr_up fxfr_rfl rfl), by omega⟩
                    ·
                      exact hk (2 : Int) (fx_up S 49 0 0 (0 : Int)) ⟨(fxfr_up fxfr_rfl rfl), by omega⟩
                  ·
                    refine c_at5 (n := n) g1 (show 0 ≤ n ∧ n < 60 by omega) (fun (z92 : Int) (q93 : z92 = aN S n 5 ∧ 0 ≤ z92 ∧ z92 ≤ 2) => ?_)
                    refine And.intro (fun (h94 : (z92 ≤ (0 : Int) : Prop)) => ?_) (fun (h94 : ((0 : Int) < z92 : Prop)) => ?_)
                    ·
                      exact hk (4 : Int) (fx_up S 49 0 0 (0 : Int)) ⟨(fxfr_up fxfr_rfl rfl), by omega⟩
                    ·
                      exact hk (3 : Int) (fx_up S 49 0 0 (0 : Int)) ⟨(fxfr_up fxfr_rfl rfl), by omega⟩
                ·
                  exact hk (0 : Int) (fx_up S 49 0 0 (0 : Int)) ⟨(fxfr_up fxfr_rfl rfl), by omega⟩
              ·
                exact hk (-1 : Int) (fx_up S 49 0 0 (0 : Int)) ⟨(fxfr_up fxfr_rfl rfl), by omega⟩
        ·
          exact hk z11 (fx_up S 49 0 0 (0 : Int)) ⟨(fxfr_up fxfr_rfl rfl), by omega⟩
      ·
        exact hk (-1 : Int) (fx_up S 49 0 0 (0 : Int)) ⟨(fxfr_up fxfr_rfl rfl), by omega⟩
  ·
    exact hk (-8 : Int) (fx_up S 49 0 0 (0 : Int)) ⟨(fxfr_up fxfr_rfl rfl), by omega⟩
theorem c_StubHouseModel_name {l : Launch} {k : fxK} {S : fxS} {n : Int} (p0 : COL S) (p1 : -2147483648 ≤ n ∧ n < 2147483648) (hk : ∀ (r : Int) (S' : fxS) , (fxfr [(49, 0)] S S') → k (some (.inr (.inl r))) S') : fC l 126 [.inr (.inr (49, 0)), .inl n] S k := by
  refine fxe_126 (Nat.le_of_ble_eq_true rfl) (fxz_126 400 ?_)
  refine And.intro (show (-2147483648 : Int) ≤ (0 : Int) ∧ (0 : Int) ≤ (2147483647 : Int) by omega) ?_
  have g1 : COL (fx_up S 49 0 0 (0 : Int)) := fx_pup COL_stab rfl p0
  intro z2 (z2a : (0 : Int) ≤ z2) (z2b : z2 ≤ (1 : Int)) (z2c : z2 = S 49 0 15)
  refine And.intro (fun (h3 : (z2 ≠ (0 : Int) : Prop)) => ?_) (fun (h3 : (z2 = (0 : Int) : Prop)) => ?_)
  ·
    exact hk (0 : Int) (fx_up S 49 0 0 (0 : Int)) (fxfr_up fxfr_rfl rfl)
  ·
    refine c_StubHouseModel_in (x := n) (a := (1 : Int)) (b := (59 : Int))  (fun (z4 : Int) (q5 : 0 ≤ z4 ∧ z4 ≤ 1 ∧ (z4 = 1 → (1 : Int) ≤ n ∧ n ≤ (59 : Int)) ∧ (z4 = 0 → n < (1 : Int) ∨ (59 : Int) < n)) => ?_)
    refine And.intro (fun (h6 : (z4 = (0 : Int) : Prop)) => ?_) (fun (h6 : (z4 ≠ (0 : Int) : Prop)) => ?_)
    ·
      exact hk (0 : Int) (fx_up S 49 0 0 (0 : Int)) (fxfr_up fxfr_rfl rfl)
    ·
      refine c_at0 (n := n) g1 (show 0 ≤ n ∧ n < 60 by omega) (fun (z7 : Int) (q8 : z7 = aN S n 0 ∧ 0 ≤ z7 ∧ z7 ≤ 2) => ?_)
      refine And.intro (fun (h9 : (z7 ≠ (0 : Int) : Prop)) => ?_) (fun (h9 : (z7 = (0 : Int) : Prop)) => ?_)
      ·
        refine And.intro (show 0 ≤ n ∧ n < 60 by omega) ?_
        intro z10
        exact hk z10 (fx_up S 49 0 0 (0 : Int)) (fxfr_up fxfr_rfl rfl)
      ·
        exact hk (0 : Int) (fx_up S 49 0 0 (0 : Int)) (fxfr_up fxfr_rfl rfl)
theorem c_StubHouseModel_block {l : Launch} {k : fxK} {S : fxS} {f : Int} {i : Int} (p0 : COL S) (p1 : -2147483648 ≤ f ∧ f < 2147483648) (p2 : -2147483648 ≤ i ∧ i < 2147483648) (hk : ∀ (r : Int) (S' : fxS) , (fxfr [(49, 0)] S S' ∧ (-2147483648 ≤ r ∧ r < 2147483648)) → k (some (.inl r)) S') : fC l 128 [.inr (.inr (49, 0)), .inl f, .inl i] S k := by
  refine fxe_128 (Nat.le_of_ble_eq_true rfl) (fxz_128 400 ?_)
  refine And.intro (show (-2147483648 : Int) ≤ (0 : Int) ∧ (0 : Int) ≤ (2147483647 : Int) by omega) ?_
  have g1 : COL (fx_up S 49 0 0 (0 : Int)) := fx_pup COL_stab rfl p0
  intro z2 (z2a : (0 : Int) ≤ z2) (z2b : z2 ≤ (1 : Int)) (z2c : z2 = S 49 0 15)
  refine And.intro (fun (h3 : (z2 = (0 : Int) : Prop)) => ?_) (fun (h3 : (z2 ≠ (0 : Int) : Prop)) => ?_)
  ·
    refine c_StubHouseModel_isFile (n := f) g1 (show -2147483648 ≤ f ∧ f < 2147483648 by omega) (fun (z4 : Int) (q5 : 0 ≤ z4 ∧ z4 ≤ 1 ∧ (z4 = 1 → 0 ≤ f ∧ f < 60 ∧ aN S f 0 = 2)) => ?_)
    refine And.intro (fun (h6 : (z4 = (0 : Int) : Prop)) => ?_) (fun (h6 : (z4 ≠ (0 : Int) : Prop)) => ?_)
    ·
      exact hk (-1 : Int) (fx_up S 49 0 0 (0 : Int)) ⟨(fxfr_up fxfr_rfl rfl), by omega⟩
    ·
      refine c_StubHouseModel_blocks (n := f) g1 (show 0 ≤ f ∧ f < 60 by omega) (fun (z7 : Int) (q8 : z7 = (aN S f 3 + 31) / 32 ∧ 0 ≤ z7 ∧ z7 ≤ 32) => ?_)
      refine And.intro (show -2147483648 ≤ (z7 - (1 : Int)) ∧ (z7 - (1 : Int)) < 2147483648 by omega) ?_
      refine c_StubHouseModel_in (x := i) (a := (0 : Int)) (b := (z7 - (1 : Int)))  (fun (z9 : Int) (q10 : 0 ≤ z9 ∧ z9 ≤ 1 ∧ (z9 = 1 → (0 : Int) ≤ i ∧ i ≤ (z7 - (1 : Int))) ∧ (z9 = 0 → i < (0 : Int) ∨ (z7 - (1 : Int)) < i)) => ?_)
      refine And.intro (fun (h11 : (z9 ≠ (0 : Int) : Prop)) => ?_) (fun (h11 : (z9 = (0 : Int) : Prop)) => ?_)
      ·
        refine And.intro (show -2147483648 ≤ ((10 : Int) + i) ∧ ((10 : Int) + i) < 2147483648 by omega) ?_
        refine c_atb (n := f) (w := ((10 : Int) + i)) g1 (show 0 ≤ f ∧ f < 60 by omega) (show 10 ≤ ((10 : Int) + i) ∧ ((10 : Int) + i) < 42 by omega) (fun (z12 : Int) (q13 : z12 = aN S f ((10 : Int) + i) ∧ -1 ≤ z12 ∧ z12 ≤ 207) => ?_)
        refine And.intro (by decide) ?_
        refine And.intro (fun (h14 : ((0 : Int) ≤ z12 : Prop)) => ?_) (fun (h14 : (z12 < (0 : Int) : Prop)) => ?_)
        ·
          refine And.intro (fun (h15 : ((48 : Int) ≤ z12 : Prop)) => ?_) (fun (h15 : (z12 < (48 : Int) : Prop)) => ?_)
          ·
            refine And.intro (show -2147483648 ≤ ((1000 : Int) + z12) ∧ ((1000 : Int) + z12) < 2147483648 by omega) ?_
            refine And.intro (show -2147483648 ≤ (((1000 : Int) + z12) - (48 : Int)) ∧ (((1000 : Int) + z12) - (48 : Int)) < 2147483648 by omega) ?_
            exact hk (((1000 : Int) + z12) - (48 : Int)) (fx_up S 49 0 0 (0 : Int)) ⟨(fxfr_up fxfr_rfl rfl), by omega⟩
          ·
            exact hk z12 (fx_up S 49 0 0 (0 : Int)) ⟨(fxfr_up fxfr_rfl rfl), by omega⟩
        ·
          exact hk (-2 : Int) (fx_up S 49 0 0 (0 : Int)) ⟨(fxfr_up fxfr_rfl rfl), by omega⟩
      ·
        exact hk (-1 : Int) (fx_up S 49 0 0 (0 : Int)) ⟨(fxfr_up fxfr_rfl rfl), by omega⟩
  ·
    exact hk (-8 : Int) (fx_up S 49 0 0 (0 : Int)) ⟨(fxfr_up fxfr_rfl rfl), by omega⟩
theorem c_StubHouseModel_copy {l : Launch} {k : fxK} {S : fxS} {f : Int} {i : Int} {w : Int} (p0 : COL S) (p1 : -2147483648 ≤ f ∧ f < 2147483648) (p2 : -2147483648 ≤ i ∧ i < 2147483648) (p3 : -2147483648 ≤ w ∧ w < 2147483648) (hk : ∀ (r : Int) (S' : fxS) , (fxfr [(49, 0)] S S' ∧ (-2147483648 ≤ r ∧ r < 2147483648)) → k (some (.inl r)) S') : fC l 130 [.inr (.inr (49, 0)), .inl f, .inl i, .inl w] S k := by
  refine fxe_130 (Nat.le_of_ble_eq_true rfl) (fxz_130 400 ?_)
  refine And.intro (show (-2147483648 : Int) ≤ (0 : Int) ∧ (0 : Int) ≤ (2147483647 : Int) by omega) ?_
  have g1 : COL (fx_up S 49 0 0 (0 : Int)) := fx_pup COL_stab rfl p0
  intro z2 (z2a : (0 : Int) ≤ z2) (z2b : z2 ≤ (1 : Int)) (z2c : z2 = S 49 0 15)
  refine And.intro (fun (h3 : (z2 = (0 : Int) : Prop)) => ?_) (fun (h3 : (z2 ≠ (0 : Int) : Prop)) => ?_)
  ·
    refine c_StubHouseModel_isFile (n := f) g1 (show -2147483648 ≤ f ∧ f < 2147483648 by omega) (fun (z4 : Int) (q5 : 0 ≤ z4 ∧ z4 ≤ 1 ∧ (z4 = 1 → 0 ≤ f ∧ f < 60 ∧ aN S f 0 = 2)) => ?_)
    refine And.intro (fun (h6 : (z4 = (0 : Int) : Prop)) => ?_) (fun (h6 : (z4 ≠ (0 : Int) : Prop)) => ?_)
    ·
      exact hk (-1 : Int) (fx_up S 49 0 0 (0 : Int)) ⟨(fxfr_up fxfr_rfl rfl), by omega⟩
    ·
      refine c_StubHouseModel_in (x := i) (a := (0 : Int)) (b := (1 : Int))  (fun (z7 : Int) (q8 : 0 ≤ z7 ∧ z7 ≤ 1 ∧ (z7 = 1 → (0 : Int) ≤ i ∧ i ≤ (1 : Int)) ∧ (z7 = 0 → i < (0 : Int) ∨ (1 : Int) < i)) => ?_)
      refine And.intro (fun (h9 : (z7 = (0 : Int) : Prop)) => ?_) (fun (h9 : (z7 ≠ (0 : Int) : Prop)) => ?_)
      ·
        exact hk (-1 : Int) (fx_up S 49 0 0 (0 : Int)) ⟨(fxfr_up fxfr_rfl rfl), by omega⟩
      ·
        refine c_StubHouseModel_in (x := w) (a := (0 : Int)) (b := (1 : Int))  (fun (z10 : Int) (q11 : 0 ≤ z10 ∧ z10 ≤ 1 ∧ (z10 = 1 → (0 : Int) ≤ w ∧ w ≤ (1 : Int)) ∧ (z10 = 0 → w < (0 : Int) ∨ (1 : Int) < w)) => ?_)
        refine And.intro (fun (h12 : (z10 ≠ (0 : Int) : Prop)) => ?_) (fun (h12 : (z10 = (0 : Int) : Prop)) => ?_)
        ·
          refine c_at5 (n := f) g1 (show 0 ≤ f ∧ f < 60 by omega) (fun (z13 : Int) (q14 : z13 = aN S f 5 ∧ 0 ≤ z13 ∧ z13 ≤ 2) => ?_)
          refine And.intro (fun (h15 : (z13 ≤ i : Prop)) => ?_) (fun (h15 : (i < z13 : Prop)) => ?_)
          ·
            exact hk (-2 : Int) (fx_up S 49 0 0 (0 : Int)) ⟨(fxfr_up fxfr_rfl rfl), by omega⟩
          ·
            refine And.intro (show -2147483648 ≤ ((2 : Int) * i) ∧ ((2 : Int) * i) < 2147483648 by omega) ?_
            refine And.intro (show -2147483648 ≤ ((6 : Int) + ((2 : Int) * i)) ∧ ((6 : Int) + ((2 : Int) * i)) < 2147483648 by omega) ?_
            refine And.intro (show -2147483648 ≤ (((6 : Int) + ((2 : Int) * i)) + w) ∧ (((6 : Int) + ((2 : Int) * i)) + w) < 2147483648 by omega) ?_
            refine c_StubHouseModel_at (n := f) (w := (((6 : Int) + ((2 : Int) * i)) + w)) g1 (show 0 ≤ f ∧ f < 60 by omega) (show 0 ≤ (((6 : Int) + ((2 : Int) * i)) + w) ∧ (((6 : Int) + ((2 : Int) * i)) + w) < 42 by omega) (fun (z16 : Int) (q17 : z16 = aN S f (((6 : Int) + ((2 : Int) * i)) + w) ∧ ((((6 : Int) + ((2 : Int) * i)) + w) = 0 → 0 ≤ z16 ∧ z16 ≤ 2) ∧ ((((6 : Int) + ((2 : Int) * i)) + w) = 1 → -1 ≤ z16 ∧ z16 < 60) ∧ ((((6 : Int) + ((2 : Int) * i)) + w) = 3 → 0 ≤ z16 ∧ z16 ≤ 1024) ∧ ((((6 : Int) + ((2 : Int) * i)) + w) = 5 → 0 ≤ z16 ∧ z16 ≤ 2) ∧ ((((6 : Int) + ((2 : Int) * i)) + w) = 6 ∨ (((6 : Int) + ((2 : Int) * i)) + w) = 8 → 0 ≤ z16 ∧ z16 ≤ 5) ∧ ((((6 : Int) + ((2 : Int) * i)) + w) = 7 ∨ (((6 : Int) + ((2 : Int) * i)) + w) = 9 → 0 ≤ z16 ∧ z16 ≤ 6000) ∧ (10 ≤ (((6 : Int) + ((2 : Int) * i)) + w) → -1 ≤ z16 ∧ z16 ≤ 207)) => ?_)
            exact hk z16 (fx_up S 49 0 0 (0 : Int)) ⟨(fxfr_up fxfr_rfl rfl), by omega⟩
        ·
          exact hk (-1 : Int) (fx_up S 49 0 0 (0 : Int)) ⟨(fxfr_up fxfr_rfl rfl), by omega⟩
  ·
    exact hk (-8 : Int) (fx_up S 49 0 0 (0 : Int)) ⟨(fxfr_up fxfr_rfl rfl), by omega⟩
theorem c_StubHouseModel_copies {l : Launch} {k : fxK} {S : fxS} {n : Int} (p0 : -2147483648 ≤ n ∧ n < 2147483648) (hk : ∀ (r : Int) (S' : fxS) , (fxfr [(49, 0), (49, 18)] S S' ∧ (-2147483648 ≤ r ∧ r < 2147483648)) → k (some (.inl r)) S') : fC l 134 [.inr (.inr (49, 0)), .inl n] S k := by
  refine fxe_134 (Nat.le_of_ble_eq_true rfl) (fxz_134 400 ?_)
  refine And.intro (show (-2147483648 : Int) ≤ (0 : Int) ∧ (0 : Int) ≤ (2147483647 : Int) by omega) ?_
  refine c_StubHouseModel_in (x := n) (a := (1 : Int)) (b := (2 : Int))  (fun (z1 : Int) (q2 : 0 ≤ z1 ∧ z1 ≤ 1 ∧ (z1 = 1 → (1 : Int) ≤ n ∧ n ≤ (2 : Int)) ∧ (z1 = 0 → n < (1 : Int) ∨ (2 : Int) < n)) => ?_)
  refine And.intro (fun (h3 : (z1 ≠ (0 : Int) : Prop)) => ?_) (fun (h3 : (z1 = (0 : Int) : Prop)) => ?_)
  ·
    intro z4 (z4a : (1 : Int) ≤ z4) (z4b : z4 ≤ (2 : Int)) (z4c : z4 = S 49 0 18)
    refine And.intro (by decide) ?_
    refine And.intro (show (1 : Int) ≤ n ∧ n ≤ (2 : Int) by omega) ?_
    exact hk z4 (fx_up (fx_up S 49 0 0 (0 : Int)) 49 0 18 n) ⟨(fxfr_up (fxfr_up fxfr_rfl rfl) rfl), by omega⟩
  ·
    exact hk (-1 : Int) (fx_up S 49 0 0 (0 : Int)) ⟨(fxfr_up fxfr_rfl rfl), by omega⟩
theorem c_StubHouseModel_sync {l : Launch} {k : fxK} {S : fxS}  (p0 : COL S) (p1 : WTM S) (p2 : INJ S) (p3 : AON S) (p4 : USE S) (p5 : SNP S) (hk : ∀ (r : Int) (S' : fxS) , (fxfr [(49, 0), (49, 7), (53, 9999), (56, 9999), (58, 9999)] S S' ∧ (-2147483648 ≤ r ∧ r < 2147483648) ∧ (SNP S') ∧ (USE S')) → k (some (.inl r)) S') : fC l 136 [.inr (.inr (49, 0))] S k := by
  refine fxe_136 (Nat.le_of_ble_eq_true rfl) (fxz_136 400 ?_)
  refine And.intro (show (-2147483648 : Int) ≤ (0 : Int) ∧ (0 : Int) ≤ (2147483647 : Int) by omega) ?_
  have g1 : COL (fx_up S 49 0 0 (0 : Int)) := fx_pup COL_stab rfl p0
  have g2 : WTM (fx_up S 49 0 0 (0 : Int)) := fx_pup WTM_stab rfl p1
  have g3 : INJ (fx_up S 49 0 0 (0 : Int)) := fx_pup INJ_stab rfl p2
  have g4 : AON (fx_up S 49 0 0 (0 : Int)) := fx_pup AON_stab rfl p3
  have g5 : USE (fx_up S 49 0 0 (0 : Int)) := fx_pup USE_stab rfl p4
  have g6 : SNP (fx_up S 49 0 0 (0 : Int)) := fx_pup SNP_stab rfl p5
  intro z7 (z7a : (0 : Int) ≤ z7) (z7b : z7 ≤ (1 : Int)) (z7c : z7 = S 49 0 15)
  refine And.intro (fun (h8 : (z7 = (0 : Int) : Prop)) => ?_) (fun (h8 : (z7 ≠ (0 : Int) : Prop)) => ?_)
  ·
    refine c_StubHouseModel_syncAll  g1 g2 g3 g4 g5 (fun (z9 : Int) (S10 : fxS) ⟨(f11 : fxfr [(49, 7), (53, 9999), (56, 9999), (58, 9999)] (fx_up S 49 0 0 (0 : Int)) S10), (q12 : 0 ≤ z9 ∧ z9 ≤ 200 ∧ S10 49 0 7 = 0), (g13 : SNP S10), (g14 : USE S10), (g15 : UZ (fx_up S 49 0 0 (0 : Int)) S10)⟩ => ?_)
    have g16 : COL S10 := fx_pfr COL_stab f11 rfl g1
    have g17 : WTM S10 := fx_pfr WTM_stab f11 rfl g2
    have g18 : INJ S10 := fx_pfr INJ_stab f11 rfl g3
    have g19 : AON S10 := fx_pfr AON_stab f11 rfl g4
    exact hk z9 S10 ⟨(fxfr_tr (fxfr_up fxfr_rfl rfl) f11 rfl), by omega, g13, g14⟩
  ·
    exact hk (-8 : Int) (fx_up S 49 0 0 (0 : Int)) ⟨(fxfr_up fxfr_rfl rfl), by omega, g6, g5⟩
theorem z_StubHouseModel_stopAll {l : Launch} {k : fxK} {S : fxS}   (hk : ∀ (S' : fxS) , (fxfr [(49, 36), (49, 38), (49, 39), (49, 43), (70, 9999), (71, 9999), (72, 9999), (73, 9999), (79, 9999)] S S' ∧ (S' 49 0 36 = 0) ∧ (WNW S') ∧ (WNR S')) → k none S') : ∀ m : Nat, (∀ (d : Int) (S1 : fxS), (fxfr [(49, 36), (49, 38), (49, 39), (49, 43), (70, 9999), (71, 9999), (72, 9999), (73, 9999), (79, 9999)] S S1) → (0 ≤ d ∧ d ≤ 2) → ((1 ≤ d → S1 72 0 0 = 0) ∧ (2 ≤ d → S1 72 0 1 = 0)) → 3 - d ≤ (m : Int) → fZ l 149 k 2 [some (.inr (.inr (49, 0))), some (.inl d)] [] S1) := by
  intro m
  induction m with
  | zero =>
    intro d S1 hf i0 i1 hmu
    exfalso
    omega
  | succ m ih =>
    intro d S1 hf i0 i1 hmu
    refine fxz_149 400 ?_
    refine And.intro (fun (h1 : ((2 : Int) ≤ d : Prop)) => ?_) (fun (h1 : (d < (2 : Int) : Prop)) => ?_)
    ·
      refine And.intro (show (0 : Int) ≤ (0 : Int) ∧ (0 : Int) ≤ (60 : Int) by omega) ?_
      have w2 : (fx_up S1 49 0 36 (0 : Int)) 49 0 36 = (0 : Int) := fx_up_at _ _ _ _ _
      have w3 : (fx_up S1 49 0 36 (0 : Int)) 72 0 0 = S1 72 0 0 := rfl
      have w4 : (fx_up S1 49 0 36 (0 : Int)) 72 0 1 = S1 72 0 1 := rfl
      refine And.intro (show (0 : Int) ≤ (0 : Int) ∧ (0 : Int) ≤ (20 : Int) by omega) ?_
      have w5 : (fx_up (fx_up S1 49 0 36 (0 : Int)) 49 0 38 (0 : Int)) 49 0 36 = (fx_up S1 49 0 36 (0 : Int)) 49 0 36 := if_neg (fun q => absurd q.2.2 (by decide))
      have w6 : (fx_up (fx_up S1 49 0 36 (0 : Int)) 49 0 38 (0 : Int)) 72 0 0 = (fx_up S1 49 0 36 (0 : Int)) 72 0 0 := rfl
      have w7 : (fx_up (fx_up S1 49 0 36 (0 : Int)) 49 0 38 (0 : Int)) 72 0 1 = (fx_up S1 49 0 36 (0 : Int)) 72 0 1 := rfl
      refine And.intro (show (-2 : Int) ≤ (-2 : Int) ∧ (-2 : Int) ≤ (5 : Int) by omega) ?_
      have w8 : (fx_up (fx_up (fx_up S1 49 0 36 (0 : Int)) 49 0 38 (0 : Int)) 49 0 39 (-2 : Int)) 49 0 36 = (fx_up (fx_up S1 49 0 36 (0 : Int)) 49 0 38 (0 : Int)) 49 0 36 := if_neg (fun q => absurd q.2.2 (by decide))
      have w9 : (fx_up (fx_up (fx_up S1 49 0 36 (0 : Int)) 49 0 38 (0 : Int)) 49 0 39 (-2 : Int)) 72 0 0 = (fx_up (fx_up S1 49 0 36 (0 : Int)) 49 0 38 (0 : Int)) 72 0 0 := rfl
      have w10 : (fx_up (fx_up (fx_up S1 49 0 36 (0 : Int)) 49 0 38 (0 : Int)) 49 0 39 (-2 : Int)) 72 0 1 = (fx_up (fx_up S1 49 0 36 (0 : Int)) 49 0 38 (0 : Int)) 72 0 1 := rfl
      refine And.intro (show (0 : Int) ≤ (0 : Int) ∧ (0 : Int) ≤ (1 : Int) by omega) ?_
      have w11 : (fx_up (fx_up (fx_up (fx_up S1 49 0 36 (0 : Int)) 49 0 38 (0 : Int)) 49 0 39 (-2 : Int)) 49 0 43 (0 : Int)) 49 0 36 = (fx_up (fx_up (fx_up S1 49 0 36 (0 : Int)) 49 0 38 (0 : Int)) 49 0 39 (-2 : Int)) 49 0 36 := if_neg (fun q => absurd q.2.2 (by decide))
      have w12 : (fx_up (fx_up (fx_up (fx_up S1 49 0 36 (0 : Int)) 49 0 38 (0 : Int)) 49 0 39 (-2 : Int)) 49 0 43 (0 : Int)) 72 0 0 = (fx_up (fx_up (fx_up S1 49 0 36 (0 : Int)) 49 0 38 (0 : Int)) 49 0 39 (-2 : Int)) 72 0 0 := rfl
      have w13 : (fx_up (fx_up (fx_up (fx_up S1 49 0 36 (0 : Int)) 49 0 38 (0 : Int)) 49 0 39 (-2 : Int)) 49 0 43 (0 : Int)) 72 0 1 = (fx_up (fx_up (fx_up S1 49 0 36 (0 : Int)) 49 0 38 (0 : Int)) 49 0 39 (-2 : Int)) 72 0 1 := rfl
      refine And.intro (show 0 ≤ (0 : Int) ∧ (0 : Int) < 2 by omega) ?_
      refine And.intro (show (0 : Int) ≤ (0 : Int) ∧ (0 : Int) ≤ (1 : Int) by omega) ?_
      have w14 : (fx_up (fx_up (fx_up (fx_up (fx_up S1 49 0 36 (0 : Int)) 49 0 38 (0 : Int)) 49 0 39 (-2 : Int)) 49 0 43 (0 : Int)) 79 0 0 (0 : Int)) 49 0 36 = (fx_up (fx_up (fx_up (fx_up S1 49 0 36 (0 : Int)) 49 0 38 (0 : Int)) 49 0 39 (-2 : Int)) 49 0 43 (0 : Int)) 49 0 36 := rfl
      have w15 : (fx_up (fx_up (fx_up (fx_up (fx_up S1 49 0 36 (0 : Int)) 49 0 38 (0 : Int)) 49 0 39 (-2 : Int)) 49 0 43 (0 : Int)) 79 0 0 (0 : Int)) 72 0 0 = (fx_up (fx_up (fx_up (fx_up S1 49 0 36 (0 : Int)) 49 0 38 (0 : Int)) 49 0 39 (-2 : Int)) 49 0 43 (0 : Int)) 72 0 0 := rfl
      have w16 : (fx_up (fx_up (fx_up (fx_up (fx_up S1 49 0 36 (0 : Int)) 49 0 38 (0 : Int)) 49 0 39 (-2 : Int)) 49 0 43 (0 : Int)) 79 0 0 (0 : Int)) 72 0 1 = (fx_up (fx_up (fx_up (fx_up S1 49 0 36 (0 : Int)) 49 0 38 (0 : Int)) 49 0 39 (-2 : Int)) 49 0 43 (0 : Int)) 72 0 1 := rfl
      refine And.intro (show 0 ≤ (1 : Int) ∧ (1 : Int) < 2 by omega) ?_
      refine And.intro (show (0 : Int) ≤ (0 : Int) ∧ (0 : Int) ≤ (1 : Int) by omega) ?_
      have w17 : (fx_up (fx_up (fx_up (fx_up (fx_up (fx_up S1 49 0 36 (0 : Int)) 49 0 38 (0 : Int)) 49 0 39 (-2 : Int)) 49 0 43 (0 : Int)) 79 0 0 (0 : Int)) 79 0 1 (0 : Int)) 49 0 36 = (fx_up (fx_up (fx_up (fx_up (fx_up S1 49 0 36 (0 : Int)) 49 0 38 (0 : Int)) 49 0 39 (-2 : Int)) 49 0 43 (0 : Int)) 79 0 0 (0 : Int)) 49 0 36 := rfl
      have w18 : (fx_up (fx_up (fx_up (fx_up (fx_up (fx_up S1 49 0 36 (0 : Int)) 49 0 38 (0 : Int)) 49 0 39 (-2 : Int)) 49 0 43 (0 : Int)) 79 0 0 (0 : Int)) 79 0 1 (0 : Int)) 72 0 0 = (fx_up (fx_up (fx_up (fx_up (fx_up S1 49 0 36 (0 : Int)) 49 0 38 (0 : Int)) 49 0 39 (-2 : Int)) 49 0 43 (0 : Int)) 79 0 0 (0 : Int)) 72 0 0 := rfl
      have w19 : (fx_up (fx_up (fx_up (fx_up (fx_up (fx_up S1 49 0 36 (0 : Int)) 49 0 38 (0 : Int)) 49 0 39 (-2 : Int)) 49 0 43 (0 : Int)) 79 0 0 (0 : Int)) 79 0 1 (0 : Int)) 72 0 1 = (fx_up (fx_up (fx_up (fx_up (fx_up S1 49 0 36 (0 : Int)) 49 0 38 (0 : Int)) 49 0 39 (-2 : Int)) 49 0 43 (0 : Int)) 79 0 0 (0 : Int)) 72 0 1 := rfl
      exact hk (fx_up (fx_up (fx_up (fx_up (fx_up (fx_up S1 49 0 36 (0 : Int)) 49 0 38 (0 : Int)) 49 0 39 (-2 : Int)) 49 0 43 (0 : Int)) 79 0 0 (0 : Int)) 79 0 1 (0 : Int)) ⟨(fxfr_up (fxfr_up (fxfr_up (fxfr_up (fxfr_up (fxfr_up hf rfl) rfl) rfl) rfl) rfl) rfl), by omega, by first | exact WNW_n5 (by omega) (by omega) | exact WNR_of (by omega) (by omega), by first | exact WNW_n5 (by omega) (by omega) | exact WNR_of (by omega) (by omega)⟩
    ·
      refine And.intro (show 0 ≤ d ∧ d < 2 by omega) ?_
      refine And.intro (show (-2 : Int) ≤ (-2 : Int) ∧ (-2 : Int) ≤ (5 : Int) by omega) ?_
      have w20 : (fx_up S1 70 0 (d).toNat (-2 : Int)) 49 0 36 = S1 49 0 36 := rfl
      have w21 : (fx_up S1 70 0 (d).toNat (-2 : Int)) 72 0 0 = S1 72 0 0 := rfl
      have w22 : (fx_up S1 70 0 (d).toNat (-2 : Int)) 72 0 1 = S1 72 0 1 := rfl
      refine And.intro (show 0 ≤ d ∧ d < 2 by omega) ?_
      refine And.intro (show (0 : Int) ≤ (0 : Int) ∧ (0 : Int) ≤ (7100 : Int) by omega) ?_
      have w23 : (fx_up (fx_up S1 70 0 (d).toNat (-2 : Int)) 71 0 (d).toNat (0 : Int)) 49 0 36 = (fx_up S1 70 0 (d).toNat (-2 : Int)) 49 0 36 := rfl
      have w24 : (fx_up (fx_up S1 70 0 (d).toNat (-2 : Int)) 71 0 (d).toNat (0 : Int)) 72 0 0 = (fx_up S1 70 0 (d).toNat (-2 : Int)) 72 0 0 := rfl
      have w25 : (fx_up (fx_up S1 70 0 (d).toNat (-2 : Int)) 71 0 (d).toNat (0 : Int)) 72 0 1 = (fx_up S1 70 0 (d).toNat (-2 : Int)) 72 0 1 := rfl
      refine And.intro (show 0 ≤ d ∧ d < 2 by omega) ?_
      refine And.intro (show (0 : Int) ≤ (0 : Int) ∧ (0 : Int) ≤ (5 : Int) by omega) ?_
      have w26 : (fx_up (fx_up (fx_up S1 70 0 (d).toNat (-2 : Int)) 71 0 (d).toNat (0 : Int)) 72 0 (d).toNat (0 : Int)) 49 0 36 = (fx_up (fx_up S1 70 0 (d).toNat (-2 : Int)) 71 0 (d).toNat (0 : Int)) 49 0 36 := rfl
      have u0 : (d = 0 → (fx_up (fx_up (fx_up S1 70 0 (d).toNat (-2 : Int)) 71 0 (d).toNat (0 : Int)) 72 0 (d).toNat (0 : Int)) 72 0 0 = 0) ∧ (d ≠ 0 → (fx_up (fx_up (fx_up S1 70 0 (d).toNat (-2 : Int)) 71 0 (d).toNat (0 : Int)) 72 0 (d).toNat (0 : Int)) 72 0 0 = S1 72 0 0) := up_lit (k := 0) (by omega)
      have u1 : (d = 1 → (fx_up (fx_up (fx_up S1 70 0 (d).toNat (-2 : Int)) 71 0 (d).toNat (0 : Int)) 72 0 (d).toNat (0 : Int)) 72 0 1 = 0) ∧ (d ≠ 1 → (fx_up (fx_up (fx_up S1 70 0 (d).toNat (-2 : Int)) 71 0 (d).toNat (0 : Int)) 72 0 (d).toNat (0 : Int)) 72 0 1 = S1 72 0 1) := up_lit (k := 1) (by omega)
      refine And.intro (show 0 ≤ d ∧ d < 2 by omega) ?_
      refine And.intro (show (-2147483648 : Int) ≤ (0 : Int) ∧ (0 : Int) ≤ (2147483647 : Int) by omega) ?_
      have w27 : (fx_up (fx_up (fx_up (fx_up S1 70 0 (d).toNat (-2 : Int)) 71 0 (d).toNat (0 : Int)) 72 0 (d).toNat (0 : Int)) 73 0 (d).toNat (0 : Int)) 49 0 36 = (fx_up (fx_up (fx_up S1 70 0 (d).toNat (-2 : Int)) 71 0 (d).toNat (0 : Int)) 72 0 (d).toNat (0 : Int)) 49 0 36 := rfl
      have w28 : (fx_up (fx_up (fx_up (fx_up S1 70 0 (d).toNat (-2 : Int)) 71 0 (d).toNat (0 : Int)) 72 0 (d).toNat (0 : Int)) 73 0 (d).toNat (0 : Int)) 72 0 0 = (fx_up (fx_up (fx_up S1 70 0 (d).toNat (-2 : Int)) 71 0 (d).toNat (0 : Int)) 72 0 (d).toNat (0 : Int)) 72 0 0 := rfl
      have w29 : (fx_up (fx_up (fx_up (fx_up S1 70 0 (d).toNat (-2 : Int)) 71 0 (d).toNat (0 : Int)) 72 0 (d).toNat (0 : Int)) 73 0 (d).toNat (0 : Int)) 72 0 1 = (fx_up (fx_up (fx_up S1 70 0 (d).toNat (-2 : Int)) 71 0 (d).toNat (0 : Int)) 72 0 (d).toNat (0 : Int)) 72 0 1 := rfl
      refine And.intro (by decide) (And.intro (show -2147483648 ≤ d + (1 : Int) ∧ d + (1 : Int) < 2147483648 by omega) ?_)
      exact ih (d + (1 : Int)) (fx_up (fx_up (fx_up (fx_up S1 70 0 (d).toNat (-2 : Int)) 71 0 (d).toNat (0 : Int)) 72 0 (d).toNat (0 : Int)) 73 0 (d).toNat (0 : Int)) (fxfr_up (fxfr_up (fxfr_up (fxfr_up hf rfl) rfl) rfl) rfl) (by omega) (by omega) (by omega)
theorem c_StubHouseModel_stopAll {l : Launch} {k : fxK} {S : fxS}   (hk : ∀ (S' : fxS) , (fxfr [(49, 36), (49, 38), (49, 39), (49, 43), (70, 9999), (71, 9999), (72, 9999), (73, 9999), (79, 9999)] S S' ∧ (S' 49 0 36 = 0) ∧ (WNW S') ∧ (WNR S')) → k none S') : fC l 149 [.inr (.inr (49, 0))] S k := by
  refine fxe_149 (Nat.le_of_ble_eq_true rfl) (fxz_149 400 ?_)
  refine And.intro (by decide) ?_
  exact (z_StubHouseModel_stopAll  hk (3 - (0 : Int)).toNat) (0 : Int) S fxfr_rfl (by omega) (by omega) (by omega)
theorem z_StubHouseModel_files {l : Launch} {k : fxK} {S : fxS}  (p0 : COL S) (hk : ∀ (r : Int) , (0 ≤ r ∧ r ≤ 60) → k (some (.inl r)) S) : ∀ m : Nat, (∀ (u j : Int), (1 ≤ j ∧ j ≤ 60) → (0 ≤ u ∧ u < j) → 61 - j ≤ (m : Int) → fZ l 155 k 4 [some (.inr (.inr (49, 0))), some (.inl u), some (.inl j)] [] S) := by
  intro m
  induction m with
  | zero =>
    intro u j  i0 i1 hmu
    exfalso
    omega
  | succ m ih =>
    intro u j  i0 i1 hmu
    refine fxz_155 400 ?_
    refine And.intro (fun (h1 : ((60 : Int) ≤ j : Prop)) => ?_) (fun (h1 : (j < (60 : Int) : Prop)) => ?_)
    ·
      exact hk u (by omega)
    ·
      refine c_at0 (n := j) p0 (show 0 ≤ j ∧ j < 60 by omega) (fun (z2 : Int) (q3 : z2 = aN S j 0 ∧ 0 ≤ z2 ∧ z2 ≤ 2) => ?_)
      refine And.intro (fun (h4 : (z2 ≠ (2 : Int) : Prop)) => ?_) (fun (h4 : (z2 = (2 : Int) : Prop)) => ?_)
      ·
        refine And.intro (show -2147483648 ≤ (u + (0 : Int)) ∧ (u + (0 : Int)) < 2147483648 by omega) ?_
        refine And.intro (by decide) ?_
        refine And.intro (by decide) (And.intro (show -2147483648 ≤ j + (1 : Int) ∧ j + (1 : Int) < 2147483648 by omega) ?_)
        exact ih (u + (0 : Int)) (j + (1 : Int))  (by omega) (by omega) (by omega)
      ·
        refine And.intro (show -2147483648 ≤ (u + (1 : Int)) ∧ (u + (1 : Int)) < 2147483648 by omega) ?_
        refine And.intro (by decide) ?_
        refine And.intro (by decide) (And.intro (show -2147483648 ≤ j + (1 : Int) ∧ j + (1 : Int) < 2147483648 by omega) ?_)
        exact ih (u + (1 : Int)) (j + (1 : Int))  (by omega) (by omega) (by omega)
theorem c_StubHouseModel_files {l : Launch} {k : fxK} {S : fxS}  (p0 : COL S) (hk : ∀ (r : Int) , (0 ≤ r ∧ r ≤ 60) → k (some (.inl r)) S) : fC l 155 [.inr (.inr (49, 0))] S k := by
  refine fxe_155 (Nat.le_of_ble_eq_true rfl) (fxz_155 400 ?_)
  refine And.intro (by decide) ?_
  refine And.intro (by decide) ?_
  exact (z_StubHouseModel_files p0 hk (61 - (1 : Int)).toNat) (0 : Int) (1 : Int)  (by omega) (by omega) (by omega)
