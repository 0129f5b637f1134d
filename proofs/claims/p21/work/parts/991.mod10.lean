/-! contracts of the reference: the writing drive, begun and done -/
theorem c_StubHouseModel_goWriting {l : Launch} {k : fxK} {S : fxS} {w : Int} {d : Int} {t : Int} (p0 : COL S) (p1 : WTM S) (p2 : INJ S) (p3 : AON S) (p4 : WNR S) (p5 : BWP w d t S) (p6 : 0 ≤ w ∧ w ≤ 2) (p7 : 0 ≤ t ∧ t ≤ 5) (p8 : -2147483648 ≤ d ∧ d < 2147483648) (p9 : S 72 0 0 = 0) (hk : ∀ (S' : fxS) , (fxfr [(49, 13), (49, 49), (49, 51), (49, 53), (49, 54), (70, 9999), (71, 9999), (72, 9999), (73, 9999), (74, 9999), (78, 9999)] S S' ∧ (S' 72 0 1 = S 72 0 1) ∧ (WNR S') ∧ (WNW S')) → k none S') : fC l 276 [.inr (.inr (49, 0)), .inl w, .inl d, .inl t] S k := by
  refine fxe_276 (Nat.le_of_ble_eq_true rfl) (fxz_276 400 ?_)
  refine And.intro (show 0 ≤ (0 : Int) ∧ (0 : Int) < 2 by omega) ?_
  intro z1 (z1a : (-2 : Int) ≤ z1) (z1b : z1 ≤ (5 : Int)) (z1c : z1 = S 70 0 0)
  refine And.intro (by decide) ?_
  refine And.intro (fun (h2 : (z1 = t : Prop)) => ?_) (fun (h2 : (z1 ≠ t : Prop)) => ?_)
  ·
    refine And.intro (show 0 ≤ (0 : Int) ∧ (0 : Int) < 2 by omega) ?_
    intro z3 (z3a : (0 : Int) ≤ z3) (z3b : z3 ≤ (7100 : Int)) (z3c : z3 = S 71 0 0)
    refine And.intro (show 0 ≤ t ∧ t < 6 by omega) ?_
    intro z4 (z4a : (0 : Int) ≤ z4) (z4b : z4 ≤ (6000 : Int)) (z4c : z4 = S 63 0 (t).toNat)
    refine And.intro (fun (h5 : (z3 = z4 : Prop)) => ?_) (fun (h5 : (z3 ≠ z4 : Prop)) => ?_)
    ·
      refine c_StubHouseModel_beginWriting (w := w) (d := d) (t := t) p0 p1 p2 p3 p4 p5 (show 0 ≤ w ∧ w ≤ 2 by omega) (show 0 ≤ t ∧ t ≤ 5 by omega) (show -2147483648 ≤ d ∧ d < 2147483648 by omega) (fun (S6 : fxS) ⟨(f7 : fxfr [(49, 13), (49, 49), (49, 51), (49, 53), (49, 54), (72, 9999), (73, 9999), (78, 9999)] S S6), (q8 : S6 72 0 0 = 5 ∧ S 63 0 (t).toNat + S6 49 0 51 ≤ 6000 ∧ S6 49 0 51 ≤ 1200 ∧ S6 72 0 1 = S 72 0 1), (g9 : WNR S6)⟩ => ?_)
      have w10 : S6 70 0 0 = S 70 0 0 := f7 70 0 0 rfl
      have w11 : S6 70 0 1 = S 70 0 1 := f7 70 0 1 rfl
      have w12 : S6 63 0 (t).toNat = S 63 0 (t).toNat := f7 63 0 (t).toNat rfl
      have g13 : COL S6 := fx_pfr COL_stab f7 rfl p0
      have g14 : WTM S6 := fx_pfr WTM_stab f7 rfl p1
      have g15 : INJ S6 := fx_pfr INJ_stab f7 rfl p2
      have g16 : AON S6 := fx_pfr AON_stab f7 rfl p3
      have g17 : BWP w d t S6 := fx_pfr BWP_stab f7 rfl p5
      have ww : WNW S6 := WNW_5b (t := t) (by omega) (by omega) (by omega) (by omega) (by omega)
      exact hk S6 ⟨(fxfr_tr fxfr_rfl f7 rfl), by omega, g9, ww⟩
    ·
      refine And.intro (show 0 ≤ t ∧ t < 6 by omega) ?_
      intro z18 (z18a : (0 : Int) ≤ z18) (z18b : z18 ≤ (6000 : Int)) (z18c : z18 = S 63 0 (t).toNat)
      refine c_wind_0 (p := z18) p4 (show 0 ≤ z18 ∧ z18 ≤ 7100 by omega) (fun (S19 : fxS) ⟨(f20 : fxfr [(72, 9999), (73, 9999), (74, 9999)] S S19), (q21 : S19 72 0 0 = 3 ∧ S19 72 0 1 = S 72 0 1), (g22 : WNR S19)⟩ => ?_)
      have w23 : S19 70 0 0 = S 70 0 0 := f20 70 0 0 rfl
      have w24 : S19 70 0 1 = S 70 0 1 := f20 70 0 1 rfl
      have w25 : S19 63 0 (t).toNat = S 63 0 (t).toNat := f20 63 0 (t).toNat rfl
      have g26 : COL S19 := fx_pfr COL_stab f20 rfl p0
      have g27 : WTM S19 := fx_pfr WTM_stab f20 rfl p1
      have g28 : INJ S19 := fx_pfr INJ_stab f20 rfl p2
      have g29 : AON S19 := fx_pfr AON_stab f20 rfl p3
      have g30 : BWP w d t S19 := fx_pfr BWP_stab f20 rfl p5
      exact hk S19 ⟨(fxfr_tr fxfr_rfl f20 rfl), by omega, g22, by exact WNW_n5 (by omega) (by omega)⟩
  ·
    refine And.intro (fun (h31 : (z1 < (0 : Int) : Prop)) => ?_) (fun (h31 : ((0 : Int) ≤ z1 : Prop)) => ?_)
    ·
      refine c_mount_0 (t := t) p4 (show 0 ≤ t ∧ t ≤ 5 by omega) (fun (S32 : fxS) ⟨(f33 : fxfr [(70, 9999), (71, 9999), (72, 9999), (73, 9999)] S S32), (q34 : S32 72 0 0 = 1 ∧ S32 72 0 1 = S 72 0 1 ∧ S32 70 0 1 = S 70 0 1), (g35 : WNR S32)⟩ => ?_)
      have w36 : S32 63 0 (t).toNat = S 63 0 (t).toNat := f33 63 0 (t).toNat rfl
      have g37 : COL S32 := fx_pfr COL_stab f33 rfl p0
      have g38 : WTM S32 := fx_pfr WTM_stab f33 rfl p1
      have g39 : INJ S32 := fx_pfr INJ_stab f33 rfl p2
      have g40 : AON S32 := fx_pfr AON_stab f33 rfl p3
      have g41 : BWP w d t S32 := fx_pfr BWP_stab f33 rfl p5
      exact hk S32 ⟨(fxfr_tr fxfr_rfl f33 rfl), by omega, g35, by exact WNW_n5 (by omega) (by omega)⟩
    ·
      refine c_begin_0 (w := (2 : Int)) (s := (2 : Int)) p4 (show 0 ≤ (2 : Int) ∧ (2 : Int) ≤ 5 by omega) (show -2147483648 ≤ (2 : Int) ∧ (2 : Int) < 2147483648 by omega) (fun (S42 : fxS) ⟨(f43 : fxfr [(72, 9999), (73, 9999)] S S42), (q44 : S42 72 0 0 = (2 : Int) ∧ S42 72 0 1 = S 72 0 1), (g45 : WNR S42)⟩ => ?_)
      have w46 : S42 70 0 0 = S 70 0 0 := f43 70 0 0 rfl
      have w47 : S42 70 0 1 = S 70 0 1 := f43 70 0 1 rfl
      have w48 : S42 63 0 (t).toNat = S 63 0 (t).toNat := f43 63 0 (t).toNat rfl
      have g49 : COL S42 := fx_pfr COL_stab f43 rfl p0
      have g50 : WTM S42 := fx_pfr WTM_stab f43 rfl p1
      have g51 : INJ S42 := fx_pfr INJ_stab f43 rfl p2
      have g52 : AON S42 := fx_pfr AON_stab f43 rfl p3
      have g53 : BWP w d t S42 := fx_pfr BWP_stab f43 rfl p5
      exact hk S42 ⟨(fxfr_tr fxfr_rfl f43 rfl), by omega, g45, by exact WNW_n5 (by omega) (by omega)⟩
theorem z_StubHouseModel_writerBegins {l : Launch} {k : fxK} {S : fxS}  (p0 : COL S) (p1 : WTM S) (p2 : INJ S) (p3 : AON S) (p4 : WNR S) (p5 : S 72 0 0 = 0) (hk : ∀ (S' : fxS) , (fxfr [(49, 13), (49, 38), (49, 49), (49, 51), (49, 53), (49, 54), (70, 9999), (71, 9999), (72, 9999), (73, 9999), (74, 9999), (76, 9999), (78, 9999)] S S' ∧ (S' 72 0 1 = S 72 0 1) ∧ (WNR S') ∧ (WNW S')) → k none S') : ∀ m : Nat, (∀ (w d t e b : Int) (S1 : fxS), (fxfr [(49, 13), (49, 38), (49, 49), (49, 51), (49, 53), (49, 54), (70, 9999), (71, 9999), (72, 9999), (73, 9999), (74, 9999), (76, 9999), (78, 9999)] S S1) → (-2 ≤ w ∧ w ≤ 2 ∧ (0 ≤ t → 0 ≤ w)) → (-2147483648 ≤ d ∧ d < 2147483648) → (-2 ≤ t ∧ t ≤ 5) → (-2 ≤ e ∧ e < 2147483648 ∧ (b = 1 → 0 ≤ e)) → (0 ≤ b ∧ b ≤ 1) → (S1 72 0 0 = 0 ∧ S1 72 0 1 = S 72 0 1) → (COL S1) → (WTM S1) → (INJ S1) → (AON S1) → (WNR S1) → (WTG S1) → (BWC w d t S1) → b * 100000000000000 + (4294967296 - e) * 1000 + 999 ≤ (m : Int) → fZ l 277 k 34 [some (.inr (.inr (49, 0))), some (.inl w), some (.inl d), some (.inl t), some (.inl e), some (.inl b), none, none, none] [] S1) ∧ (∀ (e y j : Int) (S1 : fxS), (fxfr [(49, 13), (49, 38), (49, 49), (49, 51), (49, 53), (49, 54), (70, 9999), (71, 9999), (72, 9999), (73, 9999), (74, 9999), (76, 9999), (78, 9999)] S S1) → (0 ≤ e ∧ e < 2147483648) → (-2 ≤ y ∧ y < 2147483648 ∧ (0 ≤ y → e < y)) → (0 ≤ j ∧ j ≤ 40) → (S1 72 0 0 = 0 ∧ S1 72 0 1 = S 72 0 1) → (COL S1) → (WTM S1) → (INJ S1) → (AON S1) → (WNR S1) → (WTG S1) → 100000000000000 + (4294967296 - e) * 1000 + 500 - j ≤ (m : Int) → fZ l 277 k 50 [some (.inr (.inr (49, 0))), none, none, none, some (.inl e), none, some (.inl y), some (.inl j), none] [] S1) ∧ (∀ (w d t j : Int) (S1 : fxS), (fxfr [(49, 13), (49, 38), (49, 49), (49, 51), (49, 53), (49, 54), (70, 9999), (71, 9999), (72, 9999), (73, 9999), (74, 9999), (76, 9999), (78, 9999)] S S1) → (-2 ≤ w ∧ w ≤ 2 ∧ (0 ≤ t → 0 ≤ w)) → (-2147483648 ≤ d ∧ d < 2147483648) → (-2 ≤ t ∧ t ≤ 5) → (0 ≤ j ∧ j ≤ 20) → (S1 72 0 0 = 0 ∧ S1 72 0 1 = S 72 0 1) → (COL S1) → (WTM S1) → (INJ S1) → (AON S1) → (WNR S1) → (WTG S1) → (BWC w d t S1) → 100 - j ≤ (m : Int) → fZ l 277 k 197 [some (.inr (.inr (49, 0))), some (.inl w), some (.inl d), some (.inl t), none, none, some (.inl j), none, none] [] S1) := by
  intro m
  induction m with
  | zero =>
    refine ⟨?_, ?_, ?_⟩
    · intro w d t e b S1 hf i0 i1 i2 i3 i4 i5 i6 i7 i8 i9 i10 i11 i12 hmu
      exfalso
      omega
    · intro e y j S1 hf i0 i1 i2 i3 i4 i5 i6 i7 i8 i9 hmu
      exfalso
      omega
    · intro w d t j S1 hf i0 i1 i2 i3 i4 i5 i6 i7 i8 i9 i10 i11 hmu
      exfalso
      omega
  | succ m ih =>
    refine ⟨?_, ?_, ?_⟩
    · intro w d t e b S1 hf i0 i1 i2 i3 i4 i5 i6 i7 i8 i9 i10 i11 i12 hmu
      refine fxz_277 400 ?_
      refine And.intro (fun (h1 : (b = (0 : Int) : Prop)) => ?_) (fun (h1 : (b ≠ (0 : Int) : Prop)) => ?_)
      ·
        refine And.intro (fun (h2 : ((0 : Int) ≤ t : Prop)) => ?_) (fun (h2 : (t < (0 : Int) : Prop)) => ?_)
        ·
          refine And.intro (by decide) ?_
          exact ih.2.2 w d t (0 : Int) S1 hf (by omega) (by omega) (by omega) (by omega) (by omega) i6 i7 i8 i9 i10 i11 i12 (by omega)
        ·
          intro z3 (z3a : (0 : Int) ≤ z3) (z3b : z3 ≤ (1 : Int)) (z3c : z3 = S1 49 0 43)
          refine And.intro (fun (h4 : (z3 = (0 : Int) : Prop)) => ?_) (fun (h4 : (z3 ≠ (0 : Int) : Prop)) => ?_)
          ·
            refine And.intro (by decide) ?_
            exact ih.2.2 w d t (0 : Int) S1 hf (by omega) (by omega) (by omega) (by omega) (by omega) i6 i7 i8 i9 i10 i11 i12 (by omega)
          ·
            refine c_StubHouseModel_fileOfRead  i6 (fun (z5 : Int) (q6 : -2 ≤ z5 ∧ z5 < 60 ∧ z5 ≠ -1 ∧ z5 ≠ 0 ∧ (0 ≤ z5 → aN S1 z5 0 = 2 ∧ CATR z5 S1)) => ?_)
            intro z7 (z7a : (0 : Int) ≤ z7) (z7b : z7 ≤ (1089 : Int)) (z7c : z7 = S1 49 0 45)
            refine c_StubHouseModel_tapeFor (f := z5) (z := z7) i6 (show -2 ≤ z5 ∧ z5 < 60 by omega) (show 0 ≤ z7 ∧ z7 ≤ 2000 by omega) (fun (z8 : Int) (q9 : -2 ≤ z8 ∧ z8 ≤ 5 ∧ z8 ≠ -1 ∧ (0 ≤ z8 → ((S1 63 0 (z8).toNat = 0 → 8 + z7 ≤ 6000) ∧ (S1 63 0 (z8).toNat ≠ 0 → S1 63 0 (z8).toNat + z7 ≤ 6000)))) => ?_)
            refine And.intro (by decide) ?_
            refine And.intro (by decide) ?_
            intro z10 (z10a : (-2147483648 : Int) ≤ z10) (z10b : z10 ≤ (2147483647 : Int)) (z10c : z10 = S1 49 0 47)
            refine And.intro (by decide) ?_
            have bw : BWC (1 : Int) z10 z8 S1 := fun h => ⟨fun e => absurd e (by decide), fun _ => (⟨by omega, by omega, by omega⟩ : ((S1 63 0 (z8).toNat = 0 → 8 + S1 49 0 45 ≤ 6000) ∧ (S1 63 0 (z8).toNat ≠ 0 → S1 63 0 (z8).toNat + S1 49 0 45 ≤ 6000)) ∧ 0 ≤ S1 49 0 45 ∧ S1 49 0 45 ≤ 1089), fun e => absurd e (by decide)⟩
            refine And.intro (by decide) ?_
            exact ih.2.2 (1 : Int) z10 z8 (0 : Int) S1 hf (by omega) (by omega) (by omega) (by omega) (by omega) i6 i7 i8 i9 i10 i11 bw (by omega)
      ·
        refine And.intro (fun (h11 : ((0 : Int) ≤ t : Prop)) => ?_) (fun (h11 : (t < (0 : Int) : Prop)) => ?_)
        ·
          refine And.intro (fun (h12 : ((0 : Int) ≤ t : Prop)) => ?_) (fun (h12 : (t < (0 : Int) : Prop)) => ?_)
          ·
            refine And.intro (by decide) ?_
            exact ih.2.2 w d t (0 : Int) S1 hf (by omega) (by omega) (by omega) (by omega) (by omega) i6 i7 i8 i9 i10 i11 i12 (by omega)
          ·
            intro z13 (z13a : (0 : Int) ≤ z13) (z13b : z13 ≤ (1 : Int)) (z13c : z13 = S1 49 0 43)
            refine And.intro (fun (h14 : (z13 = (0 : Int) : Prop)) => ?_) (fun (h14 : (z13 ≠ (0 : Int) : Prop)) => ?_)
            ·
              refine And.intro (by decide) ?_
              exact ih.2.2 w d t (0 : Int) S1 hf (by omega) (by omega) (by omega) (by omega) (by omega) i6 i7 i8 i9 i10 i11 i12 (by omega)
            ·
              refine c_StubHouseModel_fileOfRead  i6 (fun (z15 : Int) (q16 : -2 ≤ z15 ∧ z15 < 60 ∧ z15 ≠ -1 ∧ z15 ≠ 0 ∧ (0 ≤ z15 → aN S1 z15 0 = 2 ∧ CATR z15 S1)) => ?_)
              intro z17 (z17a : (0 : Int) ≤ z17) (z17b : z17 ≤ (1089 : Int)) (z17c : z17 = S1 49 0 45)
              refine c_StubHouseModel_tapeFor (f := z15) (z := z17) i6 (show -2 ≤ z15 ∧ z15 < 60 by omega) (show 0 ≤ z17 ∧ z17 ≤ 2000 by omega) (fun (z18 : Int) (q19 : -2 ≤ z18 ∧ z18 ≤ 5 ∧ z18 ≠ -1 ∧ (0 ≤ z18 → ((S1 63 0 (z18).toNat = 0 → 8 + z17 ≤ 6000) ∧ (S1 63 0 (z18).toNat ≠ 0 → S1 63 0 (z18).toNat + z17 ≤ 6000)))) => ?_)
              refine And.intro (by decide) ?_
              refine And.intro (by decide) ?_
              intro z20 (z20a : (-2147483648 : Int) ≤ z20) (z20b : z20 ≤ (2147483647 : Int)) (z20c : z20 = S1 49 0 47)
              refine And.intro (by decide) ?_
              have bw : BWC (1 : Int) z20 z18 S1 := fun h => ⟨fun e => absurd e (by decide), fun _ => (⟨by omega, by omega, by omega⟩ : ((S1 63 0 (z18).toNat = 0 → 8 + S1 49 0 45 ≤ 6000) ∧ (S1 63 0 (z18).toNat ≠ 0 → S1 63 0 (z18).toNat + S1 49 0 45 ≤ 6000)) ∧ 0 ≤ S1 49 0 45 ∧ S1 49 0 45 ≤ 1089), fun e => absurd e (by decide)⟩
              refine And.intro (by decide) ?_
              exact ih.2.2 (1 : Int) z20 z18 (0 : Int) S1 hf (by omega) (by omega) (by omega) (by omega) (by omega) i6 i7 i8 i9 i10 i11 bw (by omega)
        ·
          refine And.intro (by decide) ?_
          refine And.intro (by decide) ?_
          exact ih.2.1 e (-2 : Int) (0 : Int) S1 hf (by omega) (by omega) (by omega) (by omega) i6 i7 i8 i9 i10 i11 (by omega)
    · intro e y j S1 hf i0 i1 i2 i3 i4 i5 i6 i7 i8 i9 hmu
      refine fxz_277 400 ?_
      refine And.intro (show 0 ≤ (2520 : Int) ∧ (2520 : Int) < 2561 by omega) ?_
      intro z21 (z21a : (-2147483648 : Int) ≤ z21) (z21b : z21 ≤ (2147483647 : Int)) (z21c : z21 = S1 50 0 2520)
      have dl0 := COL_dels i4
      refine And.intro (fun (h22 : (z21 ≤ j : Prop)) => ?_) (fun (h22 : (j < z21 : Prop)) => ?_)
      ·
        refine And.intro (fun (h23 : (y < (0 : Int) : Prop)) => ?_) (fun (h23 : ((0 : Int) ≤ y : Prop)) => ?_)
        ·
          refine And.intro (by decide) ?_
          refine And.intro (by decide) ?_
          refine And.intro (fun _ => ?_) (fun h => absurd h (by decide))
          refine And.intro (by decide) ?_
          refine And.intro (by decide) ?_
          refine And.intro (by decide) ?_
          have bw : BWC (0 : Int) y (-2 : Int) S1 := fun h => ⟨fun _ => (by omega : ((S1 63 0 ((-2 : Int)).toNat = 0 → 8 + (21 : Int) ≤ 6000) ∧ (S1 63 0 ((-2 : Int)).toNat ≠ 0 → S1 63 0 ((-2 : Int)).toNat + (21 : Int) ≤ 6000))), fun e => absurd e (by decide), fun e => absurd e (by decide)⟩
          exact ih.1 (0 : Int) y (-2 : Int) y (0 : Int) S1 hf (by omega) (by omega) (by omega) (by omega) (by omega) (by omega) i4 i5 i6 i7 i8 i9 bw (by omega)
        ·
          refine And.intro (by decide) ?_
          refine And.intro (by decide) ?_
          refine And.intro (fun h => absurd h (by decide)) (fun _ => ?_)
          refine c_StubHouseModel_tapeFor (f := (-2 : Int)) (z := (21 : Int)) i4 (show -2 ≤ (-2 : Int) ∧ (-2 : Int) < 60 by omega) (show 0 ≤ (21 : Int) ∧ (21 : Int) ≤ 2000 by omega) (fun (z24 : Int) (q25 : -2 ≤ z24 ∧ z24 ≤ 5 ∧ z24 ≠ -1 ∧ (0 ≤ z24 → ((S1 63 0 (z24).toNat = 0 → 8 + (21 : Int) ≤ 6000) ∧ (S1 63 0 (z24).toNat ≠ 0 → S1 63 0 (z24).toNat + (21 : Int) ≤ 6000)))) => ?_)
          refine And.intro (by decide) ?_
          refine And.intro (by decide) ?_
          refine And.intro (by decide) ?_
          have bw : BWC (0 : Int) y z24 S1 := fun h => ⟨fun _ => (by omega : ((S1 63 0 (z24).toNat = 0 → 8 + (21 : Int) ≤ 6000) ∧ (S1 63 0 (z24).toNat ≠ 0 → S1 63 0 (z24).toNat + (21 : Int) ≤ 6000))), fun e => absurd e (by decide), fun e => absurd e (by decide)⟩
          exact ih.1 (0 : Int) y z24 y (1 : Int) S1 hf (by omega) (by omega) (by omega) (by omega) (by omega) (by omega) i4 i5 i6 i7 i8 i9 bw (by omega)
      ·
        refine And.intro (show -2147483648 ≤ ((2521 : Int) + j) ∧ ((2521 : Int) + j) < 2147483648 by omega) ?_
        refine And.intro (show 0 ≤ ((2521 : Int) + j) ∧ ((2521 : Int) + j) < 2561 by omega) ?_
        intro z26 (z26a : (-2147483648 : Int) ≤ z26) (z26b : z26 ≤ (2147483647 : Int)) (z26c : z26 = S1 50 0 (((2521 : Int) + j)).toNat)
        refine And.intro (by decide) ?_
        refine And.intro (show 0 ≤ j ∧ j < 40 by omega) ?_
        intro z27 (z27a : (0 : Int) ≤ z27) (z27b : z27 ≤ (1 : Int)) (z27c : z27 = S1 58 0 (j).toNat)
        refine And.intro (fun (h28 : (z27 = (0 : Int) : Prop)) => ?_) (fun (h28 : (z27 ≠ (0 : Int) : Prop)) => ?_)
        ·
          refine And.intro (by decide) ?_
          refine And.intro (by decide) (And.intro (show -2147483648 ≤ j + (1 : Int) ∧ j + (1 : Int) < 2147483648 by omega) ?_)
          exact ih.2.1 e y (j + (1 : Int)) S1 hf (by omega) (by omega) (by omega) (by omega) i4 i5 i6 i7 i8 i9 (by omega)
        ·
          refine And.intro (fun (h30 : (z26 ≤ e : Prop)) => ?_) (fun (h30 : (e < z26 : Prop)) => ?_)
          ·
            refine And.intro (by decide) ?_
            refine And.intro (by decide) (And.intro (show -2147483648 ≤ j + (1 : Int) ∧ j + (1 : Int) < 2147483648 by omega) ?_)
            exact ih.2.1 e y (j + (1 : Int)) S1 hf (by omega) (by omega) (by omega) (by omega) i4 i5 i6 i7 i8 i9 (by omega)
          ·
            refine And.intro (fun (h32 : (y < (0 : Int) : Prop)) => ?_) (fun (h32 : ((0 : Int) ≤ y : Prop)) => ?_)
            ·
              refine And.intro (by decide) ?_
              refine And.intro (by decide) (And.intro (show -2147483648 ≤ j + (1 : Int) ∧ j + (1 : Int) < 2147483648 by omega) ?_)
              exact ih.2.1 e z26 (j + (1 : Int)) S1 hf (by omega) (by omega) (by omega) (by omega) i4 i5 i6 i7 i8 i9 (by omega)
            ·
              refine And.intro (fun (h34 : (y ≤ z26 : Prop)) => ?_) (fun (h34 : (z26 < y : Prop)) => ?_)
              ·
                refine And.intro (by decide) ?_
                refine And.intro (by decide) (And.intro (show -2147483648 ≤ j + (1 : Int) ∧ j + (1 : Int) < 2147483648 by omega) ?_)
                exact ih.2.1 e y (j + (1 : Int)) S1 hf (by omega) (by omega) (by omega) (by omega) i4 i5 i6 i7 i8 i9 (by omega)
              ·
                refine And.intro (by decide) ?_
                refine And.intro (by decide) (And.intro (show -2147483648 ≤ j + (1 : Int) ∧ j + (1 : Int) < 2147483648 by omega) ?_)
                exact ih.2.1 e z26 (j + (1 : Int)) S1 hf (by omega) (by omega) (by omega) (by omega) i4 i5 i6 i7 i8 i9 (by omega)
    · intro w d t j S1 hf i0 i1 i2 i3 i4 i5 i6 i7 i8 i9 i10 i11 hmu
      refine fxz_277 400 ?_
      intro z37 (z37a : (0 : Int) ≤ z37) (z37b : z37 ≤ (20 : Int)) (z37c : z37 = S1 49 0 38)
      refine And.intro (fun (h38 : (z37 ≤ j : Prop)) => ?_) (fun (h38 : (j < z37 : Prop)) => ?_)
      ·
        refine And.intro (fun (h39 : (t < (0 : Int) : Prop)) => ?_) (fun (h39 : ((0 : Int) ≤ t : Prop)) => ?_)
        ·
          exact hk S1 ⟨hf, by omega, i9, by exact WNW_n5 (by omega) (by omega)⟩
        ·
          have bp : BWP w d t S1 := i11 (by omega)
          refine c_StubHouseModel_goWriting (w := w) (d := d) (t := t) i5 i6 i7 i8 i9 bp (show 0 ≤ w ∧ w ≤ 2 by omega) (show 0 ≤ t ∧ t ≤ 5 by omega) (show -2147483648 ≤ d ∧ d < 2147483648 by omega) (show S1 72 0 0 = 0 by omega) (fun (S40 : fxS) ⟨(f41 : fxfr [(49, 13), (49, 49), (49, 51), (49, 53), (49, 54), (70, 9999), (71, 9999), (72, 9999), (73, 9999), (74, 9999), (78, 9999)] S1 S40), (q42 : S40 72 0 1 = S1 72 0 1), (g43 : WNR S40), (g44 : WNW S40)⟩ => ?_)
          have w45 : S40 49 0 45 = S1 49 0 45 := f41 49 0 45 rfl
          have g46 : COL S40 := fx_pfr COL_stab f41 rfl i5
          have g47 : WTM S40 := fx_pfr WTM_stab f41 rfl i6
          have g48 : INJ S40 := fx_pfr INJ_stab f41 rfl i7
          have g49 : AON S40 := fx_pfr AON_stab f41 rfl i8
          have g50 : WTG S40 := fx_pfr WTG_stab f41 rfl i10
          have g51 : BWC w d t S40 := fx_pfr BWC_stab f41 rfl i11
          have g52 : BWP w d t S40 := fx_pfr BWP_stab f41 rfl bp
          exact hk S40 ⟨(fxfr_tr hf f41 rfl), by omega, g43, g44⟩
      ·
        refine And.intro (fun (h53 : ((0 : Int) ≤ t : Prop)) => ?_) (fun (h53 : (t < (0 : Int) : Prop)) => ?_)
        ·
          refine And.intro (fun (h54 : (t < (0 : Int) : Prop)) => ?_) (fun (h54 : ((0 : Int) ≤ t : Prop)) => ?_)
          ·
            exact hk S1 ⟨hf, by omega, i9, by exact WNW_n5 (by omega) (by omega)⟩
          ·
            have bp : BWP w d t S1 := i11 (by omega)
            refine c_StubHouseModel_goWriting (w := w) (d := d) (t := t) i5 i6 i7 i8 i9 bp (show 0 ≤ w ∧ w ≤ 2 by omega) (show 0 ≤ t ∧ t ≤ 5 by omega) (show -2147483648 ≤ d ∧ d < 2147483648 by omega) (show S1 72 0 0 = 0 by omega) (fun (S55 : fxS) ⟨(f56 : fxfr [(49, 13), (49, 49), (49, 51), (49, 53), (49, 54), (70, 9999), (71, 9999), (72, 9999), (73, 9999), (74, 9999), (78, 9999)] S1 S55), (q57 : S55 72 0 1 = S1 72 0 1), (g58 : WNR S55), (g59 : WNW S55)⟩ => ?_)
            have w60 : S55 49 0 45 = S1 49 0 45 := f56 49 0 45 rfl
            have g61 : COL S55 := fx_pfr COL_stab f56 rfl i5
            have g62 : WTM S55 := fx_pfr WTM_stab f56 rfl i6
            have g63 : INJ S55 := fx_pfr INJ_stab f56 rfl i7
            have g64 : AON S55 := fx_pfr AON_stab f56 rfl i8
            have g65 : WTG S55 := fx_pfr WTG_stab f56 rfl i10
            have g66 : BWC w d t S55 := fx_pfr BWC_stab f56 rfl i11
            have g67 : BWP w d t S55 := fx_pfr BWP_stab f56 rfl bp
            exact hk S55 ⟨(fxfr_tr hf f56 rfl), by omega, g58, g59⟩
        ·
          refine And.intro (show 0 ≤ j ∧ j < 20 by omega) ?_
          intro z68 (z68a : (-2147483648 : Int) ≤ z68) (z68b : z68 ≤ (2147483647 : Int)) (z68c : z68 = S1 76 0 (j).toNat)
          refine c_StubHouseModel_fileOf (d := z68) i5 (show -2147483648 ≤ z68 ∧ z68 < 2147483648 by omega) (fun (z69 : Int) (q70 : -2 ≤ z69 ∧ z69 < 60 ∧ z69 ≠ -1 ∧ z69 ≠ 0 ∧ (0 ≤ z69 → aN S1 z69 0 = 2 ∧ aN S1 z69 2 = z68) ∧ FOF z68 z69 S1) => ?_)
          have wt : ∃ f : Int, FOF (S1 76 0 (j).toNat) f S1 ∧ (1 ≤ f ∧ f < 60) ∧ aN S1 f 0 = 2 ∧ 0 < aN S1 f 3 ∧ 0 ≤ aN S1 f 10 := i10 (j).toNat (by omega)
          obtain ⟨f0, b1, b2, b3, b4, b5⟩ := wt
          have fe : z69 = f0 := (FOF_un b1 (by have e := q70.2.2.2.2.2; rwa [show z68 = S1 76 0 (j).toNat by omega] at e)).symm
          subst fe
          have fo2 : ∀ x : Int, x = S1 76 0 (j).toNat → FOF x z69 S1 := fun x h => by rw [h]; exact b1
          refine And.intro (by decide) ?_
          refine c_StubHouseModel_fileSegment (f := z69) i5 i6 (show 0 ≤ z69 ∧ z69 < 60 by omega) (fun (z71 : Int) (q72 : z71 = 25 + 8 * (depF (ovf (S1 50 0)) 60 z69 : Int) + aN S1 z69 3 ∧ (depF (ovf (S1 50 0)) 60 z69 : Int) ≤ 5 ∧ 0 ≤ aN S1 z69 3 ∧ aN S1 z69 3 ≤ 1024) => ?_)
          refine c_StubHouseModel_tapeFor (f := z69) (z := z71) i5 (show -2 ≤ z69 ∧ z69 < 60 by omega) (show 0 ≤ z71 ∧ z71 ≤ 2000 by omega) (fun (z73 : Int) (q74 : -2 ≤ z73 ∧ z73 ≤ 5 ∧ z73 ≠ -1 ∧ (0 ≤ z73 → ((S1 63 0 (z73).toNat = 0 → 8 + z71 ≤ 6000) ∧ (S1 63 0 (z73).toNat ≠ 0 → S1 63 0 (z73).toNat + z71 ≤ 6000)))) => ?_)
          refine And.intro (by decide) ?_
          refine And.intro (by decide) ?_
          refine And.intro (show 0 ≤ j ∧ j < 20 by omega) ?_
          intro z75 (z75a : (-2147483648 : Int) ≤ z75) (z75b : z75 ≤ (2147483647 : Int)) (z75c : z75 = S1 76 0 (j).toNat)
          refine And.intro (by decide) ?_
          have bw : BWC (2 : Int) z75 z73 S1 := fun h => ⟨fun e => absurd e (by decide), fun e => absurd e (by decide), fun _ => ⟨z69, fo2 _ (by omega), by omega, (by omega : aN S1 z69 0 = 2), (by omega : 0 ≤ aN S1 z69 10), (by omega : ((S1 63 0 (z73).toNat = 0 → 8 + (25 + 8 * (depF (ovf (S1 50 0)) 60 z69 : Int) + aN S1 z69 3) ≤ 6000) ∧ (S1 63 0 (z73).toNat ≠ 0 → S1 63 0 (z73).toNat + (25 + 8 * (depF (ovf (S1 50 0)) 60 z69 : Int) + aN S1 z69 3) ≤ 6000)))⟩⟩
          refine And.intro (by decide) (And.intro (show -2147483648 ≤ j + (1 : Int) ∧ j + (1 : Int) < 2147483648 by omega) ?_)
          exact ih.2.2 (2 : Int) z75 z73 (j + (1 : Int)) S1 hf (by omega) (by omega) (by omega) (by omega) (by omega) i5 i6 i7 i8 i9 i10 bw (by omega)
theorem c_StubHouseModel_writerBegins {l : Launch} {k : fxK} {S : fxS}  (p0 : COL S) (p1 : WTM S) (p2 : INJ S) (p3 : AON S) (p4 : WNR S) (p5 : S 72 0 0 = 0) (hk : ∀ (S' : fxS) , (fxfr [(49, 13), (49, 38), (49, 49), (49, 51), (49, 53), (49, 54), (70, 9999), (71, 9999), (72, 9999), (73, 9999), (74, 9999), (76, 9999), (78, 9999)] S S' ∧ (S' 72 0 1 = S 72 0 1) ∧ (WNR S') ∧ (WNW S')) → k none S') : fC l 277 [.inr (.inr (49, 0))] S k := by
  refine fxe_277 (Nat.le_of_ble_eq_true rfl) (fxz_277 400 ?_)
  refine c_StubHouseModel_dropWaiting  p0 (fun (S77 : fxS) ⟨(f78 : fxfr [(49, 38), (76, 9999)] S S77), (g79 : WTG S77)⟩ => ?_)
  have w80 : S77 72 0 0 = S 72 0 0 := f78 72 0 0 rfl
  have w81 : S77 72 0 1 = S 72 0 1 := f78 72 0 1 rfl
  have w82 : S77 49 0 45 = S 49 0 45 := f78 49 0 45 rfl
  have g83 : COL S77 := fx_pfr COL_stab f78 rfl p0
  have g84 : WTM S77 := fx_pfr WTM_stab f78 rfl p1
  have g85 : INJ S77 := fx_pfr INJ_stab f78 rfl p2
  have g86 : AON S77 := fx_pfr AON_stab f78 rfl p3
  have g87 : WNR S77 := fx_pfr WNR_stab f78 rfl p4
  intro z88 (z88a : (0 : Int) ≤ z88) (z88b : z88 ≤ (1 : Int)) (z88c : z88 = S77 49 0 55)
  refine And.intro (fun (h89 : (z88 = (0 : Int) : Prop)) => ?_) (fun (h89 : (z88 ≠ (0 : Int) : Prop)) => ?_)
  ·
    refine And.intro (by decide) ?_
    refine And.intro (by decide) ?_
    refine And.intro (by decide) ?_
    refine And.intro (by decide) ?_
    refine And.intro (by decide) ?_
    have bw : BWC (-2 : Int) (-2 : Int) (-2 : Int) S77 := BWC_no (by omega)
    exact (z_StubHouseModel_writerBegins p0 p1 p2 p3 p4 p5 hk ((1 : Int) * 100000000000000 + (4294967296 - (0 : Int)) * 1000 + 999).toNat).1 (-2 : Int) (-2 : Int) (-2 : Int) (0 : Int) (1 : Int) S77 (fxfr_tr fxfr_rfl f78 rfl) (by omega) (by omega) (by omega) (by omega) (by omega) (by omega) g83 g84 g85 g86 g87 g79 bw (by omega)
  ·
    refine c_begin_0 (w := (2 : Int)) (s := (2 : Int)) g87 (show 0 ≤ (2 : Int) ∧ (2 : Int) ≤ 5 by omega) (show -2147483648 ≤ (2 : Int) ∧ (2 : Int) < 2147483648 by omega) (fun (S90 : fxS) ⟨(f91 : fxfr [(72, 9999), (73, 9999)] S77 S90), (q92 : S90 72 0 0 = (2 : Int) ∧ S90 72 0 1 = S77 72 0 1), (g93 : WNR S90)⟩ => ?_)
    have w94 : S90 49 0 45 = S77 49 0 45 := f91 49 0 45 rfl
    have g95 : COL S90 := fx_pfr COL_stab f91 rfl g83
    have g96 : WTM S90 := fx_pfr WTM_stab f91 rfl g84
    have g97 : INJ S90 := fx_pfr INJ_stab f91 rfl g85
    have g98 : AON S90 := fx_pfr AON_stab f91 rfl g86
    have g99 : WTG S90 := fx_pfr WTG_stab f91 rfl g79
    exact hk S90 ⟨(fxfr_tr (fxfr_tr fxfr_rfl f78 rfl) f91 rfl), by omega, g93, by exact WNW_n5 (by omega) (by omega)⟩
theorem z_StubHouseModel_writeDone {l : Launch} {k : fxK} {S : fxS}  (p0 : COL S) (p1 : WTM S) (p2 : INJ S) (p3 : AON S) (p4 : USE S) (p5 : SNP S) (p6 : REC S) (p7 : SGM S) (p8 : 0 ≤ S 70 0 0) (p9 : S 63 0 (S 70 0 0).toNat + S 49 0 51 ≤ 6000) (hk : ∀ (S' : fxS) , (fxfr [(49, 7), (49, 43), (50, 9999), (53, 9999), (55, 9999), (56, 9999), (58, 9999), (62, 9999), (63, 9999), (67, 9999), (71, 9999)] S S' ∧ (COL S') ∧ (WTM S') ∧ (INJ S') ∧ (AON S') ∧ (USE S') ∧ (SNP S') ∧ (REC S') ∧ (SGM S')) → k none S') : ∀ m : Nat, (∀ (t p j : Int) (S1 : fxS), (fxfr [(49, 7), (49, 43), (50, 9999), (53, 9999), (55, 9999), (56, 9999), (58, 9999), (62, 9999), (63, 9999), (67, 9999), (71, 9999)] S S1) → (0 ≤ t ∧ t ≤ 5) → (0 ≤ p ∧ p ≤ 6000) → (0 ≤ S1 63 0 (t).toNat ∧ S1 63 0 (t).toNat + S1 49 0 51 ≤ 6000) → (0 ≤ j ∧ j ≤ 1200) → (COL S1) → (WTM S1) → (INJ S1) → (AON S1) → (USE S1) → (SNP S1) → (REC S1) → (SGM S1) → 2000 - j ≤ (m : Int) → fZ l 281 k 30 [some (.inr (.inr (49, 0))), some (.inl t), some (.inl p), some (.inl j), none, none] [] S1) ∧ (∀ (c s j : Int) (S1 : fxS), (fxfr [(49, 7), (49, 43), (50, 9999), (53, 9999), (55, 9999), (56, 9999), (58, 9999), (62, 9999), (63, 9999), (67, 9999), (71, 9999)] S S1) → (0 ≤ s ∧ s ≤ j) → (0 ≤ j ∧ j ≤ 40 ∧ c ≤ 40) → (S1 49 0 7 ≤ 199) → (COL S1) → (WTM S1) → (INJ S1) → (AON S1) → (USE S1) → (SNP S1) → (REC S1) → (SGM S1) → 100 - j ≤ (m : Int) → fZ l 281 k 131 [some (.inr (.inr (49, 0))), none, none, some (.inl c), some (.inl s), some (.inl j)] [] S1) := by
  intro m
  induction m with
  | zero =>
    refine ⟨?_, ?_⟩
    · intro t p j S1 hf i0 i1 i2 i3 i4 i5 i6 i7 i8 i9 i10 i11 hmu
      exfalso
      omega
    · intro c s j S1 hf i0 i1 i2 i3 i4 i5 i6 i7 i8 i9 i10 hmu
      exfalso
      omega
  | succ m ih =>
    refine ⟨?_, ?_⟩
    · intro t p j S1 hf i0 i1 i2 i3 i4 i5 i6 i7 i8 i9 i10 i11 hmu
      refine fxz_281 400 ?_
      intro z1 (z1a : (0 : Int) ≤ z1) (z1b : z1 ≤ (1200 : Int)) (z1c : z1 = S1 49 0 51)
      refine And.intro (fun (h2 : (z1 ≤ j : Prop)) => ?_) (fun (h2 : (j < z1 : Prop)) => ?_)
      ·
        refine And.intro (show 0 ≤ t ∧ t < 6 by omega) ?_
        intro z3 (z3a : (0 : Int) ≤ z3) (z3b : z3 ≤ (6000 : Int)) (z3c : z3 = S1 63 0 (t).toNat)
        intro z4 (z4a : (0 : Int) ≤ z4) (z4b : z4 ≤ (1200 : Int)) (z4c : z4 = S1 49 0 51)
        obtain rfl : z1 = z4 := by omega
        refine And.intro (show -2147483648 ≤ (z3 + z1) ∧ (z3 + z1) < 2147483648 by omega) ?_
        refine And.intro (show 0 ≤ t ∧ t < 6 by omega) ?_
        refine And.intro (show (0 : Int) ≤ (z3 + z1) ∧ (z3 + z1) ≤ (6000 : Int) by omega) ?_
        have w5 : (fx_up S1 63 0 (t).toNat (z3 + z1)) 49 0 7 = S1 49 0 7 := rfl
        have w6 : (fx_up S1 63 0 (t).toNat (z3 + z1)) 49 0 39 = S1 49 0 39 := rfl
        have w7 : (fx_up S1 63 0 (t).toNat (z3 + z1)) 49 0 48 = S1 49 0 48 := rfl
        have w8 : (fx_up S1 63 0 (t).toNat (z3 + z1)) 50 0 2520 = S1 50 0 2520 := rfl
        have g9 : COL (fx_up S1 63 0 (t).toNat (z3 + z1)) := fx_pup COL_stab rfl i4
        have g10 : WTM (fx_up S1 63 0 (t).toNat (z3 + z1)) := fx_pup WTM_stab rfl i5
        have g11 : INJ (fx_up S1 63 0 (t).toNat (z3 + z1)) := fx_pup INJ_stab rfl i6
        have g12 : AON (fx_up S1 63 0 (t).toNat (z3 + z1)) := fx_pup AON_stab rfl i7
        have g13 : USE (fx_up S1 63 0 (t).toNat (z3 + z1)) := fx_pup USE_stab rfl i8
        have g14 : SNP (fx_up S1 63 0 (t).toNat (z3 + z1)) := fx_pup SNP_stab rfl i9
        have g15 : REC (fx_up S1 63 0 (t).toNat (z3 + z1)) := fx_pup REC_stab rfl i10
        have g16 : SGM (fx_up S1 63 0 (t).toNat (z3 + z1)) := fx_pup SGM_stab rfl i11
        refine And.intro (show 0 ≤ t ∧ t < 6 by omega) ?_
        intro z17 (z17a : (0 : Int) ≤ z17) (z17b : z17 ≤ (6000 : Int)) (z17c : z17 = (fx_up S1 63 0 (t).toNat (z3 + z1)) 63 0 (t).toNat)
        refine And.intro (show 0 ≤ (0 : Int) ∧ (0 : Int) < 2 by omega) ?_
        refine And.intro (show (0 : Int) ≤ z17 ∧ z17 ≤ (7100 : Int) by omega) ?_
        have w18 : (fx_up (fx_up S1 63 0 (t).toNat (z3 + z1)) 71 0 0 z17) 49 0 7 = (fx_up S1 63 0 (t).toNat (z3 + z1)) 49 0 7 := rfl
        have w19 : (fx_up (fx_up S1 63 0 (t).toNat (z3 + z1)) 71 0 0 z17) 49 0 39 = (fx_up S1 63 0 (t).toNat (z3 + z1)) 49 0 39 := rfl
        have w20 : (fx_up (fx_up S1 63 0 (t).toNat (z3 + z1)) 71 0 0 z17) 49 0 48 = (fx_up S1 63 0 (t).toNat (z3 + z1)) 49 0 48 := rfl
        have w21 : (fx_up (fx_up S1 63 0 (t).toNat (z3 + z1)) 71 0 0 z17) 50 0 2520 = (fx_up S1 63 0 (t).toNat (z3 + z1)) 50 0 2520 := rfl
        have g22 : COL (fx_up (fx_up S1 63 0 (t).toNat (z3 + z1)) 71 0 0 z17) := fx_pup COL_stab rfl g9
        have g23 : WTM (fx_up (fx_up S1 63 0 (t).toNat (z3 + z1)) 71 0 0 z17) := fx_pup WTM_stab rfl g10
        have g24 : INJ (fx_up (fx_up S1 63 0 (t).toNat (z3 + z1)) 71 0 0 z17) := fx_pup INJ_stab rfl g11
        have g25 : AON (fx_up (fx_up S1 63 0 (t).toNat (z3 + z1)) 71 0 0 z17) := fx_pup AON_stab rfl g12
        have g26 : USE (fx_up (fx_up S1 63 0 (t).toNat (z3 + z1)) 71 0 0 z17) := fx_pup USE_stab rfl g13
        have g27 : SNP (fx_up (fx_up S1 63 0 (t).toNat (z3 + z1)) 71 0 0 z17) := fx_pup SNP_stab rfl g14
        have g28 : REC (fx_up (fx_up S1 63 0 (t).toNat (z3 + z1)) 71 0 0 z17) := fx_pup REC_stab rfl g15
        have g29 : SGM (fx_up (fx_up S1 63 0 (t).toNat (z3 + z1)) 71 0 0 z17) := fx_pup SGM_stab rfl g16
        refine And.intro (show 0 ≤ t ∧ t < 6 by omega) ?_
        refine And.intro (show (0 : Int) ≤ (0 : Int) ∧ (0 : Int) ≤ (1 : Int) by omega) ?_
        have w30 : (fx_up (fx_up (fx_up S1 63 0 (t).toNat (z3 + z1)) 71 0 0 z17) 67 0 (t).toNat (0 : Int)) 49 0 7 = (fx_up (fx_up S1 63 0 (t).toNat (z3 + z1)) 71 0 0 z17) 49 0 7 := rfl
        have w31 : (fx_up (fx_up (fx_up S1 63 0 (t).toNat (z3 + z1)) 71 0 0 z17) 67 0 (t).toNat (0 : Int)) 49 0 39 = (fx_up (fx_up S1 63 0 (t).toNat (z3 + z1)) 71 0 0 z17) 49 0 39 := rfl
        have w32 : (fx_up (fx_up (fx_up S1 63 0 (t).toNat (z3 + z1)) 71 0 0 z17) 67 0 (t).toNat (0 : Int)) 49 0 48 = (fx_up (fx_up S1 63 0 (t).toNat (z3 + z1)) 71 0 0 z17) 49 0 48 := rfl
        have w33 : (fx_up (fx_up (fx_up S1 63 0 (t).toNat (z3 + z1)) 71 0 0 z17) 67 0 (t).toNat (0 : Int)) 50 0 2520 = (fx_up (fx_up S1 63 0 (t).toNat (z3 + z1)) 71 0 0 z17) 50 0 2520 := rfl
        have g34 : COL (fx_up (fx_up (fx_up S1 63 0 (t).toNat (z3 + z1)) 71 0 0 z17) 67 0 (t).toNat (0 : Int)) := fx_pup COL_stab rfl g22
        have g35 : WTM (fx_up (fx_up (fx_up S1 63 0 (t).toNat (z3 + z1)) 71 0 0 z17) 67 0 (t).toNat (0 : Int)) := fx_pup WTM_stab rfl g23
        have g36 : INJ (fx_up (fx_up (fx_up S1 63 0 (t).toNat (z3 + z1)) 71 0 0 z17) 67 0 (t).toNat (0 : Int)) := fx_pup INJ_stab rfl g24
        have g37 : AON (fx_up (fx_up (fx_up S1 63 0 (t).toNat (z3 + z1)) 71 0 0 z17) 67 0 (t).toNat (0 : Int)) := fx_pup AON_stab rfl g25
        have g38 : USE (fx_up (fx_up (fx_up S1 63 0 (t).toNat (z3 + z1)) 71 0 0 z17) 67 0 (t).toNat (0 : Int)) := fx_pup USE_stab rfl g26
        have g39 : SNP (fx_up (fx_up (fx_up S1 63 0 (t).toNat (z3 + z1)) 71 0 0 z17) 67 0 (t).toNat (0 : Int)) := fx_pup SNP_stab rfl g27
        have g40 : REC (fx_up (fx_up (fx_up S1 63 0 (t).toNat (z3 + z1)) 71 0 0 z17) 67 0 (t).toNat (0 : Int)) := fx_pup REC_stab rfl g28
        have g41 : SGM (fx_up (fx_up (fx_up S1 63 0 (t).toNat (z3 + z1)) 71 0 0 z17) 67 0 (t).toNat (0 : Int)) := fx_pup SGM_stab rfl g29
        intro z42 (z42a : (0 : Int) ≤ z42) (z42b : z42 ≤ (2 : Int)) (z42c : z42 = S1 49 0 49)
        refine And.intro (fun (h43 : (z42 ≠ (0 : Int) : Prop)) => ?_) (fun (h43 : (z42 = (0 : Int) : Prop)) => ?_)
        ·
          intro z44 (z44a : (0 : Int) ≤ z44) (z44b : z44 ≤ (2 : Int)) (z44c : z44 = S1 49 0 49)
          obtain rfl : z42 = z44 := by omega
          refine And.intro (fun (h45 : (z42 ≠ (1 : Int) : Prop)) => ?_) (fun (h45 : (z42 = (1 : Int) : Prop)) => ?_)
          ·
            intro z46 (z46a : (-2147483648 : Int) ≤ z46) (z46b : z46 ≤ (2147483647 : Int)) (z46c : z46 = S1 49 0 53)
            refine c_StubHouseModel_fileOf (d := z46) g34 (show -2147483648 ≤ z46 ∧ z46 < 2147483648 by omega) (fun (z47 : Int) (q48 : -2 ≤ z47 ∧ z47 < 60 ∧ z47 ≠ -1 ∧ z47 ≠ 0 ∧ (0 ≤ z47 → aN S1 z47 0 = 2 ∧ aN S1 z47 2 = z46) ∧ FOF z46 z47 (fx_up (fx_up (fx_up S1 63 0 (t).toNat (z3 + z1)) 71 0 0 z17) 67 0 (t).toNat (0 : Int))) => ?_)
            refine And.intro (by decide) ?_
            refine And.intro (fun (h49 : (z47 < (0 : Int) : Prop)) => ?_) (fun (h49 : ((0 : Int) ≤ z47 : Prop)) => ?_)
            ·
              exact hk (fx_up (fx_up (fx_up S1 63 0 (t).toNat (z3 + z1)) 71 0 0 z17) 67 0 (t).toNat (0 : Int)) ⟨(fxfr_up (fxfr_up (fxfr_up hf rfl) rfl) rfl), g34, g35, g36, g37, g38, g39, g40, g41⟩
            ·
              refine c_at4 (n := z47) g34 (show 0 ≤ z47 ∧ z47 < 60 by omega) (fun (z50 : Int) (q51 : z50 = aN S1 z47 4 ∧ -2147483648 ≤ z50 ∧ z50 < 2147483648) => ?_)
              intro z52 (z52a : (-2147483648 : Int) ≤ z52) (z52b : z52 ≤ (2147483647 : Int)) (z52c : z52 = S1 49 0 54)
              refine And.intro (fun (h53 : (z50 ≠ z52 : Prop)) => ?_) (fun (h53 : (z50 = z52 : Prop)) => ?_)
              ·
                exact hk (fx_up (fx_up (fx_up S1 63 0 (t).toNat (z3 + z1)) 71 0 0 z17) 67 0 (t).toNat (0 : Int)) ⟨(fxfr_up (fxfr_up (fxfr_up hf rfl) rfl) rfl), g34, g35, g36, g37, g38, g39, g40, g41⟩
              ·
                refine c_at5 (n := z47) g34 (show 0 ≤ z47 ∧ z47 < 60 by omega) (fun (z54 : Int) (q55 : z54 = aN S1 z47 5 ∧ 0 ≤ z54 ∧ z54 ≤ 2) => ?_)
                refine And.intro (fun (h56 : ((2 : Int) ≤ z54 : Prop)) => ?_) (fun (h56 : (z54 < (2 : Int) : Prop)) => ?_)
                ·
                  exact hk (fx_up (fx_up (fx_up S1 63 0 (t).toNat (z3 + z1)) 71 0 0 z17) 67 0 (t).toNat (0 : Int)) ⟨(fxfr_up (fxfr_up (fxfr_up hf rfl) rfl) rfl), g34, g35, g36, g37, g38, g39, g40, g41⟩
                ·
                  have cu : CPU z47 (fx_up (fx_up (fx_up S1 63 0 (t).toNat (z3 + z1)) 71 0 0 z17) 67 0 (t).toNat (0 : Int)) := (by omega : aN S1 z47 5 ≤ 1)
                  refine c_StubHouseModel_ahead  g34 g35 g36 g37 g38 g39 (fun (S57 : fxS) ⟨(f58 : fxfr [(49, 7), (53, 9999), (56, 9999), (58, 9999)] (fx_up (fx_up (fx_up S1 63 0 (t).toNat (z3 + z1)) 71 0 0 z17) 67 0 (t).toNat (0 : Int)) S57), (q59 : 0 ≤ S57 49 0 7 ∧ S57 49 0 7 ≤ 199), (g60 : SNP S57), (g61 : USE S57), (g62 : UZ (fx_up (fx_up (fx_up S1 63 0 (t).toNat (z3 + z1)) 71 0 0 z17) 67 0 (t).toNat (0 : Int)) S57)⟩ => ?_)
                  have w63 : S57 49 0 39 = (fx_up (fx_up (fx_up S1 63 0 (t).toNat (z3 + z1)) 71 0 0 z17) 67 0 (t).toNat (0 : Int)) 49 0 39 := f58 49 0 39 rfl
                  have w64 : S57 49 0 48 = (fx_up (fx_up (fx_up S1 63 0 (t).toNat (z3 + z1)) 71 0 0 z17) 67 0 (t).toNat (0 : Int)) 49 0 48 := f58 49 0 48 rfl
                  have w65 : S57 50 0 2520 = (fx_up (fx_up (fx_up S1 63 0 (t).toNat (z3 + z1)) 71 0 0 z17) 67 0 (t).toNat (0 : Int)) 50 0 2520 := f58 50 0 2520 rfl
                  have g66 : COL S57 := fx_pfr COL_stab f58 rfl g34
                  have g67 : WTM S57 := fx_pfr WTM_stab f58 rfl g35
                  have g68 : INJ S57 := fx_pfr INJ_stab f58 rfl g36
                  have g69 : AON S57 := fx_pfr AON_stab f58 rfl g37
                  have g70 : REC S57 := fx_pfr REC_stab f58 rfl g40
                  have g71 : SGM S57 := fx_pfr SGM_stab f58 rfl g41
                  have g72 : CPU z47 S57 := fx_pfr CPU_stab f58 rfl cu
                  have c1 : aN S57 z47 5 ≤ 1 := g72
                  refine c_StubHouseModel_note (f := z47) (t := t) (p := p) g66 g67 g68 g69 g61 g70 (show 0 ≤ z47 ∧ z47 < 60 by omega) (show 0 ≤ t ∧ t ≤ 5 by omega) (show 0 ≤ p ∧ p ≤ 6000 by omega) (show aN S57 z47 5 ≤ 1 by omega) (fun (S73 : fxS) ⟨(f74 : fxfr [(50, 9999)] S57 S73), (g75 : COL S73), (g76 : WTM S73), (g77 : INJ S73), (g78 : AON S73), (g79 : USE S73), (g80 : REC S73)⟩ => ?_)
                  have w81 : S73 49 0 7 = S57 49 0 7 := f74 49 0 7 rfl
                  have w82 : S73 49 0 39 = S57 49 0 39 := f74 49 0 39 rfl
                  have w83 : S73 49 0 48 = S57 49 0 48 := f74 49 0 48 rfl
                  have g84 : SNP S73 := fx_pfr SNP_stab f74 rfl g60
                  have g85 : SGM S73 := fx_pfr SGM_stab f74 rfl g71
                  have g86 : UZ (fx_up (fx_up (fx_up S1 63 0 (t).toNat (z3 + z1)) 71 0 0 z17) 67 0 (t).toNat (0 : Int)) S73 := fx_pfr UZ_stab f74 rfl g62
                  refine c_StubHouseModel_record (e := (12 : Int)) g75 g76 g77 g78 g84 (show S73 49 0 7 ≤ 199 by omega) (show 0 ≤ (12 : Int) ∧ (12 : Int) ≤ 1000 by omega) (fun (S87 : fxS) ⟨(f88 : fxfr [(49, 7), (53, 9999), (55, 9999)] S73 S87), (g89 : SNP S87)⟩ => ?_)
                  have w90 : S87 49 0 39 = S73 49 0 39 := f88 49 0 39 rfl
                  have w91 : S87 49 0 48 = S73 49 0 48 := f88 49 0 48 rfl
                  have w92 : S87 50 0 2520 = S73 50 0 2520 := f88 50 0 2520 rfl
                  have g93 : COL S87 := fx_pfr COL_stab f88 rfl g75
                  have g94 : WTM S87 := fx_pfr WTM_stab f88 rfl g76
                  have g95 : INJ S87 := fx_pfr INJ_stab f88 rfl g77
                  have g96 : AON S87 := fx_pfr AON_stab f88 rfl g78
                  have g97 : USE S87 := fx_pfr USE_stab f88 rfl g79
                  have g98 : REC S87 := fx_pfr REC_stab f88 rfl g80
                  have g99 : SGM S87 := fx_pfr SGM_stab f88 rfl g85
                  have g100 : UZ (fx_up (fx_up (fx_up S1 63 0 (t).toNat (z3 + z1)) 71 0 0 z17) 67 0 (t).toNat (0 : Int)) S87 := fx_pfr UZ_stab f88 rfl g86
                  exact hk S87 ⟨(fxfr_tr (fxfr_tr (fxfr_tr (fxfr_up (fxfr_up (fxfr_up hf rfl) rfl) rfl) f58 rfl) f74 rfl) f88 rfl), g93, g94, g95, g96, g97, g89, g98, g99⟩
          ·
            refine c_StubHouseModel_fileOfRead  g34 (fun (z101 : Int) (q102 : -2 ≤ z101 ∧ z101 < 60 ∧ z101 ≠ -1 ∧ z101 ≠ 0 ∧ (0 ≤ z101 → aN S1 z101 0 = 2 ∧ CATR z101 (fx_up (fx_up (fx_up S1 63 0 (t).toNat (z3 + z1)) 71 0 0 z17) 67 0 (t).toNat (0 : Int)))) => ?_)
            have cx := q102.2.2.2.2
            refine And.intro (by decide) ?_
            refine And.intro (fun (h103 : (z101 < (0 : Int) : Prop)) => ?_) (fun (h103 : ((0 : Int) ≤ z101 : Prop)) => ?_)
            ·
              refine And.intro (show (0 : Int) ≤ (0 : Int) ∧ (0 : Int) ≤ (1 : Int) by omega) ?_
              have w104 : (fx_up (fx_up (fx_up (fx_up S1 63 0 (t).toNat (z3 + z1)) 71 0 0 z17) 67 0 (t).toNat (0 : Int)) 49 0 43 (0 : Int)) 49 0 7 = (fx_up (fx_up (fx_up S1 63 0 (t).toNat (z3 + z1)) 71 0 0 z17) 67 0 (t).toNat (0 : Int)) 49 0 7 := if_neg (fun q => absurd q.2.2 (by decide))
              have w105 : (fx_up (fx_up (fx_up (fx_up S1 63 0 (t).toNat (z3 + z1)) 71 0 0 z17) 67 0 (t).toNat (0 : Int)) 49 0 43 (0 : Int)) 49 0 39 = (fx_up (fx_up (fx_up S1 63 0 (t).toNat (z3 + z1)) 71 0 0 z17) 67 0 (t).toNat (0 : Int)) 49 0 39 := if_neg (fun q => absurd q.2.2 (by decide))
              have w106 : (fx_up (fx_up (fx_up (fx_up S1 63 0 (t).toNat (z3 + z1)) 71 0 0 z17) 67 0 (t).toNat (0 : Int)) 49 0 43 (0 : Int)) 49 0 48 = (fx_up (fx_up (fx_up S1 63 0 (t).toNat (z3 + z1)) 71 0 0 z17) 67 0 (t).toNat (0 : Int)) 49 0 48 := if_neg (fun q => absurd q.2.2 (by decide))
              have w107 : (fx_up (fx_up (fx_up (fx_up S1 63 0 (t).toNat (z3 + z1)) 71 0 0 z17) 67 0 (t).toNat (0 : Int)) 49 0 43 (0 : Int)) 50 0 2520 = (fx_up (fx_up (fx_up S1 63 0 (t).toNat (z3 + z1)) 71 0 0 z17) 67 0 (t).toNat (0 : Int)) 50 0 2520 := rfl
              have g108 : COL (fx_up (fx_up (fx_up (fx_up S1 63 0 (t).toNat (z3 + z1)) 71 0 0 z17) 67 0 (t).toNat (0 : Int)) 49 0 43 (0 : Int)) := fx_pup COL_stab rfl g34
              have g109 : WTM (fx_up (fx_up (fx_up (fx_up S1 63 0 (t).toNat (z3 + z1)) 71 0 0 z17) 67 0 (t).toNat (0 : Int)) 49 0 43 (0 : Int)) := fx_pup WTM_stab rfl g35
              have g110 : INJ (fx_up (fx_up (fx_up (fx_up S1 63 0 (t).toNat (z3 + z1)) 71 0 0 z17) 67 0 (t).toNat (0 : Int)) 49 0 43 (0 : Int)) := fx_pup INJ_stab rfl g36
              have g111 : AON (fx_up (fx_up (fx_up (fx_up S1 63 0 (t).toNat (z3 + z1)) 71 0 0 z17) 67 0 (t).toNat (0 : Int)) 49 0 43 (0 : Int)) := fx_pup AON_stab rfl g37
              have g112 : USE (fx_up (fx_up (fx_up (fx_up S1 63 0 (t).toNat (z3 + z1)) 71 0 0 z17) 67 0 (t).toNat (0 : Int)) 49 0 43 (0 : Int)) := fx_pup USE_stab rfl g38
              have g113 : SNP (fx_up (fx_up (fx_up (fx_up S1 63 0 (t).toNat (z3 + z1)) 71 0 0 z17) 67 0 (t).toNat (0 : Int)) 49 0 43 (0 : Int)) := fx_pup SNP_stab rfl g39
              have g114 : REC (fx_up (fx_up (fx_up (fx_up S1 63 0 (t).toNat (z3 + z1)) 71 0 0 z17) 67 0 (t).toNat (0 : Int)) 49 0 43 (0 : Int)) := fx_pup REC_stab rfl g40
              have g115 : SGM (fx_up (fx_up (fx_up (fx_up S1 63 0 (t).toNat (z3 + z1)) 71 0 0 z17) 67 0 (t).toNat (0 : Int)) 49 0 43 (0 : Int)) := fx_pup SGM_stab rfl g41
              exact hk (fx_up (fx_up (fx_up (fx_up S1 63 0 (t).toNat (z3 + z1)) 71 0 0 z17) 67 0 (t).toNat (0 : Int)) 49 0 43 (0 : Int)) ⟨(fxfr_up (fxfr_up (fxfr_up (fxfr_up hf rfl) rfl) rfl) rfl), g108, g109, g110, g111, g112, g113, g114, g115⟩
            ·
              have cr : CATR z101 (fx_up (fx_up (fx_up S1 63 0 (t).toNat (z3 + z1)) 71 0 0 z17) 67 0 (t).toNat (0 : Int)) := (cx (by omega)).2
              refine c_StubHouseModel_ahead  g34 g35 g36 g37 g38 g39 (fun (S116 : fxS) ⟨(f117 : fxfr [(49, 7), (53, 9999), (56, 9999), (58, 9999)] (fx_up (fx_up (fx_up S1 63 0 (t).toNat (z3 + z1)) 71 0 0 z17) 67 0 (t).toNat (0 : Int)) S116), (q118 : 0 ≤ S116 49 0 7 ∧ S116 49 0 7 ≤ 199), (g119 : SNP S116), (g120 : USE S116), (g121 : UZ (fx_up (fx_up (fx_up S1 63 0 (t).toNat (z3 + z1)) 71 0 0 z17) 67 0 (t).toNat (0 : Int)) S116)⟩ => ?_)
              have w122 : S116 49 0 39 = (fx_up (fx_up (fx_up S1 63 0 (t).toNat (z3 + z1)) 71 0 0 z17) 67 0 (t).toNat (0 : Int)) 49 0 39 := f117 49 0 39 rfl
              have w123 : S116 49 0 48 = (fx_up (fx_up (fx_up S1 63 0 (t).toNat (z3 + z1)) 71 0 0 z17) 67 0 (t).toNat (0 : Int)) 49 0 48 := f117 49 0 48 rfl
              have w124 : S116 50 0 2520 = (fx_up (fx_up (fx_up S1 63 0 (t).toNat (z3 + z1)) 71 0 0 z17) 67 0 (t).toNat (0 : Int)) 50 0 2520 := f117 50 0 2520 rfl
              have g125 : COL S116 := fx_pfr COL_stab f117 rfl g34
              have g126 : WTM S116 := fx_pfr WTM_stab f117 rfl g35
              have g127 : INJ S116 := fx_pfr INJ_stab f117 rfl g36
              have g128 : AON S116 := fx_pfr AON_stab f117 rfl g37
              have g129 : REC S116 := fx_pfr REC_stab f117 rfl g40
              have g130 : SGM S116 := fx_pfr SGM_stab f117 rfl g41
              have g131 : CATR z101 S116 := fx_pfr CATR_stab f117 rfl cr
              intro z132 (z132a : (-2 : Int) ≤ z132) (z132b : z132 ≤ (5 : Int)) (z132c : z132 = S116 49 0 39)
              intro z133 (z133a : (0 : Int) ≤ z133) (z133b : z133 ≤ (6000 : Int)) (z133c : z133 = S116 49 0 48)
              refine c_StubHouseModel_copyAt (f := z101) (t := z132) (p := z133) g125 (show 0 ≤ z101 ∧ z101 < 60 by omega) (show -2147483648 ≤ z132 ∧ z132 < 2147483648 by omega) (show -2147483648 ≤ z133 ∧ z133 < 2147483648 by omega) (fun (z134 : Int) (q135 : -2 ≤ z134 ∧ z134 ≤ 1 ∧ z134 ≠ -1 ∧ (0 ≤ z134 → z134 < aN S116 z101 5) ∧ (0 ≤ z134 → CAT z101 z132 z133 S116) ∧ (z134 < 0 → ¬ CAT z101 z132 z133 S116)) => ?_)
              have cn : 0 ≤ z134 := Int.not_lt.mp (fun h => q135.2.2.2.2.2 h (by have e : CAT z101 (S116 49 0 39) (S116 49 0 48) S116 := g131; rwa [show S116 49 0 39 = z132 by omega, show S116 49 0 48 = z133 by omega] at e))
              refine And.intro (by decide) ?_
              refine And.intro (show -2147483648 ≤ ((2 : Int) * z134) ∧ ((2 : Int) * z134) < 2147483648 by omega) ?_
              refine And.intro (show -2147483648 ≤ ((6 : Int) + ((2 : Int) * z134)) ∧ ((6 : Int) + ((2 : Int) * z134)) < 2147483648 by omega) ?_
              refine c_set (n := z101) (w := ((6 : Int) + ((2 : Int) * z134))) (v := t) (show 0 ≤ z101 ∧ z101 < 60 by omega) (show 0 ≤ ((6 : Int) + ((2 : Int) * z134)) ∧ ((6 : Int) + ((2 : Int) * z134)) < 42 by omega) (show -2147483648 ≤ t ∧ t < 2147483648 by omega) ?_
              have w136 : (fx_up S116 50 0 (42 * z101 + ((6 : Int) + ((2 : Int) * z134))).toNat t) 49 0 7 = S116 49 0 7 := rfl
              have w137 : (fx_up S116 50 0 (42 * z101 + ((6 : Int) + ((2 : Int) * z134))).toNat t) 49 0 39 = S116 49 0 39 := rfl
              have w138 : (fx_up S116 50 0 (42 * z101 + ((6 : Int) + ((2 : Int) * z134))).toNat t) 49 0 48 = S116 49 0 48 := rfl
              have g139 : COL (fx_up S116 50 0 (42 * z101 + ((6 : Int) + ((2 : Int) * z134))).toNat t) := COL_set g125 (by omega) (by omega) (by omega)
              have g140 : WTM (fx_up S116 50 0 (42 * z101 + ((6 : Int) + ((2 : Int) * z134))).toNat t) := WTM_set g126 (by omega) (by omega)
              have g141 : INJ (fx_up S116 50 0 (42 * z101 + ((6 : Int) + ((2 : Int) * z134))).toNat t) := INJ_set g127 (by omega) (by omega)
              have g142 : AON (fx_up S116 50 0 (42 * z101 + ((6 : Int) + ((2 : Int) * z134))).toNat t) := AON_set g128 (by omega) (by omega)
              have g143 : USE (fx_up S116 50 0 (42 * z101 + ((6 : Int) + ((2 : Int) * z134))).toNat t) := USE_set g120 (by omega) (by omega)
              have g144 : SNP (fx_up S116 50 0 (42 * z101 + ((6 : Int) + ((2 : Int) * z134))).toNat t) := fx_pup SNP_stab rfl g119
              have g145 : REC (fx_up S116 50 0 (42 * z101 + ((6 : Int) + ((2 : Int) * z134))).toNat t) := REC_set g129 (by omega) (by omega)
              have g146 : SGM (fx_up S116 50 0 (42 * z101 + ((6 : Int) + ((2 : Int) * z134))).toNat t) := fx_pup SGM_stab rfl g130
              have g147 : UZ (fx_up (fx_up (fx_up S1 63 0 (t).toNat (z3 + z1)) 71 0 0 z17) 67 0 (t).toNat (0 : Int)) (fx_up S116 50 0 (42 * z101 + ((6 : Int) + ((2 : Int) * z134))).toNat t) := fx_pup UZ_stab rfl g121
              refine And.intro (show -2147483648 ≤ ((2 : Int) * z134) ∧ ((2 : Int) * z134) < 2147483648 by omega) ?_
              refine And.intro (show -2147483648 ≤ ((6 : Int) + ((2 : Int) * z134)) ∧ ((6 : Int) + ((2 : Int) * z134)) < 2147483648 by omega) ?_
              refine And.intro (show -2147483648 ≤ (((6 : Int) + ((2 : Int) * z134)) + (1 : Int)) ∧ (((6 : Int) + ((2 : Int) * z134)) + (1 : Int)) < 2147483648 by omega) ?_
              refine c_set (n := z101) (w := (((6 : Int) + ((2 : Int) * z134)) + (1 : Int))) (v := p) (show 0 ≤ z101 ∧ z101 < 60 by omega) (show 0 ≤ (((6 : Int) + ((2 : Int) * z134)) + (1 : Int)) ∧ (((6 : Int) + ((2 : Int) * z134)) + (1 : Int)) < 42 by omega) (show -2147483648 ≤ p ∧ p < 2147483648 by omega) ?_
              have w148 : (fx_up (fx_up S116 50 0 (42 * z101 + ((6 : Int) + ((2 : Int) * z134))).toNat t) 50 0 (42 * z101 + (((6 : Int) + ((2 : Int) * z134)) + (1 : Int))).toNat p) 49 0 7 = (fx_up S116 50 0 (42 * z101 + ((6 : Int) + ((2 : Int) * z134))).toNat t) 49 0 7 := rfl
              have w149 : (fx_up (fx_up S116 50 0 (42 * z101 + ((6 : Int) + ((2 : Int) * z134))).toNat t) 50 0 (42 * z101 + (((6 : Int) + ((2 : Int) * z134)) + (1 : Int))).toNat p) 49 0 39 = (fx_up S116 50 0 (42 * z101 + ((6 : Int) + ((2 : Int) * z134))).toNat t) 49 0 39 := rfl
              have w150 : (fx_up (fx_up S116 50 0 (42 * z101 + ((6 : Int) + ((2 : Int) * z134))).toNat t) 50 0 (42 * z101 + (((6 : Int) + ((2 : Int) * z134)) + (1 : Int))).toNat p) 49 0 48 = (fx_up S116 50 0 (42 * z101 + ((6 : Int) + ((2 : Int) * z134))).toNat t) 49 0 48 := rfl
              have g151 : COL (fx_up (fx_up S116 50 0 (42 * z101 + ((6 : Int) + ((2 : Int) * z134))).toNat t) 50 0 (42 * z101 + (((6 : Int) + ((2 : Int) * z134)) + (1 : Int))).toNat p) := COL_set g139 (by omega) (by omega) (by omega)
              have g152 : WTM (fx_up (fx_up S116 50 0 (42 * z101 + ((6 : Int) + ((2 : Int) * z134))).toNat t) 50 0 (42 * z101 + (((6 : Int) + ((2 : Int) * z134)) + (1 : Int))).toNat p) := WTM_set g140 (by omega) (by omega)
              have g153 : INJ (fx_up (fx_up S116 50 0 (42 * z101 + ((6 : Int) + ((2 : Int) * z134))).toNat t) 50 0 (42 * z101 + (((6 : Int) + ((2 : Int) * z134)) + (1 : Int))).toNat p) := INJ_set g141 (by omega) (by omega)
              have g154 : AON (fx_up (fx_up S116 50 0 (42 * z101 + ((6 : Int) + ((2 : Int) * z134))).toNat t) 50 0 (42 * z101 + (((6 : Int) + ((2 : Int) * z134)) + (1 : Int))).toNat p) := AON_set g142 (by omega) (by omega)
              have g155 : USE (fx_up (fx_up S116 50 0 (42 * z101 + ((6 : Int) + ((2 : Int) * z134))).toNat t) 50 0 (42 * z101 + (((6 : Int) + ((2 : Int) * z134)) + (1 : Int))).toNat p) := USE_set g143 (by omega) (by omega)
              have g156 : SNP (fx_up (fx_up S116 50 0 (42 * z101 + ((6 : Int) + ((2 : Int) * z134))).toNat t) 50 0 (42 * z101 + (((6 : Int) + ((2 : Int) * z134)) + (1 : Int))).toNat p) := fx_pup SNP_stab rfl g144
              have g157 : REC (fx_up (fx_up S116 50 0 (42 * z101 + ((6 : Int) + ((2 : Int) * z134))).toNat t) 50 0 (42 * z101 + (((6 : Int) + ((2 : Int) * z134)) + (1 : Int))).toNat p) := REC_set g145 (by omega) (by omega)
              have g158 : SGM (fx_up (fx_up S116 50 0 (42 * z101 + ((6 : Int) + ((2 : Int) * z134))).toNat t) 50 0 (42 * z101 + (((6 : Int) + ((2 : Int) * z134)) + (1 : Int))).toNat p) := fx_pup SGM_stab rfl g146
              have g159 : UZ (fx_up (fx_up (fx_up S1 63 0 (t).toNat (z3 + z1)) 71 0 0 z17) 67 0 (t).toNat (0 : Int)) (fx_up (fx_up S116 50 0 (42 * z101 + ((6 : Int) + ((2 : Int) * z134))).toNat t) 50 0 (42 * z101 + (((6 : Int) + ((2 : Int) * z134)) + (1 : Int))).toNat p) := fx_pup UZ_stab rfl g147
              refine c_StubHouseModel_record (e := (12 : Int)) g151 g152 g153 g154 g156 (show S116 49 0 7 ≤ 199 by omega) (show 0 ≤ (12 : Int) ∧ (12 : Int) ≤ 1000 by omega) (fun (S160 : fxS) ⟨(f161 : fxfr [(49, 7), (53, 9999), (55, 9999)] (fx_up (fx_up S116 50 0 (42 * z101 + ((6 : Int) + ((2 : Int) * z134))).toNat t) 50 0 (42 * z101 + (((6 : Int) + ((2 : Int) * z134)) + (1 : Int))).toNat p) S160), (g162 : SNP S160)⟩ => ?_)
              have w163 : S160 49 0 39 = (fx_up (fx_up S116 50 0 (42 * z101 + ((6 : Int) + ((2 : Int) * z134))).toNat t) 50 0 (42 * z101 + (((6 : Int) + ((2 : Int) * z134)) + (1 : Int))).toNat p) 49 0 39 := f161 49 0 39 rfl
              have w164 : S160 49 0 48 = (fx_up (fx_up S116 50 0 (42 * z101 + ((6 : Int) + ((2 : Int) * z134))).toNat t) 50 0 (42 * z101 + (((6 : Int) + ((2 : Int) * z134)) + (1 : Int))).toNat p) 49 0 48 := f161 49 0 48 rfl
              have w165 : S160 50 0 2520 = (fx_up (fx_up S116 50 0 (42 * z101 + ((6 : Int) + ((2 : Int) * z134))).toNat t) 50 0 (42 * z101 + (((6 : Int) + ((2 : Int) * z134)) + (1 : Int))).toNat p) 50 0 2520 := f161 50 0 2520 rfl
              have g166 : COL S160 := fx_pfr COL_stab f161 rfl g151
              have g167 : WTM S160 := fx_pfr WTM_stab f161 rfl g152
              have g168 : INJ S160 := fx_pfr INJ_stab f161 rfl g153
              have g169 : AON S160 := fx_pfr AON_stab f161 rfl g154
              have g170 : USE S160 := fx_pfr USE_stab f161 rfl g155
              have g171 : REC S160 := fx_pfr REC_stab f161 rfl g157
              have g172 : SGM S160 := fx_pfr SGM_stab f161 rfl g158
              have g173 : UZ (fx_up (fx_up (fx_up S1 63 0 (t).toNat (z3 + z1)) 71 0 0 z17) 67 0 (t).toNat (0 : Int)) S160 := fx_pfr UZ_stab f161 rfl g159
              refine And.intro (show (0 : Int) ≤ (0 : Int) ∧ (0 : Int) ≤ (1 : Int) by omega) ?_
              have w174 : (fx_up S160 49 0 43 (0 : Int)) 49 0 7 = S160 49 0 7 := if_neg (fun q => absurd q.2.2 (by decide))
              have w175 : (fx_up S160 49 0 43 (0 : Int)) 49 0 39 = S160 49 0 39 := if_neg (fun q => absurd q.2.2 (by decide))
              have w176 : (fx_up S160 49 0 43 (0 : Int)) 49 0 48 = S160 49 0 48 := if_neg (fun q => absurd q.2.2 (by decide))
              have w177 : (fx_up S160 49 0 43 (0 : Int)) 50 0 2520 = S160 50 0 2520 := rfl
              have g178 : COL (fx_up S160 49 0 43 (0 : Int)) := fx_pup COL_stab rfl g166
              have g179 : WTM (fx_up S160 49 0 43 (0 : Int)) := fx_pup WTM_stab rfl g167
              have g180 : INJ (fx_up S160 49 0 43 (0 : Int)) := fx_pup INJ_stab rfl g168
              have g181 : AON (fx_up S160 49 0 43 (0 : Int)) := fx_pup AON_stab rfl g169
              have g182 : USE (fx_up S160 49 0 43 (0 : Int)) := fx_pup USE_stab rfl g170
              have g183 : SNP (fx_up S160 49 0 43 (0 : Int)) := fx_pup SNP_stab rfl g162
              have g184 : REC (fx_up S160 49 0 43 (0 : Int)) := fx_pup REC_stab rfl g171
              have g185 : SGM (fx_up S160 49 0 43 (0 : Int)) := fx_pup SGM_stab rfl g172
              have g186 : UZ (fx_up (fx_up (fx_up S1 63 0 (t).toNat (z3 + z1)) 71 0 0 z17) 67 0 (t).toNat (0 : Int)) (fx_up S160 49 0 43 (0 : Int)) := fx_pup UZ_stab rfl g173
              exact hk (fx_up S160 49 0 43 (0 : Int)) ⟨(fxfr_up (fxfr_tr (fxfr_up (fxfr_up (fxfr_tr (fxfr_up (fxfr_up (fxfr_up hf rfl) rfl) rfl) f117 rfl) rfl) rfl) f161 rfl) rfl), g178, g179, g180, g181, g182, g183, g184, g185⟩
        ·
          refine c_StubHouseModel_ahead  g34 g35 g36 g37 g38 g39 (fun (S187 : fxS) ⟨(f188 : fxfr [(49, 7), (53, 9999), (56, 9999), (58, 9999)] (fx_up (fx_up (fx_up S1 63 0 (t).toNat (z3 + z1)) 71 0 0 z17) 67 0 (t).toNat (0 : Int)) S187), (q189 : 0 ≤ S187 49 0 7 ∧ S187 49 0 7 ≤ 199), (g190 : SNP S187), (g191 : USE S187), (g192 : UZ (fx_up (fx_up (fx_up S1 63 0 (t).toNat (z3 + z1)) 71 0 0 z17) 67 0 (t).toNat (0 : Int)) S187)⟩ => ?_)
          have w193 : S187 49 0 39 = (fx_up (fx_up (fx_up S1 63 0 (t).toNat (z3 + z1)) 71 0 0 z17) 67 0 (t).toNat (0 : Int)) 49 0 39 := f188 49 0 39 rfl
          have w194 : S187 49 0 48 = (fx_up (fx_up (fx_up S1 63 0 (t).toNat (z3 + z1)) 71 0 0 z17) 67 0 (t).toNat (0 : Int)) 49 0 48 := f188 49 0 48 rfl
          have w195 : S187 50 0 2520 = (fx_up (fx_up (fx_up S1 63 0 (t).toNat (z3 + z1)) 71 0 0 z17) 67 0 (t).toNat (0 : Int)) 50 0 2520 := f188 50 0 2520 rfl
          have g196 : COL S187 := fx_pfr COL_stab f188 rfl g34
          have g197 : WTM S187 := fx_pfr WTM_stab f188 rfl g35
          have g198 : INJ S187 := fx_pfr INJ_stab f188 rfl g36
          have g199 : AON S187 := fx_pfr AON_stab f188 rfl g37
          have g200 : REC S187 := fx_pfr REC_stab f188 rfl g40
          have g201 : SGM S187 := fx_pfr SGM_stab f188 rfl g41
          refine And.intro (show 0 ≤ (2520 : Int) ∧ (2520 : Int) < 2561 by omega) ?_
          intro z202 (z202a : (-2147483648 : Int) ≤ z202) (z202b : z202 ≤ (2147483647 : Int)) (z202c : z202 = S187 50 0 2520)
          have dl0 := COL_dels g196
          refine And.intro (by decide) ?_
          refine And.intro (by decide) ?_
          refine And.intro (by decide) ?_
          exact ih.2 z202 (0 : Int) (0 : Int) S187 (fxfr_tr (fxfr_up (fxfr_up (fxfr_up hf rfl) rfl) rfl) f188 rfl) (by omega) (by omega) (by omega) g196 g197 g198 g199 g191 g190 g200 g201 (by omega)
      ·
        refine And.intro (show -2147483648 ≤ ((6000 : Int) * t) ∧ ((6000 : Int) * t) < 2147483648 by omega) ?_
        refine And.intro (show 0 ≤ t ∧ t < 6 by omega) ?_
        intro z203 (z203a : (0 : Int) ≤ z203) (z203b : z203 ≤ (6000 : Int)) (z203c : z203 = S1 63 0 (t).toNat)
        refine And.intro (show -2147483648 ≤ (((6000 : Int) * t) + z203) ∧ (((6000 : Int) * t) + z203) < 2147483648 by omega) ?_
        refine And.intro (show -2147483648 ≤ ((((6000 : Int) * t) + z203) + j) ∧ ((((6000 : Int) * t) + z203) + j) < 2147483648 by omega) ?_
        refine And.intro (show 0 ≤ j ∧ j < 1200 by omega) ?_
        intro z204 (z204a : (-128 : Int) ≤ z204) (z204b : z204 ≤ (127 : Int)) (z204c : z204 = S1 78 0 (j).toNat)
        refine And.intro (show 0 ≤ ((((6000 : Int) * t) + z203) + j) ∧ ((((6000 : Int) * t) + z203) + j) < 36000 by omega) ?_
        intro z205 z205a z205b z205c
        have w206 : (fx_up S1 62 0 (((((6000 : Int) * t) + z203) + j)).toNat z205) 49 0 7 = S1 49 0 7 := rfl
        have w207 : (fx_up S1 62 0 (((((6000 : Int) * t) + z203) + j)).toNat z205) 49 0 39 = S1 49 0 39 := rfl
        have w208 : (fx_up S1 62 0 (((((6000 : Int) * t) + z203) + j)).toNat z205) 49 0 48 = S1 49 0 48 := rfl
        have w209 : (fx_up S1 62 0 (((((6000 : Int) * t) + z203) + j)).toNat z205) 50 0 2520 = S1 50 0 2520 := rfl
        have g210 : COL (fx_up S1 62 0 (((((6000 : Int) * t) + z203) + j)).toNat z205) := fx_pup COL_stab rfl i4
        have g211 : WTM (fx_up S1 62 0 (((((6000 : Int) * t) + z203) + j)).toNat z205) := fx_pup WTM_stab rfl i5
        have g212 : INJ (fx_up S1 62 0 (((((6000 : Int) * t) + z203) + j)).toNat z205) := fx_pup INJ_stab rfl i6
        have g213 : AON (fx_up S1 62 0 (((((6000 : Int) * t) + z203) + j)).toNat z205) := fx_pup AON_stab rfl i7
        have g214 : USE (fx_up S1 62 0 (((((6000 : Int) * t) + z203) + j)).toNat z205) := fx_pup USE_stab rfl i8
        have g215 : SNP (fx_up S1 62 0 (((((6000 : Int) * t) + z203) + j)).toNat z205) := fx_pup SNP_stab rfl i9
        have g216 : REC (fx_up S1 62 0 (((((6000 : Int) * t) + z203) + j)).toNat z205) := fx_pup REC_stab rfl i10
        have g217 : SGM (fx_up S1 62 0 (((((6000 : Int) * t) + z203) + j)).toNat z205) := fx_pup SGM_stab rfl i11
        have l2 : (fx_up S1 62 0 (((((6000 : Int) * t) + z203) + j)).toNat z205) 63 0 (t).toNat = S1 63 0 (t).toNat := rfl
        have o2 : (fx_up S1 62 0 (((((6000 : Int) * t) + z203) + j)).toNat z205) 49 0 51 = S1 49 0 51 := rfl
        refine And.intro (by decide) (And.intro (show -2147483648 ≤ j + (1 : Int) ∧ j + (1 : Int) < 2147483648 by omega) ?_)
        exact ih.1 t p (j + (1 : Int)) (fx_up S1 62 0 (((((6000 : Int) * t) + z203) + j)).toNat z205) (fxfr_up hf rfl) (by omega) (by omega) (by omega) (by omega) g210 g211 g212 g213 g214 g215 g216 g217 (by omega)
    · intro c s j S1 hf i0 i1 i2 i3 i4 i5 i6 i7 i8 i9 i10 hmu
      refine fxz_281 400 ?_
      refine And.intro (fun (h219 : (c ≤ j : Prop)) => ?_) (fun (h219 : (j < c : Prop)) => ?_)
      ·
        refine And.intro (show 0 ≤ (2520 : Int) ∧ (2520 : Int) < 2561 by omega) ?_
        refine And.intro (show (-2147483648 : Int) ≤ s ∧ s ≤ (2147483647 : Int) by omega) ?_
        have w220 : (fx_up S1 50 0 2520 s) 49 0 7 = S1 49 0 7 := rfl
        have w221 : (fx_up S1 50 0 2520 s) 49 0 39 = S1 49 0 39 := rfl
        have w222 : (fx_up S1 50 0 2520 s) 49 0 48 = S1 49 0 48 := rfl
        have w223 : (fx_up S1 50 0 2520 s) 50 0 2520 = s := fx_up_at _ _ _ _ _
        have g224 : COL (fx_up S1 50 0 2520 s) := COL_del i3 (by omega)
        have g225 : WTM (fx_up S1 50 0 2520 s) := WTM_tail i4 (by omega)
        have g226 : INJ (fx_up S1 50 0 2520 s) := INJ_tail i5 (by omega)
        have g227 : AON (fx_up S1 50 0 2520 s) := AON_tail i6 (by omega)
        have g228 : USE (fx_up S1 50 0 2520 s) := USE_tail i7 (by omega)
        have g229 : SNP (fx_up S1 50 0 2520 s) := fx_pup SNP_stab rfl i8
        have g230 : REC (fx_up S1 50 0 2520 s) := REC_tail i9 (by omega)
        have g231 : SGM (fx_up S1 50 0 2520 s) := fx_pup SGM_stab rfl i10
        refine c_StubHouseModel_record (e := (6 : Int)) g224 g225 g226 g227 g229 (show S1 49 0 7 ≤ 199 by omega) (show 0 ≤ (6 : Int) ∧ (6 : Int) ≤ 1000 by omega) (fun (S232 : fxS) ⟨(f233 : fxfr [(49, 7), (53, 9999), (55, 9999)] (fx_up S1 50 0 2520 s) S232), (g234 : SNP S232)⟩ => ?_)
        have w235 : S232 49 0 39 = (fx_up S1 50 0 2520 s) 49 0 39 := f233 49 0 39 rfl
        have w236 : S232 49 0 48 = (fx_up S1 50 0 2520 s) 49 0 48 := f233 49 0 48 rfl
        have w237 : S232 50 0 2520 = (fx_up S1 50 0 2520 s) 50 0 2520 := f233 50 0 2520 rfl
        have g238 : COL S232 := fx_pfr COL_stab f233 rfl g224
        have g239 : WTM S232 := fx_pfr WTM_stab f233 rfl g225
        have g240 : INJ S232 := fx_pfr INJ_stab f233 rfl g226
        have g241 : AON S232 := fx_pfr AON_stab f233 rfl g227
        have g242 : USE S232 := fx_pfr USE_stab f233 rfl g228
        have g243 : REC S232 := fx_pfr REC_stab f233 rfl g230
        have g244 : SGM S232 := fx_pfr SGM_stab f233 rfl g231
        exact hk S232 ⟨(fxfr_tr (fxfr_up hf rfl) f233 rfl), g238, g239, g240, g241, g242, g234, g243, g244⟩
      ·
        refine And.intro (show -2147483648 ≤ ((2521 : Int) + j) ∧ ((2521 : Int) + j) < 2147483648 by omega) ?_
        refine And.intro (show 0 ≤ ((2521 : Int) + j) ∧ ((2521 : Int) + j) < 2561 by omega) ?_
        intro z245 (z245a : (-2147483648 : Int) ≤ z245) (z245b : z245 ≤ (2147483647 : Int)) (z245c : z245 = S1 50 0 (((2521 : Int) + j)).toNat)
        intro z246 (z246a : (-2147483648 : Int) ≤ z246) (z246b : z246 ≤ (2147483647 : Int)) (z246c : z246 = S1 49 0 53)
        refine And.intro (fun (h247 : (z245 = z246 : Prop)) => ?_) (fun (h247 : (z245 ≠ z246 : Prop)) => ?_)
        ·
          refine And.intro (by decide) (And.intro (show -2147483648 ≤ j + (1 : Int) ∧ j + (1 : Int) < 2147483648 by omega) ?_)
          exact ih.2 c s (j + (1 : Int)) S1 hf (by omega) (by omega) (by omega) i3 i4 i5 i6 i7 i8 i9 i10 (by omega)
        ·
          refine And.intro (show -2147483648 ≤ ((2521 : Int) + s) ∧ ((2521 : Int) + s) < 2147483648 by omega) ?_
          refine And.intro (show -2147483648 ≤ ((2521 : Int) + j) ∧ ((2521 : Int) + j) < 2147483648 by omega) ?_
          refine And.intro (show 0 ≤ ((2521 : Int) + j) ∧ ((2521 : Int) + j) < 2561 by omega) ?_
          intro z249 (z249a : (-2147483648 : Int) ≤ z249) (z249b : z249 ≤ (2147483647 : Int)) (z249c : z249 = S1 50 0 (((2521 : Int) + j)).toNat)
          refine And.intro (show 0 ≤ ((2521 : Int) + s) ∧ ((2521 : Int) + s) < 2561 by omega) ?_
          refine And.intro (show (-2147483648 : Int) ≤ z249 ∧ z249 ≤ (2147483647 : Int) by omega) ?_
          have w250 : (fx_up S1 50 0 (((2521 : Int) + s)).toNat z249) 49 0 7 = S1 49 0 7 := rfl
          have w251 : (fx_up S1 50 0 (((2521 : Int) + s)).toNat z249) 49 0 39 = S1 49 0 39 := rfl
          have w252 : (fx_up S1 50 0 (((2521 : Int) + s)).toNat z249) 49 0 48 = S1 49 0 48 := rfl
          have g253 : COL (fx_up S1 50 0 (((2521 : Int) + s)).toNat z249) := COL_tail i3 (by omega)
          have g254 : WTM (fx_up S1 50 0 (((2521 : Int) + s)).toNat z249) := WTM_tail i4 (by omega)
          have g255 : INJ (fx_up S1 50 0 (((2521 : Int) + s)).toNat z249) := INJ_tail i5 (by omega)
          have g256 : AON (fx_up S1 50 0 (((2521 : Int) + s)).toNat z249) := AON_tail i6 (by omega)
          have g257 : USE (fx_up S1 50 0 (((2521 : Int) + s)).toNat z249) := USE_tail i7 (by omega)
          have g258 : SNP (fx_up S1 50 0 (((2521 : Int) + s)).toNat z249) := fx_pup SNP_stab rfl i8
          have g259 : REC (fx_up S1 50 0 (((2521 : Int) + s)).toNat z249) := REC_tail i9 (by omega)
          have g260 : SGM (fx_up S1 50 0 (((2521 : Int) + s)).toNat z249) := fx_pup SGM_stab rfl i10
          refine And.intro (show 0 ≤ j ∧ j < 40 by omega) ?_
          intro z261 (z261a : (0 : Int) ≤ z261) (z261b : z261 ≤ (1 : Int)) (z261c : z261 = S1 58 0 (j).toNat)
          refine And.intro (show 0 ≤ s ∧ s < 40 by omega) ?_
          refine And.intro (show (0 : Int) ≤ z261 ∧ z261 ≤ (1 : Int) by omega) ?_
          have w262 : (fx_up (fx_up S1 50 0 (((2521 : Int) + s)).toNat z249) 58 0 (s).toNat z261) 49 0 7 = (fx_up S1 50 0 (((2521 : Int) + s)).toNat z249) 49 0 7 := rfl
          have w263 : (fx_up (fx_up S1 50 0 (((2521 : Int) + s)).toNat z249) 58 0 (s).toNat z261) 49 0 39 = (fx_up S1 50 0 (((2521 : Int) + s)).toNat z249) 49 0 39 := rfl
          have w264 : (fx_up (fx_up S1 50 0 (((2521 : Int) + s)).toNat z249) 58 0 (s).toNat z261) 49 0 48 = (fx_up S1 50 0 (((2521 : Int) + s)).toNat z249) 49 0 48 := rfl
          have w265 : (fx_up (fx_up S1 50 0 (((2521 : Int) + s)).toNat z249) 58 0 (s).toNat z261) 50 0 2520 = (fx_up S1 50 0 (((2521 : Int) + s)).toNat z249) 50 0 2520 := rfl
          have g266 : COL (fx_up (fx_up S1 50 0 (((2521 : Int) + s)).toNat z249) 58 0 (s).toNat z261) := fx_pup COL_stab rfl g253
          have g267 : WTM (fx_up (fx_up S1 50 0 (((2521 : Int) + s)).toNat z249) 58 0 (s).toNat z261) := fx_pup WTM_stab rfl g254
          have g268 : INJ (fx_up (fx_up S1 50 0 (((2521 : Int) + s)).toNat z249) 58 0 (s).toNat z261) := fx_pup INJ_stab rfl g255
          have g269 : AON (fx_up (fx_up S1 50 0 (((2521 : Int) + s)).toNat z249) 58 0 (s).toNat z261) := fx_pup AON_stab rfl g256
          have g270 : USE (fx_up (fx_up S1 50 0 (((2521 : Int) + s)).toNat z249) 58 0 (s).toNat z261) := fx_pup USE_stab rfl g257
          have g271 : SNP (fx_up (fx_up S1 50 0 (((2521 : Int) + s)).toNat z249) 58 0 (s).toNat z261) := fx_pup SNP_stab rfl g258
          have g272 : REC (fx_up (fx_up S1 50 0 (((2521 : Int) + s)).toNat z249) 58 0 (s).toNat z261) := fx_pup REC_stab rfl g259
          have g273 : SGM (fx_up (fx_up S1 50 0 (((2521 : Int) + s)).toNat z249) 58 0 (s).toNat z261) := fx_pup SGM_stab rfl g260
          refine And.intro (by decide) (And.intro (show -2147483648 ≤ s + (1 : Int) ∧ s + (1 : Int) < 2147483648 by omega) ?_)
          refine And.intro (by decide) (And.intro (show -2147483648 ≤ j + (1 : Int) ∧ j + (1 : Int) < 2147483648 by omega) ?_)
          exact ih.2 c (s + (1 : Int)) (j + (1 : Int)) (fx_up (fx_up S1 50 0 (((2521 : Int) + s)).toNat z249) 58 0 (s).toNat z261) (fxfr_up (fxfr_up hf rfl) rfl) (by omega) (by omega) (by omega) g266 g267 g268 g269 g270 g271 g272 g273 (by omega)
theorem c_StubHouseModel_writeDone {l : Launch} {k : fxK} {S : fxS}  (p0 : COL S) (p1 : WTM S) (p2 : INJ S) (p3 : AON S) (p4 : USE S) (p5 : SNP S) (p6 : REC S) (p7 : SGM S) (p8 : 0 ≤ S 70 0 0) (p9 : S 63 0 (S 70 0 0).toNat + S 49 0 51 ≤ 6000) (hk : ∀ (S' : fxS) , (fxfr [(49, 7), (49, 43), (50, 9999), (53, 9999), (55, 9999), (56, 9999), (58, 9999), (62, 9999), (63, 9999), (67, 9999), (71, 9999)] S S' ∧ (COL S') ∧ (WTM S') ∧ (INJ S') ∧ (AON S') ∧ (USE S') ∧ (SNP S') ∧ (REC S') ∧ (SGM S')) → k none S') : fC l 281 [.inr (.inr (49, 0))] S k := by
  refine fxe_281 (Nat.le_of_ble_eq_true rfl) (fxz_281 400 ?_)
  refine And.intro (show 0 ≤ (0 : Int) ∧ (0 : Int) < 2 by omega) ?_
  intro z276 (z276a : (-2 : Int) ≤ z276) (z276b : z276 ≤ (5 : Int)) (z276c : z276 = S 70 0 0)
  have lp : S 63 0 (z276).toNat + S 49 0 51 ≤ 6000 := by rw [z276c]; exact p9
  refine And.intro (by decide) ?_
  refine And.intro (show 0 ≤ z276 ∧ z276 < 6 by omega) ?_
  intro z277 (z277a : (0 : Int) ≤ z277) (z277b : z277 ≤ (6000 : Int)) (z277c : z277 = S 63 0 (z276).toNat)
  refine And.intro (fun (h278 : (z277 ≠ (0 : Int) : Prop)) => ?_) (fun (h278 : (z277 = (0 : Int) : Prop)) => ?_)
  ·
    refine And.intro (show 0 ≤ z276 ∧ z276 < 6 by omega) ?_
    intro z279 (z279a : (0 : Int) ≤ z279) (z279b : z279 ≤ (6000 : Int)) (z279c : z279 = S 63 0 (z276).toNat)
    refine And.intro (by decide) ?_
    refine And.intro (by decide) ?_
    exact (z_StubHouseModel_writeDone p0 p1 p2 p3 p4 p5 p6 p7 p8 p9 hk (2000 - (0 : Int)).toNat).1 z276 z279 (0 : Int) S fxfr_rfl (by omega) (by omega) (by omega) (by omega) p0 p1 p2 p3 p4 p5 p6 p7 (by omega)
  ·
    refine And.intro (by decide) ?_
    refine And.intro (by decide) ?_
    exact (z_StubHouseModel_writeDone p0 p1 p2 p3 p4 p5 p6 p7 p8 p9 hk (2000 - (0 : Int)).toNat).1 z276 (8 : Int) (0 : Int) S fxfr_rfl (by omega) (by omega) (by omega) (by omega) p0 p1 p2 p3 p4 p5 p6 p7 (by omega)
