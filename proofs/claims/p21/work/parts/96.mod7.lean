/-! contracts of the reference: THE VIEW, rebuilding -/
theorem z_StubHouseModel_findView {l : Launch} {k : fxK} {S : fxS}  (p0 : SGM S) (hk : ∀ (S' : fxS) , (fxfr [(49, 29), (65, 9999), (66, 9999), (67, 9999), (68, 9999), (69, 9999)] S S' ∧ (SGM S')) → k none S') : ∀ m : Nat, (∀ (t : Int) (S1 : fxS), (fxfr [(49, 29), (65, 9999), (66, 9999), (67, 9999), (68, 9999), (69, 9999)] S S1) → (0 ≤ t ∧ t ≤ 6) → (0 ≤ S1 49 0 29 ∧ S1 49 0 29 ≤ 285 * t) → (SGM S1) → 10000000 + (7 - t) * 1000000 + 999999 ≤ (m : Int) → fZ l 183 k 11 [some (.inr (.inr (49, 0))), some (.inl t), none, none, none, none, none] [] S1) ∧ (∀ (t i : Int) (S1 : fxS), (fxfr [(49, 29), (65, 9999), (66, 9999), (67, 9999), (68, 9999), (69, 9999)] S S1) → (0 ≤ t ∧ t < 6) → (0 ≤ i ∧ i ≤ 285) → (0 ≤ S1 49 0 29 ∧ S1 49 0 29 ≤ 285 * t + i) → (SGM S1) → 10000000 + (7 - t) * 1000000 + (300 - i) * 2000 + 1999 ≤ (m : Int) → fZ l 183 k 19 [some (.inr (.inr (49, 0))), some (.inl t), some (.inl i), none, none, none, none] [] S1) ∧ (∀ (t i a : Int) (S1 : fxS), (fxfr [(49, 29), (65, 9999), (66, 9999), (67, 9999), (68, 9999), (69, 9999)] S S1) → (0 ≤ t ∧ t < 6) → (0 ≤ i ∧ i < 285) → (0 ≤ a ∧ a ≤ S1 49 0 29 ∧ S1 49 0 29 ≤ 285 * t + i) → (SGM S1) → 10000000 + (7 - t) * 1000000 + (300 - i) * 2000 + a ≤ (m : Int) → fZ l 183 k 66 [some (.inr (.inr (49, 0))), some (.inl t), some (.inl i), some (.inl a), none, none, none] [] S1) ∧ (∀ (s v : Int) (S1 : fxS), (fxfr [(49, 29), (65, 9999), (66, 9999), (67, 9999), (68, 9999), (69, 9999)] S S1) → (0 ≤ s ∧ s ≤ v) → (v ≤ 1710) → (SGM S1) → 5000000 + (1711 - v) * 2000 + 1999 ≤ (m : Int) → fZ l 183 k 198 [some (.inr (.inr (49, 0))), some (.inl s), some (.inl v), none, none, none, none] [] S1) ∧ (∀ (s v t i b w : Int) (S1 : fxS), (fxfr [(49, 29), (65, 9999), (66, 9999), (67, 9999), (68, 9999), (69, 9999)] S S1) → (0 ≤ t ∧ t ≤ 5) → (0 ≤ i ∧ i < 285) → (0 ≤ b ∧ b ≤ 1) → (0 ≤ w ∧ w ≤ 1710) → (0 ≤ s ∧ s ≤ v ∧ v < 1710) → (SGM S1) → 5000000 + (1711 - v) * 2000 + 1800 - w ≤ (m : Int) → fZ l 183 k 227 [some (.inr (.inr (49, 0))), some (.inl s), some (.inl v), some (.inl t), some (.inl i), some (.inl b), some (.inl w)] [] S1) ∧ (∀ (v : Int) (S1 : fxS), (fxfr [(49, 29), (65, 9999), (66, 9999), (67, 9999), (68, 9999), (69, 9999)] S S1) → (1 ≤ v ∧ v ≤ 1710) → (SGM S1) → (1711 - v) * 2000 + 1999 ≤ (m : Int) → fZ l 183 k 335 [some (.inr (.inr (49, 0))), none, some (.inl v), none, none, none, none] [] S1) ∧ (∀ (v t i a : Int) (S1 : fxS), (fxfr [(49, 29), (65, 9999), (66, 9999), (67, 9999), (68, 9999), (69, 9999)] S S1) → (0 ≤ t ∧ t ≤ 5) → (0 ≤ i ∧ i < 285) → (0 ≤ a ∧ a ≤ v ∧ v < 1710 ∧ 1 ≤ v) → (SGM S1) → (1711 - v) * 2000 + a ≤ (m : Int) → fZ l 183 k 361 [some (.inr (.inr (49, 0))), none, some (.inl v), some (.inl t), some (.inl i), some (.inl a), none] [] S1) := by
  intro m
  induction m with
  | zero =>
    refine ⟨?_, ?_, ?_, ?_, ?_, ?_, ?_⟩
    · intro t S1 hf i0 i1 i2 hmu
      exfalso
      omega
    · intro t i S1 hf i0 i1 i2 i3 hmu
      exfalso
      omega
    · intro t i a S1 hf i0 i1 i2 i3 hmu
      exfalso
      omega
    · intro s v S1 hf i0 i1 i2 hmu
      exfalso
      omega
    · intro s v t i b w S1 hf i0 i1 i2 i3 i4 i5 hmu
      exfalso
      omega
    · intro v S1 hf i0 i1 hmu
      exfalso
      omega
    · intro v t i a S1 hf i0 i1 i2 i3 hmu
      exfalso
      omega
  | succ m ih =>
    refine ⟨?_, ?_, ?_, ?_, ?_, ?_, ?_⟩
    · intro t S1 hf i0 i1 i2 hmu
      refine fxz_183 400 ?_
      refine And.intro (fun (h1 : ((6 : Int) ≤ t : Prop)) => ?_) (fun (h1 : (t < (6 : Int) : Prop)) => ?_)
      ·
        refine And.intro (by decide) ?_
        refine And.intro (by decide) ?_
        exact ih.2.2.2.1 (0 : Int) (0 : Int) S1 hf (by omega) (by omega) i2 (by omega)
      ·
        refine And.intro (by decide) ?_
        exact ih.2.1 t (0 : Int) S1 hf (by omega) (by omega) (by omega) i2 (by omega)
    · intro t i S1 hf i0 i1 i2 i3 hmu
      refine fxz_183 400 ?_
      refine And.intro (show 0 ≤ t ∧ t < 6 by omega) ?_
      intro z2 (z2a : (0 : Int) ≤ z2) (z2b : z2 ≤ (285 : Int)) (z2c : z2 = S1 66 0 (t).toNat)
      refine And.intro (fun (h3 : (z2 ≤ i : Prop)) => ?_) (fun (h3 : (i < z2 : Prop)) => ?_)
      ·
        refine And.intro (by decide) (And.intro (show -2147483648 ≤ t + (1 : Int) ∧ t + (1 : Int) < 2147483648 by omega) ?_)
        exact ih.1 (t + (1 : Int)) S1 hf (by omega) (by omega) i3 (by omega)
      ·
        refine c_StubHouseModel_seg (t := t) (i := i) (w := (7 : Int)) (show 0 ≤ t ∧ t ≤ 5 by omega) (show 0 ≤ i ∧ i < 300 by omega) (show 0 ≤ (7 : Int) ∧ (7 : Int) < 8 by omega) (fun (z5 : Int) (q6 : z5 = sgN S1 (300 * t + i) (7 : Int) ∧ -2147483648 ≤ z5 ∧ z5 < 2147483648) => ?_)
        refine And.intro (fun (h7 : (z5 ≠ (1 : Int) : Prop)) => ?_) (fun (h7 : (z5 = (1 : Int) : Prop)) => ?_)
        ·
          refine And.intro (by decide) (And.intro (show -2147483648 ≤ i + (1 : Int) ∧ i + (1 : Int) < 2147483648 by omega) ?_)
          exact ih.2.1 t (i + (1 : Int)) S1 hf (by omega) (by omega) (by omega) i3 (by omega)
        ·
          refine c_StubHouseModel_seg (t := t) (i := i) (w := (1 : Int)) (show 0 ≤ t ∧ t ≤ 5 by omega) (show 0 ≤ i ∧ i < 300 by omega) (show 0 ≤ (1 : Int) ∧ (1 : Int) < 8 by omega) (fun (z9 : Int) (q10 : z9 = sgN S1 (300 * t + i) (1 : Int) ∧ -2147483648 ≤ z9 ∧ z9 < 2147483648) => ?_)
          refine And.intro (fun (h11 : (z9 ≠ (1 : Int) : Prop)) => ?_) (fun (h11 : (z9 = (1 : Int) : Prop)) => ?_)
          ·
            refine And.intro (by decide) (And.intro (show -2147483648 ≤ i + (1 : Int) ∧ i + (1 : Int) < 2147483648 by omega) ?_)
            exact ih.2.1 t (i + (1 : Int)) S1 hf (by omega) (by omega) (by omega) i3 (by omega)
          ·
            refine c_StubHouseModel_isFirst (t := t) (i := i) (show 0 ≤ t ∧ t ≤ 5 by omega) (show 0 ≤ i ∧ i < 300 by omega) (fun (z13 : Int) (q14 : 0 ≤ z13 ∧ z13 ≤ 1) => ?_)
            refine And.intro (fun (h15 : (z13 = (0 : Int) : Prop)) => ?_) (fun (h15 : (z13 ≠ (0 : Int) : Prop)) => ?_)
            ·
              refine And.intro (by decide) (And.intro (show -2147483648 ≤ i + (1 : Int) ∧ i + (1 : Int) < 2147483648 by omega) ?_)
              exact ih.2.1 t (i + (1 : Int)) S1 hf (by omega) (by omega) (by omega) i3 (by omega)
            ·
              intro z17 (z17a : (0 : Int) ≤ z17) (z17b : z17 ≤ (1710 : Int)) (z17c : z17 = S1 49 0 29)
              refine And.intro (by decide) ?_
              exact ih.2.2.1 t i z17 S1 hf (by omega) (by omega) (by omega) i3 (by omega)
    · intro t i a S1 hf i0 i1 i2 i3 hmu
      refine fxz_183 400 ?_
      refine And.intro (fun (h18 : (a ≤ (0 : Int) : Prop)) => ?_) (fun (h18 : ((0 : Int) < a : Prop)) => ?_)
      ·
        refine And.intro (show 0 ≤ a ∧ a < 1800 by omega) ?_
        refine And.intro (show (0 : Int) ≤ t ∧ t ≤ (5 : Int) by omega) ?_
        have w19 : (fx_up S1 68 0 (a).toNat t) 49 0 29 = S1 49 0 29 := rfl
        have g20 : SGM (fx_up S1 68 0 (a).toNat t) := fx_pup SGM_stab rfl i3
        refine And.intro (show 0 ≤ a ∧ a < 1800 by omega) ?_
        refine And.intro (show (0 : Int) ≤ i ∧ i ≤ (284 : Int) by omega) ?_
        have w21 : (fx_up (fx_up S1 68 0 (a).toNat t) 69 0 (a).toNat i) 49 0 29 = (fx_up S1 68 0 (a).toNat t) 49 0 29 := rfl
        have g22 : SGM (fx_up (fx_up S1 68 0 (a).toNat t) 69 0 (a).toNat i) := fx_pup SGM_stab rfl g20
        intro z23 (z23a : (0 : Int) ≤ z23) (z23b : z23 ≤ (1710 : Int)) (z23c : z23 = S1 49 0 29)
        refine And.intro (show -2147483648 ≤ (z23 + (1 : Int)) ∧ (z23 + (1 : Int)) < 2147483648 by omega) ?_
        refine And.intro (show (0 : Int) ≤ (z23 + (1 : Int)) ∧ (z23 + (1 : Int)) ≤ (1710 : Int) by omega) ?_
        have w24 : (fx_up (fx_up (fx_up S1 68 0 (a).toNat t) 69 0 (a).toNat i) 49 0 29 (z23 + (1 : Int))) 49 0 29 = (z23 + (1 : Int)) := fx_up_at _ _ _ _ _
        have g25 : SGM (fx_up (fx_up (fx_up S1 68 0 (a).toNat t) 69 0 (a).toNat i) 49 0 29 (z23 + (1 : Int))) := fx_pup SGM_stab rfl g22
        refine And.intro (by decide) (And.intro (show -2147483648 ≤ i + (1 : Int) ∧ i + (1 : Int) < 2147483648 by omega) ?_)
        exact ih.2.1 t (i + (1 : Int)) (fx_up (fx_up (fx_up S1 68 0 (a).toNat t) 69 0 (a).toNat i) 49 0 29 (z23 + (1 : Int))) (fxfr_up (fxfr_up (fxfr_up hf rfl) rfl) rfl) (by omega) (by omega) (by omega) g25 (by omega)
      ·
        refine And.intro (show -2147483648 ≤ (a - (1 : Int)) ∧ (a - (1 : Int)) < 2147483648 by omega) ?_
        refine c_StubHouseModel_vseg (v := (a - (1 : Int))) (w := (4 : Int)) (show 0 ≤ (a - (1 : Int)) ∧ (a - (1 : Int)) < 1800 by omega) (show 0 ≤ (4 : Int) ∧ (4 : Int) < 8 by omega) (fun (z27 : Int) (q28 : -2147483648 ≤ z27 ∧ z27 < 2147483648) => ?_)
        refine c_StubHouseModel_seg (t := t) (i := i) (w := (4 : Int)) (show 0 ≤ t ∧ t ≤ 5 by omega) (show 0 ≤ i ∧ i < 300 by omega) (show 0 ≤ (4 : Int) ∧ (4 : Int) < 8 by omega) (fun (z29 : Int) (q30 : z29 = sgN S1 (300 * t + i) (4 : Int) ∧ -2147483648 ≤ z29 ∧ z29 < 2147483648) => ?_)
        refine And.intro (fun (h31 : (z27 < z29 : Prop)) => ?_) (fun (h31 : (z29 ≤ z27 : Prop)) => ?_)
        ·
          refine And.intro (show -2147483648 ≤ (a - (1 : Int)) ∧ (a - (1 : Int)) < 2147483648 by omega) ?_
          refine And.intro (show 0 ≤ (a - (1 : Int)) ∧ (a - (1 : Int)) < 1800 by omega) ?_
          intro z32 (z32a : (0 : Int) ≤ z32) (z32b : z32 ≤ (5 : Int)) (z32c : z32 = S1 68 0 ((a - (1 : Int))).toNat)
          refine And.intro (show 0 ≤ a ∧ a < 1800 by omega) ?_
          refine And.intro (show (0 : Int) ≤ z32 ∧ z32 ≤ (5 : Int) by omega) ?_
          have w33 : (fx_up S1 68 0 (a).toNat z32) 49 0 29 = S1 49 0 29 := rfl
          have g34 : SGM (fx_up S1 68 0 (a).toNat z32) := fx_pup SGM_stab rfl i3
          refine And.intro (show -2147483648 ≤ (a - (1 : Int)) ∧ (a - (1 : Int)) < 2147483648 by omega) ?_
          refine And.intro (show 0 ≤ (a - (1 : Int)) ∧ (a - (1 : Int)) < 1800 by omega) ?_
          intro z35 (z35a : (0 : Int) ≤ z35) (z35b : z35 ≤ (284 : Int)) (z35c : z35 = S1 69 0 ((a - (1 : Int))).toNat)
          refine And.intro (show 0 ≤ a ∧ a < 1800 by omega) ?_
          refine And.intro (show (0 : Int) ≤ z35 ∧ z35 ≤ (284 : Int) by omega) ?_
          have w36 : (fx_up (fx_up S1 68 0 (a).toNat z32) 69 0 (a).toNat z35) 49 0 29 = (fx_up S1 68 0 (a).toNat z32) 49 0 29 := rfl
          have g37 : SGM (fx_up (fx_up S1 68 0 (a).toNat z32) 69 0 (a).toNat z35) := fx_pup SGM_stab rfl g34
          refine And.intro (by decide) (And.intro (show -2147483648 ≤ a + (-1 : Int) ∧ a + (-1 : Int) < 2147483648 by omega) ?_)
          exact ih.2.2.1 t i (a + (-1 : Int)) (fx_up (fx_up S1 68 0 (a).toNat z32) 69 0 (a).toNat z35) (fxfr_up (fxfr_up hf rfl) rfl) (by omega) (by omega) (by omega) g37 (by omega)
        ·
          refine And.intro (show -2147483648 ≤ (a - (1 : Int)) ∧ (a - (1 : Int)) < 2147483648 by omega) ?_
          refine c_StubHouseModel_vseg (v := (a - (1 : Int))) (w := (4 : Int)) (show 0 ≤ (a - (1 : Int)) ∧ (a - (1 : Int)) < 1800 by omega) (show 0 ≤ (4 : Int) ∧ (4 : Int) < 8 by omega) (fun (z39 : Int) (q40 : -2147483648 ≤ z39 ∧ z39 < 2147483648) => ?_)
          refine c_StubHouseModel_seg (t := t) (i := i) (w := (4 : Int)) (show 0 ≤ t ∧ t ≤ 5 by omega) (show 0 ≤ i ∧ i < 300 by omega) (show 0 ≤ (4 : Int) ∧ (4 : Int) < 8 by omega) (fun (z41 : Int) (q42 : z41 = sgN S1 (300 * t + i) (4 : Int) ∧ -2147483648 ≤ z41 ∧ z41 < 2147483648) => ?_)
          refine And.intro (fun (h43 : (z39 ≠ z41 : Prop)) => ?_) (fun (h43 : (z39 = z41 : Prop)) => ?_)
          ·
            refine And.intro (show 0 ≤ a ∧ a < 1800 by omega) ?_
            refine And.intro (show (0 : Int) ≤ t ∧ t ≤ (5 : Int) by omega) ?_
            have w44 : (fx_up S1 68 0 (a).toNat t) 49 0 29 = S1 49 0 29 := rfl
            have g45 : SGM (fx_up S1 68 0 (a).toNat t) := fx_pup SGM_stab rfl i3
            refine And.intro (show 0 ≤ a ∧ a < 1800 by omega) ?_
            refine And.intro (show (0 : Int) ≤ i ∧ i ≤ (284 : Int) by omega) ?_
            have w46 : (fx_up (fx_up S1 68 0 (a).toNat t) 69 0 (a).toNat i) 49 0 29 = (fx_up S1 68 0 (a).toNat t) 49 0 29 := rfl
            have g47 : SGM (fx_up (fx_up S1 68 0 (a).toNat t) 69 0 (a).toNat i) := fx_pup SGM_stab rfl g45
            intro z48 (z48a : (0 : Int) ≤ z48) (z48b : z48 ≤ (1710 : Int)) (z48c : z48 = S1 49 0 29)
            refine And.intro (show -2147483648 ≤ (z48 + (1 : Int)) ∧ (z48 + (1 : Int)) < 2147483648 by omega) ?_
            refine And.intro (show (0 : Int) ≤ (z48 + (1 : Int)) ∧ (z48 + (1 : Int)) ≤ (1710 : Int) by omega) ?_
            have w49 : (fx_up (fx_up (fx_up S1 68 0 (a).toNat t) 69 0 (a).toNat i) 49 0 29 (z48 + (1 : Int))) 49 0 29 = (z48 + (1 : Int)) := fx_up_at _ _ _ _ _
            have g50 : SGM (fx_up (fx_up (fx_up S1 68 0 (a).toNat t) 69 0 (a).toNat i) 49 0 29 (z48 + (1 : Int))) := fx_pup SGM_stab rfl g47
            refine And.intro (by decide) (And.intro (show -2147483648 ≤ i + (1 : Int) ∧ i + (1 : Int) < 2147483648 by omega) ?_)
            exact ih.2.1 t (i + (1 : Int)) (fx_up (fx_up (fx_up S1 68 0 (a).toNat t) 69 0 (a).toNat i) 49 0 29 (z48 + (1 : Int))) (fxfr_up (fxfr_up (fxfr_up hf rfl) rfl) rfl) (by omega) (by omega) (by omega) g50 (by omega)
          ·
            refine And.intro (show -2147483648 ≤ (a - (1 : Int)) ∧ (a - (1 : Int)) < 2147483648 by omega) ?_
            refine c_StubHouseModel_vseg (v := (a - (1 : Int))) (w := (2 : Int)) (show 0 ≤ (a - (1 : Int)) ∧ (a - (1 : Int)) < 1800 by omega) (show 0 ≤ (2 : Int) ∧ (2 : Int) < 8 by omega) (fun (z52 : Int) (q53 : -2147483648 ≤ z52 ∧ z52 < 2147483648) => ?_)
            refine c_StubHouseModel_seg (t := t) (i := i) (w := (2 : Int)) (show 0 ≤ t ∧ t ≤ 5 by omega) (show 0 ≤ i ∧ i < 300 by omega) (show 0 ≤ (2 : Int) ∧ (2 : Int) < 8 by omega) (fun (z54 : Int) (q55 : z54 = sgN S1 (300 * t + i) (2 : Int) ∧ -2147483648 ≤ z54 ∧ z54 < 2147483648) => ?_)
            refine And.intro (fun (h56 : (z52 ≤ z54 : Prop)) => ?_) (fun (h56 : (z54 < z52 : Prop)) => ?_)
            ·
              refine And.intro (show 0 ≤ a ∧ a < 1800 by omega) ?_
              refine And.intro (show (0 : Int) ≤ t ∧ t ≤ (5 : Int) by omega) ?_
              have w57 : (fx_up S1 68 0 (a).toNat t) 49 0 29 = S1 49 0 29 := rfl
              have g58 : SGM (fx_up S1 68 0 (a).toNat t) := fx_pup SGM_stab rfl i3
              refine And.intro (show 0 ≤ a ∧ a < 1800 by omega) ?_
              refine And.intro (show (0 : Int) ≤ i ∧ i ≤ (284 : Int) by omega) ?_
              have w59 : (fx_up (fx_up S1 68 0 (a).toNat t) 69 0 (a).toNat i) 49 0 29 = (fx_up S1 68 0 (a).toNat t) 49 0 29 := rfl
              have g60 : SGM (fx_up (fx_up S1 68 0 (a).toNat t) 69 0 (a).toNat i) := fx_pup SGM_stab rfl g58
              intro z61 (z61a : (0 : Int) ≤ z61) (z61b : z61 ≤ (1710 : Int)) (z61c : z61 = S1 49 0 29)
              refine And.intro (show -2147483648 ≤ (z61 + (1 : Int)) ∧ (z61 + (1 : Int)) < 2147483648 by omega) ?_
              refine And.intro (show (0 : Int) ≤ (z61 + (1 : Int)) ∧ (z61 + (1 : Int)) ≤ (1710 : Int) by omega) ?_
              have w62 : (fx_up (fx_up (fx_up S1 68 0 (a).toNat t) 69 0 (a).toNat i) 49 0 29 (z61 + (1 : Int))) 49 0 29 = (z61 + (1 : Int)) := fx_up_at _ _ _ _ _
              have g63 : SGM (fx_up (fx_up (fx_up S1 68 0 (a).toNat t) 69 0 (a).toNat i) 49 0 29 (z61 + (1 : Int))) := fx_pup SGM_stab rfl g60
              refine And.intro (by decide) (And.intro (show -2147483648 ≤ i + (1 : Int) ∧ i + (1 : Int) < 2147483648 by omega) ?_)
              exact ih.2.1 t (i + (1 : Int)) (fx_up (fx_up (fx_up S1 68 0 (a).toNat t) 69 0 (a).toNat i) 49 0 29 (z61 + (1 : Int))) (fxfr_up (fxfr_up (fxfr_up hf rfl) rfl) rfl) (by omega) (by omega) (by omega) g63 (by omega)
            ·
              refine And.intro (show -2147483648 ≤ (a - (1 : Int)) ∧ (a - (1 : Int)) < 2147483648 by omega) ?_
              refine And.intro (show 0 ≤ (a - (1 : Int)) ∧ (a - (1 : Int)) < 1800 by omega) ?_
              intro z65 (z65a : (0 : Int) ≤ z65) (z65b : z65 ≤ (5 : Int)) (z65c : z65 = S1 68 0 ((a - (1 : Int))).toNat)
              refine And.intro (show 0 ≤ a ∧ a < 1800 by omega) ?_
              refine And.intro (show (0 : Int) ≤ z65 ∧ z65 ≤ (5 : Int) by omega) ?_
              have w66 : (fx_up S1 68 0 (a).toNat z65) 49 0 29 = S1 49 0 29 := rfl
              have g67 : SGM (fx_up S1 68 0 (a).toNat z65) := fx_pup SGM_stab rfl i3
              refine And.intro (show -2147483648 ≤ (a - (1 : Int)) ∧ (a - (1 : Int)) < 2147483648 by omega) ?_
              refine And.intro (show 0 ≤ (a - (1 : Int)) ∧ (a - (1 : Int)) < 1800 by omega) ?_
              intro z68 (z68a : (0 : Int) ≤ z68) (z68b : z68 ≤ (284 : Int)) (z68c : z68 = S1 69 0 ((a - (1 : Int))).toNat)
              refine And.intro (show 0 ≤ a ∧ a < 1800 by omega) ?_
              refine And.intro (show (0 : Int) ≤ z68 ∧ z68 ≤ (284 : Int) by omega) ?_
              have w69 : (fx_up (fx_up S1 68 0 (a).toNat z65) 69 0 (a).toNat z68) 49 0 29 = (fx_up S1 68 0 (a).toNat z65) 49 0 29 := rfl
              have g70 : SGM (fx_up (fx_up S1 68 0 (a).toNat z65) 69 0 (a).toNat z68) := fx_pup SGM_stab rfl g67
              refine And.intro (by decide) (And.intro (show -2147483648 ≤ a + (-1 : Int) ∧ a + (-1 : Int) < 2147483648 by omega) ?_)
              exact ih.2.2.1 t i (a + (-1 : Int)) (fx_up (fx_up S1 68 0 (a).toNat z65) 69 0 (a).toNat z68) (fxfr_up (fxfr_up hf rfl) rfl) (by omega) (by omega) (by omega) g70 (by omega)
    · intro s v S1 hf i0 i1 i2 hmu
      refine fxz_183 400 ?_
      intro z72 (z72a : (0 : Int) ≤ z72) (z72b : z72 ≤ (1710 : Int)) (z72c : z72 = S1 49 0 29)
      refine And.intro (fun (h73 : (z72 ≤ v : Prop)) => ?_) (fun (h73 : (v < z72 : Prop)) => ?_)
      ·
        refine And.intro (show (0 : Int) ≤ s ∧ s ≤ (1710 : Int) by omega) ?_
        have w74 : (fx_up S1 49 0 29 s) 49 0 29 = s := fx_up_at _ _ _ _ _
        have g75 : SGM (fx_up S1 49 0 29 s) := fx_pup SGM_stab rfl i2
        refine And.intro (by decide) ?_
        exact ih.2.2.2.2.2.1 (1 : Int) (fx_up S1 49 0 29 s) (fxfr_up hf rfl) (by omega) g75 (by omega)
      ·
        refine And.intro (show 0 ≤ v ∧ v < 1800 by omega) ?_
        intro z76 (z76a : (0 : Int) ≤ z76) (z76b : z76 ≤ (5 : Int)) (z76c : z76 = S1 68 0 (v).toNat)
        refine And.intro (by decide) ?_
        refine And.intro (show 0 ≤ v ∧ v < 1800 by omega) ?_
        intro z77 (z77a : (0 : Int) ≤ z77) (z77b : z77 ≤ (284 : Int)) (z77c : z77 = S1 69 0 (v).toNat)
        refine And.intro (by decide) ?_
        refine And.intro (by decide) ?_
        refine And.intro (by decide) ?_
        exact ih.2.2.2.2.1 s v z76 z77 (0 : Int) (0 : Int) S1 hf (by omega) (by omega) (by omega) (by omega) (by omega) i2 (by omega)
    · intro s v t i b w S1 hf i0 i1 i2 i3 i4 i5 hmu
      refine fxz_183 400 ?_
      refine And.intro (fun (h78 : (s ≤ w : Prop)) => ?_) (fun (h78 : (w < s : Prop)) => ?_)
      ·
        refine And.intro (fun (h79 : (b ≠ (0 : Int) : Prop)) => ?_) (fun (h79 : (b = (0 : Int) : Prop)) => ?_)
        ·
          refine And.intro (by decide) (And.intro (show -2147483648 ≤ v + (1 : Int) ∧ v + (1 : Int) < 2147483648 by omega) ?_)
          exact ih.2.2.2.1 s (v + (1 : Int)) S1 hf (by omega) (by omega) i5 (by omega)
        ·
          refine And.intro (show 0 ≤ s ∧ s < 1800 by omega) ?_
          refine And.intro (show (0 : Int) ≤ t ∧ t ≤ (5 : Int) by omega) ?_
          have w81 : (fx_up S1 68 0 (s).toNat t) 49 0 29 = S1 49 0 29 := rfl
          have g82 : SGM (fx_up S1 68 0 (s).toNat t) := fx_pup SGM_stab rfl i5
          refine And.intro (show 0 ≤ s ∧ s < 1800 by omega) ?_
          refine And.intro (show (0 : Int) ≤ i ∧ i ≤ (284 : Int) by omega) ?_
          have w83 : (fx_up (fx_up S1 68 0 (s).toNat t) 69 0 (s).toNat i) 49 0 29 = (fx_up S1 68 0 (s).toNat t) 49 0 29 := rfl
          have g84 : SGM (fx_up (fx_up S1 68 0 (s).toNat t) 69 0 (s).toNat i) := fx_pup SGM_stab rfl g82
          refine And.intro (by decide) (And.intro (show -2147483648 ≤ s + (1 : Int) ∧ s + (1 : Int) < 2147483648 by omega) ?_)
          refine And.intro (by decide) (And.intro (show -2147483648 ≤ v + (1 : Int) ∧ v + (1 : Int) < 2147483648 by omega) ?_)
          exact ih.2.2.2.1 (s + (1 : Int)) (v + (1 : Int)) (fx_up (fx_up S1 68 0 (s).toNat t) 69 0 (s).toNat i) (fxfr_up (fxfr_up hf rfl) rfl) (by omega) (by omega) g84 (by omega)
      ·
        refine And.intro (fun (h87 : (b ≠ (0 : Int) : Prop)) => ?_) (fun (h87 : (b = (0 : Int) : Prop)) => ?_)
        ·
          refine And.intro (fun (h88 : (b ≠ (0 : Int) : Prop)) => ?_) (fun (h88 : (b = (0 : Int) : Prop)) => ?_)
          ·
            refine And.intro (by decide) (And.intro (show -2147483648 ≤ v + (1 : Int) ∧ v + (1 : Int) < 2147483648 by omega) ?_)
            exact ih.2.2.2.1 s (v + (1 : Int)) S1 hf (by omega) (by omega) i5 (by omega)
          ·
            refine And.intro (show 0 ≤ s ∧ s < 1800 by omega) ?_
            refine And.intro (show (0 : Int) ≤ t ∧ t ≤ (5 : Int) by omega) ?_
            have w90 : (fx_up S1 68 0 (s).toNat t) 49 0 29 = S1 49 0 29 := rfl
            have g91 : SGM (fx_up S1 68 0 (s).toNat t) := fx_pup SGM_stab rfl i5
            refine And.intro (show 0 ≤ s ∧ s < 1800 by omega) ?_
            refine And.intro (show (0 : Int) ≤ i ∧ i ≤ (284 : Int) by omega) ?_
            have w92 : (fx_up (fx_up S1 68 0 (s).toNat t) 69 0 (s).toNat i) 49 0 29 = (fx_up S1 68 0 (s).toNat t) 49 0 29 := rfl
            have g93 : SGM (fx_up (fx_up S1 68 0 (s).toNat t) 69 0 (s).toNat i) := fx_pup SGM_stab rfl g91
            refine And.intro (by decide) (And.intro (show -2147483648 ≤ s + (1 : Int) ∧ s + (1 : Int) < 2147483648 by omega) ?_)
            refine And.intro (by decide) (And.intro (show -2147483648 ≤ v + (1 : Int) ∧ v + (1 : Int) < 2147483648 by omega) ?_)
            exact ih.2.2.2.1 (s + (1 : Int)) (v + (1 : Int)) (fx_up (fx_up S1 68 0 (s).toNat t) 69 0 (s).toNat i) (fxfr_up (fxfr_up hf rfl) rfl) (by omega) (by omega) g93 (by omega)
        ·
          refine And.intro (show 0 ≤ w ∧ w < 1800 by omega) ?_
          intro z96 (z96a : (0 : Int) ≤ z96) (z96b : z96 ≤ (5 : Int)) (z96c : z96 = S1 68 0 (w).toNat)
          refine And.intro (show 0 ≤ w ∧ w < 1800 by omega) ?_
          intro z97 (z97a : (0 : Int) ≤ z97) (z97b : z97 ≤ (284 : Int)) (z97c : z97 = S1 69 0 (w).toNat)
          refine c_StubHouseModel_isWithin (t := t) (i := i) (u := z96) (j := z97) i5 (show 0 ≤ t ∧ t ≤ 5 by omega) (show 0 ≤ i ∧ i < 300 by omega) (show 0 ≤ z96 ∧ z96 ≤ 5 by omega) (show 0 ≤ z97 ∧ z97 < 300 by omega) (fun (z98 : Int) (q99 : 0 ≤ z98 ∧ z98 ≤ 1) => ?_)
          refine And.intro (fun (h100 : (z98 ≠ (0 : Int) : Prop)) => ?_) (fun (h100 : (z98 = (0 : Int) : Prop)) => ?_)
          ·
            refine And.intro (by decide) ?_
            refine And.intro (by decide) (And.intro (show -2147483648 ≤ w + (1 : Int) ∧ w + (1 : Int) < 2147483648 by omega) ?_)
            exact ih.2.2.2.2.1 s v t i (1 : Int) (w + (1 : Int)) S1 hf (by omega) (by omega) (by omega) (by omega) (by omega) i5 (by omega)
          ·
            refine And.intro (show 0 ≤ w ∧ w < 1800 by omega) ?_
            intro z102 (z102a : (0 : Int) ≤ z102) (z102b : z102 ≤ (5 : Int)) (z102c : z102 = S1 68 0 (w).toNat)
            refine And.intro (show 0 ≤ w ∧ w < 1800 by omega) ?_
            intro z103 (z103a : (0 : Int) ≤ z103) (z103b : z103 ≤ (284 : Int)) (z103c : z103 = S1 69 0 (w).toNat)
            refine c_StubHouseModel_isWithin (t := z102) (i := z103) (u := t) (j := i) i5 (show 0 ≤ z102 ∧ z102 ≤ 5 by omega) (show 0 ≤ z103 ∧ z103 < 300 by omega) (show 0 ≤ t ∧ t ≤ 5 by omega) (show 0 ≤ i ∧ i < 300 by omega) (fun (z104 : Int) (q105 : 0 ≤ z104 ∧ z104 ≤ 1) => ?_)
            refine And.intro (fun (h106 : (z104 = (0 : Int) : Prop)) => ?_) (fun (h106 : (z104 ≠ (0 : Int) : Prop)) => ?_)
            ·
              refine And.intro (by decide) ?_
              refine And.intro (by decide) (And.intro (show -2147483648 ≤ w + (1 : Int) ∧ w + (1 : Int) < 2147483648 by omega) ?_)
              exact ih.2.2.2.2.1 s v t i (0 : Int) (w + (1 : Int)) S1 hf (by omega) (by omega) (by omega) (by omega) (by omega) i5 (by omega)
            ·
              refine And.intro (by decide) ?_
              refine And.intro (by decide) (And.intro (show -2147483648 ≤ w + (1 : Int) ∧ w + (1 : Int) < 2147483648 by omega) ?_)
              exact ih.2.2.2.2.1 s v t i (1 : Int) (w + (1 : Int)) S1 hf (by omega) (by omega) (by omega) (by omega) (by omega) i5 (by omega)
    · intro v S1 hf i0 i1 hmu
      refine fxz_183 400 ?_
      intro z109 (z109a : (0 : Int) ≤ z109) (z109b : z109 ≤ (1710 : Int)) (z109c : z109 = S1 49 0 29)
      refine And.intro (fun (h110 : (z109 ≤ v : Prop)) => ?_) (fun (h110 : (v < z109 : Prop)) => ?_)
      ·
        exact hk S1 ⟨hf, i1⟩
      ·
        refine And.intro (show 0 ≤ v ∧ v < 1800 by omega) ?_
        intro z111 (z111a : (0 : Int) ≤ z111) (z111b : z111 ≤ (5 : Int)) (z111c : z111 = S1 68 0 (v).toNat)
        refine And.intro (by decide) ?_
        refine And.intro (show 0 ≤ v ∧ v < 1800 by omega) ?_
        intro z112 (z112a : (0 : Int) ≤ z112) (z112b : z112 ≤ (284 : Int)) (z112c : z112 = S1 69 0 (v).toNat)
        refine And.intro (by decide) ?_
        refine And.intro (by decide) ?_
        exact ih.2.2.2.2.2.2 v z111 z112 v S1 hf (by omega) (by omega) (by omega) i1 (by omega)
    · intro v t i a S1 hf i0 i1 i2 i3 hmu
      refine fxz_183 400 ?_
      refine And.intro (fun (h113 : (a ≤ (0 : Int) : Prop)) => ?_) (fun (h113 : ((0 : Int) < a : Prop)) => ?_)
      ·
        refine And.intro (show 0 ≤ a ∧ a < 1800 by omega) ?_
        refine And.intro (show (0 : Int) ≤ t ∧ t ≤ (5 : Int) by omega) ?_
        have w114 : (fx_up S1 68 0 (a).toNat t) 49 0 29 = S1 49 0 29 := rfl
        have g115 : SGM (fx_up S1 68 0 (a).toNat t) := fx_pup SGM_stab rfl i3
        refine And.intro (show 0 ≤ a ∧ a < 1800 by omega) ?_
        refine And.intro (show (0 : Int) ≤ i ∧ i ≤ (284 : Int) by omega) ?_
        have w116 : (fx_up (fx_up S1 68 0 (a).toNat t) 69 0 (a).toNat i) 49 0 29 = (fx_up S1 68 0 (a).toNat t) 49 0 29 := rfl
        have g117 : SGM (fx_up (fx_up S1 68 0 (a).toNat t) 69 0 (a).toNat i) := fx_pup SGM_stab rfl g115
        refine And.intro (by decide) (And.intro (show -2147483648 ≤ v + (1 : Int) ∧ v + (1 : Int) < 2147483648 by omega) ?_)
        exact ih.2.2.2.2.2.1 (v + (1 : Int)) (fx_up (fx_up S1 68 0 (a).toNat t) 69 0 (a).toNat i) (fxfr_up (fxfr_up hf rfl) rfl) (by omega) g117 (by omega)
      ·
        refine And.intro (show -2147483648 ≤ (a - (1 : Int)) ∧ (a - (1 : Int)) < 2147483648 by omega) ?_
        refine c_StubHouseModel_vseg (v := (a - (1 : Int))) (w := (2 : Int)) (show 0 ≤ (a - (1 : Int)) ∧ (a - (1 : Int)) < 1800 by omega) (show 0 ≤ (2 : Int) ∧ (2 : Int) < 8 by omega) (fun (z119 : Int) (q120 : -2147483648 ≤ z119 ∧ z119 < 2147483648) => ?_)
        refine c_StubHouseModel_seg (t := t) (i := i) (w := (2 : Int)) (show 0 ≤ t ∧ t ≤ 5 by omega) (show 0 ≤ i ∧ i < 300 by omega) (show 0 ≤ (2 : Int) ∧ (2 : Int) < 8 by omega) (fun (z121 : Int) (q122 : z121 = sgN S1 (300 * t + i) (2 : Int) ∧ -2147483648 ≤ z121 ∧ z121 < 2147483648) => ?_)
        refine And.intro (fun (h123 : (z119 ≤ z121 : Prop)) => ?_) (fun (h123 : (z121 < z119 : Prop)) => ?_)
        ·
          refine And.intro (show 0 ≤ a ∧ a < 1800 by omega) ?_
          refine And.intro (show (0 : Int) ≤ t ∧ t ≤ (5 : Int) by omega) ?_
          have w124 : (fx_up S1 68 0 (a).toNat t) 49 0 29 = S1 49 0 29 := rfl
          have g125 : SGM (fx_up S1 68 0 (a).toNat t) := fx_pup SGM_stab rfl i3
          refine And.intro (show 0 ≤ a ∧ a < 1800 by omega) ?_
          refine And.intro (show (0 : Int) ≤ i ∧ i ≤ (284 : Int) by omega) ?_
          have w126 : (fx_up (fx_up S1 68 0 (a).toNat t) 69 0 (a).toNat i) 49 0 29 = (fx_up S1 68 0 (a).toNat t) 49 0 29 := rfl
          have g127 : SGM (fx_up (fx_up S1 68 0 (a).toNat t) 69 0 (a).toNat i) := fx_pup SGM_stab rfl g125
          refine And.intro (by decide) (And.intro (show -2147483648 ≤ v + (1 : Int) ∧ v + (1 : Int) < 2147483648 by omega) ?_)
          exact ih.2.2.2.2.2.1 (v + (1 : Int)) (fx_up (fx_up S1 68 0 (a).toNat t) 69 0 (a).toNat i) (fxfr_up (fxfr_up hf rfl) rfl) (by omega) g127 (by omega)
        ·
          refine And.intro (show -2147483648 ≤ (a - (1 : Int)) ∧ (a - (1 : Int)) < 2147483648 by omega) ?_
          refine And.intro (show 0 ≤ (a - (1 : Int)) ∧ (a - (1 : Int)) < 1800 by omega) ?_
          intro z129 (z129a : (0 : Int) ≤ z129) (z129b : z129 ≤ (5 : Int)) (z129c : z129 = S1 68 0 ((a - (1 : Int))).toNat)
          refine And.intro (show 0 ≤ a ∧ a < 1800 by omega) ?_
          refine And.intro (show (0 : Int) ≤ z129 ∧ z129 ≤ (5 : Int) by omega) ?_
          have w130 : (fx_up S1 68 0 (a).toNat z129) 49 0 29 = S1 49 0 29 := rfl
          have g131 : SGM (fx_up S1 68 0 (a).toNat z129) := fx_pup SGM_stab rfl i3
          refine And.intro (show -2147483648 ≤ (a - (1 : Int)) ∧ (a - (1 : Int)) < 2147483648 by omega) ?_
          refine And.intro (show 0 ≤ (a - (1 : Int)) ∧ (a - (1 : Int)) < 1800 by omega) ?_
          intro z132 (z132a : (0 : Int) ≤ z132) (z132b : z132 ≤ (284 : Int)) (z132c : z132 = S1 69 0 ((a - (1 : Int))).toNat)
          refine And.intro (show 0 ≤ a ∧ a < 1800 by omega) ?_
          refine And.intro (show (0 : Int) ≤ z132 ∧ z132 ≤ (284 : Int) by omega) ?_
          have w133 : (fx_up (fx_up S1 68 0 (a).toNat z129) 69 0 (a).toNat z132) 49 0 29 = (fx_up S1 68 0 (a).toNat z129) 49 0 29 := rfl
          have g134 : SGM (fx_up (fx_up S1 68 0 (a).toNat z129) 69 0 (a).toNat z132) := fx_pup SGM_stab rfl g131
          refine And.intro (by decide) (And.intro (show -2147483648 ≤ a + (-1 : Int) ∧ a + (-1 : Int) < 2147483648 by omega) ?_)
          exact ih.2.2.2.2.2.2 v t i (a + (-1 : Int)) (fx_up (fx_up S1 68 0 (a).toNat z129) 69 0 (a).toNat z132) (fxfr_up (fxfr_up hf rfl) rfl) (by omega) (by omega) (by omega) g134 (by omega)
theorem c_StubHouseModel_findView {l : Launch} {k : fxK} {S : fxS}  (p0 : SGM S) (hk : ∀ (S' : fxS) , (fxfr [(49, 29), (65, 9999), (66, 9999), (67, 9999), (68, 9999), (69, 9999)] S S' ∧ (SGM S')) → k none S') : fC l 183 [.inr (.inr (49, 0))] S k := by
  refine fxe_183 (Nat.le_of_ble_eq_true rfl) (fxz_183 400 ?_)
  refine c_StubHouseModel_scanAll  p0 (fun (S136 : fxS) ⟨(f137 : fxfr [(65, 9999), (66, 9999), (67, 9999)] S S136), (g138 : SGM S136), (g139 : KPA S S136)⟩ => ?_)
  have w140 : S136 49 0 29 = S 49 0 29 := f137 49 0 29 rfl
  refine And.intro (show (0 : Int) ≤ (0 : Int) ∧ (0 : Int) ≤ (1710 : Int) by omega) ?_
  have w141 : (fx_up S136 49 0 29 (0 : Int)) 49 0 29 = (0 : Int) := fx_up_at _ _ _ _ _
  have g142 : SGM (fx_up S136 49 0 29 (0 : Int)) := fx_pup SGM_stab rfl g138
  refine And.intro (by decide) ?_
  exact (z_StubHouseModel_findView p0 hk (10000000 + (7 - (0 : Int)) * 1000000 + 999999).toNat).1 (0 : Int) (fx_up S136 49 0 29 (0 : Int)) (fxfr_up (fxfr_tr fxfr_rfl f137 rfl) rfl) (by omega) (by omega) g142 (by omega)
theorem c_StubHouseModel_view {l : Launch} {k : fxK} {S : fxS} {i : Int} {w : Int} (p0 : SGM S) (p1 : -2147483648 ≤ i ∧ i < 2147483648) (p2 : -2147483648 ≤ w ∧ w < 2147483648) (hk : ∀ (r : Int) (S' : fxS) , (fxfr [(49, 0), (49, 29), (65, 9999), (66, 9999), (67, 9999), (68, 9999), (69, 9999)] S S' ∧ (-2147483648 ≤ r ∧ r < 2147483648) ∧ (SGM S')) → k (some (.inl r)) S') : fC l 315 [.inr (.inr (49, 0)), .inl i, .inl w] S k := by
  refine fxe_315 (Nat.le_of_ble_eq_true rfl) (fxz_315 400 ?_)
  refine And.intro (show (-2147483648 : Int) ≤ (0 : Int) ∧ (0 : Int) ≤ (2147483647 : Int) by omega) ?_
  have g1 : SGM (fx_up S 49 0 0 (0 : Int)) := fx_pup SGM_stab rfl p0
  refine And.intro (fun (h2 : (i < (-1 : Int) : Prop)) => ?_) (fun (h2 : ((-1 : Int) ≤ i : Prop)) => ?_)
  ·
    exact hk (-1 : Int) (fx_up S 49 0 0 (0 : Int)) ⟨(fxfr_up fxfr_rfl rfl), by omega, g1⟩
  ·
    refine c_StubHouseModel_in (x := w) (a := (0 : Int)) (b := (4 : Int))  (fun (z3 : Int) (q4 : 0 ≤ z3 ∧ z3 ≤ 1 ∧ (z3 = 1 → (0 : Int) ≤ w ∧ w ≤ (4 : Int)) ∧ (z3 = 0 → w < (0 : Int) ∨ (4 : Int) < w)) => ?_)
    refine And.intro (fun (h5 : (z3 = (0 : Int) : Prop)) => ?_) (fun (h5 : (z3 ≠ (0 : Int) : Prop)) => ?_)
    ·
      exact hk (-1 : Int) (fx_up S 49 0 0 (0 : Int)) ⟨(fxfr_up fxfr_rfl rfl), by omega, g1⟩
    ·
      refine And.intro (fun (h6 : (i ≠ (-1 : Int) : Prop)) => ?_) (fun (h6 : (i = (-1 : Int) : Prop)) => ?_)
      ·
        refine c_StubHouseModel_findView  g1 (fun (S7 : fxS) ⟨(f8 : fxfr [(49, 29), (65, 9999), (66, 9999), (67, 9999), (68, 9999), (69, 9999)] (fx_up S 49 0 0 (0 : Int)) S7), (g9 : SGM S7)⟩ => ?_)
        refine And.intro (fun (h10 : (i ≠ (-1 : Int) : Prop)) => ?_) (fun (h10 : (i = (-1 : Int) : Prop)) => ?_)
        ·
          intro z11 (z11a : (0 : Int) ≤ z11) (z11b : z11 ≤ (1710 : Int)) (z11c : z11 = S7 49 0 29)
          refine And.intro (fun (h12 : (i < z11 : Prop)) => ?_) (fun (h12 : (z11 ≤ i : Prop)) => ?_)
          ·
            refine And.intro (fun (h13 : w = (0 : Int)) => ?_) (fun (h13 : w ≠ (0 : Int)) => ?_)
            ·
              refine c_StubHouseModel_vseg (v := i) (w := (2 : Int)) (show 0 ≤ i ∧ i < 1800 by omega) (show 0 ≤ (2 : Int) ∧ (2 : Int) < 8 by omega) (fun (z14 : Int) (q15 : -2147483648 ≤ z14 ∧ z14 < 2147483648) => ?_)
              exact hk z14 S7 ⟨(fxfr_tr (fxfr_up fxfr_rfl rfl) f8 rfl), by omega, g9⟩
            refine And.intro (fun (h16 : w = (1 : Int)) => ?_) (fun (h16 : w ≠ (1 : Int)) => ?_)
            ·
              refine And.intro (show 0 ≤ i ∧ i < 1800 by omega) ?_
              intro z17 (z17a : (0 : Int) ≤ z17) (z17b : z17 ≤ (5 : Int)) (z17c : z17 = S7 68 0 (i).toNat)
              exact hk z17 S7 ⟨(fxfr_tr (fxfr_up fxfr_rfl rfl) f8 rfl), by omega, g9⟩
            refine And.intro (fun (h18 : w = (2 : Int)) => ?_) (fun (h18 : w ≠ (2 : Int)) => ?_)
            ·
              refine c_StubHouseModel_vseg (v := i) (w := (0 : Int)) (show 0 ≤ i ∧ i < 1800 by omega) (show 0 ≤ (0 : Int) ∧ (0 : Int) < 8 by omega) (fun (z19 : Int) (q20 : -2147483648 ≤ z19 ∧ z19 < 2147483648) => ?_)
              exact hk z19 S7 ⟨(fxfr_tr (fxfr_up fxfr_rfl rfl) f8 rfl), by omega, g9⟩
            refine And.intro (fun (h21 : w = (3 : Int)) => ?_) (fun (h21 : w ≠ (3 : Int)) => ?_)
            ·
              refine c_StubHouseModel_vseg (v := i) (w := (6 : Int)) (show 0 ≤ i ∧ i < 1800 by omega) (show 0 ≤ (6 : Int) ∧ (6 : Int) < 8 by omega) (fun (z22 : Int) (q23 : -2147483648 ≤ z22 ∧ z22 < 2147483648) => ?_)
              exact hk z22 S7 ⟨(fxfr_tr (fxfr_up fxfr_rfl rfl) f8 rfl), by omega, g9⟩
            refine c_StubHouseModel_vseg (v := i) (w := (3 : Int)) (show 0 ≤ i ∧ i < 1800 by omega) (show 0 ≤ (3 : Int) ∧ (3 : Int) < 8 by omega) (fun (z24 : Int) (q25 : -2147483648 ≤ z24 ∧ z24 < 2147483648) => ?_)
            exact hk z24 S7 ⟨(fxfr_tr (fxfr_up fxfr_rfl rfl) f8 rfl), by omega, g9⟩
          ·
            exact hk (-2 : Int) S7 ⟨(fxfr_tr (fxfr_up fxfr_rfl rfl) f8 rfl), by omega, g9⟩
        ·
          intro z26 (z26a : (0 : Int) ≤ z26) (z26b : z26 ≤ (1710 : Int)) (z26c : z26 = S7 49 0 29)
          exact hk z26 S7 ⟨(fxfr_tr (fxfr_up fxfr_rfl rfl) f8 rfl), by omega, g9⟩
      ·
        refine And.intro (fun (h27 : (w = (0 : Int) : Prop)) => ?_) (fun (h27 : (w ≠ (0 : Int) : Prop)) => ?_)
        ·
          refine c_StubHouseModel_findView  g1 (fun (S28 : fxS) ⟨(f29 : fxfr [(49, 29), (65, 9999), (66, 9999), (67, 9999), (68, 9999), (69, 9999)] (fx_up S 49 0 0 (0 : Int)) S28), (g30 : SGM S28)⟩ => ?_)
          refine And.intro (fun (h31 : (i ≠ (-1 : Int) : Prop)) => ?_) (fun (h31 : (i = (-1 : Int) : Prop)) => ?_)
          ·
            intro z32 (z32a : (0 : Int) ≤ z32) (z32b : z32 ≤ (1710 : Int)) (z32c : z32 = S28 49 0 29)
            refine And.intro (fun (h33 : (i < z32 : Prop)) => ?_) (fun (h33 : (z32 ≤ i : Prop)) => ?_)
            ·
              refine And.intro (fun (h34 : w = (0 : Int)) => ?_) (fun (h34 : w ≠ (0 : Int)) => ?_)
              ·
                refine c_StubHouseModel_vseg (v := i) (w := (2 : Int)) (show 0 ≤ i ∧ i < 1800 by omega) (show 0 ≤ (2 : Int) ∧ (2 : Int) < 8 by omega) (fun (z35 : Int) (q36 : -2147483648 ≤ z35 ∧ z35 < 2147483648) => ?_)
                exact hk z35 S28 ⟨(fxfr_tr (fxfr_up fxfr_rfl rfl) f29 rfl), by omega, g30⟩
              refine And.intro (fun (h37 : w = (1 : Int)) => ?_) (fun (h37 : w ≠ (1 : Int)) => ?_)
              ·
                refine And.intro (show 0 ≤ i ∧ i < 1800 by omega) ?_
                intro z38 (z38a : (0 : Int) ≤ z38) (z38b : z38 ≤ (5 : Int)) (z38c : z38 = S28 68 0 (i).toNat)
                exact hk z38 S28 ⟨(fxfr_tr (fxfr_up fxfr_rfl rfl) f29 rfl), by omega, g30⟩
              refine And.intro (fun (h39 : w = (2 : Int)) => ?_) (fun (h39 : w ≠ (2 : Int)) => ?_)
              ·
                refine c_StubHouseModel_vseg (v := i) (w := (0 : Int)) (show 0 ≤ i ∧ i < 1800 by omega) (show 0 ≤ (0 : Int) ∧ (0 : Int) < 8 by omega) (fun (z40 : Int) (q41 : -2147483648 ≤ z40 ∧ z40 < 2147483648) => ?_)
                exact hk z40 S28 ⟨(fxfr_tr (fxfr_up fxfr_rfl rfl) f29 rfl), by omega, g30⟩
              refine And.intro (fun (h42 : w = (3 : Int)) => ?_) (fun (h42 : w ≠ (3 : Int)) => ?_)
              ·
                refine c_StubHouseModel_vseg (v := i) (w := (6 : Int)) (show 0 ≤ i ∧ i < 1800 by omega) (show 0 ≤ (6 : Int) ∧ (6 : Int) < 8 by omega) (fun (z43 : Int) (q44 : -2147483648 ≤ z43 ∧ z43 < 2147483648) => ?_)
                exact hk z43 S28 ⟨(fxfr_tr (fxfr_up fxfr_rfl rfl) f29 rfl), by omega, g30⟩
              refine c_StubHouseModel_vseg (v := i) (w := (3 : Int)) (show 0 ≤ i ∧ i < 1800 by omega) (show 0 ≤ (3 : Int) ∧ (3 : Int) < 8 by omega) (fun (z45 : Int) (q46 : -2147483648 ≤ z45 ∧ z45 < 2147483648) => ?_)
              exact hk z45 S28 ⟨(fxfr_tr (fxfr_up fxfr_rfl rfl) f29 rfl), by omega, g30⟩
            ·
              exact hk (-2 : Int) S28 ⟨(fxfr_tr (fxfr_up fxfr_rfl rfl) f29 rfl), by omega, g30⟩
          ·
            intro z47 (z47a : (0 : Int) ≤ z47) (z47b : z47 ≤ (1710 : Int)) (z47c : z47 = S28 49 0 29)
            exact hk z47 S28 ⟨(fxfr_tr (fxfr_up fxfr_rfl rfl) f29 rfl), by omega, g30⟩
        ·
          exact hk (-1 : Int) (fx_up S 49 0 0 (0 : Int)) ⟨(fxfr_up fxfr_rfl rfl), by omega, g1⟩
theorem z_StubHouseModel_nameOn {l : Launch} {k : fxK} {S : fxS} {t : Int} {p : Int} (p0 : 0 ≤ t ∧ t ≤ 5) (p1 : 0 ≤ p ∧ p + 8 ≤ 6000) (hk : ∀ (r : Int) , k (some (.inr (.inl r))) S) : ∀ m : Nat, (∀ (x j : Int), (0 ≤ j ∧ j ≤ 8) → 9 - j ≤ (m : Int) → fZ l 184 k 5 [some (.inr (.inr (49, 0))), some (.inl t), some (.inl p), some (.inr (.inl x)), none, some (.inl j)] [] S) := by
  intro m
  induction m with
  | zero =>
    intro x j  i0 hmu
    exfalso
    omega
  | succ m ih =>
    intro x j  i0 hmu
    refine fxz_184 400 ?_
    refine And.intro (fun (h1 : ((8 : Int) ≤ j : Prop)) => ?_) (fun (h1 : (j < (8 : Int) : Prop)) => ?_)
    ·
      exact hk x
    ·
      refine And.intro (show -2147483648 ≤ (p + j) ∧ (p + j) < 2147483648 by omega) ?_
      refine c_StubHouseModel_tapeByte (t := t) (p := (p + j)) (show 0 ≤ t ∧ t ≤ 5 by omega) (show 0 ≤ (p + j) ∧ (p + j) < 6000 by omega) (fun (z2 : Int) (q3 : z2 = tB S t (p + j) ∧ 0 ≤ z2 ∧ z2 ≤ 255) => ?_)
      refine And.intro (show -2147483648 ≤ ((8 : Int) * j) ∧ ((8 : Int) * j) < 2147483648 by omega) ?_
      intro z4
      intro z5
      refine And.intro (by decide) ?_
      refine And.intro (by decide) (And.intro (show -2147483648 ≤ j + (1 : Int) ∧ j + (1 : Int) < 2147483648 by omega) ?_)
      exact ih z5 (j + (1 : Int))  (by omega) (by omega)
theorem c_StubHouseModel_nameOn {l : Launch} {k : fxK} {S : fxS} {t : Int} {p : Int} (p0 : 0 ≤ t ∧ t ≤ 5) (p1 : 0 ≤ p ∧ p + 8 ≤ 6000) (hk : ∀ (r : Int) , k (some (.inr (.inl r))) S) : fC l 184 [.inr (.inr (49, 0)), .inl t, .inl p] S k := by
  refine fxe_184 (Nat.le_of_ble_eq_true rfl) (fxz_184 400 ?_)
  refine And.intro (by decide) ?_
  refine And.intro (by decide) ?_
  exact (z_StubHouseModel_nameOn p0 p1 hk (9 - (0 : Int)).toNat) (0 : Int) (0 : Int)  (by omega) (by omega)
theorem c_StubHouseModel_note {l : Launch} {k : fxK} {S : fxS} {f : Int} {t : Int} {p : Int} (p0 : COL S) (p1 : WTM S) (p2 : INJ S) (p3 : AON S) (p4 : USE S) (p5 : REC S) (p6 : 0 ≤ f ∧ f < 60) (p7 : 0 ≤ t ∧ t ≤ 5) (p8 : 0 ≤ p ∧ p ≤ 6000) (p9 : aN S f 5 ≤ 1) (hk : ∀ (S' : fxS) , (fxfr [(50, 9999)] S S' ∧ (COL S') ∧ (WTM S') ∧ (INJ S') ∧ (AON S') ∧ (USE S') ∧ (REC S')) → k none S') : fC l 186 [.inr (.inr (49, 0)), .inl f, .inl t, .inl p] S k := by
  refine fxe_186 (Nat.le_of_ble_eq_true rfl) (fxz_186 400 ?_)
  refine c_at5 (n := f) p0 (show 0 ≤ f ∧ f < 60 by omega) (fun (z1 : Int) (q2 : z1 = aN S f 5 ∧ 0 ≤ z1 ∧ z1 ≤ 2) => ?_)
  refine And.intro (by decide) ?_
  refine And.intro (show -2147483648 ≤ ((2 : Int) * z1) ∧ ((2 : Int) * z1) < 2147483648 by omega) ?_
  refine And.intro (show -2147483648 ≤ ((6 : Int) + ((2 : Int) * z1)) ∧ ((6 : Int) + ((2 : Int) * z1)) < 2147483648 by omega) ?_
  refine c_set (n := f) (w := ((6 : Int) + ((2 : Int) * z1))) (v := t) (show 0 ≤ f ∧ f < 60 by omega) (show 0 ≤ ((6 : Int) + ((2 : Int) * z1)) ∧ ((6 : Int) + ((2 : Int) * z1)) < 42 by omega) (show -2147483648 ≤ t ∧ t < 2147483648 by omega) ?_
  have g3 : COL (fx_up S 50 0 (42 * f + ((6 : Int) + ((2 : Int) * z1))).toNat t) := COL_set p0 (by omega) (by omega) (by omega)
  have g4 : WTM (fx_up S 50 0 (42 * f + ((6 : Int) + ((2 : Int) * z1))).toNat t) := WTM_set p1 (by omega) (by omega)
  have g5 : INJ (fx_up S 50 0 (42 * f + ((6 : Int) + ((2 : Int) * z1))).toNat t) := INJ_set p2 (by omega) (by omega)
  have g6 : AON (fx_up S 50 0 (42 * f + ((6 : Int) + ((2 : Int) * z1))).toNat t) := AON_set p3 (by omega) (by omega)
  have g7 : USE (fx_up S 50 0 (42 * f + ((6 : Int) + ((2 : Int) * z1))).toNat t) := USE_set p4 (by omega) (by omega)
  have g8 : REC (fx_up S 50 0 (42 * f + ((6 : Int) + ((2 : Int) * z1))).toNat t) := REC_set p5 (by omega) (by omega)
  refine And.intro (show -2147483648 ≤ ((2 : Int) * z1) ∧ ((2 : Int) * z1) < 2147483648 by omega) ?_
  refine And.intro (show -2147483648 ≤ ((6 : Int) + ((2 : Int) * z1)) ∧ ((6 : Int) + ((2 : Int) * z1)) < 2147483648 by omega) ?_
  refine And.intro (show -2147483648 ≤ (((6 : Int) + ((2 : Int) * z1)) + (1 : Int)) ∧ (((6 : Int) + ((2 : Int) * z1)) + (1 : Int)) < 2147483648 by omega) ?_
  refine c_set (n := f) (w := (((6 : Int) + ((2 : Int) * z1)) + (1 : Int))) (v := p) (show 0 ≤ f ∧ f < 60 by omega) (show 0 ≤ (((6 : Int) + ((2 : Int) * z1)) + (1 : Int)) ∧ (((6 : Int) + ((2 : Int) * z1)) + (1 : Int)) < 42 by omega) (show -2147483648 ≤ p ∧ p < 2147483648 by omega) ?_
  have g9 : COL (fx_up (fx_up S 50 0 (42 * f + ((6 : Int) + ((2 : Int) * z1))).toNat t) 50 0 (42 * f + (((6 : Int) + ((2 : Int) * z1)) + (1 : Int))).toNat p) := COL_set g3 (by omega) (by omega) (by omega)
  have g10 : WTM (fx_up (fx_up S 50 0 (42 * f + ((6 : Int) + ((2 : Int) * z1))).toNat t) 50 0 (42 * f + (((6 : Int) + ((2 : Int) * z1)) + (1 : Int))).toNat p) := WTM_set g4 (by omega) (by omega)
  have g11 : INJ (fx_up (fx_up S 50 0 (42 * f + ((6 : Int) + ((2 : Int) * z1))).toNat t) 50 0 (42 * f + (((6 : Int) + ((2 : Int) * z1)) + (1 : Int))).toNat p) := INJ_set g5 (by omega) (by omega)
  have g12 : AON (fx_up (fx_up S 50 0 (42 * f + ((6 : Int) + ((2 : Int) * z1))).toNat t) 50 0 (42 * f + (((6 : Int) + ((2 : Int) * z1)) + (1 : Int))).toNat p) := AON_set g6 (by omega) (by omega)
  have g13 : USE (fx_up (fx_up S 50 0 (42 * f + ((6 : Int) + ((2 : Int) * z1))).toNat t) 50 0 (42 * f + (((6 : Int) + ((2 : Int) * z1)) + (1 : Int))).toNat p) := USE_set g7 (by omega) (by omega)
  have g14 : REC (fx_up (fx_up S 50 0 (42 * f + ((6 : Int) + ((2 : Int) * z1))).toNat t) 50 0 (42 * f + (((6 : Int) + ((2 : Int) * z1)) + (1 : Int))).toNat p) := REC_set g8 (by omega) (by omega)
  refine And.intro (show -2147483648 ≤ (z1 + (1 : Int)) ∧ (z1 + (1 : Int)) < 2147483648 by omega) ?_
  refine c_set (n := f) (w := (5 : Int)) (v := (z1 + (1 : Int))) (show 0 ≤ f ∧ f < 60 by omega) (show 0 ≤ (5 : Int) ∧ (5 : Int) < 42 by omega) (show -2147483648 ≤ (z1 + (1 : Int)) ∧ (z1 + (1 : Int)) < 2147483648 by omega) ?_
  have g15 : COL (fx_up (fx_up (fx_up S 50 0 (42 * f + ((6 : Int) + ((2 : Int) * z1))).toNat t) 50 0 (42 * f + (((6 : Int) + ((2 : Int) * z1)) + (1 : Int))).toNat p) 50 0 (42 * f + (5 : Int)).toNat (z1 + (1 : Int))) := COL_set g9 (by omega) (by omega) (by omega)
  have g16 : WTM (fx_up (fx_up (fx_up S 50 0 (42 * f + ((6 : Int) + ((2 : Int) * z1))).toNat t) 50 0 (42 * f + (((6 : Int) + ((2 : Int) * z1)) + (1 : Int))).toNat p) 50 0 (42 * f + (5 : Int)).toNat (z1 + (1 : Int))) := WTM_set g10 (by omega) (by omega)
  have g17 : INJ (fx_up (fx_up (fx_up S 50 0 (42 * f + ((6 : Int) + ((2 : Int) * z1))).toNat t) 50 0 (42 * f + (((6 : Int) + ((2 : Int) * z1)) + (1 : Int))).toNat p) 50 0 (42 * f + (5 : Int)).toNat (z1 + (1 : Int))) := INJ_set g11 (by omega) (by omega)
  have g18 : AON (fx_up (fx_up (fx_up S 50 0 (42 * f + ((6 : Int) + ((2 : Int) * z1))).toNat t) 50 0 (42 * f + (((6 : Int) + ((2 : Int) * z1)) + (1 : Int))).toNat p) 50 0 (42 * f + (5 : Int)).toNat (z1 + (1 : Int))) := AON_set g12 (by omega) (by omega)
  have g19 : USE (fx_up (fx_up (fx_up S 50 0 (42 * f + ((6 : Int) + ((2 : Int) * z1))).toNat t) 50 0 (42 * f + (((6 : Int) + ((2 : Int) * z1)) + (1 : Int))).toNat p) 50 0 (42 * f + (5 : Int)).toNat (z1 + (1 : Int))) := USE_set g13 (by omega) (by omega)
  have g20 : REC (fx_up (fx_up (fx_up S 50 0 (42 * f + ((6 : Int) + ((2 : Int) * z1))).toNat t) 50 0 (42 * f + (((6 : Int) + ((2 : Int) * z1)) + (1 : Int))).toNat p) 50 0 (42 * f + (5 : Int)).toNat (z1 + (1 : Int))) := REC_set g14 (by omega) (by omega)
  exact hk (fx_up (fx_up (fx_up S 50 0 (42 * f + ((6 : Int) + ((2 : Int) * z1))).toNat t) 50 0 (42 * f + (((6 : Int) + ((2 : Int) * z1)) + (1 : Int))).toNat p) 50 0 (42 * f + (5 : Int)).toNat (z1 + (1 : Int))) ⟨(fxfr_up (fxfr_up (fxfr_up fxfr_rfl rfl) rfl) rfl), g15, g16, g17, g18, g19, g20⟩
theorem c_StubHouseModel_drop {l : Launch} {k : fxK} {S : fxS} {f : Int} {i : Int} (p0 : COL S) (p1 : WTM S) (p2 : INJ S) (p3 : AON S) (p4 : USE S) (p5 : REC S) (p6 : 0 ≤ f ∧ f < 60) (p7 : 0 ≤ i ∧ i ≤ 1) (p8 : 1 ≤ aN S f 5) (hk : ∀ (S' : fxS) , (fxfr [(50, 9999)] S S' ∧ (COL S') ∧ (WTM S') ∧ (INJ S') ∧ (AON S') ∧ (USE S') ∧ (REC S')) → k none S') : fC l 262 [.inr (.inr (49, 0)), .inl f, .inl i] S k := by
  refine fxe_262 (Nat.le_of_ble_eq_true rfl) (fxz_262 400 ?_)
  refine And.intro (fun (h1 : (i ≠ (0 : Int) : Prop)) => ?_) (fun (h1 : (i = (0 : Int) : Prop)) => ?_)
  ·
    refine c_set (n := f) (w := (8 : Int)) (v := (0 : Int)) (show 0 ≤ f ∧ f < 60 by omega) (show 0 ≤ (8 : Int) ∧ (8 : Int) < 42 by omega) (show -2147483648 ≤ (0 : Int) ∧ (0 : Int) < 2147483648 by omega) ?_
    have w2 : aN (fx_up S 50 0 (42 * f + (8 : Int)).toNat (0 : Int)) f (5 : Int) = aN S f (5 : Int) := (aN_ne (S := S) (by omega) (by omega) (by omega))
    have g3 : COL (fx_up S 50 0 (42 * f + (8 : Int)).toNat (0 : Int)) := COL_set p0 (by omega) (by omega) (by omega)
    have g4 : WTM (fx_up S 50 0 (42 * f + (8 : Int)).toNat (0 : Int)) := WTM_set p1 (by omega) (by omega)
    have g5 : INJ (fx_up S 50 0 (42 * f + (8 : Int)).toNat (0 : Int)) := INJ_set p2 (by omega) (by omega)
    have g6 : AON (fx_up S 50 0 (42 * f + (8 : Int)).toNat (0 : Int)) := AON_set p3 (by omega) (by omega)
    have g7 : USE (fx_up S 50 0 (42 * f + (8 : Int)).toNat (0 : Int)) := USE_set p4 (by omega) (by omega)
    have g8 : REC (fx_up S 50 0 (42 * f + (8 : Int)).toNat (0 : Int)) := REC_set p5 (by omega) (by omega)
    refine c_set (n := f) (w := (9 : Int)) (v := (0 : Int)) (show 0 ≤ f ∧ f < 60 by omega) (show 0 ≤ (9 : Int) ∧ (9 : Int) < 42 by omega) (show -2147483648 ≤ (0 : Int) ∧ (0 : Int) < 2147483648 by omega) ?_
    have w9 : aN (fx_up (fx_up S 50 0 (42 * f + (8 : Int)).toNat (0 : Int)) 50 0 (42 * f + (9 : Int)).toNat (0 : Int)) f (5 : Int) = aN (fx_up S 50 0 (42 * f + (8 : Int)).toNat (0 : Int)) f (5 : Int) := (aN_ne (S := (fx_up S 50 0 (42 * f + (8 : Int)).toNat (0 : Int))) (by omega) (by omega) (by omega))
    have g10 : COL (fx_up (fx_up S 50 0 (42 * f + (8 : Int)).toNat (0 : Int)) 50 0 (42 * f + (9 : Int)).toNat (0 : Int)) := COL_set g3 (by omega) (by omega) (by omega)
    have g11 : WTM (fx_up (fx_up S 50 0 (42 * f + (8 : Int)).toNat (0 : Int)) 50 0 (42 * f + (9 : Int)).toNat (0 : Int)) := WTM_set g4 (by omega) (by omega)
    have g12 : INJ (fx_up (fx_up S 50 0 (42 * f + (8 : Int)).toNat (0 : Int)) 50 0 (42 * f + (9 : Int)).toNat (0 : Int)) := INJ_set g5 (by omega) (by omega)
    have g13 : AON (fx_up (fx_up S 50 0 (42 * f + (8 : Int)).toNat (0 : Int)) 50 0 (42 * f + (9 : Int)).toNat (0 : Int)) := AON_set g6 (by omega) (by omega)
    have g14 : USE (fx_up (fx_up S 50 0 (42 * f + (8 : Int)).toNat (0 : Int)) 50 0 (42 * f + (9 : Int)).toNat (0 : Int)) := USE_set g7 (by omega) (by omega)
    have g15 : REC (fx_up (fx_up S 50 0 (42 * f + (8 : Int)).toNat (0 : Int)) 50 0 (42 * f + (9 : Int)).toNat (0 : Int)) := REC_set g8 (by omega) (by omega)
    refine c_at5 (n := f) g10 (show 0 ≤ f ∧ f < 60 by omega) (fun (z16 : Int) (q17 : z16 = aN (fx_up (fx_up S 50 0 (42 * f + (8 : Int)).toNat (0 : Int)) 50 0 (42 * f + (9 : Int)).toNat (0 : Int)) f 5 ∧ 0 ≤ z16 ∧ z16 ≤ 2) => ?_)
    refine And.intro (show -2147483648 ≤ (z16 - (1 : Int)) ∧ (z16 - (1 : Int)) < 2147483648 by omega) ?_
    refine c_set (n := f) (w := (5 : Int)) (v := (z16 - (1 : Int))) (show 0 ≤ f ∧ f < 60 by omega) (show 0 ≤ (5 : Int) ∧ (5 : Int) < 42 by omega) (show -2147483648 ≤ (z16 - (1 : Int)) ∧ (z16 - (1 : Int)) < 2147483648 by omega) ?_
    have w18 : aN (fx_up (fx_up (fx_up S 50 0 (42 * f + (8 : Int)).toNat (0 : Int)) 50 0 (42 * f + (9 : Int)).toNat (0 : Int)) 50 0 (42 * f + (5 : Int)).toNat (z16 - (1 : Int))) f (5 : Int) = (z16 - (1 : Int)) := aN_eq
    have g19 : COL (fx_up (fx_up (fx_up S 50 0 (42 * f + (8 : Int)).toNat (0 : Int)) 50 0 (42 * f + (9 : Int)).toNat (0 : Int)) 50 0 (42 * f + (5 : Int)).toNat (z16 - (1 : Int))) := COL_set g10 (by omega) (by omega) (by omega)
    have g20 : WTM (fx_up (fx_up (fx_up S 50 0 (42 * f + (8 : Int)).toNat (0 : Int)) 50 0 (42 * f + (9 : Int)).toNat (0 : Int)) 50 0 (42 * f + (5 : Int)).toNat (z16 - (1 : Int))) := WTM_set g11 (by omega) (by omega)
    have g21 : INJ (fx_up (fx_up (fx_up S 50 0 (42 * f + (8 : Int)).toNat (0 : Int)) 50 0 (42 * f + (9 : Int)).toNat (0 : Int)) 50 0 (42 * f + (5 : Int)).toNat (z16 - (1 : Int))) := INJ_set g12 (by omega) (by omega)
    have g22 : AON (fx_up (fx_up (fx_up S 50 0 (42 * f + (8 : Int)).toNat (0 : Int)) 50 0 (42 * f + (9 : Int)).toNat (0 : Int)) 50 0 (42 * f + (5 : Int)).toNat (z16 - (1 : Int))) := AON_set g13 (by omega) (by omega)
    have g23 : USE (fx_up (fx_up (fx_up S 50 0 (42 * f + (8 : Int)).toNat (0 : Int)) 50 0 (42 * f + (9 : Int)).toNat (0 : Int)) 50 0 (42 * f + (5 : Int)).toNat (z16 - (1 : Int))) := USE_set g14 (by omega) (by omega)
    have g24 : REC (fx_up (fx_up (fx_up S 50 0 (42 * f + (8 : Int)).toNat (0 : Int)) 50 0 (42 * f + (9 : Int)).toNat (0 : Int)) 50 0 (42 * f + (5 : Int)).toNat (z16 - (1 : Int))) := REC_set g15 (by omega) (by omega)
    exact hk (fx_up (fx_up (fx_up S 50 0 (42 * f + (8 : Int)).toNat (0 : Int)) 50 0 (42 * f + (9 : Int)).toNat (0 : Int)) 50 0 (42 * f + (5 : Int)).toNat (z16 - (1 : Int))) ⟨(fxfr_up (fxfr_up (fxfr_up fxfr_rfl rfl) rfl) rfl), g19, g20, g21, g22, g23, g24⟩
  ·
    refine c_at8 (n := f) p0 (show 0 ≤ f ∧ f < 60 by omega) (fun (z25 : Int) (q26 : z25 = aN S f 8 ∧ 0 ≤ z25 ∧ z25 ≤ 5) => ?_)
    refine c_set (n := f) (w := (6 : Int)) (v := z25) (show 0 ≤ f ∧ f < 60 by omega) (show 0 ≤ (6 : Int) ∧ (6 : Int) < 42 by omega) (show -2147483648 ≤ z25 ∧ z25 < 2147483648 by omega) ?_
    have w27 : aN (fx_up S 50 0 (42 * f + (6 : Int)).toNat z25) f (5 : Int) = aN S f (5 : Int) := (aN_ne (S := S) (by omega) (by omega) (by omega))
    have g28 : COL (fx_up S 50 0 (42 * f + (6 : Int)).toNat z25) := COL_set p0 (by omega) (by omega) (by omega)
    have g29 : WTM (fx_up S 50 0 (42 * f + (6 : Int)).toNat z25) := WTM_set p1 (by omega) (by omega)
    have g30 : INJ (fx_up S 50 0 (42 * f + (6 : Int)).toNat z25) := INJ_set p2 (by omega) (by omega)
    have g31 : AON (fx_up S 50 0 (42 * f + (6 : Int)).toNat z25) := AON_set p3 (by omega) (by omega)
    have g32 : USE (fx_up S 50 0 (42 * f + (6 : Int)).toNat z25) := USE_set p4 (by omega) (by omega)
    have g33 : REC (fx_up S 50 0 (42 * f + (6 : Int)).toNat z25) := REC_set p5 (by omega) (by omega)
    refine c_at9 (n := f) g28 (show 0 ≤ f ∧ f < 60 by omega) (fun (z34 : Int) (q35 : z34 = aN (fx_up S 50 0 (42 * f + (6 : Int)).toNat z25) f 9 ∧ 0 ≤ z34 ∧ z34 ≤ 6000) => ?_)
    refine c_set (n := f) (w := (7 : Int)) (v := z34) (show 0 ≤ f ∧ f < 60 by omega) (show 0 ≤ (7 : Int) ∧ (7 : Int) < 42 by omega) (show -2147483648 ≤ z34 ∧ z34 < 2147483648 by omega) ?_
    have w36 : aN (fx_up (fx_up S 50 0 (42 * f + (6 : Int)).toNat z25) 50 0 (42 * f + (7 : Int)).toNat z34) f (5 : Int) = aN (fx_up S 50 0 (42 * f + (6 : Int)).toNat z25) f (5 : Int) := (aN_ne (S := (fx_up S 50 0 (42 * f + (6 : Int)).toNat z25)) (by omega) (by omega) (by omega))
    have g37 : COL (fx_up (fx_up S 50 0 (42 * f + (6 : Int)).toNat z25) 50 0 (42 * f + (7 : Int)).toNat z34) := COL_set g28 (by omega) (by omega) (by omega)
    have g38 : WTM (fx_up (fx_up S 50 0 (42 * f + (6 : Int)).toNat z25) 50 0 (42 * f + (7 : Int)).toNat z34) := WTM_set g29 (by omega) (by omega)
    have g39 : INJ (fx_up (fx_up S 50 0 (42 * f + (6 : Int)).toNat z25) 50 0 (42 * f + (7 : Int)).toNat z34) := INJ_set g30 (by omega) (by omega)
    have g40 : AON (fx_up (fx_up S 50 0 (42 * f + (6 : Int)).toNat z25) 50 0 (42 * f + (7 : Int)).toNat z34) := AON_set g31 (by omega) (by omega)
    have g41 : USE (fx_up (fx_up S 50 0 (42 * f + (6 : Int)).toNat z25) 50 0 (42 * f + (7 : Int)).toNat z34) := USE_set g32 (by omega) (by omega)
    have g42 : REC (fx_up (fx_up S 50 0 (42 * f + (6 : Int)).toNat z25) 50 0 (42 * f + (7 : Int)).toNat z34) := REC_set g33 (by omega) (by omega)
    refine c_set (n := f) (w := (8 : Int)) (v := (0 : Int)) (show 0 ≤ f ∧ f < 60 by omega) (show 0 ≤ (8 : Int) ∧ (8 : Int) < 42 by omega) (show -2147483648 ≤ (0 : Int) ∧ (0 : Int) < 2147483648 by omega) ?_
    have w43 : aN (fx_up (fx_up (fx_up S 50 0 (42 * f + (6 : Int)).toNat z25) 50 0 (42 * f + (7 : Int)).toNat z34) 50 0 (42 * f + (8 : Int)).toNat (0 : Int)) f (5 : Int) = aN (fx_up (fx_up S 50 0 (42 * f + (6 : Int)).toNat z25) 50 0 (42 * f + (7 : Int)).toNat z34) f (5 : Int) := (aN_ne (S := (fx_up (fx_up S 50 0 (42 * f + (6 : Int)).toNat z25) 50 0 (42 * f + (7 : Int)).toNat z34)) (by omega) (by omega) (by omega))
    have g44 : COL (fx_up (fx_up (fx_up S 50 0 (42 * f + (6 : Int)).toNat z25) 50 0 (42 * f + (7 : Int)).toNat z34) 50 0 (42 * f + (8 : Int)).toNat (0 : Int)) := COL_set g37 (by omega) (by omega) (by omega)
    have g45 : WTM (fx_up (fx_up (fx_up S 50 0 (42 * f + (6 : Int)).toNat z25) 50 0 (42 * f + (7 : Int)).toNat z34) 50 0 (42 * f + (8 : Int)).toNat (0 : Int)) := WTM_set g38 (by omega) (by omega)
    have g46 : INJ (fx_up (fx_up (fx_up S 50 0 (42 * f + (6 : Int)).toNat z25) 50 0 (42 * f + (7 : Int)).toNat z34) 50 0 (42 * f + (8 : Int)).toNat (0 : Int)) := INJ_set g39 (by omega) (by omega)
    have g47 : AON (fx_up (fx_up (fx_up S 50 0 (42 * f + (6 : Int)).toNat z25) 50 0 (42 * f + (7 : Int)).toNat z34) 50 0 (42 * f + (8 : Int)).toNat (0 : Int)) := AON_set g40 (by omega) (by omega)
    have g48 : USE (fx_up (fx_up (fx_up S 50 0 (42 * f + (6 : Int)).toNat z25) 50 0 (42 * f + (7 : Int)).toNat z34) 50 0 (42 * f + (8 : Int)).toNat (0 : Int)) := USE_set g41 (by omega) (by omega)
    have g49 : REC (fx_up (fx_up (fx_up S 50 0 (42 * f + (6 : Int)).toNat z25) 50 0 (42 * f + (7 : Int)).toNat z34) 50 0 (42 * f + (8 : Int)).toNat (0 : Int)) := REC_set g42 (by omega) (by omega)
    refine c_set (n := f) (w := (9 : Int)) (v := (0 : Int)) (show 0 ≤ f ∧ f < 60 by omega) (show 0 ≤ (9 : Int) ∧ (9 : Int) < 42 by omega) (show -2147483648 ≤ (0 : Int) ∧ (0 : Int) < 2147483648 by omega) ?_
    have w50 : aN (fx_up (fx_up (fx_up (fx_up S 50 0 (42 * f + (6 : Int)).toNat z25) 50 0 (42 * f + (7 : Int)).toNat z34) 50 0 (42 * f + (8 : Int)).toNat (0 : Int)) 50 0 (42 * f + (9 : Int)).toNat (0 : Int)) f (5 : Int) = aN (fx_up (fx_up (fx_up S 50 0 (42 * f + (6 : Int)).toNat z25) 50 0 (42 * f + (7 : Int)).toNat z34) 50 0 (42 * f + (8 : Int)).toNat (0 : Int)) f (5 : Int) := (aN_ne (S := (fx_up (fx_up (fx_up S 50 0 (42 * f + (6 : Int)).toNat z25) 50 0 (42 * f + (7 : Int)).toNat z34) 50 0 (42 * f + (8 : Int)).toNat (0 : Int))) (by omega) (by omega) (by omega))
    have g51 : COL (fx_up (fx_up (fx_up (fx_up S 50 0 (42 * f + (6 : Int)).toNat z25) 50 0 (42 * f + (7 : Int)).toNat z34) 50 0 (42 * f + (8 : Int)).toNat (0 : Int)) 50 0 (42 * f + (9 : Int)).toNat (0 : Int)) := COL_set g44 (by omega) (by omega) (by omega)
    have g52 : WTM (fx_up (fx_up (fx_up (fx_up S 50 0 (42 * f + (6 : Int)).toNat z25) 50 0 (42 * f + (7 : Int)).toNat z34) 50 0 (42 * f + (8 : Int)).toNat (0 : Int)) 50 0 (42 * f + (9 : Int)).toNat (0 : Int)) := WTM_set g45 (by omega) (by omega)
    have g53 : INJ (fx_up (fx_up (fx_up (fx_up S 50 0 (42 * f + (6 : Int)).toNat z25) 50 0 (42 * f + (7 : Int)).toNat z34) 50 0 (42 * f + (8 : Int)).toNat (0 : Int)) 50 0 (42 * f + (9 : Int)).toNat (0 : Int)) := INJ_set g46 (by omega) (by omega)
    have g54 : AON (fx_up (fx_up (fx_up (fx_up S 50 0 (42 * f + (6 : Int)).toNat z25) 50 0 (42 * f + (7 : Int)).toNat z34) 50 0 (42 * f + (8 : Int)).toNat (0 : Int)) 50 0 (42 * f + (9 : Int)).toNat (0 : Int)) := AON_set g47 (by omega) (by omega)
    have g55 : USE (fx_up (fx_up (fx_up (fx_up S 50 0 (42 * f + (6 : Int)).toNat z25) 50 0 (42 * f + (7 : Int)).toNat z34) 50 0 (42 * f + (8 : Int)).toNat (0 : Int)) 50 0 (42 * f + (9 : Int)).toNat (0 : Int)) := USE_set g48 (by omega) (by omega)
    have g56 : REC (fx_up (fx_up (fx_up (fx_up S 50 0 (42 * f + (6 : Int)).toNat z25) 50 0 (42 * f + (7 : Int)).toNat z34) 50 0 (42 * f + (8 : Int)).toNat (0 : Int)) 50 0 (42 * f + (9 : Int)).toNat (0 : Int)) := REC_set g49 (by omega) (by omega)
    refine c_at5 (n := f) g51 (show 0 ≤ f ∧ f < 60 by omega) (fun (z57 : Int) (q58 : z57 = aN (fx_up (fx_up (fx_up (fx_up S 50 0 (42 * f + (6 : Int)).toNat z25) 50 0 (42 * f + (7 : Int)).toNat z34) 50 0 (42 * f + (8 : Int)).toNat (0 : Int)) 50 0 (42 * f + (9 : Int)).toNat (0 : Int)) f 5 ∧ 0 ≤ z57 ∧ z57 ≤ 2) => ?_)
    refine And.intro (show -2147483648 ≤ (z57 - (1 : Int)) ∧ (z57 - (1 : Int)) < 2147483648 by omega) ?_
    refine c_set (n := f) (w := (5 : Int)) (v := (z57 - (1 : Int))) (show 0 ≤ f ∧ f < 60 by omega) (show 0 ≤ (5 : Int) ∧ (5 : Int) < 42 by omega) (show -2147483648 ≤ (z57 - (1 : Int)) ∧ (z57 - (1 : Int)) < 2147483648 by omega) ?_
    have w59 : aN (fx_up (fx_up (fx_up (fx_up (fx_up S 50 0 (42 * f + (6 : Int)).toNat z25) 50 0 (42 * f + (7 : Int)).toNat z34) 50 0 (42 * f + (8 : Int)).toNat (0 : Int)) 50 0 (42 * f + (9 : Int)).toNat (0 : Int)) 50 0 (42 * f + (5 : Int)).toNat (z57 - (1 : Int))) f (5 : Int) = (z57 - (1 : Int)) := aN_eq
    have g60 : COL (fx_up (fx_up (fx_up (fx_up (fx_up S 50 0 (42 * f + (6 : Int)).toNat z25) 50 0 (42 * f + (7 : Int)).toNat z34) 50 0 (42 * f + (8 : Int)).toNat (0 : Int)) 50 0 (42 * f + (9 : Int)).toNat (0 : Int)) 50 0 (42 * f + (5 : Int)).toNat (z57 - (1 : Int))) := COL_set g51 (by omega) (by omega) (by omega)
    have g61 : WTM (fx_up (fx_up (fx_up (fx_up (fx_up S 50 0 (42 * f + (6 : Int)).toNat z25) 50 0 (42 * f + (7 : Int)).toNat z34) 50 0 (42 * f + (8 : Int)).toNat (0 : Int)) 50 0 (42 * f + (9 : Int)).toNat (0 : Int)) 50 0 (42 * f + (5 : Int)).toNat (z57 - (1 : Int))) := WTM_set g52 (by omega) (by omega)
    have g62 : INJ (fx_up (fx_up (fx_up (fx_up (fx_up S 50 0 (42 * f + (6 : Int)).toNat z25) 50 0 (42 * f + (7 : Int)).toNat z34) 50 0 (42 * f + (8 : Int)).toNat (0 : Int)) 50 0 (42 * f + (9 : Int)).toNat (0 : Int)) 50 0 (42 * f + (5 : Int)).toNat (z57 - (1 : Int))) := INJ_set g53 (by omega) (by omega)
    have g63 : AON (fx_up (fx_up (fx_up (fx_up (fx_up S 50 0 (42 * f + (6 : Int)).toNat z25) 50 0 (42 * f + (7 : Int)).toNat z34) 50 0 (42 * f + (8 : Int)).toNat (0 : Int)) 50 0 (42 * f + (9 : Int)).toNat (0 : Int)) 50 0 (42 * f + (5 : Int)).toNat (z57 - (1 : Int))) := AON_set g54 (by omega) (by omega)
    have g64 : USE (fx_up (fx_up (fx_up (fx_up (fx_up S 50 0 (42 * f + (6 : Int)).toNat z25) 50 0 (42 * f + (7 : Int)).toNat z34) 50 0 (42 * f + (8 : Int)).toNat (0 : Int)) 50 0 (42 * f + (9 : Int)).toNat (0 : Int)) 50 0 (42 * f + (5 : Int)).toNat (z57 - (1 : Int))) := USE_set g55 (by omega) (by omega)
    have g65 : REC (fx_up (fx_up (fx_up (fx_up (fx_up S 50 0 (42 * f + (6 : Int)).toNat z25) 50 0 (42 * f + (7 : Int)).toNat z34) 50 0 (42 * f + (8 : Int)).toNat (0 : Int)) 50 0 (42 * f + (9 : Int)).toNat (0 : Int)) 50 0 (42 * f + (5 : Int)).toNat (z57 - (1 : Int))) := REC_set g56 (by omega) (by omega)
    exact hk (fx_up (fx_up (fx_up (fx_up (fx_up S 50 0 (42 * f + (6 : Int)).toNat z25) 50 0 (42 * f + (7 : Int)).toNat z34) 50 0 (42 * f + (8 : Int)).toNat (0 : Int)) 50 0 (42 * f + (9 : Int)).toNat (0 : Int)) 50 0 (42 * f + (5 : Int)).toNat (z57 - (1 : Int))) ⟨(fxfr_up (fxfr_up (fxfr_up (fxfr_up (fxfr_up fxfr_rfl rfl) rfl) rfl) rfl) rfl), g60, g61, g62, g63, g64, g65⟩
theorem z_StubHouseModel_rebuildFile {l : Launch} {k : fxK} {S : fxS} {t : Int} {i : Int} (p0 : COL S) (p1 : WTM S) (p2 : INJ S) (p3 : AON S) (p4 : USE S) (p5 : REC S) (p6 : SGM S) (p7 : 0 ≤ t ∧ t ≤ 5) (p8 : 0 ≤ i ∧ i < 300) (p9 : S 49 0 36 = 0) (hk : ∀ (S' : fxS) , (fxfr [(50, 9999), (52, 9999), (65, 9999), (66, 9999), (67, 9999)] S S' ∧ (S' 49 0 36 = 0) ∧ (COL S') ∧ (WTM S') ∧ (INJ S') ∧ (AON S') ∧ (USE S') ∧ (REC S') ∧ (SGM S')) → k none S') : ∀ m : Nat, (∀ (c p o j : Int) (S1 : fxS), (fxfr [(50, 9999), (52, 9999), (65, 9999), (66, 9999), (67, 9999)] S S1) → (0 ≤ c ∧ c ≤ 5) → (15 ≤ p ∧ p + 8 * c ≤ 5994) → (0 ≤ o ∧ o < 60 ∧ aN S1 o 0 = 1 ∧ (depF (ovf (S1 50 0)) 60 o : Int) = j) → (0 ≤ j ∧ (j ≤ 0 ∨ j ≤ c - 1)) → (S1 49 0 36 = 0) → (COL S1) → (WTM S1) → (INJ S1) → (AON S1) → (USE S1) → (REC S1) → (SGM S1) → 20000 - j ≤ (m : Int) → fZ l 187 k 26 [some (.inr (.inr (49, 0))), some (.inl t), some (.inl i), some (.inl c), some (.inl p), some (.inl o), some (.inl j), none, none, none, none, none] [] S1) ∧ (∀ (f u : Int) (S1 : fxS), (fxfr [(50, 9999), (52, 9999), (65, 9999), (66, 9999), (67, 9999)] S S1) → (1 ≤ f ∧ f < 60) → (0 ≤ u ∧ u ≤ 6) → (S1 49 0 36 = 0) → (COL S1) → (WTM S1) → (INJ S1) → (AON S1) → (USE S1) → (REC S1) → (SGM S1) → (7 - u) * 1000 + 500 ≤ (m : Int) → fZ l 187 k 247 [some (.inr (.inr (49, 0))), none, none, none, none, none, none, none, some (.inl f), some (.inl u), none, none] [] S1) ∧ (∀ (f u b j : Int) (S1 : fxS), (fxfr [(50, 9999), (52, 9999), (65, 9999), (66, 9999), (67, 9999)] S S1) → (1 ≤ f ∧ f < 60) → (0 ≤ u ∧ u < 6) → (0 ≤ b ∧ b ≤ 1) → (b = 0 → aN S1 f 5 ≤ 1) → (0 ≤ j ∧ j ≤ 285) → (S1 49 0 36 = 0) → (COL S1) → (WTM S1) → (INJ S1) → (AON S1) → (USE S1) → (REC S1) → (SGM S1) → (7 - u) * 1000 + 300 - j ≤ (m : Int) → fZ l 187 k 271 [some (.inr (.inr (49, 0))), none, none, none, none, none, none, none, some (.inl f), some (.inl u), some (.inl b), some (.inl j)] [] S1) := by
  intro m
  induction m with
  | zero =>
    refine ⟨?_, ?_, ?_⟩
    · intro c p o j S1 hf i0 i1 i2 i3 i4 i5 i6 i7 i8 i9 i10 i11 hmu
      exfalso
      omega
    · intro f u S1 hf i0 i1 i2 i3 i4 i5 i6 i7 i8 i9 hmu
      exfalso
      omega
    · intro f u b j S1 hf i0 i1 i2 i3 i4 i5 i6 i7 i8 i9 i10 i11 i12 hmu
      exfalso
      omega
  | succ m ih =>
    refine ⟨?_, ?_, ?_⟩
    · intro c p o j S1 hf i0 i1 i2 i3 i4 i5 i6 i7 i8 i9 i10 i11 hmu
      refine fxz_187 400 ?_
      refine And.intro (show -2147483648 ≤ (c - (1 : Int)) ∧ (c - (1 : Int)) < 2147483648 by omega) ?_
      refine And.intro (fun (h1 : ((c - (1 : Int)) ≤ j : Prop)) => ?_) (fun (h1 : (j < (c - (1 : Int)) : Prop)) => ?_)
      ·
        refine And.intro (show -2147483648 ≤ (c - (1 : Int)) ∧ (c - (1 : Int)) < 2147483648 by omega) ?_
        refine And.intro (show -2147483648 ≤ ((8 : Int) * (c - (1 : Int))) ∧ ((8 : Int) * (c - (1 : Int))) < 2147483648 by omega) ?_
        refine And.intro (show -2147483648 ≤ (p + ((8 : Int) * (c - (1 : Int)))) ∧ (p + ((8 : Int) * (c - (1 : Int)))) < 2147483648 by omega) ?_
        refine c_StubHouseModel_nameOn (t := t) (p := (p + ((8 : Int) * (c - (1 : Int))))) (show 0 ≤ t ∧ t ≤ 5 by omega) (show 0 ≤ (p + ((8 : Int) * (c - (1 : Int)))) ∧ (p + ((8 : Int) * (c - (1 : Int)))) + 8 ≤ 6000 by omega) (fun (z2 : Int) => ?_)
        refine And.intro (by decide) ?_
        intro z3 (z3a : 0 ≤ z3) (z3b : z3 ≤ 1)
        refine And.intro (fun (h4 : (z3 = (0 : Int) : Prop)) => ?_) (fun (h4 : (z3 ≠ (0 : Int) : Prop)) => ?_)
        ·
          refine And.intro (by decide) ?_
          refine And.intro (fun h => absurd h (by decide)) (fun _ => ?_)
          exact hk S1 ⟨hf, by omega, i5, i6, i7, i8, i9, i10, i11⟩
        ·
          refine c_StubHouseModel_look (o := o) (x := z2) i5 (show -2147483648 ≤ o ∧ o < 2147483648 by omega) (fun (z5 : Int) (q6 : -2 ≤ z5 ∧ z5 < 60 ∧ z5 ≠ -1 ∧ z5 ≠ 0 ∧ (0 ≤ z5 → aN S1 z5 0 ≠ 0 ∧ aN S1 z5 1 = o)) => ?_)
          refine And.intro (fun (h7 : ((0 : Int) ≤ z5 : Prop)) => ?_) (fun (h7 : (z5 < (0 : Int) : Prop)) => ?_)
          ·
            refine And.intro (by decide) ?_
            refine And.intro (fun h => absurd h (by decide)) (fun _ => ?_)
            exact hk S1 ⟨hf, by omega, i5, i6, i7, i8, i9, i10, i11⟩
          ·
            refine c_StubHouseModel_freeNode  i5 (fun (z8 : Int) (q9 : -2 ≤ z8 ∧ z8 < 60 ∧ z8 ≠ -1 ∧ z8 ≠ 0 ∧ (0 ≤ z8 → aN S1 z8 0 = 0)) => ?_)
            refine And.intro (by decide) ?_
            refine And.intro (fun (h10 : ((0 : Int) ≤ z8 : Prop)) => ?_) (fun (h10 : (z8 < (0 : Int) : Prop)) => ?_)
            ·
              refine c_StubHouseModel_plant (n := z8) (q := (2 : Int)) (o := o) (x := z2) i5 (show 0 ≤ z8 ∧ z8 < 60 by omega) (show 0 ≤ (2 : Int) ∧ (2 : Int) ≤ 2 by omega) (show -1 ≤ o ∧ o < 60 by omega) (fun (S11 : fxS) ⟨(f12 : fxfr [(50, 9999), (52, 9999)] S1 S11), (g13 : COL S11), (g14 : PLN z8 (2 : Int) o S1 S11)⟩ => ?_)
              have w15 : S11 49 0 36 = S1 49 0 36 := f12 49 0 36 rfl
              have g16 : SGM S11 := fx_pfr SGM_stab f12 rfl i11
              have pn : PLN z8 (2 : Int) o S1 S11 := by assumption
              have ek : aN S1 z8 0 = 0 := by omega
              have wt : WTM S11 := PLN_wt pn i6 (by omega) ek (by omega) (by omega) (by omega) (by omega)
              have ij : INJ S11 := PLN_inj pn i7
              have ao : AON S11 := PLN_aon pn i8
              have us : USE S11 := PLN_use pn (fun b => f12 56 0 b rfl) i9
              have rc : REC S11 := REC_0 (by omega)
              have av : AV z8 10 (-1) S11 := pn.2.2.2.2 10 (by omega) (by omega)
              have sg := SGM_at (t := t) (i := i) g16 (by omega) (by omega)
              refine c_StubHouseModel_seg (t := t) (i := i) (w := (2 : Int)) (show 0 ≤ t ∧ t ≤ 5 by omega) (show 0 ≤ i ∧ i < 300 by omega) (show 0 ≤ (2 : Int) ∧ (2 : Int) < 8 by omega) (fun (z17 : Int) (q18 : z17 = sgN S11 (300 * t + i) (2 : Int) ∧ -2147483648 ≤ z17 ∧ z17 < 2147483648) => ?_)
              refine c_set (n := z8) (w := (2 : Int)) (v := z17) (show 0 ≤ z8 ∧ z8 < 60 by omega) (show 0 ≤ (2 : Int) ∧ (2 : Int) < 42 by omega) (show -2147483648 ≤ z17 ∧ z17 < 2147483648 by omega) ?_
              have w19 : (fx_up S11 50 0 (42 * z8 + (2 : Int)).toNat z17) 49 0 36 = S11 49 0 36 := rfl
              have g20 : COL (fx_up S11 50 0 (42 * z8 + (2 : Int)).toNat z17) := COL_set g13 (by omega) (by omega) (by omega)
              have g21 : SGM (fx_up S11 50 0 (42 * z8 + (2 : Int)).toNat z17) := fx_pup SGM_stab rfl g16
              have g22 : WTM (fx_up S11 50 0 (42 * z8 + (2 : Int)).toNat z17) := WTM_set wt (by omega) (by omega)
              have g23 : INJ (fx_up S11 50 0 (42 * z8 + (2 : Int)).toNat z17) := INJ_set ij (by omega) (by omega)
              have g24 : AON (fx_up S11 50 0 (42 * z8 + (2 : Int)).toNat z17) := AON_set ao (by omega) (by omega)
              have g25 : USE (fx_up S11 50 0 (42 * z8 + (2 : Int)).toNat z17) := USE_set us (by omega) (by omega)
              have g26 : AV z8 10 (-1) (fx_up S11 50 0 (42 * z8 + (2 : Int)).toNat z17) := AV_set av (by omega) (by omega) (by omega)
              have rc : REC (fx_up S11 50 0 (42 * z8 + (2 : Int)).toNat z17) := REC_0 (by omega)
              refine c_StubHouseModel_seg (t := t) (i := i) (w := (6 : Int)) (show 0 ≤ t ∧ t ≤ 5 by omega) (show 0 ≤ i ∧ i < 300 by omega) (show 0 ≤ (6 : Int) ∧ (6 : Int) < 8 by omega) (fun (z27 : Int) (q28 : z27 = sgN S11 (300 * t + i) (6 : Int) ∧ -2147483648 ≤ z27 ∧ z27 < 2147483648) => ?_)
              refine c_set (n := z8) (w := (3 : Int)) (v := z27) (show 0 ≤ z8 ∧ z8 < 60 by omega) (show 0 ≤ (3 : Int) ∧ (3 : Int) < 42 by omega) (show -2147483648 ≤ z27 ∧ z27 < 2147483648 by omega) ?_
              have w29 : (fx_up (fx_up S11 50 0 (42 * z8 + (2 : Int)).toNat z17) 50 0 (42 * z8 + (3 : Int)).toNat z27) 49 0 36 = (fx_up S11 50 0 (42 * z8 + (2 : Int)).toNat z17) 49 0 36 := rfl
              have g30 : COL (fx_up (fx_up S11 50 0 (42 * z8 + (2 : Int)).toNat z17) 50 0 (42 * z8 + (3 : Int)).toNat z27) := COL_set g20 (by omega) (by omega) (by omega)
              have g31 : SGM (fx_up (fx_up S11 50 0 (42 * z8 + (2 : Int)).toNat z17) 50 0 (42 * z8 + (3 : Int)).toNat z27) := fx_pup SGM_stab rfl g21
              have g32 : WTM (fx_up (fx_up S11 50 0 (42 * z8 + (2 : Int)).toNat z17) 50 0 (42 * z8 + (3 : Int)).toNat z27) := WTM_set g22 (by omega) (by omega)
              have g33 : INJ (fx_up (fx_up S11 50 0 (42 * z8 + (2 : Int)).toNat z17) 50 0 (42 * z8 + (3 : Int)).toNat z27) := INJ_set g23 (by omega) (by omega)
              have g34 : USE (fx_up (fx_up S11 50 0 (42 * z8 + (2 : Int)).toNat z17) 50 0 (42 * z8 + (3 : Int)).toNat z27) := USE_set g25 (by omega) (by omega)
              have g35 : AV z8 10 (-1) (fx_up (fx_up S11 50 0 (42 * z8 + (2 : Int)).toNat z17) 50 0 (42 * z8 + (3 : Int)).toNat z27) := AV_set g26 (by omega) (by omega) (by omega)
              have g36 : REC (fx_up (fx_up S11 50 0 (42 * z8 + (2 : Int)).toNat z17) 50 0 (42 * z8 + (3 : Int)).toNat z27) := REC_set rc (by omega) (by omega)
              have ao : AON (fx_up (fx_up S11 50 0 (42 * z8 + (2 : Int)).toNat z17) 50 0 (42 * z8 + (3 : Int)).toNat z27) := AON_size2 g24 (by omega) g26
              refine c_StubHouseModel_seg (t := t) (i := i) (w := (3 : Int)) (show 0 ≤ t ∧ t ≤ 5 by omega) (show 0 ≤ i ∧ i < 300 by omega) (show 0 ≤ (3 : Int) ∧ (3 : Int) < 8 by omega) (fun (z37 : Int) (q38 : z37 = sgN S11 (300 * t + i) (3 : Int) ∧ -2147483648 ≤ z37 ∧ z37 < 2147483648) => ?_)
              refine c_set (n := z8) (w := (4 : Int)) (v := z37) (show 0 ≤ z8 ∧ z8 < 60 by omega) (show 0 ≤ (4 : Int) ∧ (4 : Int) < 42 by omega) (show -2147483648 ≤ z37 ∧ z37 < 2147483648 by omega) ?_
              have w39 : (fx_up (fx_up (fx_up S11 50 0 (42 * z8 + (2 : Int)).toNat z17) 50 0 (42 * z8 + (3 : Int)).toNat z27) 50 0 (42 * z8 + (4 : Int)).toNat z37) 49 0 36 = (fx_up (fx_up S11 50 0 (42 * z8 + (2 : Int)).toNat z17) 50 0 (42 * z8 + (3 : Int)).toNat z27) 49 0 36 := rfl
              have g40 : COL (fx_up (fx_up (fx_up S11 50 0 (42 * z8 + (2 : Int)).toNat z17) 50 0 (42 * z8 + (3 : Int)).toNat z27) 50 0 (42 * z8 + (4 : Int)).toNat z37) := COL_set g30 (by omega) (by omega) (by omega)
              have g41 : SGM (fx_up (fx_up (fx_up S11 50 0 (42 * z8 + (2 : Int)).toNat z17) 50 0 (42 * z8 + (3 : Int)).toNat z27) 50 0 (42 * z8 + (4 : Int)).toNat z37) := fx_pup SGM_stab rfl g31
              have g42 : WTM (fx_up (fx_up (fx_up S11 50 0 (42 * z8 + (2 : Int)).toNat z17) 50 0 (42 * z8 + (3 : Int)).toNat z27) 50 0 (42 * z8 + (4 : Int)).toNat z37) := WTM_set g32 (by omega) (by omega)
              have g43 : INJ (fx_up (fx_up (fx_up S11 50 0 (42 * z8 + (2 : Int)).toNat z17) 50 0 (42 * z8 + (3 : Int)).toNat z27) 50 0 (42 * z8 + (4 : Int)).toNat z37) := INJ_set g33 (by omega) (by omega)
              have g44 : USE (fx_up (fx_up (fx_up S11 50 0 (42 * z8 + (2 : Int)).toNat z17) 50 0 (42 * z8 + (3 : Int)).toNat z27) 50 0 (42 * z8 + (4 : Int)).toNat z37) := USE_set g34 (by omega) (by omega)
              have g45 : AV z8 10 (-1) (fx_up (fx_up (fx_up S11 50 0 (42 * z8 + (2 : Int)).toNat z17) 50 0 (42 * z8 + (3 : Int)).toNat z27) 50 0 (42 * z8 + (4 : Int)).toNat z37) := AV_set g35 (by omega) (by omega) (by omega)
              have g46 : REC (fx_up (fx_up (fx_up S11 50 0 (42 * z8 + (2 : Int)).toNat z17) 50 0 (42 * z8 + (3 : Int)).toNat z27) 50 0 (42 * z8 + (4 : Int)).toNat z37) := REC_set g36 (by omega) (by omega)
              have g47 : AON (fx_up (fx_up (fx_up S11 50 0 (42 * z8 + (2 : Int)).toNat z17) 50 0 (42 * z8 + (3 : Int)).toNat z27) 50 0 (42 * z8 + (4 : Int)).toNat z37) := AON_set ao (by omega) (by omega)
              refine And.intro (by decide) ?_
              exact ih.2.1 z8 (0 : Int) (fx_up (fx_up (fx_up S11 50 0 (42 * z8 + (2 : Int)).toNat z17) 50 0 (42 * z8 + (3 : Int)).toNat z27) 50 0 (42 * z8 + (4 : Int)).toNat z37) (fxfr_up (fxfr_up (fxfr_up (fxfr_tr hf f12 rfl) rfl) rfl) rfl) (by omega) (by omega) (by omega) g40 g42 g43 g47 g44 g46 g41 (by omega)
            ·
              exact hk S1 ⟨hf, by omega, i5, i6, i7, i8, i9, i10, i11⟩
      ·
        refine And.intro (show -2147483648 ≤ ((8 : Int) * j) ∧ ((8 : Int) * j) < 2147483648 by omega) ?_
        refine And.intro (show -2147483648 ≤ (p + ((8 : Int) * j)) ∧ (p + ((8 : Int) * j)) < 2147483648 by omega) ?_
        refine c_StubHouseModel_nameOn (t := t) (p := (p + ((8 : Int) * j))) (show 0 ≤ t ∧ t ≤ 5 by omega) (show 0 ≤ (p + ((8 : Int) * j)) ∧ (p + ((8 : Int) * j)) + 8 ≤ 6000 by omega) (fun (z48 : Int) => ?_)
        refine And.intro (by decide) ?_
        intro z49 (z49a : 0 ≤ z49) (z49b : z49 ≤ 1)
        refine And.intro (fun (h50 : (z49 = (0 : Int) : Prop)) => ?_) (fun (h50 : (z49 ≠ (0 : Int) : Prop)) => ?_)
        ·
          refine And.intro (by decide) ?_
          refine And.intro (fun h => absurd h (by decide)) (fun _ => ?_)
          intro z51 (z51a : 0 ≤ z51) (z51b : z51 ≤ 1)
          refine And.intro (fun (h52 : (z51 = (0 : Int) : Prop)) => ?_) (fun (h52 : (z51 ≠ (0 : Int) : Prop)) => ?_)
          ·
            refine And.intro (by decide) ?_
            refine And.intro (fun h => absurd h (by decide)) (fun _ => ?_)
            exact hk S1 ⟨hf, by omega, i5, i6, i7, i8, i9, i10, i11⟩
          ·
            refine c_StubHouseModel_freeNode  i5 (fun (z53 : Int) (q54 : -2 ≤ z53 ∧ z53 < 60 ∧ z53 ≠ -1 ∧ z53 ≠ 0 ∧ (0 ≤ z53 → aN S1 z53 0 = 0)) => ?_)
            refine And.intro (by decide) ?_
            refine And.intro (fun (h55 : ((0 : Int) ≤ z53 : Prop)) => ?_) (fun (h55 : (z53 < (0 : Int) : Prop)) => ?_)
            ·
              refine c_StubHouseModel_plant (n := z53) (q := (1 : Int)) (o := o) (x := z48) i5 (show 0 ≤ z53 ∧ z53 < 60 by omega) (show 0 ≤ (1 : Int) ∧ (1 : Int) ≤ 2 by omega) (show -1 ≤ o ∧ o < 60 by omega) (fun (S56 : fxS) ⟨(f57 : fxfr [(50, 9999), (52, 9999)] S1 S56), (g58 : COL S56), (g59 : PLN z53 (1 : Int) o S1 S56)⟩ => ?_)
              have w60 : S56 49 0 36 = S1 49 0 36 := f57 49 0 36 rfl
              have g61 : SGM S56 := fx_pfr SGM_stab f57 rfl i11
              have pn : PLN z53 (1 : Int) o S1 S56 := by assumption
              have ek : aN S1 z53 0 = 0 := by omega
              have wt : WTM S56 := PLN_wt pn i6 (by omega) ek (by omega) (by omega) (by omega) (by omega)
              have ij : INJ S56 := PLN_inj pn i7
              have ao : AON S56 := PLN_aon pn i8
              have us : USE S56 := PLN_use pn (fun b => f57 56 0 b rfl) i9
              have rc : REC S56 := REC_0 (by omega)
              have dn : (depF (ovf (S56 50 0)) 60 z53 : Int) = 1 + (depF (ovf (S1 50 0)) 60 o : Int) := PLN_dep pn i6 (by omega) ek (by omega) (by omega) (by omega) (by omega)
              have k1 : aN S56 z53 0 = 1 := pn.2.1
              refine And.intro (by decide) ?_
              refine And.intro (by decide) (And.intro (show -2147483648 ≤ j + (1 : Int) ∧ j + (1 : Int) < 2147483648 by omega) ?_)
              exact ih.1 c p z53 (j + (1 : Int)) S56 (fxfr_tr hf f57 rfl) (by omega) (by omega) (by omega) (by omega) (by omega) g58 wt ij ao us rc g61 (by omega)
            ·
              exact hk S1 ⟨hf, by omega, i5, i6, i7, i8, i9, i10, i11⟩
        ·
          refine c_StubHouseModel_look (o := o) (x := z48) i5 (show -2147483648 ≤ o ∧ o < 2147483648 by omega) (fun (z63 : Int) (q64 : -2 ≤ z63 ∧ z63 < 60 ∧ z63 ≠ -1 ∧ z63 ≠ 0 ∧ (0 ≤ z63 → aN S1 z63 0 ≠ 0 ∧ aN S1 z63 1 = o)) => ?_)
          have wc : 0 ≤ z63 → (depF (ovf (S1 50 0)) 60 z63 : Int) = 1 + (depF (ovf (S1 50 0)) 60 o : Int) := fun h => by have e := WTM_child (n := z63) i6 (by omega); rw [(q64.2.2.2.2 h).2] at e; exact e
          refine And.intro (by decide) ?_
          refine And.intro (fun (h65 : ((0 : Int) ≤ z63 : Prop)) => ?_) (fun (h65 : (z63 < (0 : Int) : Prop)) => ?_)
          ·
            refine c_at0 (n := z63) i5 (show 0 ≤ z63 ∧ z63 < 60 by omega) (fun (z66 : Int) (q67 : z66 = aN S1 z63 0 ∧ 0 ≤ z66 ∧ z66 ≤ 2) => ?_)
            refine And.intro (fun (h68 : (z66 = (1 : Int) : Prop)) => ?_) (fun (h68 : (z66 ≠ (1 : Int) : Prop)) => ?_)
            ·
              refine And.intro (by decide) ?_
              refine And.intro (by decide) (And.intro (show -2147483648 ≤ j + (1 : Int) ∧ j + (1 : Int) < 2147483648 by omega) ?_)
              exact ih.1 c p z63 (j + (1 : Int)) S1 hf (by omega) (by omega) (by omega) (by omega) (by omega) i5 i6 i7 i8 i9 i10 i11 (by omega)
            ·
              exact hk S1 ⟨hf, by omega, i5, i6, i7, i8, i9, i10, i11⟩
          ·
            intro z70 (z70a : 0 ≤ z70) (z70b : z70 ≤ 1)
            refine And.intro (fun (h71 : (z70 = (0 : Int) : Prop)) => ?_) (fun (h71 : (z70 ≠ (0 : Int) : Prop)) => ?_)
            ·
              refine And.intro (by decide) ?_
              refine And.intro (fun h => absurd h (by decide)) (fun _ => ?_)
              exact hk S1 ⟨hf, by omega, i5, i6, i7, i8, i9, i10, i11⟩
            ·
              refine c_StubHouseModel_freeNode  i5 (fun (z72 : Int) (q73 : -2 ≤ z72 ∧ z72 < 60 ∧ z72 ≠ -1 ∧ z72 ≠ 0 ∧ (0 ≤ z72 → aN S1 z72 0 = 0)) => ?_)
              refine And.intro (by decide) ?_
              refine And.intro (fun (h74 : ((0 : Int) ≤ z72 : Prop)) => ?_) (fun (h74 : (z72 < (0 : Int) : Prop)) => ?_)
              ·
                refine c_StubHouseModel_plant (n := z72) (q := (1 : Int)) (o := o) (x := z48) i5 (show 0 ≤ z72 ∧ z72 < 60 by omega) (show 0 ≤ (1 : Int) ∧ (1 : Int) ≤ 2 by omega) (show -1 ≤ o ∧ o < 60 by omega) (fun (S75 : fxS) ⟨(f76 : fxfr [(50, 9999), (52, 9999)] S1 S75), (g77 : COL S75), (g78 : PLN z72 (1 : Int) o S1 S75)⟩ => ?_)
                have w79 : S75 49 0 36 = S1 49 0 36 := f76 49 0 36 rfl
                have g80 : SGM S75 := fx_pfr SGM_stab f76 rfl i11
                have pn : PLN z72 (1 : Int) o S1 S75 := by assumption
                have ek : aN S1 z72 0 = 0 := by omega
                have wt : WTM S75 := PLN_wt pn i6 (by omega) ek (by omega) (by omega) (by omega) (by omega)
                have ij : INJ S75 := PLN_inj pn i7
                have ao : AON S75 := PLN_aon pn i8
                have us : USE S75 := PLN_use pn (fun b => f76 56 0 b rfl) i9
                have rc : REC S75 := REC_0 (by omega)
                have dn : (depF (ovf (S75 50 0)) 60 z72 : Int) = 1 + (depF (ovf (S1 50 0)) 60 o : Int) := PLN_dep pn i6 (by omega) ek (by omega) (by omega) (by omega) (by omega)
                have k1 : aN S75 z72 0 = 1 := pn.2.1
                refine And.intro (by decide) ?_
                refine And.intro (by decide) (And.intro (show -2147483648 ≤ j + (1 : Int) ∧ j + (1 : Int) < 2147483648 by omega) ?_)
                exact ih.1 c p z72 (j + (1 : Int)) S75 (fxfr_tr hf f76 rfl) (by omega) (by omega) (by omega) (by omega) (by omega) g77 wt ij ao us rc g80 (by omega)
              ·
                exact hk S1 ⟨hf, by omega, i5, i6, i7, i8, i9, i10, i11⟩
    · intro f u S1 hf i0 i1 i2 i3 i4 i5 i6 i7 i8 i9 hmu
      refine fxz_187 400 ?_
      refine And.intro (fun (h82 : ((6 : Int) ≤ u : Prop)) => ?_) (fun (h82 : (u < (6 : Int) : Prop)) => ?_)
      ·
        exact hk S1 ⟨hf, by omega, i3, i4, i5, i6, i7, i8, i9⟩
      ·
        refine c_at5 (n := f) i3 (show 0 ≤ f ∧ f < 60 by omega) (fun (z83 : Int) (q84 : z83 = aN S1 f 5 ∧ 0 ≤ z83 ∧ z83 ≤ 2) => ?_)
        refine And.intro (fun (h85 : ((2 : Int) ≤ z83 : Prop)) => ?_) (fun (h85 : (z83 < (2 : Int) : Prop)) => ?_)
        ·
          exact hk S1 ⟨hf, by omega, i3, i4, i5, i6, i7, i8, i9⟩
        ·
          refine And.intro (by decide) ?_
          refine And.intro (by decide) ?_
          exact ih.2.2 f u (0 : Int) (0 : Int) S1 hf (by omega) (by omega) (by omega) (by omega) (by omega) (by omega) i3 i4 i5 i6 i7 i8 i9 (by omega)
    · intro f u b j S1 hf i0 i1 i2 i3 i4 i5 i6 i7 i8 i9 i10 i11 i12 hmu
      refine fxz_187 400 ?_
      refine And.intro (show 0 ≤ u ∧ u < 6 by omega) ?_
      intro z86 (z86a : (0 : Int) ≤ z86) (z86b : z86 ≤ (285 : Int)) (z86c : z86 = S1 66 0 (u).toNat)
      refine And.intro (fun (h87 : (z86 ≤ j : Prop)) => ?_) (fun (h87 : (j < z86 : Prop)) => ?_)
      ·
        refine And.intro (by decide) (And.intro (show -2147483648 ≤ u + (1 : Int) ∧ u + (1 : Int) < 2147483648 by omega) ?_)
        exact ih.2.1 f (u + (1 : Int)) S1 hf (by omega) (by omega) (by omega) i6 i7 i8 i9 i10 i11 i12 (by omega)
      ·
        refine And.intro (fun (h89 : (b ≠ (0 : Int) : Prop)) => ?_) (fun (h89 : (b = (0 : Int) : Prop)) => ?_)
        ·
          refine And.intro (by decide) (And.intro (show -2147483648 ≤ u + (1 : Int) ∧ u + (1 : Int) < 2147483648 by omega) ?_)
          exact ih.2.1 f (u + (1 : Int)) S1 hf (by omega) (by omega) (by omega) i6 i7 i8 i9 i10 i11 i12 (by omega)
        ·
          refine c_StubHouseModel_seg (t := u) (i := j) (w := (0 : Int)) (show 0 ≤ u ∧ u ≤ 5 by omega) (show 0 ≤ j ∧ j < 300 by omega) (show 0 ≤ (0 : Int) ∧ (0 : Int) < 8 by omega) (fun (z91 : Int) (q92 : z91 = sgN S1 (300 * u + j) (0 : Int) ∧ -2147483648 ≤ z91 ∧ z91 < 2147483648) => ?_)
          have sg := SGM_at (t := u) (i := j) i12 (by omega) (by omega)
          refine c_StubHouseModel_fits (f := f) (t := u) (p := z91) i6 i12 (show 0 ≤ f ∧ f < 60 by omega) (show 0 ≤ u ∧ u ≤ 5 by omega) (show -2147483648 ≤ z91 ∧ z91 < 2147483648 by omega) (fun (z93 : Int) (S94 : fxS) ⟨(f95 : fxfr [(65, 9999), (66, 9999), (67, 9999)] S1 S94), (q96 : -2 ≤ z93 ∧ z93 ≤ 284 ∧ z93 ≠ -1 ∧ (0 ≤ z93 → sgN S94 (300 * u + z93) 0 = z91 ∧ sgN S94 (300 * u + z93) 1 = 1 ∧ sgN S94 (300 * u + z93) 6 = aN S94 f 3)), (g97 : SGM S94), (g98 : KPA S1 S94)⟩ => ?_)
          have w99 : aN S94 f (5 : Int) = aN S1 f (5 : Int) := (aN_fr f95 rfl)
          have w100 : S94 49 0 36 = S1 49 0 36 := f95 49 0 36 rfl
          have g101 : COL S94 := fx_pfr COL_stab f95 rfl i6
          have g102 : WTM S94 := fx_pfr WTM_stab f95 rfl i7
          have g103 : INJ S94 := fx_pfr INJ_stab f95 rfl i8
          have g104 : AON S94 := fx_pfr AON_stab f95 rfl i9
          have g105 : USE S94 := fx_pfr USE_stab f95 rfl i10
          have g106 : REC S94 := fx_pfr REC_stab f95 rfl i11
          refine And.intro (fun (h107 : (z93 ≠ j : Prop)) => ?_) (fun (h107 : (z93 = j : Prop)) => ?_)
          ·
            refine And.intro (by decide) ?_
            refine And.intro (fun _ => ?_) (fun h => absurd h (by decide))
            refine And.intro (by decide) (And.intro (show -2147483648 ≤ j + (1 : Int) ∧ j + (1 : Int) < 2147483648 by omega) ?_)
            exact ih.2.2 f u (0 : Int) (j + (1 : Int)) S94 (fxfr_tr hf f95 rfl) (by omega) (by omega) (by omega) (by omega) (by omega) (by omega) g101 g102 g103 g104 g105 g106 g97 (by omega)
          ·
            refine And.intro (by decide) ?_
            refine And.intro (fun h => absurd h (by decide)) (fun _ => ?_)
            refine c_StubHouseModel_seg (t := u) (i := j) (w := (0 : Int)) (show 0 ≤ u ∧ u ≤ 5 by omega) (show 0 ≤ j ∧ j < 300 by omega) (show 0 ≤ (0 : Int) ∧ (0 : Int) < 8 by omega) (fun (z109 : Int) (q110 : z109 = sgN S94 (300 * u + j) (0 : Int) ∧ -2147483648 ≤ z109 ∧ z109 < 2147483648) => ?_)
            have sg := SGM_at (t := u) (i := j) g97 (by omega) (by omega)
            refine c_StubHouseModel_note (f := f) (t := u) (p := z109) g101 g102 g103 g104 g105 g106 (show 0 ≤ f ∧ f < 60 by omega) (show 0 ≤ u ∧ u ≤ 5 by omega) (show 0 ≤ z109 ∧ z109 ≤ 6000 by omega) (show aN S94 f 5 ≤ 1 by omega) (fun (S111 : fxS) ⟨(f112 : fxfr [(50, 9999)] S94 S111), (g113 : COL S111), (g114 : WTM S111), (g115 : INJ S111), (g116 : AON S111), (g117 : USE S111), (g118 : REC S111)⟩ => ?_)
            have w119 : S111 49 0 36 = S94 49 0 36 := f112 49 0 36 rfl
            have g120 : SGM S111 := fx_pfr SGM_stab f112 rfl g97
            refine And.intro (by decide) (And.intro (show -2147483648 ≤ j + (1 : Int) ∧ j + (1 : Int) < 2147483648 by omega) ?_)
            exact ih.2.2 f u (1 : Int) (j + (1 : Int)) S111 (fxfr_tr (fxfr_tr hf f95 rfl) f112 rfl) (by omega) (by omega) (by omega) (by omega) (by omega) (by omega) g113 g114 g115 g116 g117 g118 g120 (by omega)
theorem c_StubHouseModel_rebuildFile {l : Launch} {k : fxK} {S : fxS} {t : Int} {i : Int} (p0 : COL S) (p1 : WTM S) (p2 : INJ S) (p3 : AON S) (p4 : USE S) (p5 : REC S) (p6 : SGM S) (p7 : 0 ≤ t ∧ t ≤ 5) (p8 : 0 ≤ i ∧ i < 300) (p9 : S 49 0 36 = 0) (hk : ∀ (S' : fxS) , (fxfr [(50, 9999), (52, 9999), (65, 9999), (66, 9999), (67, 9999)] S S' ∧ (S' 49 0 36 = 0) ∧ (COL S') ∧ (WTM S') ∧ (INJ S') ∧ (AON S') ∧ (USE S') ∧ (REC S') ∧ (SGM S')) → k none S') : fC l 187 [.inr (.inr (49, 0)), .inl t, .inl i] S k := by
  refine fxe_187 (Nat.le_of_ble_eq_true rfl) (fxz_187 400 ?_)
  refine c_StubHouseModel_seg (t := t) (i := i) (w := (5 : Int)) (show 0 ≤ t ∧ t ≤ 5 by omega) (show 0 ≤ i ∧ i < 300 by omega) (show 0 ≤ (5 : Int) ∧ (5 : Int) < 8 by omega) (fun (z122 : Int) (q123 : z122 = sgN S (300 * t + i) (5 : Int) ∧ -2147483648 ≤ z122 ∧ z122 < 2147483648) => ?_)
  have sg := SGM_at (t := t) (i := i) p6 (by omega) (by omega)
  refine And.intro (by decide) ?_
  refine c_StubHouseModel_seg (t := t) (i := i) (w := (0 : Int)) (show 0 ≤ t ∧ t ≤ 5 by omega) (show 0 ≤ i ∧ i < 300 by omega) (show 0 ≤ (0 : Int) ∧ (0 : Int) < 8 by omega) (fun (z124 : Int) (q125 : z124 = sgN S (300 * t + i) (0 : Int) ∧ -2147483648 ≤ z124 ∧ z124 < 2147483648) => ?_)
  refine And.intro (show -2147483648 ≤ (z124 + (15 : Int)) ∧ (z124 + (15 : Int)) < 2147483648 by omega) ?_
  refine And.intro (by decide) ?_
  refine And.intro (by decide) ?_
  refine And.intro (by decide) ?_
  have rt : aN S 0 0 = 1 := WTM_root p1
  have d0 : (depF (ovf (S 50 0)) 60 (0 : Int) : Int) = 0 := by rw [depF_0 (by omega)]; rfl
  exact (z_StubHouseModel_rebuildFile p0 p1 p2 p3 p4 p5 p6 p7 p8 p9 hk (20000 - (0 : Int)).toNat).1 z122 (z124 + (15 : Int)) (0 : Int) (0 : Int) S fxfr_rfl (by omega) (by omega) (by omega) (by omega) (by omega) p0 p1 p2 p3 p4 p5 p6 (by omega)
theorem z_StubHouseModel_rebuild {l : Launch} {k : fxK} {S : fxS}  (p0 : COL S) (p1 : WTM S) (p2 : INJ S) (p3 : AON S) (p4 : USE S) (p5 : SNP S) (p6 : REC S) (p7 : SGM S) (p8 : LCM S) (hk : ∀ (r : Int) (S' : fxS) , (fxfr [(49, 0), (49, 7), (49, 12), (49, 13), (49, 14), (49, 15), (49, 29), (50, 9999), (52, 9999), (53, 9999), (56, 9999), (58, 9999), (65, 9999), (66, 9999), (67, 9999), (68, 9999), (69, 9999)] S S' ∧ (-2147483648 ≤ r ∧ r < 2147483648) ∧ (COL S') ∧ (WTM S') ∧ (INJ S') ∧ (AON S') ∧ (USE S') ∧ (SNP S') ∧ (REC S') ∧ (SGM S') ∧ (LCM S')) → k (some (.inl r)) S') : ∀ m : Nat, (∀ (v : Int) (S1 : fxS), (fxfr [(49, 0), (49, 7), (49, 12), (49, 13), (49, 14), (49, 15), (49, 29), (50, 9999), (52, 9999), (53, 9999), (56, 9999), (58, 9999), (65, 9999), (66, 9999), (67, 9999), (68, 9999), (69, 9999)] S S1) → (0 ≤ v ∧ v ≤ 1710) → (S1 49 0 36 = 0 ∧ S1 49 0 15 = 0) → (COL S1) → (WTM S1) → (INJ S1) → (AON S1) → (USE S1) → (REC S1) → (SGM S1) → 100000 - v ≤ (m : Int) → fZ l 188 k 30 [some (.inr (.inr (49, 0))), some (.inl v), none] [] S1) ∧ (∀ (t : Int) (S1 : fxS), (fxfr [(49, 0), (49, 7), (49, 12), (49, 13), (49, 14), (49, 15), (49, 29), (50, 9999), (52, 9999), (53, 9999), (56, 9999), (58, 9999), (65, 9999), (66, 9999), (67, 9999), (68, 9999), (69, 9999)] S S1) → (0 ≤ t ∧ t ≤ 6) → (S1 49 0 36 = 0 ∧ S1 49 0 15 = 0) → (COL S1) → (WTM S1) → (INJ S1) → (AON S1) → (USE S1) → (REC S1) → (SGM S1) → (7 - t) * 1000 + 500 ≤ (m : Int) → fZ l 188 k 62 [some (.inr (.inr (49, 0))), some (.inl t), none] [] S1) ∧ (∀ (t i : Int) (S1 : fxS), (fxfr [(49, 0), (49, 7), (49, 12), (49, 13), (49, 14), (49, 15), (49, 29), (50, 9999), (52, 9999), (53, 9999), (56, 9999), (58, 9999), (65, 9999), (66, 9999), (67, 9999), (68, 9999), (69, 9999)] S S1) → (0 ≤ t ∧ t < 6) → (0 ≤ i ∧ i ≤ 285) → (S1 49 0 36 = 0 ∧ S1 49 0 15 = 0) → (COL S1) → (WTM S1) → (INJ S1) → (AON S1) → (USE S1) → (REC S1) → (SGM S1) → (7 - t) * 1000 + 300 - i ≤ (m : Int) → fZ l 188 k 70 [some (.inr (.inr (49, 0))), some (.inl t), some (.inl i)] [] S1) := by
  intro m
  induction m with
  | zero =>
    refine ⟨?_, ?_, ?_⟩
    · intro v S1 hf i0 i1 i2 i3 i4 i5 i6 i7 i8 hmu
      exfalso
      omega
    · intro t S1 hf i0 i1 i2 i3 i4 i5 i6 i7 i8 hmu
      exfalso
      omega
    · intro t i S1 hf i0 i1 i2 i3 i4 i5 i6 i7 i8 i9 hmu
      exfalso
      omega
  | succ m ih =>
    refine ⟨?_, ?_, ?_⟩
    · intro v S1 hf i0 i1 i2 i3 i4 i5 i6 i7 i8 hmu
      refine fxz_188 400 ?_
      intro z1 (z1a : (0 : Int) ≤ z1) (z1b : z1 ≤ (1710 : Int)) (z1c : z1 = S1 49 0 29)
      refine And.intro (fun (h2 : (z1 ≤ v : Prop)) => ?_) (fun (h2 : (v < z1 : Prop)) => ?_)
      ·
        refine And.intro (by decide) ?_
        exact ih.2.1 (0 : Int) S1 hf (by omega) (by omega) i2 i3 i4 i5 i6 i7 i8 (by omega)
      ·
        refine And.intro (show 0 ≤ v ∧ v < 1800 by omega) ?_
        intro z3 (z3a : (0 : Int) ≤ z3) (z3b : z3 ≤ (5 : Int)) (z3c : z3 = S1 68 0 (v).toNat)
        refine And.intro (show 0 ≤ v ∧ v < 1800 by omega) ?_
        intro z4 (z4a : (0 : Int) ≤ z4) (z4b : z4 ≤ (284 : Int)) (z4c : z4 = S1 69 0 (v).toNat)
        refine c_StubHouseModel_rebuildFile (t := z3) (i := z4) i2 i3 i4 i5 i6 i7 i8 (show 0 ≤ z3 ∧ z3 ≤ 5 by omega) (show 0 ≤ z4 ∧ z4 < 300 by omega) (show S1 49 0 36 = 0 by omega) (fun (S5 : fxS) ⟨(f6 : fxfr [(50, 9999), (52, 9999), (65, 9999), (66, 9999), (67, 9999)] S1 S5), (q7 : S5 49 0 36 = 0), (g8 : COL S5), (g9 : WTM S5), (g10 : INJ S5), (g11 : AON S5), (g12 : USE S5), (g13 : REC S5), (g14 : SGM S5)⟩ => ?_)
        have w15 : S5 49 0 36 = S1 49 0 36 := f6 49 0 36 rfl
        have w16 : S5 49 0 15 = S1 49 0 15 := f6 49 0 15 rfl
        refine And.intro (by decide) (And.intro (show -2147483648 ≤ v + (1 : Int) ∧ v + (1 : Int) < 2147483648 by omega) ?_)
        exact ih.1 (v + (1 : Int)) S5 (fxfr_tr hf f6 rfl) (by omega) (by omega) g8 g9 g10 g11 g12 g13 g14 (by omega)
    · intro t S1 hf i0 i1 i2 i3 i4 i5 i6 i7 i8 hmu
      refine fxz_188 400 ?_
      refine And.intro (fun (h18 : ((6 : Int) ≤ t : Prop)) => ?_) (fun (h18 : (t < (6 : Int) : Prop)) => ?_)
      ·
        refine c_StubHouseModel_syncAll  i2 i3 i4 i5 i6 (fun (z19 : Int) (S20 : fxS) ⟨(f21 : fxfr [(49, 7), (53, 9999), (56, 9999), (58, 9999)] S1 S20), (q22 : 0 ≤ z19 ∧ z19 ≤ 200 ∧ S20 49 0 7 = 0), (g23 : SNP S20), (g24 : USE S20), (g25 : UZ S1 S20)⟩ => ?_)
        have w26 : S20 49 0 36 = S1 49 0 36 := f21 49 0 36 rfl
        have w27 : S20 49 0 15 = S1 49 0 15 := f21 49 0 15 rfl
        have g28 : COL S20 := fx_pfr COL_stab f21 rfl i2
        have g29 : WTM S20 := fx_pfr WTM_stab f21 rfl i3
        have g30 : INJ S20 := fx_pfr INJ_stab f21 rfl i4
        have g31 : AON S20 := fx_pfr AON_stab f21 rfl i5
        have g32 : REC S20 := fx_pfr REC_stab f21 rfl i7
        have g33 : SGM S20 := fx_pfr SGM_stab f21 rfl i8
        refine And.intro (by decide) ?_
        refine c_StubHouseModel_files  g28 (fun (z34 : Int) (q35 : 0 ≤ z34 ∧ z34 ≤ 60) => ?_)
        exact hk z34 S20 ⟨(fxfr_tr hf f21 rfl), by omega, g28, g29, g30, g31, g24, g23, g32, g33, by exact LCM_of (by omega)⟩
      ·
        refine And.intro (by decide) ?_
        exact ih.2.2 t (0 : Int) S1 hf (by omega) (by omega) (by omega) i2 i3 i4 i5 i6 i7 i8 (by omega)
    · intro t i S1 hf i0 i1 i2 i3 i4 i5 i6 i7 i8 i9 hmu
      refine fxz_188 400 ?_
      refine And.intro (show 0 ≤ t ∧ t < 6 by omega) ?_
      intro z36 (z36a : (0 : Int) ≤ z36) (z36b : z36 ≤ (285 : Int)) (z36c : z36 = S1 66 0 (t).toNat)
      refine And.intro (fun (h37 : (z36 ≤ i : Prop)) => ?_) (fun (h37 : (i < z36 : Prop)) => ?_)
      ·
        refine And.intro (by decide) (And.intro (show -2147483648 ≤ t + (1 : Int) ∧ t + (1 : Int) < 2147483648 by omega) ?_)
        exact ih.2.1 (t + (1 : Int)) S1 hf (by omega) (by omega) i3 i4 i5 i6 i7 i8 i9 (by omega)
      ·
        refine c_StubHouseModel_seg (t := t) (i := i) (w := (2 : Int)) (show 0 ≤ t ∧ t ≤ 5 by omega) (show 0 ≤ i ∧ i < 300 by omega) (show 0 ≤ (2 : Int) ∧ (2 : Int) < 8 by omega) (fun (z39 : Int) (q40 : z39 = sgN S1 (300 * t + i) (2 : Int) ∧ -2147483648 ≤ z39 ∧ z39 < 2147483648) => ?_)
        intro z41 (z41a : (-2147483648 : Int) ≤ z41) (z41b : z41 ≤ (2147483647 : Int)) (z41c : z41 = S1 49 0 12)
        refine And.intro (fun (h42 : (z39 < z41 : Prop)) => ?_) (fun (h42 : (z41 ≤ z39 : Prop)) => ?_)
        ·
          intro z43 (z43a : (-2147483648 : Int) ≤ z43) (z43b : z43 ≤ (2147483647 : Int)) (z43c : z43 = S1 49 0 12)
          refine And.intro (show (-2147483648 : Int) ≤ z43 ∧ z43 ≤ (2147483647 : Int) by omega) ?_
          have w44 : (fx_up S1 49 0 12 z43) 49 0 36 = S1 49 0 36 := if_neg (fun q => absurd q.2.2 (by decide))
          have w45 : (fx_up S1 49 0 12 z43) 49 0 15 = S1 49 0 15 := if_neg (fun q => absurd q.2.2 (by decide))
          have g46 : COL (fx_up S1 49 0 12 z43) := fx_pup COL_stab rfl i3
          have g47 : WTM (fx_up S1 49 0 12 z43) := fx_pup WTM_stab rfl i4
          have g48 : INJ (fx_up S1 49 0 12 z43) := fx_pup INJ_stab rfl i5
          have g49 : AON (fx_up S1 49 0 12 z43) := fx_pup AON_stab rfl i6
          have g50 : USE (fx_up S1 49 0 12 z43) := fx_pup USE_stab rfl i7
          have g51 : REC (fx_up S1 49 0 12 z43) := fx_pup REC_stab rfl i8
          have g52 : SGM (fx_up S1 49 0 12 z43) := fx_pup SGM_stab rfl i9
          refine c_StubHouseModel_seg (t := t) (i := i) (w := (4 : Int)) (show 0 ≤ t ∧ t ≤ 5 by omega) (show 0 ≤ i ∧ i < 300 by omega) (show 0 ≤ (4 : Int) ∧ (4 : Int) < 8 by omega) (fun (z53 : Int) (q54 : z53 = sgN S1 (300 * t + i) (4 : Int) ∧ -2147483648 ≤ z53 ∧ z53 < 2147483648) => ?_)
          intro z55 (z55a : (-2147483648 : Int) ≤ z55) (z55b : z55 ≤ (2147483647 : Int)) (z55c : z55 = S1 49 0 13)
          refine And.intro (fun (h56 : (z53 < z55 : Prop)) => ?_) (fun (h56 : (z55 ≤ z53 : Prop)) => ?_)
          ·
            intro z57 (z57a : (-2147483648 : Int) ≤ z57) (z57b : z57 ≤ (2147483647 : Int)) (z57c : z57 = S1 49 0 13)
            refine And.intro (show (-2147483648 : Int) ≤ z57 ∧ z57 ≤ (2147483647 : Int) by omega) ?_
            have w58 : (fx_up (fx_up S1 49 0 12 z43) 49 0 13 z57) 49 0 36 = (fx_up S1 49 0 12 z43) 49 0 36 := if_neg (fun q => absurd q.2.2 (by decide))
            have w59 : (fx_up (fx_up S1 49 0 12 z43) 49 0 13 z57) 49 0 15 = (fx_up S1 49 0 12 z43) 49 0 15 := if_neg (fun q => absurd q.2.2 (by decide))
            have g60 : COL (fx_up (fx_up S1 49 0 12 z43) 49 0 13 z57) := fx_pup COL_stab rfl g46
            have g61 : WTM (fx_up (fx_up S1 49 0 12 z43) 49 0 13 z57) := fx_pup WTM_stab rfl g47
            have g62 : INJ (fx_up (fx_up S1 49 0 12 z43) 49 0 13 z57) := fx_pup INJ_stab rfl g48
            have g63 : AON (fx_up (fx_up S1 49 0 12 z43) 49 0 13 z57) := fx_pup AON_stab rfl g49
            have g64 : USE (fx_up (fx_up S1 49 0 12 z43) 49 0 13 z57) := fx_pup USE_stab rfl g50
            have g65 : REC (fx_up (fx_up S1 49 0 12 z43) 49 0 13 z57) := fx_pup REC_stab rfl g51
            have g66 : SGM (fx_up (fx_up S1 49 0 12 z43) 49 0 13 z57) := fx_pup SGM_stab rfl g52
            refine c_StubHouseModel_seg (t := t) (i := i) (w := (3 : Int)) (show 0 ≤ t ∧ t ≤ 5 by omega) (show 0 ≤ i ∧ i < 300 by omega) (show 0 ≤ (3 : Int) ∧ (3 : Int) < 8 by omega) (fun (z67 : Int) (q68 : z67 = sgN S1 (300 * t + i) (3 : Int) ∧ -2147483648 ≤ z67 ∧ z67 < 2147483648) => ?_)
            intro z69 (z69a : (-2147483648 : Int) ≤ z69) (z69b : z69 ≤ (2147483647 : Int)) (z69c : z69 = S1 49 0 14)
            refine And.intro (fun (h70 : (z67 < z69 : Prop)) => ?_) (fun (h70 : (z69 ≤ z67 : Prop)) => ?_)
            ·
              intro z71 (z71a : (-2147483648 : Int) ≤ z71) (z71b : z71 ≤ (2147483647 : Int)) (z71c : z71 = S1 49 0 14)
              refine And.intro (show (-2147483648 : Int) ≤ z71 ∧ z71 ≤ (2147483647 : Int) by omega) ?_
              have w72 : (fx_up (fx_up (fx_up S1 49 0 12 z43) 49 0 13 z57) 49 0 14 z71) 49 0 36 = (fx_up (fx_up S1 49 0 12 z43) 49 0 13 z57) 49 0 36 := if_neg (fun q => absurd q.2.2 (by decide))
              have w73 : (fx_up (fx_up (fx_up S1 49 0 12 z43) 49 0 13 z57) 49 0 14 z71) 49 0 15 = (fx_up (fx_up S1 49 0 12 z43) 49 0 13 z57) 49 0 15 := if_neg (fun q => absurd q.2.2 (by decide))
              have g74 : COL (fx_up (fx_up (fx_up S1 49 0 12 z43) 49 0 13 z57) 49 0 14 z71) := fx_pup COL_stab rfl g60
              have g75 : WTM (fx_up (fx_up (fx_up S1 49 0 12 z43) 49 0 13 z57) 49 0 14 z71) := fx_pup WTM_stab rfl g61
              have g76 : INJ (fx_up (fx_up (fx_up S1 49 0 12 z43) 49 0 13 z57) 49 0 14 z71) := fx_pup INJ_stab rfl g62
              have g77 : AON (fx_up (fx_up (fx_up S1 49 0 12 z43) 49 0 13 z57) 49 0 14 z71) := fx_pup AON_stab rfl g63
              have g78 : USE (fx_up (fx_up (fx_up S1 49 0 12 z43) 49 0 13 z57) 49 0 14 z71) := fx_pup USE_stab rfl g64
              have g79 : REC (fx_up (fx_up (fx_up S1 49 0 12 z43) 49 0 13 z57) 49 0 14 z71) := fx_pup REC_stab rfl g65
              have g80 : SGM (fx_up (fx_up (fx_up S1 49 0 12 z43) 49 0 13 z57) 49 0 14 z71) := fx_pup SGM_stab rfl g66
              refine And.intro (by decide) (And.intro (show -2147483648 ≤ i + (1 : Int) ∧ i + (1 : Int) < 2147483648 by omega) ?_)
              exact ih.2.2 t (i + (1 : Int)) (fx_up (fx_up (fx_up S1 49 0 12 z43) 49 0 13 z57) 49 0 14 z71) (fxfr_up (fxfr_up (fxfr_up hf rfl) rfl) rfl) (by omega) (by omega) (by omega) g74 g75 g76 g77 g78 g79 g80 (by omega)
            ·
              refine c_StubHouseModel_seg (t := t) (i := i) (w := (3 : Int)) (show 0 ≤ t ∧ t ≤ 5 by omega) (show 0 ≤ i ∧ i < 300 by omega) (show 0 ≤ (3 : Int) ∧ (3 : Int) < 8 by omega) (fun (z82 : Int) (q83 : z82 = sgN S1 (300 * t + i) (3 : Int) ∧ -2147483648 ≤ z82 ∧ z82 < 2147483648) => ?_)
              intro z84 (z84a : -2147483648 ≤ z84) (z84b : z84 < 2147483648) (z84c : -2147483648 ≤ (z82 + (1 : Int)) ∧ (z82 + (1 : Int)) < 2147483648 → z84 = (z82 + (1 : Int)))
              refine And.intro (show (-2147483648 : Int) ≤ z84 ∧ z84 ≤ (2147483647 : Int) by omega) ?_
              have w85 : (fx_up (fx_up (fx_up S1 49 0 12 z43) 49 0 13 z57) 49 0 14 z84) 49 0 36 = (fx_up (fx_up S1 49 0 12 z43) 49 0 13 z57) 49 0 36 := if_neg (fun q => absurd q.2.2 (by decide))
              have w86 : (fx_up (fx_up (fx_up S1 49 0 12 z43) 49 0 13 z57) 49 0 14 z84) 49 0 15 = (fx_up (fx_up S1 49 0 12 z43) 49 0 13 z57) 49 0 15 := if_neg (fun q => absurd q.2.2 (by decide))
              have g87 : COL (fx_up (fx_up (fx_up S1 49 0 12 z43) 49 0 13 z57) 49 0 14 z84) := fx_pup COL_stab rfl g60
              have g88 : WTM (fx_up (fx_up (fx_up S1 49 0 12 z43) 49 0 13 z57) 49 0 14 z84) := fx_pup WTM_stab rfl g61
              have g89 : INJ (fx_up (fx_up (fx_up S1 49 0 12 z43) 49 0 13 z57) 49 0 14 z84) := fx_pup INJ_stab rfl g62
              have g90 : AON (fx_up (fx_up (fx_up S1 49 0 12 z43) 49 0 13 z57) 49 0 14 z84) := fx_pup AON_stab rfl g63
              have g91 : USE (fx_up (fx_up (fx_up S1 49 0 12 z43) 49 0 13 z57) 49 0 14 z84) := fx_pup USE_stab rfl g64
              have g92 : REC (fx_up (fx_up (fx_up S1 49 0 12 z43) 49 0 13 z57) 49 0 14 z84) := fx_pup REC_stab rfl g65
              have g93 : SGM (fx_up (fx_up (fx_up S1 49 0 12 z43) 49 0 13 z57) 49 0 14 z84) := fx_pup SGM_stab rfl g66
              refine And.intro (by decide) (And.intro (show -2147483648 ≤ i + (1 : Int) ∧ i + (1 : Int) < 2147483648 by omega) ?_)
              exact ih.2.2 t (i + (1 : Int)) (fx_up (fx_up (fx_up S1 49 0 12 z43) 49 0 13 z57) 49 0 14 z84) (fxfr_up (fxfr_up (fxfr_up hf rfl) rfl) rfl) (by omega) (by omega) (by omega) g87 g88 g89 g90 g91 g92 g93 (by omega)
          ·
            refine c_StubHouseModel_seg (t := t) (i := i) (w := (4 : Int)) (show 0 ≤ t ∧ t ≤ 5 by omega) (show 0 ≤ i ∧ i < 300 by omega) (show 0 ≤ (4 : Int) ∧ (4 : Int) < 8 by omega) (fun (z95 : Int) (q96 : z95 = sgN S1 (300 * t + i) (4 : Int) ∧ -2147483648 ≤ z95 ∧ z95 < 2147483648) => ?_)
            intro z97 (z97a : -2147483648 ≤ z97) (z97b : z97 < 2147483648) (z97c : -2147483648 ≤ (z95 + (1 : Int)) ∧ (z95 + (1 : Int)) < 2147483648 → z97 = (z95 + (1 : Int)))
            refine And.intro (show (-2147483648 : Int) ≤ z97 ∧ z97 ≤ (2147483647 : Int) by omega) ?_
            have w98 : (fx_up (fx_up S1 49 0 12 z43) 49 0 13 z97) 49 0 36 = (fx_up S1 49 0 12 z43) 49 0 36 := if_neg (fun q => absurd q.2.2 (by decide))
            have w99 : (fx_up (fx_up S1 49 0 12 z43) 49 0 13 z97) 49 0 15 = (fx_up S1 49 0 12 z43) 49 0 15 := if_neg (fun q => absurd q.2.2 (by decide))
            have g100 : COL (fx_up (fx_up S1 49 0 12 z43) 49 0 13 z97) := fx_pup COL_stab rfl g46
            have g101 : WTM (fx_up (fx_up S1 49 0 12 z43) 49 0 13 z97) := fx_pup WTM_stab rfl g47
            have g102 : INJ (fx_up (fx_up S1 49 0 12 z43) 49 0 13 z97) := fx_pup INJ_stab rfl g48
            have g103 : AON (fx_up (fx_up S1 49 0 12 z43) 49 0 13 z97) := fx_pup AON_stab rfl g49
            have g104 : USE (fx_up (fx_up S1 49 0 12 z43) 49 0 13 z97) := fx_pup USE_stab rfl g50
            have g105 : REC (fx_up (fx_up S1 49 0 12 z43) 49 0 13 z97) := fx_pup REC_stab rfl g51
            have g106 : SGM (fx_up (fx_up S1 49 0 12 z43) 49 0 13 z97) := fx_pup SGM_stab rfl g52
            refine c_StubHouseModel_seg (t := t) (i := i) (w := (3 : Int)) (show 0 ≤ t ∧ t ≤ 5 by omega) (show 0 ≤ i ∧ i < 300 by omega) (show 0 ≤ (3 : Int) ∧ (3 : Int) < 8 by omega) (fun (z107 : Int) (q108 : z107 = sgN S1 (300 * t + i) (3 : Int) ∧ -2147483648 ≤ z107 ∧ z107 < 2147483648) => ?_)
            intro z109 (z109a : (-2147483648 : Int) ≤ z109) (z109b : z109 ≤ (2147483647 : Int)) (z109c : z109 = S1 49 0 14)
            refine And.intro (fun (h110 : (z107 < z109 : Prop)) => ?_) (fun (h110 : (z109 ≤ z107 : Prop)) => ?_)
            ·
              intro z111 (z111a : (-2147483648 : Int) ≤ z111) (z111b : z111 ≤ (2147483647 : Int)) (z111c : z111 = S1 49 0 14)
              refine And.intro (show (-2147483648 : Int) ≤ z111 ∧ z111 ≤ (2147483647 : Int) by omega) ?_
              have w112 : (fx_up (fx_up (fx_up S1 49 0 12 z43) 49 0 13 z97) 49 0 14 z111) 49 0 36 = (fx_up (fx_up S1 49 0 12 z43) 49 0 13 z97) 49 0 36 := if_neg (fun q => absurd q.2.2 (by decide))
              have w113 : (fx_up (fx_up (fx_up S1 49 0 12 z43) 49 0 13 z97) 49 0 14 z111) 49 0 15 = (fx_up (fx_up S1 49 0 12 z43) 49 0 13 z97) 49 0 15 := if_neg (fun q => absurd q.2.2 (by decide))
              have g114 : COL (fx_up (fx_up (fx_up S1 49 0 12 z43) 49 0 13 z97) 49 0 14 z111) := fx_pup COL_stab rfl g100
              have g115 : WTM (fx_up (fx_up (fx_up S1 49 0 12 z43) 49 0 13 z97) 49 0 14 z111) := fx_pup WTM_stab rfl g101
              have g116 : INJ (fx_up (fx_up (fx_up S1 49 0 12 z43) 49 0 13 z97) 49 0 14 z111) := fx_pup INJ_stab rfl g102
              have g117 : AON (fx_up (fx_up (fx_up S1 49 0 12 z43) 49 0 13 z97) 49 0 14 z111) := fx_pup AON_stab rfl g103
              have g118 : USE (fx_up (fx_up (fx_up S1 49 0 12 z43) 49 0 13 z97) 49 0 14 z111) := fx_pup USE_stab rfl g104
              have g119 : REC (fx_up (fx_up (fx_up S1 49 0 12 z43) 49 0 13 z97) 49 0 14 z111) := fx_pup REC_stab rfl g105
              have g120 : SGM (fx_up (fx_up (fx_up S1 49 0 12 z43) 49 0 13 z97) 49 0 14 z111) := fx_pup SGM_stab rfl g106
              refine And.intro (by decide) (And.intro (show -2147483648 ≤ i + (1 : Int) ∧ i + (1 : Int) < 2147483648 by omega) ?_)
              exact ih.2.2 t (i + (1 : Int)) (fx_up (fx_up (fx_up S1 49 0 12 z43) 49 0 13 z97) 49 0 14 z111) (fxfr_up (fxfr_up (fxfr_up hf rfl) rfl) rfl) (by omega) (by omega) (by omega) g114 g115 g116 g117 g118 g119 g120 (by omega)
            ·
              refine c_StubHouseModel_seg (t := t) (i := i) (w := (3 : Int)) (show 0 ≤ t ∧ t ≤ 5 by omega) (show 0 ≤ i ∧ i < 300 by omega) (show 0 ≤ (3 : Int) ∧ (3 : Int) < 8 by omega) (fun (z122 : Int) (q123 : z122 = sgN S1 (300 * t + i) (3 : Int) ∧ -2147483648 ≤ z122 ∧ z122 < 2147483648) => ?_)
              intro z124 (z124a : -2147483648 ≤ z124) (z124b : z124 < 2147483648) (z124c : -2147483648 ≤ (z122 + (1 : Int)) ∧ (z122 + (1 : Int)) < 2147483648 → z124 = (z122 + (1 : Int)))
              refine And.intro (show (-2147483648 : Int) ≤ z124 ∧ z124 ≤ (2147483647 : Int) by omega) ?_
              have w125 : (fx_up (fx_up (fx_up S1 49 0 12 z43) 49 0 13 z97) 49 0 14 z124) 49 0 36 = (fx_up (fx_up S1 49 0 12 z43) 49 0 13 z97) 49 0 36 := if_neg (fun q => absurd q.2.2 (by decide))
              have w126 : (fx_up (fx_up (fx_up S1 49 0 12 z43) 49 0 13 z97) 49 0 14 z124) 49 0 15 = (fx_up (fx_up S1 49 0 12 z43) 49 0 13 z97) 49 0 15 := if_neg (fun q => absurd q.2.2 (by decide))
              have g127 : COL (fx_up (fx_up (fx_up S1 49 0 12 z43) 49 0 13 z97) 49 0 14 z124) := fx_pup COL_stab rfl g100
              have g128 : WTM (fx_up (fx_up (fx_up S1 49 0 12 z43) 49 0 13 z97) 49 0 14 z124) := fx_pup WTM_stab rfl g101
              have g129 : INJ (fx_up (fx_up (fx_up S1 49 0 12 z43) 49 0 13 z97) 49 0 14 z124) := fx_pup INJ_stab rfl g102
              have g130 : AON (fx_up (fx_up (fx_up S1 49 0 12 z43) 49 0 13 z97) 49 0 14 z124) := fx_pup AON_stab rfl g103
              have g131 : USE (fx_up (fx_up (fx_up S1 49 0 12 z43) 49 0 13 z97) 49 0 14 z124) := fx_pup USE_stab rfl g104
              have g132 : REC (fx_up (fx_up (fx_up S1 49 0 12 z43) 49 0 13 z97) 49 0 14 z124) := fx_pup REC_stab rfl g105
              have g133 : SGM (fx_up (fx_up (fx_up S1 49 0 12 z43) 49 0 13 z97) 49 0 14 z124) := fx_pup SGM_stab rfl g106
              refine And.intro (by decide) (And.intro (show -2147483648 ≤ i + (1 : Int) ∧ i + (1 : Int) < 2147483648 by omega) ?_)
              exact ih.2.2 t (i + (1 : Int)) (fx_up (fx_up (fx_up S1 49 0 12 z43) 49 0 13 z97) 49 0 14 z124) (fxfr_up (fxfr_up (fxfr_up hf rfl) rfl) rfl) (by omega) (by omega) (by omega) g127 g128 g129 g130 g131 g132 g133 (by omega)
        ·
          refine c_StubHouseModel_seg (t := t) (i := i) (w := (2 : Int)) (show 0 ≤ t ∧ t ≤ 5 by omega) (show 0 ≤ i ∧ i < 300 by omega) (show 0 ≤ (2 : Int) ∧ (2 : Int) < 8 by omega) (fun (z135 : Int) (q136 : z135 = sgN S1 (300 * t + i) (2 : Int) ∧ -2147483648 ≤ z135 ∧ z135 < 2147483648) => ?_)
          intro z137 (z137a : -2147483648 ≤ z137) (z137b : z137 < 2147483648) (z137c : -2147483648 ≤ (z135 + (1 : Int)) ∧ (z135 + (1 : Int)) < 2147483648 → z137 = (z135 + (1 : Int)))
          refine And.intro (show (-2147483648 : Int) ≤ z137 ∧ z137 ≤ (2147483647 : Int) by omega) ?_
          have w138 : (fx_up S1 49 0 12 z137) 49 0 36 = S1 49 0 36 := if_neg (fun q => absurd q.2.2 (by decide))
          have w139 : (fx_up S1 49 0 12 z137) 49 0 15 = S1 49 0 15 := if_neg (fun q => absurd q.2.2 (by decide))
          have g140 : COL (fx_up S1 49 0 12 z137) := fx_pup COL_stab rfl i3
          have g141 : WTM (fx_up S1 49 0 12 z137) := fx_pup WTM_stab rfl i4
          have g142 : INJ (fx_up S1 49 0 12 z137) := fx_pup INJ_stab rfl i5
          have g143 : AON (fx_up S1 49 0 12 z137) := fx_pup AON_stab rfl i6
          have g144 : USE (fx_up S1 49 0 12 z137) := fx_pup USE_stab rfl i7
          have g145 : REC (fx_up S1 49 0 12 z137) := fx_pup REC_stab rfl i8
          have g146 : SGM (fx_up S1 49 0 12 z137) := fx_pup SGM_stab rfl i9
          refine c_StubHouseModel_seg (t := t) (i := i) (w := (4 : Int)) (show 0 ≤ t ∧ t ≤ 5 by omega) (show 0 ≤ i ∧ i < 300 by omega) (show 0 ≤ (4 : Int) ∧ (4 : Int) < 8 by omega) (fun (z147 : Int) (q148 : z147 = sgN S1 (300 * t + i) (4 : Int) ∧ -2147483648 ≤ z147 ∧ z147 < 2147483648) => ?_)
          intro z149 (z149a : (-2147483648 : Int) ≤ z149) (z149b : z149 ≤ (2147483647 : Int)) (z149c : z149 = S1 49 0 13)
          refine And.intro (fun (h150 : (z147 < z149 : Prop)) => ?_) (fun (h150 : (z149 ≤ z147 : Prop)) => ?_)
          ·
            intro z151 (z151a : (-2147483648 : Int) ≤ z151) (z151b : z151 ≤ (2147483647 : Int)) (z151c : z151 = S1 49 0 13)
            refine And.intro (show (-2147483648 : Int) ≤ z151 ∧ z151 ≤ (2147483647 : Int) by omega) ?_
            have w152 : (fx_up (fx_up S1 49 0 12 z137) 49 0 13 z151) 49 0 36 = (fx_up S1 49 0 12 z137) 49 0 36 := if_neg (fun q => absurd q.2.2 (by decide))
            have w153 : (fx_up (fx_up S1 49 0 12 z137) 49 0 13 z151) 49 0 15 = (fx_up S1 49 0 12 z137) 49 0 15 := if_neg (fun q => absurd q.2.2 (by decide))
            have g154 : COL (fx_up (fx_up S1 49 0 12 z137) 49 0 13 z151) := fx_pup COL_stab rfl g140
            have g155 : WTM (fx_up (fx_up S1 49 0 12 z137) 49 0 13 z151) := fx_pup WTM_stab rfl g141
            have g156 : INJ (fx_up (fx_up S1 49 0 12 z137) 49 0 13 z151) := fx_pup INJ_stab rfl g142
            have g157 : AON (fx_up (fx_up S1 49 0 12 z137) 49 0 13 z151) := fx_pup AON_stab rfl g143
            have g158 : USE (fx_up (fx_up S1 49 0 12 z137) 49 0 13 z151) := fx_pup USE_stab rfl g144
            have g159 : REC (fx_up (fx_up S1 49 0 12 z137) 49 0 13 z151) := fx_pup REC_stab rfl g145
            have g160 : SGM (fx_up (fx_up S1 49 0 12 z137) 49 0 13 z151) := fx_pup SGM_stab rfl g146
            refine c_StubHouseModel_seg (t := t) (i := i) (w := (3 : Int)) (show 0 ≤ t ∧ t ≤ 5 by omega) (show 0 ≤ i ∧ i < 300 by omega) (show 0 ≤ (3 : Int) ∧ (3 : Int) < 8 by omega) (fun (z161 : Int) (q162 : z161 = sgN S1 (300 * t + i) (3 : Int) ∧ -2147483648 ≤ z161 ∧ z161 < 2147483648) => ?_)
            intro z163 (z163a : (-2147483648 : Int) ≤ z163) (z163b : z163 ≤ (2147483647 : Int)) (z163c : z163 = S1 49 0 14)
            refine And.intro (fun (h164 : (z161 < z163 : Prop)) => ?_) (fun (h164 : (z163 ≤ z161 : Prop)) => ?_)
            ·
              intro z165 (z165a : (-2147483648 : Int) ≤ z165) (z165b : z165 ≤ (2147483647 : Int)) (z165c : z165 = S1 49 0 14)
              refine And.intro (show (-2147483648 : Int) ≤ z165 ∧ z165 ≤ (2147483647 : Int) by omega) ?_
              have w166 : (fx_up (fx_up (fx_up S1 49 0 12 z137) 49 0 13 z151) 49 0 14 z165) 49 0 36 = (fx_up (fx_up S1 49 0 12 z137) 49 0 13 z151) 49 0 36 := if_neg (fun q => absurd q.2.2 (by decide))
              have w167 : (fx_up (fx_up (fx_up S1 49 0 12 z137) 49 0 13 z151) 49 0 14 z165) 49 0 15 = (fx_up (fx_up S1 49 0 12 z137) 49 0 13 z151) 49 0 15 := if_neg (fun q => absurd q.2.2 (by decide))
              have g168 : COL (fx_up (fx_up (fx_up S1 49 0 12 z137) 49 0 13 z151) 49 0 14 z165) := fx_pup COL_stab rfl g154
              have g169 : WTM (fx_up (fx_up (fx_up S1 49 0 12 z137) 49 0 13 z151) 49 0 14 z165) := fx_pup WTM_stab rfl g155
              have g170 : INJ (fx_up (fx_up (fx_up S1 49 0 12 z137) 49 0 13 z151) 49 0 14 z165) := fx_pup INJ_stab rfl g156
              have g171 : AON (fx_up (fx_up (fx_up S1 49 0 12 z137) 49 0 13 z151) 49 0 14 z165) := fx_pup AON_stab rfl g157
              have g172 : USE (fx_up (fx_up (fx_up S1 49 0 12 z137) 49 0 13 z151) 49 0 14 z165) := fx_pup USE_stab rfl g158
              have g173 : REC (fx_up (fx_up (fx_up S1 49 0 12 z137) 49 0 13 z151) 49 0 14 z165) := fx_pup REC_stab rfl g159
              have g174 : SGM (fx_up (fx_up (fx_up S1 49 0 12 z137) 49 0 13 z151) 49 0 14 z165) := fx_pup SGM_stab rfl g160
              refine And.intro (by decide) (And.intro (show -2147483648 ≤ i + (1 : Int) ∧ i + (1 : Int) < 2147483648 by omega) ?_)
              exact ih.2.2 t (i + (1 : Int)) (fx_up (fx_up (fx_up S1 49 0 12 z137) 49 0 13 z151) 49 0 14 z165) (fxfr_up (fxfr_up (fxfr_up hf rfl) rfl) rfl) (by omega) (by omega) (by omega) g168 g169 g170 g171 g172 g173 g174 (by omega)
            ·
              refine c_StubHouseModel_seg (t := t) (i := i) (w := (3 : Int)) (show 0 ≤ t ∧ t ≤ 5 by omega) (show 0 ≤ i ∧ i < 300 by omega) (show 0 ≤ (3 : Int) ∧ (3 : Int) < 8 by omega) (fun (z176 : Int) (q177 : z176 = sgN S1 (300 * t + i) (3 : Int) ∧ -2147483648 ≤ z176 ∧ z176 < 2147483648) => ?_)
              intro z178 (z178a : -2147483648 ≤ z178) (z178b : z178 < 2147483648) (z178c : -2147483648 ≤ (z176 + (1 : Int)) ∧ (z176 + (1 : Int)) < 2147483648 → z178 = (z176 + (1 : Int)))
              refine And.intro (show (-2147483648 : Int) ≤ z178 ∧ z178 ≤ (2147483647 : Int) by omega) ?_
              have w179 : (fx_up (fx_up (fx_up S1 49 0 12 z137) 49 0 13 z151) 49 0 14 z178) 49 0 36 = (fx_up (fx_up S1 49 0 12 z137) 49 0 13 z151) 49 0 36 := if_neg (fun q => absurd q.2.2 (by decide))
              have w180 : (fx_up (fx_up (fx_up S1 49 0 12 z137) 49 0 13 z151) 49 0 14 z178) 49 0 15 = (fx_up (fx_up S1 49 0 12 z137) 49 0 13 z151) 49 0 15 := if_neg (fun q => absurd q.2.2 (by decide))
              have g181 : COL (fx_up (fx_up (fx_up S1 49 0 12 z137) 49 0 13 z151) 49 0 14 z178) := fx_pup COL_stab rfl g154
              have g182 : WTM (fx_up (fx_up (fx_up S1 49 0 12 z137) 49 0 13 z151) 49 0 14 z178) := fx_pup WTM_stab rfl g155
              have g183 : INJ (fx_up (fx_up (fx_up S1 49 0 12 z137) 49 0 13 z151) 49 0 14 z178) := fx_pup INJ_stab rfl g156
              have g184 : AON (fx_up (fx_up (fx_up S1 49 0 12 z137) 49 0 13 z151) 49 0 14 z178) := fx_pup AON_stab rfl g157
              have g185 : USE (fx_up (fx_up (fx_up S1 49 0 12 z137) 49 0 13 z151) 49 0 14 z178) := fx_pup USE_stab rfl g158
              have g186 : REC (fx_up (fx_up (fx_up S1 49 0 12 z137) 49 0 13 z151) 49 0 14 z178) := fx_pup REC_stab rfl g159
              have g187 : SGM (fx_up (fx_up (fx_up S1 49 0 12 z137) 49 0 13 z151) 49 0 14 z178) := fx_pup SGM_stab rfl g160
              refine And.intro (by decide) (And.intro (show -2147483648 ≤ i + (1 : Int) ∧ i + (1 : Int) < 2147483648 by omega) ?_)
              exact ih.2.2 t (i + (1 : Int)) (fx_up (fx_up (fx_up S1 49 0 12 z137) 49 0 13 z151) 49 0 14 z178) (fxfr_up (fxfr_up (fxfr_up hf rfl) rfl) rfl) (by omega) (by omega) (by omega) g181 g182 g183 g184 g185 g186 g187 (by omega)
          ·
            refine c_StubHouseModel_seg (t := t) (i := i) (w := (4 : Int)) (show 0 ≤ t ∧ t ≤ 5 by omega) (show 0 ≤ i ∧ i < 300 by omega) (show 0 ≤ (4 : Int) ∧ (4 : Int) < 8 by omega) (fun (z189 : Int) (q190 : z189 = sgN S1 (300 * t + i) (4 : Int) ∧ -2147483648 ≤ z189 ∧ z189 < 2147483648) => ?_)
            intro z191 (z191a : -2147483648 ≤ z191) (z191b : z191 < 2147483648) (z191c : -2147483648 ≤ (z189 + (1 : Int)) ∧ (z189 + (1 : Int)) < 2147483648 → z191 = (z189 + (1 : Int)))
            refine And.intro (show (-2147483648 : Int) ≤ z191 ∧ z191 ≤ (2147483647 : Int) by omega) ?_
            have w192 : (fx_up (fx_up S1 49 0 12 z137) 49 0 13 z191) 49 0 36 = (fx_up S1 49 0 12 z137) 49 0 36 := if_neg (fun q => absurd q.2.2 (by decide))
            have w193 : (fx_up (fx_up S1 49 0 12 z137) 49 0 13 z191) 49 0 15 = (fx_up S1 49 0 12 z137) 49 0 15 := if_neg (fun q => absurd q.2.2 (by decide))
            have g194 : COL (fx_up (fx_up S1 49 0 12 z137) 49 0 13 z191) := fx_pup COL_stab rfl g140
            have g195 : WTM (fx_up (fx_up S1 49 0 12 z137) 49 0 13 z191) := fx_pup WTM_stab rfl g141
            have g196 : INJ (fx_up (fx_up S1 49 0 12 z137) 49 0 13 z191) := fx_pup INJ_stab rfl g142
            have g197 : AON (fx_up (fx_up S1 49 0 12 z137) 49 0 13 z191) := fx_pup AON_stab rfl g143
            have g198 : USE (fx_up (fx_up S1 49 0 12 z137) 49 0 13 z191) := fx_pup USE_stab rfl g144
            have g199 : REC (fx_up (fx_up S1 49 0 12 z137) 49 0 13 z191) := fx_pup REC_stab rfl g145
            have g200 : SGM (fx_up (fx_up S1 49 0 12 z137) 49 0 13 z191) := fx_pup SGM_stab rfl g146
            refine c_StubHouseModel_seg (t := t) (i := i) (w := (3 : Int)) (show 0 ≤ t ∧ t ≤ 5 by omega) (show 0 ≤ i ∧ i < 300 by omega) (show 0 ≤ (3 : Int) ∧ (3 : Int) < 8 by omega) (fun (z201 : Int) (q202 : z201 = sgN S1 (300 * t + i) (3 : Int) ∧ -2147483648 ≤ z201 ∧ z201 < 2147483648) => ?_)
            intro z203 (z203a : (-2147483648 : Int) ≤ z203) (z203b : z203 ≤ (2147483647 : Int)) (z203c : z203 = S1 49 0 14)
            refine And.intro (fun (h204 : (z201 < z203 : Prop)) => ?_) (fun (h204 : (z203 ≤ z201 : Prop)) => ?_)
            ·
              intro z205 (z205a : (-2147483648 : Int) ≤ z205) (z205b : z205 ≤ (2147483647 : Int)) (z205c : z205 = S1 49 0 14)
              refine And.intro (show (-2147483648 : Int) ≤ z205 ∧ z205 ≤ (2147483647 : Int) by omega) ?_
              have w206 : (fx_up (fx_up (fx_up S1 49 0 12 z137) 49 0 13 z191) 49 0 14 z205) 49 0 36 = (fx_up (fx_up S1 49 0 12 z137) 49 0 13 z191) 49 0 36 := if_neg (fun q => absurd q.2.2 (by decide))
              have w207 : (fx_up (fx_up (fx_up S1 49 0 12 z137) 49 0 13 z191) 49 0 14 z205) 49 0 15 = (fx_up (fx_up S1 49 0 12 z137) 49 0 13 z191) 49 0 15 := if_neg (fun q => absurd q.2.2 (by decide))
              have g208 : COL (fx_up (fx_up (fx_up S1 49 0 12 z137) 49 0 13 z191) 49 0 14 z205) := fx_pup COL_stab rfl g194
              have g209 : WTM (fx_up (fx_up (fx_up S1 49 0 12 z137) 49 0 13 z191) 49 0 14 z205) := fx_pup WTM_stab rfl g195
              have g210 : INJ (fx_up (fx_up (fx_up S1 49 0 12 z137) 49 0 13 z191) 49 0 14 z205) := fx_pup INJ_stab rfl g196
              have g211 : AON (fx_up (fx_up (fx_up S1 49 0 12 z137) 49 0 13 z191) 49 0 14 z205) := fx_pup AON_stab rfl g197
              have g212 : USE (fx_up (fx_up (fx_up S1 49 0 12 z137) 49 0 13 z191) 49 0 14 z205) := fx_pup USE_stab rfl g198
              have g213 : REC (fx_up (fx_up (fx_up S1 49 0 12 z137) 49 0 13 z191) 49 0 14 z205) := fx_pup REC_stab rfl g199
              have g214 : SGM (fx_up (fx_up (fx_up S1 49 0 12 z137) 49 0 13 z191) 49 0 14 z205) := fx_pup SGM_stab rfl g200
              refine And.intro (by decide) (And.intro (show -2147483648 ≤ i + (1 : Int) ∧ i + (1 : Int) < 2147483648 by omega) ?_)
              exact ih.2.2 t (i + (1 : Int)) (fx_up (fx_up (fx_up S1 49 0 12 z137) 49 0 13 z191) 49 0 14 z205) (fxfr_up (fxfr_up (fxfr_up hf rfl) rfl) rfl) (by omega) (by omega) (by omega) g208 g209 g210 g211 g212 g213 g214 (by omega)
            ·
              refine c_StubHouseModel_seg (t := t) (i := i) (w := (3 : Int)) (show 0 ≤ t ∧ t ≤ 5 by omega) (show 0 ≤ i ∧ i < 300 by omega) (show 0 ≤ (3 : Int) ∧ (3 : Int) < 8 by omega) (fun (z216 : Int) (q217 : z216 = sgN S1 (300 * t + i) (3 : Int) ∧ -2147483648 ≤ z216 ∧ z216 < 2147483648) => ?_)
              intro z218 (z218a : -2147483648 ≤ z218) (z218b : z218 < 2147483648) (z218c : -2147483648 ≤ (z216 + (1 : Int)) ∧ (z216 + (1 : Int)) < 2147483648 → z218 = (z216 + (1 : Int)))
              refine And.intro (show (-2147483648 : Int) ≤ z218 ∧ z218 ≤ (2147483647 : Int) by omega) ?_
              have w219 : (fx_up (fx_up (fx_up S1 49 0 12 z137) 49 0 13 z191) 49 0 14 z218) 49 0 36 = (fx_up (fx_up S1 49 0 12 z137) 49 0 13 z191) 49 0 36 := if_neg (fun q => absurd q.2.2 (by decide))
              have w220 : (fx_up (fx_up (fx_up S1 49 0 12 z137) 49 0 13 z191) 49 0 14 z218) 49 0 15 = (fx_up (fx_up S1 49 0 12 z137) 49 0 13 z191) 49 0 15 := if_neg (fun q => absurd q.2.2 (by decide))
              have g221 : COL (fx_up (fx_up (fx_up S1 49 0 12 z137) 49 0 13 z191) 49 0 14 z218) := fx_pup COL_stab rfl g194
              have g222 : WTM (fx_up (fx_up (fx_up S1 49 0 12 z137) 49 0 13 z191) 49 0 14 z218) := fx_pup WTM_stab rfl g195
              have g223 : INJ (fx_up (fx_up (fx_up S1 49 0 12 z137) 49 0 13 z191) 49 0 14 z218) := fx_pup INJ_stab rfl g196
              have g224 : AON (fx_up (fx_up (fx_up S1 49 0 12 z137) 49 0 13 z191) 49 0 14 z218) := fx_pup AON_stab rfl g197
              have g225 : USE (fx_up (fx_up (fx_up S1 49 0 12 z137) 49 0 13 z191) 49 0 14 z218) := fx_pup USE_stab rfl g198
              have g226 : REC (fx_up (fx_up (fx_up S1 49 0 12 z137) 49 0 13 z191) 49 0 14 z218) := fx_pup REC_stab rfl g199
              have g227 : SGM (fx_up (fx_up (fx_up S1 49 0 12 z137) 49 0 13 z191) 49 0 14 z218) := fx_pup SGM_stab rfl g200
              refine And.intro (by decide) (And.intro (show -2147483648 ≤ i + (1 : Int) ∧ i + (1 : Int) < 2147483648 by omega) ?_)
              exact ih.2.2 t (i + (1 : Int)) (fx_up (fx_up (fx_up S1 49 0 12 z137) 49 0 13 z191) 49 0 14 z218) (fxfr_up (fxfr_up (fxfr_up hf rfl) rfl) rfl) (by omega) (by omega) (by omega) g221 g222 g223 g224 g225 g226 g227 (by omega)
theorem c_StubHouseModel_rebuild {l : Launch} {k : fxK} {S : fxS}  (p0 : COL S) (p1 : WTM S) (p2 : INJ S) (p3 : AON S) (p4 : USE S) (p5 : SNP S) (p6 : REC S) (p7 : SGM S) (p8 : LCM S) (hk : ∀ (r : Int) (S' : fxS) , (fxfr [(49, 0), (49, 7), (49, 12), (49, 13), (49, 14), (49, 15), (49, 29), (50, 9999), (52, 9999), (53, 9999), (56, 9999), (58, 9999), (65, 9999), (66, 9999), (67, 9999), (68, 9999), (69, 9999)] S S' ∧ (-2147483648 ≤ r ∧ r < 2147483648) ∧ (COL S') ∧ (WTM S') ∧ (INJ S') ∧ (AON S') ∧ (USE S') ∧ (SNP S') ∧ (REC S') ∧ (SGM S') ∧ (LCM S')) → k (some (.inl r)) S') : fC l 188 [.inr (.inr (49, 0))] S k := by
  refine fxe_188 (Nat.le_of_ble_eq_true rfl) (fxz_188 400 ?_)
  refine And.intro (show (-2147483648 : Int) ≤ (0 : Int) ∧ (0 : Int) ≤ (2147483647 : Int) by omega) ?_
  have w229 : (fx_up S 49 0 0 (0 : Int)) 49 0 36 = S 49 0 36 := if_neg (fun q => absurd q.2.2 (by decide))
  have w230 : (fx_up S 49 0 0 (0 : Int)) 49 0 15 = S 49 0 15 := if_neg (fun q => absurd q.2.2 (by decide))
  have g231 : COL (fx_up S 49 0 0 (0 : Int)) := fx_pup COL_stab rfl p0
  have g232 : WTM (fx_up S 49 0 0 (0 : Int)) := fx_pup WTM_stab rfl p1
  have g233 : INJ (fx_up S 49 0 0 (0 : Int)) := fx_pup INJ_stab rfl p2
  have g234 : AON (fx_up S 49 0 0 (0 : Int)) := fx_pup AON_stab rfl p3
  have g235 : USE (fx_up S 49 0 0 (0 : Int)) := fx_pup USE_stab rfl p4
  have g236 : SNP (fx_up S 49 0 0 (0 : Int)) := fx_pup SNP_stab rfl p5
  have g237 : REC (fx_up S 49 0 0 (0 : Int)) := fx_pup REC_stab rfl p6
  have g238 : SGM (fx_up S 49 0 0 (0 : Int)) := fx_pup SGM_stab rfl p7
  have g239 : LCM (fx_up S 49 0 0 (0 : Int)) := fx_pup LCM_stab rfl p8
  intro z240 (z240a : (0 : Int) ≤ z240) (z240b : z240 ≤ (1 : Int)) (z240c : z240 = S 49 0 15)
  refine And.intro (fun (h241 : (z240 ≠ (0 : Int) : Prop)) => ?_) (fun (h241 : (z240 = (0 : Int) : Prop)) => ?_)
  ·
    have rz : S 49 0 36 = 0 := p8 (by omega)
    refine And.intro (show (0 : Int) ≤ (0 : Int) ∧ (0 : Int) ≤ (1 : Int) by omega) ?_
    have w242 : (fx_up (fx_up S 49 0 0 (0 : Int)) 49 0 15 (0 : Int)) 49 0 36 = (fx_up S 49 0 0 (0 : Int)) 49 0 36 := if_neg (fun q => absurd q.2.2 (by decide))
    have w243 : (fx_up (fx_up S 49 0 0 (0 : Int)) 49 0 15 (0 : Int)) 49 0 15 = (0 : Int) := fx_up_at _ _ _ _ _
    have g244 : COL (fx_up (fx_up S 49 0 0 (0 : Int)) 49 0 15 (0 : Int)) := fx_pup COL_stab rfl g231
    have g245 : WTM (fx_up (fx_up S 49 0 0 (0 : Int)) 49 0 15 (0 : Int)) := fx_pup WTM_stab rfl g232
    have g246 : INJ (fx_up (fx_up S 49 0 0 (0 : Int)) 49 0 15 (0 : Int)) := fx_pup INJ_stab rfl g233
    have g247 : AON (fx_up (fx_up S 49 0 0 (0 : Int)) 49 0 15 (0 : Int)) := fx_pup AON_stab rfl g234
    have g248 : USE (fx_up (fx_up S 49 0 0 (0 : Int)) 49 0 15 (0 : Int)) := fx_pup USE_stab rfl g235
    have g249 : SNP (fx_up (fx_up S 49 0 0 (0 : Int)) 49 0 15 (0 : Int)) := fx_pup SNP_stab rfl g236
    have g250 : REC (fx_up (fx_up S 49 0 0 (0 : Int)) 49 0 15 (0 : Int)) := fx_pup REC_stab rfl g237
    have g251 : SGM (fx_up (fx_up S 49 0 0 (0 : Int)) 49 0 15 (0 : Int)) := fx_pup SGM_stab rfl g238
    refine c_StubHouseModel_empty   (fun (S252 : fxS) ⟨(f253 : fxfr [(49, 7), (50, 9999), (53, 9999), (56, 9999)] (fx_up (fx_up S 49 0 0 (0 : Int)) 49 0 15 (0 : Int)) S252), (g254 : COL S252), (g255 : WTM S252), (g256 : INJ S252), (g257 : AON S252), (g258 : USE S252), (g259 : SNP S252)⟩ => ?_)
    have w260 : S252 49 0 36 = (fx_up (fx_up S 49 0 0 (0 : Int)) 49 0 15 (0 : Int)) 49 0 36 := f253 49 0 36 rfl
    have w261 : S252 49 0 15 = (fx_up (fx_up S 49 0 0 (0 : Int)) 49 0 15 (0 : Int)) 49 0 15 := f253 49 0 15 rfl
    have g262 : SGM S252 := fx_pfr SGM_stab f253 rfl g251
    have rc : REC S252 := REC_0 (by omega)
    refine c_StubHouseModel_findView  g262 (fun (S263 : fxS) ⟨(f264 : fxfr [(49, 29), (65, 9999), (66, 9999), (67, 9999), (68, 9999), (69, 9999)] S252 S263), (g265 : SGM S263)⟩ => ?_)
    have w266 : S263 49 0 36 = S252 49 0 36 := f264 49 0 36 rfl
    have w267 : S263 49 0 15 = S252 49 0 15 := f264 49 0 15 rfl
    have g268 : COL S263 := fx_pfr COL_stab f264 rfl g254
    have g269 : WTM S263 := fx_pfr WTM_stab f264 rfl g255
    have g270 : INJ S263 := fx_pfr INJ_stab f264 rfl g256
    have g271 : AON S263 := fx_pfr AON_stab f264 rfl g257
    have g272 : USE S263 := fx_pfr USE_stab f264 rfl g258
    have g273 : SNP S263 := fx_pfr SNP_stab f264 rfl g259
    have g274 : REC S263 := fx_pfr REC_stab f264 rfl rc
    refine And.intro (by decide) ?_
    exact (z_StubHouseModel_rebuild p0 p1 p2 p3 p4 p5 p6 p7 p8 hk (100000 - (0 : Int)).toNat).1 (0 : Int) S263 (fxfr_tr (fxfr_tr (fxfr_up (fxfr_up fxfr_rfl rfl) rfl) f253 rfl) f264 rfl) (by omega) (by omega) g268 g269 g270 g271 g272 g274 g265 (by omega)
  ·
    exact hk (-6 : Int) (fx_up S 49 0 0 (0 : Int)) ⟨(fxfr_up fxfr_rfl rfl), by omega, g231, g232, g233, g234, g235, g236, g237, g238, g239⟩
