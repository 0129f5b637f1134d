/-! contracts: the writing drive of the class, as far as the tree need not be known -/
theorem c_Writer_endParcel {l : Launch} {k : fxK} {S : fxS} {p : Int} (p0 : 0 ≤ p ∧ p ≤ 6000) (p1 : 0 ≤ S 40 0 0) (hk : ∀ (S' : fxS) , (fxfr [(5, 9999), (6, 9999), (8, 4), (10, 9999), (11, 9999), (13, 6), (13, 7), (13, 10), (15, 9999), (16, 9999), (17, 9999), (18, 9999), (19, 9999), (20, 0), (20, 1), (20, 3), (20, 4), (20, 5), (20, 6), (20, 7), (20, 11), (20, 12), (21, 9999), (22, 9999), (23, 9999), (38, 15)] S S') → k none S') : fC l 241 [.inr (.inr (40, 0)), .inl p] S k := by
  refine fxe_241 (Nat.le_of_ble_eq_true rfl) (fxz_241 400 ?_)
  refine And.intro (show (0 : Int) ≤ (0 : Int) ∧ (0 : Int) ≤ (1089 : Int) by omega) ?_
  have w1 : (fx_up S 38 0 15 (0 : Int)) 40 0 0 = S 40 0 0 := rfl
  have w2 : (fx_up S 38 0 15 (0 : Int)) 40 0 2 = S 40 0 2 := rfl
  have w3 : (fx_up S 38 0 15 (0 : Int)) 40 0 13 = S 40 0 13 := rfl
  have w4 : (fx_up S 38 0 15 (0 : Int)) 40 0 14 = S 40 0 14 := rfl
  intro z5 (z5a : (-1 : Int) ≤ z5) (z5b : z5 ≤ (5 : Int)) (z5c : z5 = S 38 0 12)
  intro z6 (z6a : (0 : Int) ≤ z6) (z6b : z6 ≤ (6000 : Int)) (z6c : z6 = S 38 0 16)
  refine c_Tree_ownerOf (t := z5) (p := z6) (show -2147483648 ≤ z5 ∧ z5 < 2147483648 by omega) (show -2147483648 ≤ z6 ∧ z6 < 2147483648 by omega) (fun (z7 : Int) (q8 : -1 ≤ z7 ∧ z7 < 60 ∧ z7 ≠ 0) => ?_)
  refine And.intro (by decide) ?_
  refine And.intro (fun (h9 : ((0 : Int) ≤ z7 : Prop)) => ?_) (fun (h9 : (z7 < (0 : Int) : Prop)) => ?_)
  ·
    refine And.intro (show 0 ≤ z7 ∧ z7 < 60 by omega) ?_
    intro z10 (z10a : (-1 : Int) ≤ z10) (z10b : z10 ≤ (5 : Int)) (z10c : z10 = S 38 0 12)
    intro z11 (z11a : (0 : Int) ≤ z11) (z11b : z11 ≤ (6000 : Int)) (z11c : z11 = S 38 0 16)
    refine c_Node_copyAt (i := (z7).toNat) (t := z10) (p := z11) (show -2147483648 ≤ z10 ∧ z10 < 2147483648 by omega) (show -2147483648 ≤ z11 ∧ z11 < 2147483648 by omega) (fun (z12 : Int) (q13 : -1 ≤ z12 ∧ z12 ≤ 1 ∧ (0 ≤ z12 → z12 < S 4 (z7).toNat 7 ∧ 0 ≤ z10 ∧ z10 ≤ 5)) => ?_)
    refine And.intro (by decide) ?_
    intro z14 (z14a : (-1 : Int) ≤ z14) (z14b : z14 ≤ (5 : Int)) (z14c : z14 = S 40 0 0)
    refine c_Changes_putCopy (n := z7) (q := z12) (t := z14) (p := p) (show 0 ≤ z7 ∧ z7 < 60 by omega) (show 0 ≤ z14 ∧ z14 ≤ 5 by omega) (show 0 ≤ p ∧ p ≤ 6000 by omega) (show -2147483648 ≤ z12 ∧ z12 < 2147483648 by omega) (fun (S15 : fxS) (f16 : fxfr [(5, 9999), (6, 9999), (8, 4), (10, 9999), (11, 9999), (13, 6), (13, 7), (13, 10), (15, 9999), (16, 9999), (17, 9999), (18, 9999), (19, 9999), (20, 0), (20, 1), (20, 3), (20, 4), (20, 5), (20, 6), (20, 7), (20, 11), (20, 12), (21, 9999), (22, 9999), (23, 9999)] (fx_up S 38 0 15 (0 : Int)) S15) => ?_)
    have w17 : S15 40 0 0 = (fx_up S 38 0 15 (0 : Int)) 40 0 0 := f16 40 0 0 rfl
    have w18 : S15 40 0 2 = (fx_up S 38 0 15 (0 : Int)) 40 0 2 := f16 40 0 2 rfl
    have w19 : S15 40 0 13 = (fx_up S 38 0 15 (0 : Int)) 40 0 13 := f16 40 0 13 rfl
    have w20 : S15 40 0 14 = (fx_up S 38 0 15 (0 : Int)) 40 0 14 := f16 40 0 14 rfl
    exact hk S15 (fxfr_tr (fxfr_up fxfr_rfl rfl) f16 rfl)
  ·
    exact hk (fx_up S 38 0 15 (0 : Int)) (fxfr_up fxfr_rfl rfl)
theorem c_Writer_endFile {l : Launch} {k : fxK} {S : fxS} {p : Int} (p0 : 0 ≤ p ∧ p ≤ 6000) (p1 : 0 ≤ S 40 0 0) (p2 : 0 ≤ S 40 0 14) (hk : ∀ (S' : fxS) , (fxfr [(4, 7), (5, 9999), (6, 9999), (8, 4), (10, 9999), (11, 9999), (13, 6), (13, 7), (13, 10), (15, 9999), (16, 9999), (17, 9999), (18, 9999), (19, 9999), (20, 0), (20, 1), (20, 3), (20, 4), (20, 5), (20, 6), (20, 7), (20, 11), (20, 12), (21, 9999), (22, 9999), (23, 9999)] S S') → k none S') : fC l 243 [.inr (.inr (40, 0)), .inl p] S k := by
  refine fxe_243 (Nat.le_of_ble_eq_true rfl) (fxz_243 400 ?_)
  intro z1 (z1a : (-1 : Int) ≤ z1) (z1b : z1 ≤ (59 : Int)) (z1c : z1 = S 40 0 14)
  refine And.intro (show 0 ≤ z1 ∧ z1 < 60 by omega) ?_
  refine And.intro (by decide) ?_
  intro z2 (z2a : (0 : Int) ≤ z2) (z2b : z2 ≤ (2 : Int)) (z2c : z2 = S 4 (z1).toNat 0)
  refine And.intro (fun (h3 : (z2 ≠ (2 : Int) : Prop)) => ?_) (fun (h3 : (z2 = (2 : Int) : Prop)) => ?_)
  ·
    refine And.intro (by decide) ?_
    refine And.intro (fun _ => ?_) (fun h => absurd h (by decide))
    exact hk S fxfr_rfl
  ·
    intro z4 (z4a : (-2147483648 : Int) ≤ z4) (z4b : z4 ≤ (2147483647 : Int)) (z4c : z4 = S 4 (z1).toNat 3)
    intro z5 (z5a : (-2147483648 : Int) ≤ z5) (z5b : z5 ≤ (2147483647 : Int)) (z5c : z5 = S 40 0 15)
    refine And.intro (fun (h6 : (z4 ≠ z5 : Prop)) => ?_) (fun (h6 : (z4 = z5 : Prop)) => ?_)
    ·
      refine And.intro (by decide) ?_
      refine And.intro (fun _ => ?_) (fun h => absurd h (by decide))
      exact hk S fxfr_rfl
    ·
      intro z7 (z7a : (-2147483648 : Int) ≤ z7) (z7b : z7 ≤ (2147483647 : Int)) (z7c : z7 = S 4 (z1).toNat 5)
      intro z8 (z8a : (-2147483648 : Int) ≤ z8) (z8b : z8 ≤ (2147483647 : Int)) (z8c : z8 = S 40 0 16)
      refine And.intro (fun (h9 : (z7 ≠ z8 : Prop)) => ?_) (fun (h9 : (z7 = z8 : Prop)) => ?_)
      ·
        refine And.intro (by decide) ?_
        refine And.intro (fun _ => ?_) (fun h => absurd h (by decide))
        exact hk S fxfr_rfl
      ·
        refine And.intro (by decide) ?_
        refine And.intro (fun h => absurd h (by decide)) (fun _ => ?_)
        intro z10 (z10a : (0 : Int) ≤ z10) (z10b : z10 ≤ (2 : Int)) (z10c : z10 = S 4 (z1).toNat 7)
        refine And.intro (fun (h11 : ((2 : Int) ≤ z10 : Prop)) => ?_) (fun (h11 : (z10 < (2 : Int) : Prop)) => ?_)
        ·
          exact hk S fxfr_rfl
        ·
          intro z12 (z12a : (-1 : Int) ≤ z12) (z12b : z12 ≤ (59 : Int)) (z12c : z12 = S 40 0 14)
          intro z13 (z13a : (-1 : Int) ≤ z13) (z13b : z13 ≤ (5 : Int)) (z13c : z13 = S 40 0 0)
          refine c_Changes_noteCopy (n := z12) (t := z13) (p := p) (show 0 ≤ z12 ∧ z12 < 60 by omega) (show 0 ≤ z13 ∧ z13 ≤ 5 by omega) (show 0 ≤ p ∧ p ≤ 6000 by omega) (fun (S14 : fxS) (f15 : fxfr [(4, 7), (5, 9999), (6, 9999), (8, 4), (10, 9999), (11, 9999), (13, 6), (13, 7), (13, 10), (15, 9999), (16, 9999), (17, 9999), (18, 9999), (19, 9999), (20, 0), (20, 1), (20, 3), (20, 4), (20, 5), (20, 6), (20, 7), (20, 11), (20, 12), (21, 9999), (22, 9999), (23, 9999)] S S14) => ?_)
          have w16 : S14 40 0 0 = S 40 0 0 := f15 40 0 0 rfl
          have w17 : S14 40 0 2 = S 40 0 2 := f15 40 0 2 rfl
          have w18 : S14 40 0 13 = S 40 0 13 := f15 40 0 13 rfl
          have w19 : S14 40 0 14 = S 40 0 14 := f15 40 0 14 rfl
          exact hk S14 (fxfr_tr fxfr_rfl f15 rfl)
theorem c_Writer_finish {l : Launch} {k : fxK} {S : fxS}  (p0 : SegA S) (p1 : 0 ≤ S 40 0 0) (p2 : S 40 0 13 = 2 → 0 ≤ S 40 0 14) (hk : ∀ (S' : fxS) , (fxfr [(4, 7), (5, 9999), (6, 9999), (8, 4), (10, 9999), (11, 9999), (13, 6), (13, 7), (13, 10), (15, 9999), (16, 9999), (17, 9999), (18, 9999), (19, 9999), (20, 0), (20, 1), (20, 3), (20, 4), (20, 5), (20, 6), (20, 7), (20, 11), (20, 12), (21, 9999), (22, 9999), (23, 9999), (26, 3), (32, 1), (32, 3), (32, 4), (32, 5), (33, 9999), (38, 15)] S S' ∧ (SegA S')) → k none S') : fC l 244 [.inr (.inr (40, 0))] S k := by
  refine fxe_244 (Nat.le_of_ble_eq_true rfl) (fxz_244 400 ?_)
  intro z1 (z1a : (-1 : Int) ≤ z1) (z1b : z1 ≤ (5 : Int)) (z1c : z1 = S 40 0 0)
  intro z2 (z2a : (0 : Int) ≤ z2) (z2b : z2 ≤ (1089 : Int)) (z2c : z2 = S 40 0 12)
  refine c_Library_append (t := z1) (n := z2) (show SegA S by assumption) (show 0 ≤ z1 ∧ z1 ≤ 5 by omega) (show 0 ≤ z2 ∧ z2 ≤ 1089 by omega) (fun (z3 : Int) (S4 : fxS) ⟨(f5 : fxfr [(26, 3), (32, 1), (32, 3), (32, 4), (32, 5), (33, 9999)] S S4), (q6 : 0 ≤ z3 ∧ z3 ≤ 6000), (g7 : SegA S4), (g8 : fxix (z1).toNat S S4)⟩ => ?_)
  have w9 : S4 40 0 0 = S 40 0 0 := f5 40 0 0 rfl
  have w10 : S4 40 0 2 = S 40 0 2 := f5 40 0 2 rfl
  have w11 : S4 40 0 13 = S 40 0 13 := f5 40 0 13 rfl
  have w12 : S4 40 0 14 = S 40 0 14 := f5 40 0 14 rfl
  refine And.intro (by decide) ?_
  intro z13 (z13a : (0 : Int) ≤ z13) (z13b : z13 ≤ (2 : Int)) (z13c : z13 = S4 40 0 13)
  refine And.intro (fun (h14 : (z13 ≠ (0 : Int) : Prop)) => ?_) (fun (h14 : (z13 = (0 : Int) : Prop)) => ?_)
  ·
    intro z15 (z15a : (0 : Int) ≤ z15) (z15b : z15 ≤ (2 : Int)) (z15c : z15 = S4 40 0 13)
    refine And.intro (fun (h16 : (z15 ≠ (1 : Int) : Prop)) => ?_) (fun (h16 : (z15 = (1 : Int) : Prop)) => ?_)
    ·
      refine c_Writer_endFile (p := z3) (show 0 ≤ z3 ∧ z3 ≤ 6000 by omega) (show 0 ≤ S4 40 0 0 by omega) (show 0 ≤ S4 40 0 14 by omega) (fun (S17 : fxS) (f18 : fxfr [(4, 7), (5, 9999), (6, 9999), (8, 4), (10, 9999), (11, 9999), (13, 6), (13, 7), (13, 10), (15, 9999), (16, 9999), (17, 9999), (18, 9999), (19, 9999), (20, 0), (20, 1), (20, 3), (20, 4), (20, 5), (20, 6), (20, 7), (20, 11), (20, 12), (21, 9999), (22, 9999), (23, 9999)] S4 S17) => ?_)
      have w19 : S17 40 0 0 = S4 40 0 0 := f18 40 0 0 rfl
      have w20 : S17 40 0 2 = S4 40 0 2 := f18 40 0 2 rfl
      have w21 : S17 40 0 13 = S4 40 0 13 := f18 40 0 13 rfl
      have w22 : S17 40 0 14 = S4 40 0 14 := f18 40 0 14 rfl
      have g23 : SegA S17 := fx_pfr SegA_stab f18 rfl (by assumption)
      exact hk S17 ⟨(fxfr_tr (fxfr_tr fxfr_rfl f5 rfl) f18 rfl), by assumption⟩
    ·
      refine c_Writer_endParcel (p := z3) (show 0 ≤ z3 ∧ z3 ≤ 6000 by omega) (show 0 ≤ S4 40 0 0 by omega) (fun (S24 : fxS) (f25 : fxfr [(5, 9999), (6, 9999), (8, 4), (10, 9999), (11, 9999), (13, 6), (13, 7), (13, 10), (15, 9999), (16, 9999), (17, 9999), (18, 9999), (19, 9999), (20, 0), (20, 1), (20, 3), (20, 4), (20, 5), (20, 6), (20, 7), (20, 11), (20, 12), (21, 9999), (22, 9999), (23, 9999), (38, 15)] S4 S24) => ?_)
      have w26 : S24 40 0 0 = S4 40 0 0 := f25 40 0 0 rfl
      have w27 : S24 40 0 2 = S4 40 0 2 := f25 40 0 2 rfl
      have w28 : S24 40 0 13 = S4 40 0 13 := f25 40 0 13 rfl
      have w29 : S24 40 0 14 = S4 40 0 14 := f25 40 0 14 rfl
      have g30 : SegA S24 := fx_pfr SegA_stab f25 rfl (by assumption)
      exact hk S24 ⟨(fxfr_tr (fxfr_tr fxfr_rfl f5 rfl) f25 rfl), by assumption⟩
  ·
    intro z31 (z31a : (-2147483648 : Int) ≤ z31) (z31b : z31 ≤ (2147483647 : Int)) (z31c : z31 = S4 40 0 15)
    refine c_Changes_noteDeleteWritten (d := z31) (show -2147483648 ≤ z31 ∧ z31 < 2147483648 by omega) (fun (S32 : fxS) (f33 : fxfr [(8, 4), (10, 9999), (11, 9999), (13, 6), (13, 7), (13, 10), (15, 9999), (16, 9999), (17, 9999), (18, 9999), (19, 9999), (20, 0), (20, 1), (20, 3), (20, 4), (20, 5), (20, 6), (20, 7), (20, 11), (20, 12), (21, 9999), (22, 9999), (23, 9999)] S4 S32) => ?_)
    have w34 : S32 40 0 0 = S4 40 0 0 := f33 40 0 0 rfl
    have w35 : S32 40 0 2 = S4 40 0 2 := f33 40 0 2 rfl
    have w36 : S32 40 0 13 = S4 40 0 13 := f33 40 0 13 rfl
    have w37 : S32 40 0 14 = S4 40 0 14 := f33 40 0 14 rfl
    have g38 : SegA S32 := fx_pfr SegA_stab f33 rfl (by assumption)
    exact hk S32 ⟨(fxfr_tr (fxfr_tr fxfr_rfl f5 rfl) f33 rfl), by assumption⟩
