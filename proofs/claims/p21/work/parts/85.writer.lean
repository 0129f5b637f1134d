/-! contracts: the writing drive of the class, as far as the tree need not be known -/
theorem c_Writer_endParcel {l : Launch} {k : fxK} {S : fxS} {p : Int} (p0 : 0 ≤ p ∧ p ≤ 6000) (p1 : 0 ≤ S 40 0 0) (p2 : TreeL S) (hk : ∀ (S' : fxS) , (fxfr [(5, 9999), (6, 9999), (8, 4), (10, 9999), (11, 9999), (13, 6), (13, 7), (13, 10), (15, 9999), (16, 9999), (17, 9999), (18, 9999), (19, 9999), (20, 0), (20, 1), (20, 3), (20, 4), (20, 5), (20, 6), (20, 7), (20, 11), (20, 12), (21, 9999), (22, 9999), (23, 9999), (38, 15)] S S' ∧ (TreeL S')) → k none S') : fC l 241 [.inr (.inr (40, 0)), .inl p] S k := by
  refine fxe_241 (Nat.le_of_ble_eq_true rfl) (fxz_241 400 ?_)
  refine And.intro (show (0 : Int) ≤ (0 : Int) ∧ (0 : Int) ≤ (1089 : Int) by omega) ?_
  have w1 : (fx_up S 38 0 15 (0 : Int)) 40 0 0 = S 40 0 0 := rfl
  have w2 : (fx_up S 38 0 15 (0 : Int)) 40 0 2 = S 40 0 2 := rfl
  have w3 : (fx_up S 38 0 15 (0 : Int)) 40 0 13 = S 40 0 13 := rfl
  have w4 : (fx_up S 38 0 15 (0 : Int)) 40 0 14 = S 40 0 14 := rfl
  have g5 : TreeL (fx_up S 38 0 15 (0 : Int)) := fx_pup TreeL_stab rfl p2
  intro z6 (z6a : (-1 : Int) ≤ z6) (z6b : z6 ≤ (5 : Int)) (z6c : z6 = S 38 0 12)
  intro z7 (z7a : (0 : Int) ≤ z7) (z7b : z7 ≤ (6000 : Int)) (z7c : z7 = S 38 0 16)
  refine c_Tree_ownerOf (t := z6) (p := z7) (show -2147483648 ≤ z6 ∧ z6 < 2147483648 by omega) (show -2147483648 ≤ z7 ∧ z7 < 2147483648 by omega) (fun (z8 : Int) (q9 : -1 ≤ z8 ∧ z8 < 60 ∧ z8 ≠ 0) => ?_)
  refine And.intro (by decide) ?_
  refine And.intro (fun (h10 : ((0 : Int) ≤ z8 : Prop)) => ?_) (fun (h10 : (z8 < (0 : Int) : Prop)) => ?_)
  ·
    refine And.intro (show 0 ≤ z8 ∧ z8 < 60 by omega) ?_
    intro z11 (z11a : (-1 : Int) ≤ z11) (z11b : z11 ≤ (5 : Int)) (z11c : z11 = S 38 0 12)
    intro z12 (z12a : (0 : Int) ≤ z12) (z12b : z12 ≤ (6000 : Int)) (z12c : z12 = S 38 0 16)
    refine c_Node_copyAt (i := (z8).toNat) (t := z11) (p := z12) (show -2147483648 ≤ z11 ∧ z11 < 2147483648 by omega) (show -2147483648 ≤ z12 ∧ z12 < 2147483648 by omega) (fun (z13 : Int) (q14 : -1 ≤ z13 ∧ z13 ≤ 1 ∧ (0 ≤ z13 → z13 < S 4 (z8).toNat 7 ∧ 0 ≤ z11 ∧ z11 ≤ 5)) => ?_)
    refine And.intro (by decide) ?_
    intro z15 (z15a : (-1 : Int) ≤ z15) (z15b : z15 ≤ (5 : Int)) (z15c : z15 = S 40 0 0)
    refine c_Changes_putCopy (n := z8) (q := z13) (t := z15) (p := p) (show 0 ≤ z8 ∧ z8 < 60 by omega) (show 0 ≤ z15 ∧ z15 ≤ 5 by omega) (show 0 ≤ p ∧ p ≤ 6000 by omega) g5 (show -2147483648 ≤ z13 ∧ z13 < 2147483648 by omega) (fun (S16 : fxS) ⟨(f17 : fxfr [(5, 9999), (6, 9999), (8, 4), (10, 9999), (11, 9999), (13, 6), (13, 7), (13, 10), (15, 9999), (16, 9999), (17, 9999), (18, 9999), (19, 9999), (20, 0), (20, 1), (20, 3), (20, 4), (20, 5), (20, 6), (20, 7), (20, 11), (20, 12), (21, 9999), (22, 9999), (23, 9999)] (fx_up S 38 0 15 (0 : Int)) S16), (g18 : TreeL S16)⟩ => ?_)
    have w19 : S16 40 0 0 = (fx_up S 38 0 15 (0 : Int)) 40 0 0 := f17 40 0 0 rfl
    have w20 : S16 40 0 2 = (fx_up S 38 0 15 (0 : Int)) 40 0 2 := f17 40 0 2 rfl
    have w21 : S16 40 0 13 = (fx_up S 38 0 15 (0 : Int)) 40 0 13 := f17 40 0 13 rfl
    have w22 : S16 40 0 14 = (fx_up S 38 0 15 (0 : Int)) 40 0 14 := f17 40 0 14 rfl
    exact hk S16 ⟨(fxfr_tr (fxfr_up fxfr_rfl rfl) f17 rfl), g18⟩
  ·
    exact hk (fx_up S 38 0 15 (0 : Int)) ⟨(fxfr_up fxfr_rfl rfl), g5⟩
theorem c_Writer_endFile {l : Launch} {k : fxK} {S : fxS} {p : Int} (p0 : 0 ≤ p ∧ p ≤ 6000) (p1 : 0 ≤ S 40 0 0) (p2 : 0 ≤ S 40 0 14) (p3 : TreeL S) (hk : ∀ (S' : fxS) , (fxfr [(4, 7), (5, 9999), (6, 9999), (8, 4), (10, 9999), (11, 9999), (13, 6), (13, 7), (13, 10), (15, 9999), (16, 9999), (17, 9999), (18, 9999), (19, 9999), (20, 0), (20, 1), (20, 3), (20, 4), (20, 5), (20, 6), (20, 7), (20, 11), (20, 12), (21, 9999), (22, 9999), (23, 9999)] S S' ∧ (TreeL S')) → k none S') : fC l 243 [.inr (.inr (40, 0)), .inl p] S k := by
  refine fxe_243 (Nat.le_of_ble_eq_true rfl) (fxz_243 400 ?_)
  intro z1 (z1a : (-1 : Int) ≤ z1) (z1b : z1 ≤ (59 : Int)) (z1c : z1 = S 40 0 14)
  refine And.intro (show 0 ≤ z1 ∧ z1 < 60 by omega) ?_
  refine And.intro (by decide) ?_
  intro z2 (z2a : (0 : Int) ≤ z2) (z2b : z2 ≤ (2 : Int)) (z2c : z2 = S 4 (z1).toNat 0)
  refine And.intro (fun (h3 : (z2 ≠ (2 : Int) : Prop)) => ?_) (fun (h3 : (z2 = (2 : Int) : Prop)) => ?_)
  ·
    refine And.intro (by decide) ?_
    refine And.intro (fun _ => ?_) (fun h => absurd h (by decide))
    exact hk S ⟨fxfr_rfl, p3⟩
  ·
    intro z4 (z4a : (-2147483648 : Int) ≤ z4) (z4b : z4 ≤ (2147483647 : Int)) (z4c : z4 = S 4 (z1).toNat 3)
    intro z5 (z5a : (-2147483648 : Int) ≤ z5) (z5b : z5 ≤ (2147483647 : Int)) (z5c : z5 = S 40 0 15)
    refine And.intro (fun (h6 : (z4 ≠ z5 : Prop)) => ?_) (fun (h6 : (z4 = z5 : Prop)) => ?_)
    ·
      refine And.intro (by decide) ?_
      refine And.intro (fun _ => ?_) (fun h => absurd h (by decide))
      exact hk S ⟨fxfr_rfl, p3⟩
    ·
      intro z7 (z7a : (-2147483648 : Int) ≤ z7) (z7b : z7 ≤ (2147483647 : Int)) (z7c : z7 = S 4 (z1).toNat 5)
      intro z8 (z8a : (-2147483648 : Int) ≤ z8) (z8b : z8 ≤ (2147483647 : Int)) (z8c : z8 = S 40 0 16)
      refine And.intro (fun (h9 : (z7 ≠ z8 : Prop)) => ?_) (fun (h9 : (z7 = z8 : Prop)) => ?_)
      ·
        refine And.intro (by decide) ?_
        refine And.intro (fun _ => ?_) (fun h => absurd h (by decide))
        exact hk S ⟨fxfr_rfl, p3⟩
      ·
        refine And.intro (by decide) ?_
        refine And.intro (fun h => absurd h (by decide)) (fun _ => ?_)
        intro z10 (z10a : (0 : Int) ≤ z10) (z10b : z10 ≤ (2 : Int)) (z10c : z10 = S 4 (z1).toNat 7)
        refine And.intro (fun (h11 : ((2 : Int) ≤ z10 : Prop)) => ?_) (fun (h11 : (z10 < (2 : Int) : Prop)) => ?_)
        ·
          exact hk S ⟨fxfr_rfl, p3⟩
        ·
          intro z12 (z12a : (-1 : Int) ≤ z12) (z12b : z12 ≤ (59 : Int)) (z12c : z12 = S 40 0 14)
          intro z13 (z13a : (-1 : Int) ≤ z13) (z13b : z13 ≤ (5 : Int)) (z13c : z13 = S 40 0 0)
          refine c_Changes_noteCopy (n := z12) (t := z13) (p := p) (show 0 ≤ z12 ∧ z12 < 60 by omega) (show 0 ≤ z13 ∧ z13 ≤ 5 by omega) (show 0 ≤ p ∧ p ≤ 6000 by omega) p3 (fun (S14 : fxS) ⟨(f15 : fxfr [(4, 7), (5, 9999), (6, 9999), (8, 4), (10, 9999), (11, 9999), (13, 6), (13, 7), (13, 10), (15, 9999), (16, 9999), (17, 9999), (18, 9999), (19, 9999), (20, 0), (20, 1), (20, 3), (20, 4), (20, 5), (20, 6), (20, 7), (20, 11), (20, 12), (21, 9999), (22, 9999), (23, 9999)] S S14), (g16 : TreeL S14)⟩ => ?_)
          have w17 : S14 40 0 0 = S 40 0 0 := f15 40 0 0 rfl
          have w18 : S14 40 0 2 = S 40 0 2 := f15 40 0 2 rfl
          have w19 : S14 40 0 13 = S 40 0 13 := f15 40 0 13 rfl
          have w20 : S14 40 0 14 = S 40 0 14 := f15 40 0 14 rfl
          exact hk S14 ⟨(fxfr_tr fxfr_rfl f15 rfl), g16⟩
theorem c_Writer_finish {l : Launch} {k : fxK} {S : fxS}  (p0 : SegA S) (p1 : 0 ≤ S 40 0 0) (p2 : S 40 0 13 = 2 → 0 ≤ S 40 0 14) (p3 : TreeL S) (hk : ∀ (S' : fxS) , (fxfr [(4, 7), (5, 9999), (6, 9999), (8, 4), (10, 9999), (11, 9999), (13, 6), (13, 7), (13, 10), (15, 9999), (16, 9999), (17, 9999), (18, 9999), (19, 9999), (20, 0), (20, 1), (20, 3), (20, 4), (20, 5), (20, 6), (20, 7), (20, 11), (20, 12), (21, 9999), (22, 9999), (23, 9999), (26, 3), (32, 1), (32, 3), (32, 4), (32, 5), (33, 9999), (38, 15)] S S' ∧ (SegA S') ∧ (TreeL S')) → k none S') : fC l 244 [.inr (.inr (40, 0))] S k := by
  refine fxe_244 (Nat.le_of_ble_eq_true rfl) (fxz_244 400 ?_)
  intro z1 (z1a : (-1 : Int) ≤ z1) (z1b : z1 ≤ (5 : Int)) (z1c : z1 = S 40 0 0)
  intro z2 (z2a : (0 : Int) ≤ z2) (z2b : z2 ≤ (1089 : Int)) (z2c : z2 = S 40 0 12)
  refine c_Library_append (t := z1) (n := z2) p0 (show 0 ≤ z1 ∧ z1 ≤ 5 by omega) (show 0 ≤ z2 ∧ z2 ≤ 1089 by omega) (fun (z3 : Int) (S4 : fxS) ⟨(f5 : fxfr [(26, 3), (32, 1), (32, 3), (32, 4), (32, 5), (33, 9999)] S S4), (q6 : 0 ≤ z3 ∧ z3 ≤ 6000), (g7 : SegA S4), (g8 : fxix (z1).toNat S S4)⟩ => ?_)
  have w9 : S4 40 0 0 = S 40 0 0 := f5 40 0 0 rfl
  have w10 : S4 40 0 2 = S 40 0 2 := f5 40 0 2 rfl
  have w11 : S4 40 0 13 = S 40 0 13 := f5 40 0 13 rfl
  have w12 : S4 40 0 14 = S 40 0 14 := f5 40 0 14 rfl
  have g13 : TreeL S4 := fx_pfr TreeL_stab f5 rfl p3
  refine And.intro (by decide) ?_
  intro z14 (z14a : (0 : Int) ≤ z14) (z14b : z14 ≤ (2 : Int)) (z14c : z14 = S4 40 0 13)
  refine And.intro (fun (h15 : (z14 ≠ (0 : Int) : Prop)) => ?_) (fun (h15 : (z14 = (0 : Int) : Prop)) => ?_)
  ·
    intro z16 (z16a : (0 : Int) ≤ z16) (z16b : z16 ≤ (2 : Int)) (z16c : z16 = S4 40 0 13)
    refine And.intro (fun (h17 : (z16 ≠ (1 : Int) : Prop)) => ?_) (fun (h17 : (z16 = (1 : Int) : Prop)) => ?_)
    ·
      refine c_Writer_endFile (p := z3) (show 0 ≤ z3 ∧ z3 ≤ 6000 by omega) (show 0 ≤ S4 40 0 0 by omega) (show 0 ≤ S4 40 0 14 by omega) g13 (fun (S18 : fxS) ⟨(f19 : fxfr [(4, 7), (5, 9999), (6, 9999), (8, 4), (10, 9999), (11, 9999), (13, 6), (13, 7), (13, 10), (15, 9999), (16, 9999), (17, 9999), (18, 9999), (19, 9999), (20, 0), (20, 1), (20, 3), (20, 4), (20, 5), (20, 6), (20, 7), (20, 11), (20, 12), (21, 9999), (22, 9999), (23, 9999)] S4 S18), (g20 : TreeL S18)⟩ => ?_)
      have w21 : S18 40 0 0 = S4 40 0 0 := f19 40 0 0 rfl
      have w22 : S18 40 0 2 = S4 40 0 2 := f19 40 0 2 rfl
      have w23 : S18 40 0 13 = S4 40 0 13 := f19 40 0 13 rfl
      have w24 : S18 40 0 14 = S4 40 0 14 := f19 40 0 14 rfl
      have g25 : SegA S18 := fx_pfr SegA_stab f19 rfl g7
      exact hk S18 ⟨(fxfr_tr (fxfr_tr fxfr_rfl f5 rfl) f19 rfl), g25, g20⟩
    ·
      refine c_Writer_endParcel (p := z3) (show 0 ≤ z3 ∧ z3 ≤ 6000 by omega) (show 0 ≤ S4 40 0 0 by omega) g13 (fun (S26 : fxS) ⟨(f27 : fxfr [(5, 9999), (6, 9999), (8, 4), (10, 9999), (11, 9999), (13, 6), (13, 7), (13, 10), (15, 9999), (16, 9999), (17, 9999), (18, 9999), (19, 9999), (20, 0), (20, 1), (20, 3), (20, 4), (20, 5), (20, 6), (20, 7), (20, 11), (20, 12), (21, 9999), (22, 9999), (23, 9999), (38, 15)] S4 S26), (g28 : TreeL S26)⟩ => ?_)
      have w29 : S26 40 0 0 = S4 40 0 0 := f27 40 0 0 rfl
      have w30 : S26 40 0 2 = S4 40 0 2 := f27 40 0 2 rfl
      have w31 : S26 40 0 13 = S4 40 0 13 := f27 40 0 13 rfl
      have w32 : S26 40 0 14 = S4 40 0 14 := f27 40 0 14 rfl
      have g33 : SegA S26 := fx_pfr SegA_stab f27 rfl g7
      exact hk S26 ⟨(fxfr_tr (fxfr_tr fxfr_rfl f5 rfl) f27 rfl), g33, g28⟩
  ·
    intro z34 (z34a : (-2147483648 : Int) ≤ z34) (z34b : z34 ≤ (2147483647 : Int)) (z34c : z34 = S4 40 0 15)
    refine c_Changes_noteDeleteWritten (d := z34) g13 (show -2147483648 ≤ z34 ∧ z34 < 2147483648 by omega) (fun (S35 : fxS) ⟨(f36 : fxfr [(8, 4), (10, 9999), (11, 9999), (13, 6), (13, 7), (13, 10), (15, 9999), (16, 9999), (17, 9999), (18, 9999), (19, 9999), (20, 0), (20, 1), (20, 3), (20, 4), (20, 5), (20, 6), (20, 7), (20, 11), (20, 12), (21, 9999), (22, 9999), (23, 9999)] S4 S35), (g37 : TreeL S35)⟩ => ?_)
    have w38 : S35 40 0 0 = S4 40 0 0 := f36 40 0 0 rfl
    have w39 : S35 40 0 2 = S4 40 0 2 := f36 40 0 2 rfl
    have w40 : S35 40 0 13 = S4 40 0 13 := f36 40 0 13 rfl
    have w41 : S35 40 0 14 = S4 40 0 14 := f36 40 0 14 rfl
    have g42 : SegA S35 := fx_pfr SegA_stab f36 rfl g7
    exact hk S35 ⟨(fxfr_tr (fxfr_tr fxfr_rfl f5 rfl) f36 rfl), g42, g37⟩
