/-! contracts: the rest of the class -/
theorem z_Writer_beginFile {l : Launch} {k : fxK} {S : fxS} {n : Int} (p0 : 0 ≤ n ∧ n < 60) (p1 : 0 ≤ S 40 0 0) (p2 : TreeL S) (hk : ∀ (S' : fxS) , (fxfr [(26, 2), (40, 2), (40, 3), (40, 4), (40, 12), (40, 13), (40, 14), (40, 15), (40, 16), (43, 9999)] S S' ∧ (((S' 40 0 2 = 4 ∨ S' 40 0 2 = 5) → 0 ≤ S' 40 0 0 ∧ (S' 40 0 13 = 2 → 0 ≤ S' 40 0 14)))) → k none S') : ∀ m : Nat, (∀ (a b u j : Int) (S1 : fxS), (fxfr [(26, 2), (40, 2), (40, 3), (40, 4), (40, 12), (40, 13), (40, 14), (40, 15), (40, 16), (43, 9999)] S S1) → (a = 15) → (15 ≤ b ∧ b ≤ 55) → (0 ≤ u ∧ u < 60) → (-1 ≤ j ∧ j ≤ 4) → (0 ≤ S1 40 0 0) → (TreeL S1) → j + 102 ≤ (m : Int) → fZ l 234 k 58 [some (.inr (.inr (40, 0))), some (.inl n), some (.inr (.inr (2, 0))), some (.inr (.inr (4, (n).toNat))), none, some (.inl a), some (.inl b), some (.inl u), some (.inl j), none] [] S1) ∧ (∀ (b j : Int) (S1 : fxS), (fxfr [(26, 2), (40, 2), (40, 3), (40, 4), (40, 12), (40, 13), (40, 14), (40, 15), (40, 16), (43, 9999)] S S1) → (21 ≤ b ∧ b ≤ 61) → (0 ≤ j ∧ j ≤ 32) → (0 ≤ S1 40 0 0) → (TreeL S1) → 33 - j ≤ (m : Int) → fZ l 234 k 138 [some (.inr (.inr (40, 0))), some (.inl n), none, some (.inr (.inr (4, (n).toNat))), none, none, some (.inl b), none, some (.inl j), none] [] S1) := by
  intro m
  induction m with
  | zero =>
    refine ⟨?_, ?_⟩
    · intro a b u j S1 hf i0 i1 i2 i3 i4 i5 hmu
      exfalso
      omega
    · intro b j S1 hf i0 i1 i2 i3 hmu
      exfalso
      omega
  | succ m ih =>
    refine ⟨?_, ?_⟩
    · intro a b u j S1 hf i0 i1 i2 i3 i4 i5 hmu
      refine fxz_234 400 ?_
      refine And.intro (fun (h1 : (j < (0 : Int) : Prop)) => ?_) (fun (h1 : ((0 : Int) ≤ j : Prop)) => ?_)
      ·
        intro z2 (z2a : (0 : Int) ≤ z2) (z2b : z2 ≤ (1024 : Int)) (z2c : z2 = S1 4 (n).toNat 4)
        refine c_putNumber43 (p := b) (c := (2 : Int)) (x := z2) (show 0 ≤ b by omega) (show 0 ≤ (2 : Int) ∧ (2 : Int) ≤ 8 ∧ b + (2 : Int) ≤ 1089 by omega) (fun (z3 : Int) (S4 : fxS) ⟨(f5 : fxfr [(43, 9999)] S1 S4), (q6 : z3 = b + (2 : Int))⟩ => ?_)
        have w7 : S4 40 0 0 = S1 40 0 0 := f5 40 0 0 rfl
        have w8 : S4 40 0 2 = S1 40 0 2 := f5 40 0 2 rfl
        have w9 : S4 40 0 13 = S1 40 0 13 := f5 40 0 13 rfl
        have w10 : S4 40 0 14 = S1 40 0 14 := f5 40 0 14 rfl
        have w11 : S4 4 (n).toNat 4 = S1 4 (n).toNat 4 := f5 4 (n).toNat 4 rfl
        have g12 : TreeL S4 := fx_pfr TreeL_stab f5 rfl i5
        refine And.intro (by decide) ?_
        refine c_Writer_putCheck (f := (0 : Int)) (a := z3) (show 0 ≤ (0 : Int) ∧ (0 : Int) ≤ 1089 by omega) (show 0 ≤ z3 ∧ z3 + 4 ≤ 1089 by omega) (fun (z13 : Int) (S14 : fxS) ⟨(f15 : fxfr [(43, 9999)] S4 S14), (q16 : z13 = z3 + 4)⟩ => ?_)
        have w17 : S14 40 0 0 = S4 40 0 0 := f15 40 0 0 rfl
        have w18 : S14 40 0 2 = S4 40 0 2 := f15 40 0 2 rfl
        have w19 : S14 40 0 13 = S4 40 0 13 := f15 40 0 13 rfl
        have w20 : S14 40 0 14 = S4 40 0 14 := f15 40 0 14 rfl
        have w21 : S14 4 (n).toNat 4 = S4 4 (n).toNat 4 := f15 4 (n).toNat 4 rfl
        have g22 : TreeL S14 := fx_pfr TreeL_stab f15 rfl g12
        refine And.intro (by decide) ?_
        refine And.intro (by decide) ?_
        exact ih.2 z13 (0 : Int) S14 (fxfr_tr (fxfr_tr hf f5 rfl) f15 rfl) (by omega) (by omega) (by omega) g22 (by omega)
      ·
        refine And.intro (show -2147483648 ≤ ((8 : Int) * j) ∧ ((8 : Int) * j) < 2147483648 by omega) ?_
        refine And.intro (show -2147483648 ≤ (a + ((8 : Int) * j)) ∧ (a + ((8 : Int) * j)) < 2147483648 by omega) ?_
        refine And.intro (show 0 ≤ u ∧ u < 60 by omega) ?_
        intro z23
        refine c_putNumber43 (p := (a + ((8 : Int) * j))) (c := (8 : Int)) (x := z23) (show 0 ≤ (a + ((8 : Int) * j)) by omega) (show 0 ≤ (8 : Int) ∧ (8 : Int) ≤ 8 ∧ (a + ((8 : Int) * j)) + (8 : Int) ≤ 1089 by omega) (fun (z24 : Int) (S25 : fxS) ⟨(f26 : fxfr [(43, 9999)] S1 S25), (q27 : z24 = (a + ((8 : Int) * j)) + (8 : Int))⟩ => ?_)
        have w28 : S25 40 0 0 = S1 40 0 0 := f26 40 0 0 rfl
        have w29 : S25 40 0 2 = S1 40 0 2 := f26 40 0 2 rfl
        have w30 : S25 40 0 13 = S1 40 0 13 := f26 40 0 13 rfl
        have w31 : S25 40 0 14 = S1 40 0 14 := f26 40 0 14 rfl
        have w32 : S25 4 (n).toNat 4 = S1 4 (n).toNat 4 := f26 4 (n).toNat 4 rfl
        have g33 : TreeL S25 := fx_pfr TreeL_stab f26 rfl i5
        refine And.intro (show 0 ≤ u ∧ u < 60 by omega) ?_
        intro z34 (z34a : (0 : Int) ≤ z34) (z34b : z34 ≤ (59 : Int)) (z34c : z34 = S25 4 (u).toNat 1)
        refine And.intro (by decide) ?_
        refine And.intro (by decide) (And.intro (show -2147483648 ≤ j + (-1 : Int) ∧ j + (-1 : Int) < 2147483648 by omega) ?_)
        exact ih.1 a b z34 (j + (-1 : Int)) S25 (fxfr_tr hf f26 rfl) (by omega) (by omega) (by omega) (by omega) (by omega) g33 (by omega)
    · intro b j S1 hf i0 i1 i2 i3 hmu
      refine fxz_234 400 ?_
      refine c_Node_blocks (i := (n).toNat)  (fun (z36 : Int) (q37 : 0 ≤ z36 ∧ z36 ≤ 32 ∧ S1 4 (n).toNat 4 ≤ 32 * z36 ∧ 32 * z36 < S1 4 (n).toNat 4 + 32) => ?_)
      refine And.intro (fun (h38 : (z36 ≤ j : Prop)) => ?_) (fun (h38 : (j < z36 : Prop)) => ?_)
      ·
        intro z39 (z39a : (0 : Int) ≤ z39) (z39b : z39 ≤ (1024 : Int)) (z39c : z39 = S1 4 (n).toNat 4)
        refine And.intro (show -2147483648 ≤ (b + z39) ∧ (b + z39) < 2147483648 by omega) ?_
        refine c_Writer_putCheck (f := b) (a := (b + z39)) (show 0 ≤ b ∧ b ≤ 1089 by omega) (show 0 ≤ (b + z39) ∧ (b + z39) + 4 ≤ 1089 by omega) (fun (z40 : Int) (S41 : fxS) ⟨(f42 : fxfr [(43, 9999)] S1 S41), (q43 : z40 = (b + z39) + 4)⟩ => ?_)
        have w44 : S41 40 0 0 = S1 40 0 0 := f42 40 0 0 rfl
        have w45 : S41 40 0 2 = S1 40 0 2 := f42 40 0 2 rfl
        have w46 : S41 40 0 13 = S1 40 0 13 := f42 40 0 13 rfl
        have w47 : S41 40 0 14 = S1 40 0 14 := f42 40 0 14 rfl
        have w48 : S41 4 (n).toNat 4 = S1 4 (n).toNat 4 := f42 4 (n).toNat 4 rfl
        have g49 : TreeL S41 := fx_pfr TreeL_stab f42 rfl i3
        refine And.intro (show (0 : Int) ≤ z40 ∧ z40 ≤ (1089 : Int) by omega) ?_
        have w50 : (fx_up S41 40 0 12 z40) 40 0 0 = S41 40 0 0 := if_neg (fun q => absurd q.2.2 (by decide))
        have w51 : (fx_up S41 40 0 12 z40) 40 0 2 = S41 40 0 2 := if_neg (fun q => absurd q.2.2 (by decide))
        have w52 : (fx_up S41 40 0 12 z40) 40 0 13 = S41 40 0 13 := if_neg (fun q => absurd q.2.2 (by decide))
        have w53 : (fx_up S41 40 0 12 z40) 40 0 14 = S41 40 0 14 := if_neg (fun q => absurd q.2.2 (by decide))
        have w54 : (fx_up S41 40 0 12 z40) 4 (n).toNat 4 = S41 4 (n).toNat 4 := rfl
        have g55 : TreeL (fx_up S41 40 0 12 z40) := fx_pup TreeL_stab rfl g49
        intro z56 (z56a : (-2147483648 : Int) ≤ z56) (z56b : z56 ≤ (2147483647 : Int)) (z56c : z56 = S41 4 (n).toNat 5)
        refine And.intro (show (-2147483648 : Int) ≤ z56 ∧ z56 ≤ (2147483647 : Int) by omega) ?_
        have w57 : (fx_up (fx_up S41 40 0 12 z40) 40 0 16 z56) 40 0 0 = (fx_up S41 40 0 12 z40) 40 0 0 := if_neg (fun q => absurd q.2.2 (by decide))
        have w58 : (fx_up (fx_up S41 40 0 12 z40) 40 0 16 z56) 40 0 2 = (fx_up S41 40 0 12 z40) 40 0 2 := if_neg (fun q => absurd q.2.2 (by decide))
        have w59 : (fx_up (fx_up S41 40 0 12 z40) 40 0 16 z56) 40 0 13 = (fx_up S41 40 0 12 z40) 40 0 13 := if_neg (fun q => absurd q.2.2 (by decide))
        have w60 : (fx_up (fx_up S41 40 0 12 z40) 40 0 16 z56) 40 0 14 = (fx_up S41 40 0 12 z40) 40 0 14 := if_neg (fun q => absurd q.2.2 (by decide))
        have w61 : (fx_up (fx_up S41 40 0 12 z40) 40 0 16 z56) 4 (n).toNat 4 = (fx_up S41 40 0 12 z40) 4 (n).toNat 4 := rfl
        have g62 : TreeL (fx_up (fx_up S41 40 0 12 z40) 40 0 16 z56) := fx_pup TreeL_stab rfl g55
        intro z63 (z63a : (-2147483648 : Int) ≤ z63) (z63b : z63 ≤ (2147483647 : Int)) (z63c : z63 = S41 4 (n).toNat 3)
        refine c_Writer_beginWriting (w := (2 : Int)) (n := n) (d := z63) (show 0 ≤ (2 : Int) ∧ (2 : Int) ≤ 2 by omega) (show -1 ≤ n ∧ n < 60 ∧ ((2 : Int) = 2 → 0 ≤ n) by omega) (show 0 ≤ S41 40 0 0 by omega) (show -2147483648 ≤ z63 ∧ z63 < 2147483648 by omega) (fun (S64 : fxS) ⟨(f65 : fxfr [(40, 2), (40, 3), (40, 4), (40, 13), (40, 14), (40, 15)] (fx_up (fx_up S41 40 0 12 z40) 40 0 16 z56) S64), (q66 : ((S64 40 0 2 = 4 ∨ S64 40 0 2 = 5) → 0 ≤ S64 40 0 0 ∧ (S64 40 0 13 = 2 → 0 ≤ S64 40 0 14)))⟩ => ?_)
        have w67 : S64 40 0 0 = (fx_up (fx_up S41 40 0 12 z40) 40 0 16 z56) 40 0 0 := f65 40 0 0 rfl
        have w68 : S64 4 (n).toNat 4 = (fx_up (fx_up S41 40 0 12 z40) 40 0 16 z56) 4 (n).toNat 4 := f65 4 (n).toNat 4 rfl
        have g69 : TreeL S64 := fx_pfr TreeL_stab f65 rfl g62
        exact hk S64 ⟨(fxfr_tr (fxfr_up (fxfr_up (fxfr_tr hf f42 rfl) rfl) rfl) f65 rfl), by omega⟩
      ·
        intro z70 (z70a : (0 : Int) ≤ z70) (z70b : z70 ≤ (1024 : Int)) (z70c : z70 = S1 4 (n).toNat 4)
        refine And.intro (show -2147483648 ≤ (j * (32 : Int)) ∧ (j * (32 : Int)) < 2147483648 by omega) ?_
        refine And.intro (show -2147483648 ≤ (z70 - (j * (32 : Int))) ∧ (z70 - (j * (32 : Int))) < 2147483648 by omega) ?_
        intro z71 (z71a : z71 ≤ (32 : Int)) (z71b : z71 ≤ (z70 - (j * (32 : Int)))) (z71c : z71 = (32 : Int) ∨ z71 = (z70 - (j * (32 : Int))))
        refine And.intro (by decide) ?_
        refine And.intro (show 0 ≤ j ∧ j < 32 by omega) ?_
        intro z72 (z72a : (-1 : Int) ≤ z72) (z72b : z72 ≤ (207 : Int)) (z72c : z72 = S1 7 (n).toNat (j).toNat)
        refine And.intro (show -2147483648 ≤ (j * (32 : Int)) ∧ (j * (32 : Int)) < 2147483648 by omega) ?_
        refine And.intro (show -2147483648 ≤ (b + (j * (32 : Int))) ∧ (b + (j * (32 : Int))) < 2147483648 by omega) ?_
        refine c_Stores_takeOut (b := z72) (a := (b + (j * (32 : Int)))) (n := z71) (show z71 ≤ 32 by omega) (show z71 ≤ 0 ∨ (0 ≤ (b + (j * (32 : Int))) ∧ (b + (j * (32 : Int))) + z71 ≤ 1089) by omega) (show -2147483648 ≤ z72 ∧ z72 < 2147483648 by omega) (fun (S73 : fxS) (f74 : fxfr [(43, 9999)] S1 S73) => ?_)
        have w75 : S73 40 0 0 = S1 40 0 0 := f74 40 0 0 rfl
        have w76 : S73 40 0 2 = S1 40 0 2 := f74 40 0 2 rfl
        have w77 : S73 40 0 13 = S1 40 0 13 := f74 40 0 13 rfl
        have w78 : S73 40 0 14 = S1 40 0 14 := f74 40 0 14 rfl
        have w79 : S73 4 (n).toNat 4 = S1 4 (n).toNat 4 := f74 4 (n).toNat 4 rfl
        have g80 : TreeL S73 := fx_pfr TreeL_stab f74 rfl i3
        refine And.intro (by decide) (And.intro (show -2147483648 ≤ j + (1 : Int) ∧ j + (1 : Int) < 2147483648 by omega) ?_)
        exact ih.2 b (j + (1 : Int)) S73 (fxfr_tr hf f74 rfl) (by omega) (by omega) (by omega) g80 (by omega)
theorem c_Writer_beginFile {l : Launch} {k : fxK} {S : fxS} {n : Int} (p0 : 0 ≤ n ∧ n < 60) (p1 : 0 ≤ S 40 0 0) (p2 : TreeL S) (hk : ∀ (S' : fxS) , (fxfr [(26, 2), (40, 2), (40, 3), (40, 4), (40, 12), (40, 13), (40, 14), (40, 15), (40, 16), (43, 9999)] S S' ∧ (((S' 40 0 2 = 4 ∨ S' 40 0 2 = 5) → 0 ≤ S' 40 0 0 ∧ (S' 40 0 13 = 2 → 0 ≤ S' 40 0 14)))) → k none S') : fC l 234 [.inr (.inr (40, 0)), .inl n] S k := by
  refine fxe_234 (Nat.le_of_ble_eq_true rfl) (fxz_234 400 ?_)
  refine And.intro (by decide) ?_
  refine And.intro (show 0 ≤ n ∧ n < 60 by omega) ?_
  refine And.intro (by decide) ?_
  refine c_Tree_depthOf (n := n) (show 0 ≤ n ∧ n < 60 by omega) (fun (z82 : Int) (q83 : 0 ≤ z82 ∧ z82 ≤ 60 ∧ z82 = (depF (fun m => S 4 m 1) 60 n : Int)) => ?_)
  have d5 : z82 ≤ 5 := by have d6 := WTS_dep (n := n) (TreeL_wt (by assumption)) (by omega); omega
  refine And.intro (by decide) ?_
  intro z84 (z84a : (-2147483648 : Int) ≤ z84) (z84b : z84 ≤ (2147483647 : Int)) (z84c : z84 = S 4 (n).toNat 3)
  intro z85 (z85a : (-2147483648 : Int) ≤ z85) (z85b : z85 ≤ (2147483647 : Int)) (z85c : z85 = S 4 (n).toNat 5)
  refine c_Writer_putHead (s := (1 : Int)) (d := z84) (v := z85) (e := z82) (show -2147483648 ≤ (1 : Int) ∧ (1 : Int) < 2147483648 by omega) (show -2147483648 ≤ z84 ∧ z84 < 2147483648 by omega) (show -2147483648 ≤ z85 ∧ z85 < 2147483648 by omega) (show -2147483648 ≤ z82 ∧ z82 < 2147483648 by omega) (fun (z86 : Int) (S87 : fxS) ⟨(f88 : fxfr [(26, 2), (43, 9999)] S S87), (q89 : z86 = 15)⟩ => ?_)
  have w90 : S87 40 0 0 = S 40 0 0 := f88 40 0 0 rfl
  have w91 : S87 40 0 2 = S 40 0 2 := f88 40 0 2 rfl
  have w92 : S87 40 0 13 = S 40 0 13 := f88 40 0 13 rfl
  have w93 : S87 40 0 14 = S 40 0 14 := f88 40 0 14 rfl
  have w94 : S87 4 (n).toNat 4 = S 4 (n).toNat 4 := f88 4 (n).toNat 4 rfl
  have g95 : TreeL S87 := fx_pfr TreeL_stab f88 rfl p2
  refine And.intro (by decide) ?_
  refine And.intro (show -2147483648 ≤ ((8 : Int) * z82) ∧ ((8 : Int) * z82) < 2147483648 by omega) ?_
  refine And.intro (show -2147483648 ≤ (z86 + ((8 : Int) * z82)) ∧ (z86 + ((8 : Int) * z82)) < 2147483648 by omega) ?_
  refine And.intro (by decide) ?_
  refine And.intro (by decide) ?_
  refine And.intro (show -2147483648 ≤ (z82 - (1 : Int)) ∧ (z82 - (1 : Int)) < 2147483648 by omega) ?_
  refine And.intro (by decide) ?_
  exact (z_Writer_beginFile p0 p1 p2 hk ((z82 - (1 : Int)) + 102).toNat).1 z86 (z86 + ((8 : Int) * z82)) n (z82 - (1 : Int)) S87 (fxfr_tr fxfr_rfl f88 rfl) (by omega) (by omega) (by omega) (by omega) (by omega) g95 (by omega)
theorem z_Writer_goForFile {l : Launch} {k : fxK} {S : fxS}  (p0 : ((S 40 0 2 = 4 ∨ S 40 0 2 = 5) → 0 ≤ S 40 0 0 ∧ (S 40 0 13 = 2 → 0 ≤ S 40 0 14))) (p1 : TreeL S) (hk : ∀ (S' : fxS) , (fxfr [(26, 2), (40, 0), (40, 1), (40, 2), (40, 3), (40, 4), (40, 12), (40, 13), (40, 14), (40, 15), (40, 16), (43, 9999)] S S' ∧ (((S' 40 0 2 = 4 ∨ S' 40 0 2 = 5) → 0 ≤ S' 40 0 0 ∧ (S' 40 0 13 = 2 → 0 ≤ S' 40 0 14)))) → k none S') : ∀ m : Nat, (∀ (j : Int) (S1 : fxS), (fxfr [(26, 2), (40, 0), (40, 1), (40, 2), (40, 3), (40, 4), (40, 12), (40, 13), (40, 14), (40, 15), (40, 16), (43, 9999)] S S1) → (0 ≤ j ∧ j ≤ 20) → (((S1 40 0 2 = 4 ∨ S1 40 0 2 = 5) → 0 ≤ S1 40 0 0 ∧ (S1 40 0 13 = 2 → 0 ≤ S1 40 0 14))) → (TreeL S1) → 21 - j ≤ (m : Int) → fZ l 235 k 2 [some (.inr (.inr (40, 0))), some (.inl j), none, none, none] [] S1) := by
  intro m
  induction m with
  | zero =>
    intro j S1 hf i0 i1 i2 hmu
    exfalso
    omega
  | succ m ih =>
    intro j S1 hf i0 i1 i2 hmu
    refine fxz_235 400 ?_
    intro z1 (z1a : (0 : Int) ≤ z1) (z1b : z1 ≤ (20 : Int)) (z1c : z1 = S1 40 0 10)
    refine And.intro (fun (h2 : (z1 ≤ j : Prop)) => ?_) (fun (h2 : (j < z1 : Prop)) => ?_)
    ·
      exact hk S1 ⟨hf, by omega⟩
    ·
      refine And.intro (show 0 ≤ j ∧ j < 20 by omega) ?_
      intro z3 (z3a : (0 : Int) ≤ z3) (z3b : z3 ≤ (59 : Int)) (z3c : z3 = S1 41 0 (j).toNat)
      refine And.intro (by decide) ?_
      refine c_Tree_depthOf (n := z3) (show 0 ≤ z3 ∧ z3 < 60 by omega) (fun (z4 : Int) (q5 : 0 ≤ z4 ∧ z4 ≤ 60 ∧ z4 = (depF (fun m => S1 4 m 1) 60 z3 : Int)) => ?_)
      refine And.intro (show -2147483648 ≤ ((8 : Int) * z4) ∧ ((8 : Int) * z4) < 2147483648 by omega) ?_
      refine And.intro (show -2147483648 ≤ ((25 : Int) + ((8 : Int) * z4)) ∧ ((25 : Int) + ((8 : Int) * z4)) < 2147483648 by omega) ?_
      refine And.intro (show 0 ≤ z3 ∧ z3 < 60 by omega) ?_
      intro z6 (z6a : (0 : Int) ≤ z6) (z6b : z6 ≤ (1024 : Int)) (z6c : z6 = S1 4 (z3).toNat 4)
      refine And.intro (show -2147483648 ≤ (((25 : Int) + ((8 : Int) * z4)) + z6) ∧ (((25 : Int) + ((8 : Int) * z4)) + z6) < 2147483648 by omega) ?_
      refine And.intro (by decide) ?_
      refine c_Writer_targetFor (e := (((25 : Int) + ((8 : Int) * z4)) + z6)) (n := z3) (show 0 ≤ (((25 : Int) + ((8 : Int) * z4)) + z6) ∧ (((25 : Int) + ((8 : Int) * z4)) + z6) ≤ 3000 by omega) (show -1 ≤ z3 ∧ z3 < 60 by omega) (fun (z7 : Int) (q8 : -1 ≤ z7 ∧ z7 ≤ 5) => ?_)
      refine And.intro (by decide) ?_
      refine And.intro (fun (h9 : (z7 < (0 : Int) : Prop)) => ?_) (fun (h9 : ((0 : Int) ≤ z7 : Prop)) => ?_)
      ·
        refine And.intro (by decide) (And.intro (show -2147483648 ≤ j + (1 : Int) ∧ j + (1 : Int) < 2147483648 by omega) ?_)
        exact ih (j + (1 : Int)) S1 hf (by omega) (by omega) i2 (by omega)
      ·
        refine c_Writer_isAtEndOf (t := z7) (show 0 ≤ z7 ∧ z7 ≤ 5 by omega) (show ((S1 40 0 2 = 4 ∨ S1 40 0 2 = 5) → 0 ≤ S1 40 0 0 ∧ (S1 40 0 13 = 2 → 0 ≤ S1 40 0 14)) by omega) (fun (z11 : Int) (S12 : fxS) ⟨(f13 : fxfr [(40, 0), (40, 1), (40, 2), (40, 3), (40, 4)] S1 S12), (q14 : 0 ≤ z11 ∧ z11 ≤ 1 ∧ (z11 = 1 → S12 40 0 0 = z7) ∧ ((S12 40 0 2 = 4 ∨ S12 40 0 2 = 5) → 0 ≤ S12 40 0 0 ∧ (S12 40 0 13 = 2 → 0 ≤ S12 40 0 14)))⟩ => ?_)
        have w15 : S12 40 0 13 = S1 40 0 13 := f13 40 0 13 rfl
        have w16 : S12 40 0 14 = S1 40 0 14 := f13 40 0 14 rfl
        have g17 : TreeL S12 := fx_pfr TreeL_stab f13 rfl i2
        refine And.intro (fun (h18 : (z11 = (0 : Int) : Prop)) => ?_) (fun (h18 : (z11 ≠ (0 : Int) : Prop)) => ?_)
        ·
          exact hk S12 ⟨(fxfr_tr hf f13 rfl), by omega⟩
        ·
          refine c_Writer_beginFile (n := z3) (show 0 ≤ z3 ∧ z3 < 60 by omega) (show 0 ≤ S12 40 0 0 by omega) g17 (fun (S19 : fxS) ⟨(f20 : fxfr [(26, 2), (40, 2), (40, 3), (40, 4), (40, 12), (40, 13), (40, 14), (40, 15), (40, 16), (43, 9999)] S12 S19), (q21 : ((S19 40 0 2 = 4 ∨ S19 40 0 2 = 5) → 0 ≤ S19 40 0 0 ∧ (S19 40 0 13 = 2 → 0 ≤ S19 40 0 14)))⟩ => ?_)
          have w22 : S19 40 0 0 = S12 40 0 0 := f20 40 0 0 rfl
          have g23 : TreeL S19 := fx_pfr TreeL_stab f20 rfl g17
          exact hk S19 ⟨(fxfr_tr (fxfr_tr hf f13 rfl) f20 rfl), by omega⟩
theorem c_Writer_goForFile {l : Launch} {k : fxK} {S : fxS}  (p0 : ((S 40 0 2 = 4 ∨ S 40 0 2 = 5) → 0 ≤ S 40 0 0 ∧ (S 40 0 13 = 2 → 0 ≤ S 40 0 14))) (p1 : TreeL S) (hk : ∀ (S' : fxS) , (fxfr [(26, 2), (40, 0), (40, 1), (40, 2), (40, 3), (40, 4), (40, 12), (40, 13), (40, 14), (40, 15), (40, 16), (43, 9999)] S S' ∧ (((S' 40 0 2 = 4 ∨ S' 40 0 2 = 5) → 0 ≤ S' 40 0 0 ∧ (S' 40 0 13 = 2 → 0 ≤ S' 40 0 14)))) → k none S') : fC l 235 [.inr (.inr (40, 0))] S k := by
  refine fxe_235 (Nat.le_of_ble_eq_true rfl) (fxz_235 400 ?_)
  refine And.intro (by decide) ?_
  exact (z_Writer_goForFile p0 p1 hk (21 - (0 : Int)).toNat) (0 : Int) S fxfr_rfl (by omega) (by omega) p1 (by omega)
theorem c_Writer_choose {l : Launch} {k : fxK} {S : fxS}  (p0 : ((S 40 0 2 = 4 ∨ S 40 0 2 = 5) → 0 ≤ S 40 0 0 ∧ (S 40 0 13 = 2 → 0 ≤ S 40 0 14))) (p1 : TreeL S) (hk : ∀ (S' : fxS) , (fxfr [(26, 2), (40, 0), (40, 1), (40, 2), (40, 3), (40, 4), (40, 10), (40, 12), (40, 13), (40, 14), (40, 15), (40, 16), (41, 9999), (42, 9999), (43, 9999)] S S' ∧ (((S' 40 0 2 = 4 ∨ S' 40 0 2 = 5) → 0 ≤ S' 40 0 0 ∧ (S' 40 0 13 = 2 → 0 ≤ S' 40 0 14)))) → k none S') : fC l 236 [.inr (.inr (40, 0))] S k := by
  refine fxe_236 (Nat.le_of_ble_eq_true rfl) (fxz_236 400 ?_)
  refine c_Writer_dropFinished   (fun (S1 : fxS) (f2 : fxfr [(40, 10), (41, 9999), (42, 9999)] S S1) => ?_)
  have w3 : S1 40 0 0 = S 40 0 0 := f2 40 0 0 rfl
  have w4 : S1 40 0 2 = S 40 0 2 := f2 40 0 2 rfl
  have w5 : S1 40 0 13 = S 40 0 13 := f2 40 0 13 rfl
  have w6 : S1 40 0 14 = S 40 0 14 := f2 40 0 14 rfl
  have g7 : TreeL S1 := fx_pfr TreeL_stab f2 rfl p1
  intro z8 (z8a : (-1 : Int) ≤ z8) (z8b : z8 ≤ (5 : Int)) (z8c : z8 = S1 40 0 0)
  refine And.intro (fun (h9 : (z8 < (0 : Int) : Prop)) => ?_) (fun (h9 : ((0 : Int) ≤ z8 : Prop)) => ?_)
  ·
    refine c_Writer_goForDelete  (show ((S1 40 0 2 = 4 ∨ S1 40 0 2 = 5) → 0 ≤ S1 40 0 0 ∧ (S1 40 0 13 = 2 → 0 ≤ S1 40 0 14)) by omega) (fun (z10 : Int) (S11 : fxS) ⟨(f12 : fxfr [(26, 2), (40, 0), (40, 1), (40, 2), (40, 3), (40, 4), (40, 12), (40, 13), (40, 14), (40, 15), (43, 9999)] S1 S11), (q13 : 0 ≤ z10 ∧ z10 ≤ 1 ∧ ((S11 40 0 2 = 4 ∨ S11 40 0 2 = 5) → 0 ≤ S11 40 0 0 ∧ (S11 40 0 13 = 2 → 0 ≤ S11 40 0 14)))⟩ => ?_)
    have g14 : TreeL S11 := fx_pfr TreeL_stab f12 rfl g7
    refine And.intro (fun (h15 : (z10 ≠ (0 : Int) : Prop)) => ?_) (fun (h15 : (z10 = (0 : Int) : Prop)) => ?_)
    ·
      exact hk S11 ⟨(fxfr_tr (fxfr_tr fxfr_rfl f2 rfl) f12 rfl), by omega⟩
    ·
      refine c_Writer_goForParcel  (show ((S11 40 0 2 = 4 ∨ S11 40 0 2 = 5) → 0 ≤ S11 40 0 0 ∧ (S11 40 0 13 = 2 → 0 ≤ S11 40 0 14)) by omega) (fun (z16 : Int) (S17 : fxS) ⟨(f18 : fxfr [(40, 0), (40, 1), (40, 2), (40, 3), (40, 4), (40, 12), (40, 13), (40, 14), (40, 15), (43, 9999)] S11 S17), (q19 : 0 ≤ z16 ∧ z16 ≤ 1 ∧ ((S17 40 0 2 = 4 ∨ S17 40 0 2 = 5) → 0 ≤ S17 40 0 0 ∧ (S17 40 0 13 = 2 → 0 ≤ S17 40 0 14)))⟩ => ?_)
      have g20 : TreeL S17 := fx_pfr TreeL_stab f18 rfl g14
      refine And.intro (fun (h21 : (z16 = (0 : Int) : Prop)) => ?_) (fun (h21 : (z16 ≠ (0 : Int) : Prop)) => ?_)
      ·
        refine c_Writer_goForFile  (show ((S17 40 0 2 = 4 ∨ S17 40 0 2 = 5) → 0 ≤ S17 40 0 0 ∧ (S17 40 0 13 = 2 → 0 ≤ S17 40 0 14)) by omega) g20 (fun (S22 : fxS) ⟨(f23 : fxfr [(26, 2), (40, 0), (40, 1), (40, 2), (40, 3), (40, 4), (40, 12), (40, 13), (40, 14), (40, 15), (40, 16), (43, 9999)] S17 S22), (q24 : ((S22 40 0 2 = 4 ∨ S22 40 0 2 = 5) → 0 ≤ S22 40 0 0 ∧ (S22 40 0 13 = 2 → 0 ≤ S22 40 0 14)))⟩ => ?_)
        have g25 : TreeL S22 := fx_pfr TreeL_stab f23 rfl g20
        exact hk S22 ⟨(fxfr_tr (fxfr_tr (fxfr_tr (fxfr_tr fxfr_rfl f2 rfl) f12 rfl) f18 rfl) f23 rfl), by omega⟩
      ·
        exact hk S17 ⟨(fxfr_tr (fxfr_tr (fxfr_tr fxfr_rfl f2 rfl) f12 rfl) f18 rfl), by omega⟩
  ·
    intro z26 (z26a : (-1 : Int) ≤ z26) (z26b : z26 ≤ (5 : Int)) (z26c : z26 = S1 38 0 7)
    intro z27 (z27a : (-1 : Int) ≤ z27) (z27b : z27 ≤ (5 : Int)) (z27c : z27 = S1 40 0 0)
    refine And.intro (fun (h28 : (z26 ≠ z27 : Prop)) => ?_) (fun (h28 : (z26 = z27 : Prop)) => ?_)
    ·
      refine c_Writer_goForDelete  (show ((S1 40 0 2 = 4 ∨ S1 40 0 2 = 5) → 0 ≤ S1 40 0 0 ∧ (S1 40 0 13 = 2 → 0 ≤ S1 40 0 14)) by omega) (fun (z29 : Int) (S30 : fxS) ⟨(f31 : fxfr [(26, 2), (40, 0), (40, 1), (40, 2), (40, 3), (40, 4), (40, 12), (40, 13), (40, 14), (40, 15), (43, 9999)] S1 S30), (q32 : 0 ≤ z29 ∧ z29 ≤ 1 ∧ ((S30 40 0 2 = 4 ∨ S30 40 0 2 = 5) → 0 ≤ S30 40 0 0 ∧ (S30 40 0 13 = 2 → 0 ≤ S30 40 0 14)))⟩ => ?_)
      have g33 : TreeL S30 := fx_pfr TreeL_stab f31 rfl g7
      refine And.intro (fun (h34 : (z29 ≠ (0 : Int) : Prop)) => ?_) (fun (h34 : (z29 = (0 : Int) : Prop)) => ?_)
      ·
        exact hk S30 ⟨(fxfr_tr (fxfr_tr fxfr_rfl f2 rfl) f31 rfl), by omega⟩
      ·
        refine c_Writer_goForParcel  (show ((S30 40 0 2 = 4 ∨ S30 40 0 2 = 5) → 0 ≤ S30 40 0 0 ∧ (S30 40 0 13 = 2 → 0 ≤ S30 40 0 14)) by omega) (fun (z35 : Int) (S36 : fxS) ⟨(f37 : fxfr [(40, 0), (40, 1), (40, 2), (40, 3), (40, 4), (40, 12), (40, 13), (40, 14), (40, 15), (43, 9999)] S30 S36), (q38 : 0 ≤ z35 ∧ z35 ≤ 1 ∧ ((S36 40 0 2 = 4 ∨ S36 40 0 2 = 5) → 0 ≤ S36 40 0 0 ∧ (S36 40 0 13 = 2 → 0 ≤ S36 40 0 14)))⟩ => ?_)
        have g39 : TreeL S36 := fx_pfr TreeL_stab f37 rfl g33
        refine And.intro (fun (h40 : (z35 = (0 : Int) : Prop)) => ?_) (fun (h40 : (z35 ≠ (0 : Int) : Prop)) => ?_)
        ·
          refine c_Writer_goForFile  (show ((S36 40 0 2 = 4 ∨ S36 40 0 2 = 5) → 0 ≤ S36 40 0 0 ∧ (S36 40 0 13 = 2 → 0 ≤ S36 40 0 14)) by omega) g39 (fun (S41 : fxS) ⟨(f42 : fxfr [(26, 2), (40, 0), (40, 1), (40, 2), (40, 3), (40, 4), (40, 12), (40, 13), (40, 14), (40, 15), (40, 16), (43, 9999)] S36 S41), (q43 : ((S41 40 0 2 = 4 ∨ S41 40 0 2 = 5) → 0 ≤ S41 40 0 0 ∧ (S41 40 0 13 = 2 → 0 ≤ S41 40 0 14)))⟩ => ?_)
          have g44 : TreeL S41 := fx_pfr TreeL_stab f42 rfl g39
          exact hk S41 ⟨(fxfr_tr (fxfr_tr (fxfr_tr (fxfr_tr fxfr_rfl f2 rfl) f31 rfl) f37 rfl) f42 rfl), by omega⟩
        ·
          exact hk S36 ⟨(fxfr_tr (fxfr_tr (fxfr_tr fxfr_rfl f2 rfl) f31 rfl) f37 rfl), by omega⟩
    ·
      refine c_beginUnmounting40   (fun (S45 : fxS) ⟨(f46 : fxfr [(40, 2), (40, 3), (40, 4)] S1 S45), (q47 : S45 40 0 2 = 2)⟩ => ?_)
      have w48 : S45 40 0 0 = S1 40 0 0 := f46 40 0 0 rfl
      have w49 : S45 40 0 13 = S1 40 0 13 := f46 40 0 13 rfl
      have w50 : S45 40 0 14 = S1 40 0 14 := f46 40 0 14 rfl
      have g51 : TreeL S45 := fx_pfr TreeL_stab f46 rfl g7
      exact hk S45 ⟨(fxfr_tr (fxfr_tr fxfr_rfl f2 rfl) f46 rfl), by omega⟩
theorem z_StubHouse_step {l : Launch} {k : fxK} {S : fxS} {n : Int} (p0 : ((S 40 0 2 = 4 ∨ S 40 0 2 = 5) → 0 ≤ S 40 0 0 ∧ (S 40 0 13 = 2 → 0 ≤ S 40 0 14))) (p1 : SegA S) (p2 : TreeL S) (p3 : LCt S) (p4 : -2147483648 ≤ n ∧ n < 2147483648) (hk : ∀ (r : Int) (S' : fxS) , (fxfr [(2, 1), (4, 6), (4, 7), (4, 11), (4, 12), (5, 9999), (6, 9999), (7, 9999), (8, 4), (9, 9999), (10, 9999), (11, 9999), (12, 9999), (13, 6), (13, 7), (13, 10), (15, 9999), (16, 9999), (17, 9999), (18, 9999), (19, 9999), (20, 0), (20, 1), (20, 3), (20, 4), (20, 5), (20, 6), (20, 7), (20, 11), (20, 12), (21, 9999), (22, 9999), (23, 9999), (24, 4), (25, 9999), (26, 2), (26, 3), (32, 1), (32, 2), (32, 3), (32, 4), (32, 5), (33, 9999), (34, 9999), (35, 9999), (36, 9999), (37, 9999), (38, 0), (38, 1), (38, 2), (38, 3), (38, 4), (38, 7), (38, 8), (38, 9), (38, 10), (38, 11), (38, 12), (38, 13), (38, 15), (38, 16), (39, 9999), (40, 0), (40, 1), (40, 2), (40, 3), (40, 4), (40, 10), (40, 12), (40, 13), (40, 14), (40, 15), (40, 16), (41, 9999), (42, 9999), (43, 9999), (44, 6), (44, 7), (44, 10), (47, 9999), (48, 9999)] S S' ∧ (-2147483648 ≤ r ∧ r < 2147483648 ∧ (((S' 40 0 2 = 4 ∨ S' 40 0 2 = 5) → 0 ≤ S' 40 0 0 ∧ (S' 40 0 13 = 2 → 0 ≤ S' 40 0 14)))) ∧ (SegA S') ∧ (TreeL S') ∧ (LCt S')) → k (some (.inl r)) S') : ∀ m : Nat, (∀ (j : Int) (S1 : fxS), (fxfr [(2, 1), (4, 6), (4, 7), (4, 11), (4, 12), (5, 9999), (6, 9999), (7, 9999), (8, 4), (9, 9999), (10, 9999), (11, 9999), (12, 9999), (13, 6), (13, 7), (13, 10), (15, 9999), (16, 9999), (17, 9999), (18, 9999), (19, 9999), (20, 0), (20, 1), (20, 3), (20, 4), (20, 5), (20, 6), (20, 7), (20, 11), (20, 12), (21, 9999), (22, 9999), (23, 9999), (24, 4), (25, 9999), (26, 2), (26, 3), (32, 1), (32, 2), (32, 3), (32, 4), (32, 5), (33, 9999), (34, 9999), (35, 9999), (36, 9999), (37, 9999), (38, 0), (38, 1), (38, 2), (38, 3), (38, 4), (38, 7), (38, 8), (38, 9), (38, 10), (38, 11), (38, 12), (38, 13), (38, 15), (38, 16), (39, 9999), (40, 0), (40, 1), (40, 2), (40, 3), (40, 4), (40, 10), (40, 12), (40, 13), (40, 14), (40, 15), (40, 16), (41, 9999), (42, 9999), (43, 9999), (44, 6), (44, 7), (44, 10), (47, 9999), (48, 9999)] S S1) → (1 ≤ n ∧ n ≤ 500) → (0 ≤ j ∧ j ≤ n) → (((S1 40 0 2 = 4 ∨ S1 40 0 2 = 5) → 0 ≤ S1 40 0 0 ∧ (S1 40 0 13 = 2 → 0 ≤ S1 40 0 14))) → (SegA S1) → (TreeL S1) → (LCt S1) → n + 1 - j ≤ (m : Int) → fZ l 254 k 16 [some (.inr (.inr (0, 0))), some (.inl n), some (.inl j)] [] S1) := by
  intro m
  induction m with
  | zero =>
    intro j S1 hf i0 i1 i2 i3 i4 i5 hmu
    exfalso
    omega
  | succ m ih =>
    intro j S1 hf i0 i1 i2 i3 i4 i5 hmu
    refine fxz_254 400 ?_
    refine And.intro (fun (h1 : (n ≤ j : Prop)) => ?_) (fun (h1 : (j < n : Prop)) => ?_)
    ·
      exact hk (0 : Int) S1 ⟨hf, by omega, i3, i4, i5⟩
    ·
      intro z2 (z2a : (-2147483648 : Int) ≤ z2) (z2b : z2 ≤ (2147483647 : Int)) (z2c : z2 = S1 2 0 1)
      intro z3 (z3a : -2147483648 ≤ z3) (z3b : z3 < 2147483648) (z3c : -2147483648 ≤ (z2 + (1 : Int)) ∧ (z2 + (1 : Int)) < 2147483648 → z3 = (z2 + (1 : Int)))
      refine And.intro (show (-2147483648 : Int) ≤ z3 ∧ z3 ≤ (2147483647 : Int) by omega) ?_
      have w4 : (fx_up S1 2 0 1 z3) 40 0 0 = S1 40 0 0 := rfl
      have w5 : (fx_up S1 2 0 1 z3) 40 0 2 = S1 40 0 2 := rfl
      have w6 : (fx_up S1 2 0 1 z3) 40 0 13 = S1 40 0 13 := rfl
      have w7 : (fx_up S1 2 0 1 z3) 40 0 14 = S1 40 0 14 := rfl
      have w8 : (fx_up S1 2 0 1 z3) 0 0 10 = S1 0 0 10 := rfl
      have g9 : SegA (fx_up S1 2 0 1 z3) := fx_pup SegA_stab rfl i3
      have g10 : TreeL (fx_up S1 2 0 1 z3) := fx_pup TreeL_stab rfl i4
      have g11 : LCt (fx_up S1 2 0 1 z3) := fx_pup LCt_stab rfl i5
      intro z12 (z12a : (0 : Int) ≤ z12) (z12b : z12 ≤ (1 : Int)) (z12c : z12 = S1 0 0 10)
      refine And.intro (fun (h13 : (z12 = (0 : Int) : Prop)) => ?_) (fun (h13 : (z12 ≠ (0 : Int) : Prop)) => ?_)
      ·
        refine c_Library_scanAll  g9 (fun (S14 : fxS) ⟨(f15 : fxfr [(32, 3), (32, 4), (32, 5), (34, 9999), (35, 9999), (36, 9999), (37, 9999)] (fx_up S1 2 0 1 z3) S14), (g16 : SegA S14)⟩ => ?_)
        have w17 : S14 40 0 0 = (fx_up S1 2 0 1 z3) 40 0 0 := f15 40 0 0 rfl
        have w18 : S14 40 0 2 = (fx_up S1 2 0 1 z3) 40 0 2 := f15 40 0 2 rfl
        have w19 : S14 40 0 13 = (fx_up S1 2 0 1 z3) 40 0 13 := f15 40 0 13 rfl
        have w20 : S14 40 0 14 = (fx_up S1 2 0 1 z3) 40 0 14 := f15 40 0 14 rfl
        have w21 : S14 0 0 10 = (fx_up S1 2 0 1 z3) 0 0 10 := f15 0 0 10 rfl
        have g22 : TreeL S14 := fx_pfr TreeL_stab f15 rfl g10
        have g23 : LCt S14 := fx_pfr LCt_stab f15 rfl g11
        refine And.intro (show (-1 : Int) ≤ (-1 : Int) ∧ (-1 : Int) ≤ (5 : Int) by omega) ?_
        have w24 : (fx_up S14 38 0 7 (-1 : Int)) 40 0 0 = S14 40 0 0 := rfl
        have w25 : (fx_up S14 38 0 7 (-1 : Int)) 40 0 2 = S14 40 0 2 := rfl
        have w26 : (fx_up S14 38 0 7 (-1 : Int)) 40 0 13 = S14 40 0 13 := rfl
        have w27 : (fx_up S14 38 0 7 (-1 : Int)) 40 0 14 = S14 40 0 14 := rfl
        have w28 : (fx_up S14 38 0 7 (-1 : Int)) 0 0 10 = S14 0 0 10 := rfl
        have g29 : SegA (fx_up S14 38 0 7 (-1 : Int)) := fx_pup SegA_stab rfl g16
        have g30 : TreeL (fx_up S14 38 0 7 (-1 : Int)) := fx_pup TreeL_stab rfl g22
        have g31 : LCt (fx_up S14 38 0 7 (-1 : Int)) := fx_pup LCt_stab rfl g23
        intro z32 (z32a : (0 : Int) ≤ z32) (z32b : z32 ≤ (5 : Int)) (z32c : z32 = S14 38 0 2)
        refine And.intro (fun (h33 : (z32 ≠ (0 : Int) : Prop)) => ?_) (fun (h33 : (z32 = (0 : Int) : Prop)) => ?_)
        ·
          refine c_spend38   (fun z34 S35 ⟨f36, q37⟩ => ?_)
          replace f36 : fxfr [(38, 0), (38, 1), (38, 2), (38, 3)] (fx_up S14 38 0 7 (-1 : Int)) S35 := f36
          replace q37 : z34 = 0 ∨ z34 = 1 := q37
          have w38 : S35 40 0 0 = (fx_up S14 38 0 7 (-1 : Int)) 40 0 0 := f36 40 0 0 rfl
          have w39 : S35 40 0 2 = (fx_up S14 38 0 7 (-1 : Int)) 40 0 2 := f36 40 0 2 rfl
          have w40 : S35 40 0 13 = (fx_up S14 38 0 7 (-1 : Int)) 40 0 13 := f36 40 0 13 rfl
          have w41 : S35 40 0 14 = (fx_up S14 38 0 7 (-1 : Int)) 40 0 14 := f36 40 0 14 rfl
          have w42 : S35 0 0 10 = (fx_up S14 38 0 7 (-1 : Int)) 0 0 10 := f36 0 0 10 rfl
          have g43 : SegA S35 := fx_pfr SegA_stab f36 rfl g29
          have g44 : TreeL S35 := fx_pfr TreeL_stab f36 rfl g30
          have g45 : LCt S35 := fx_pfr LCt_stab f36 rfl g31
          refine And.intro (fun (h46 : (z34 = (0 : Int) : Prop)) => ?_) (fun (h46 : (z34 ≠ (0 : Int) : Prop)) => ?_)
          ·
            intro z47 (z47a : (0 : Int) ≤ z47) (z47b : z47 ≤ (5 : Int)) (z47c : z47 = S35 40 0 2)
            refine And.intro (fun (h48 : (z47 ≠ (0 : Int) : Prop)) => ?_) (fun (h48 : (z47 = (0 : Int) : Prop)) => ?_)
            ·
              refine c_spend40  (show ((S35 40 0 2 = 4 ∨ S35 40 0 2 = 5) → 0 ≤ S35 40 0 0 ∧ (S35 40 0 13 = 2 → 0 ≤ S35 40 0 14)) by omega) (fun (z49 : Int) (S50 : fxS) ⟨(f51 : fxfr [(40, 0), (40, 1), (40, 2), (40, 3)] S35 S50), (q52 : 0 ≤ z49 ∧ z49 ≤ 1 ∧ ((S50 40 0 2 = 4 ∨ S50 40 0 2 = 5) → 0 ≤ S50 40 0 0 ∧ (S50 40 0 13 = 2 → 0 ≤ S50 40 0 14)) ∧ (z49 = 1 → 0 ≤ S50 40 0 0 ∧ (S50 40 0 13 = 2 → 0 ≤ S50 40 0 14)))⟩ => ?_)
              have w53 : S50 40 0 13 = S35 40 0 13 := f51 40 0 13 rfl
              have w54 : S50 40 0 14 = S35 40 0 14 := f51 40 0 14 rfl
              have w55 : S50 0 0 10 = S35 0 0 10 := f51 0 0 10 rfl
              have g56 : SegA S50 := fx_pfr SegA_stab f51 rfl g43
              have g57 : TreeL S50 := fx_pfr TreeL_stab f51 rfl g44
              have g58 : LCt S50 := fx_pfr LCt_stab f51 rfl g45
              refine And.intro (fun (h59 : (z49 = (0 : Int) : Prop)) => ?_) (fun (h59 : (z49 ≠ (0 : Int) : Prop)) => ?_)
              ·
                refine c_Migrator_work  g57 (fun (S60 : fxS) ⟨(f61 : fxfr [(4, 11), (4, 12), (7, 9999), (8, 4), (9, 9999), (10, 9999), (11, 9999), (12, 9999), (13, 6), (13, 7), (13, 10), (15, 9999), (16, 9999), (17, 9999), (18, 9999), (19, 9999), (20, 0), (20, 1), (20, 3), (20, 4), (20, 5), (20, 6), (20, 7), (20, 11), (20, 12), (21, 9999), (22, 9999), (23, 9999), (40, 10), (41, 9999), (42, 9999), (44, 6), (44, 7), (44, 10), (47, 9999), (48, 9999)] S50 S60), (g62 : TreeL S60)⟩ => ?_)
                have w63 : S60 40 0 0 = S50 40 0 0 := f61 40 0 0 rfl
                have w64 : S60 40 0 2 = S50 40 0 2 := f61 40 0 2 rfl
                have w65 : S60 40 0 13 = S50 40 0 13 := f61 40 0 13 rfl
                have w66 : S60 40 0 14 = S50 40 0 14 := f61 40 0 14 rfl
                have w67 : S60 0 0 10 = S50 0 0 10 := f61 0 0 10 rfl
                have g68 : SegA S60 := fx_pfr SegA_stab f61 rfl g56
                have lc : LCt S60 := LCt_of (by omega)
                refine And.intro (by decide) (And.intro (show -2147483648 ≤ j + (1 : Int) ∧ j + (1 : Int) < 2147483648 by omega) ?_)
                exact ih (j + (1 : Int)) S60 (fxfr_tr (fxfr_tr (fxfr_tr (fxfr_up (fxfr_tr (fxfr_up hf rfl) f15 rfl) rfl) f36 rfl) f51 rfl) f61 rfl) (by omega) (by omega) (by omega) g68 g62 lc (by omega)
              ·
                refine c_Writer_finish  g56 (show 0 ≤ S50 40 0 0 by omega) (show S50 40 0 13 = 2 → 0 ≤ S50 40 0 14 by omega) g57 (fun (S70 : fxS) ⟨(f71 : fxfr [(4, 7), (5, 9999), (6, 9999), (8, 4), (10, 9999), (11, 9999), (13, 6), (13, 7), (13, 10), (15, 9999), (16, 9999), (17, 9999), (18, 9999), (19, 9999), (20, 0), (20, 1), (20, 3), (20, 4), (20, 5), (20, 6), (20, 7), (20, 11), (20, 12), (21, 9999), (22, 9999), (23, 9999), (26, 3), (32, 1), (32, 3), (32, 4), (32, 5), (33, 9999), (38, 15)] S50 S70), (g72 : SegA S70), (g73 : TreeL S70)⟩ => ?_)
                have w74 : S70 40 0 0 = S50 40 0 0 := f71 40 0 0 rfl
                have w75 : S70 40 0 2 = S50 40 0 2 := f71 40 0 2 rfl
                have w76 : S70 40 0 13 = S50 40 0 13 := f71 40 0 13 rfl
                have w77 : S70 40 0 14 = S50 40 0 14 := f71 40 0 14 rfl
                have w78 : S70 0 0 10 = S50 0 0 10 := f71 0 0 10 rfl
                refine c_Migrator_work  g73 (fun (S79 : fxS) ⟨(f80 : fxfr [(4, 11), (4, 12), (7, 9999), (8, 4), (9, 9999), (10, 9999), (11, 9999), (12, 9999), (13, 6), (13, 7), (13, 10), (15, 9999), (16, 9999), (17, 9999), (18, 9999), (19, 9999), (20, 0), (20, 1), (20, 3), (20, 4), (20, 5), (20, 6), (20, 7), (20, 11), (20, 12), (21, 9999), (22, 9999), (23, 9999), (40, 10), (41, 9999), (42, 9999), (44, 6), (44, 7), (44, 10), (47, 9999), (48, 9999)] S70 S79), (g81 : TreeL S79)⟩ => ?_)
                have w82 : S79 40 0 0 = S70 40 0 0 := f80 40 0 0 rfl
                have w83 : S79 40 0 2 = S70 40 0 2 := f80 40 0 2 rfl
                have w84 : S79 40 0 13 = S70 40 0 13 := f80 40 0 13 rfl
                have w85 : S79 40 0 14 = S70 40 0 14 := f80 40 0 14 rfl
                have w86 : S79 0 0 10 = S70 0 0 10 := f80 0 0 10 rfl
                have g87 : SegA S79 := fx_pfr SegA_stab f80 rfl g72
                have lc : LCt S79 := LCt_of (by omega)
                refine And.intro (by decide) (And.intro (show -2147483648 ≤ j + (1 : Int) ∧ j + (1 : Int) < 2147483648 by omega) ?_)
                exact ih (j + (1 : Int)) S79 (fxfr_tr (fxfr_tr (fxfr_tr (fxfr_tr (fxfr_up (fxfr_tr (fxfr_up hf rfl) f15 rfl) rfl) f36 rfl) f51 rfl) f71 rfl) f80 rfl) (by omega) (by omega) (by omega) g87 g81 lc (by omega)
            ·
              refine c_Writer_choose  (show ((S35 40 0 2 = 4 ∨ S35 40 0 2 = 5) → 0 ≤ S35 40 0 0 ∧ (S35 40 0 13 = 2 → 0 ≤ S35 40 0 14)) by omega) g44 (fun (S89 : fxS) ⟨(f90 : fxfr [(26, 2), (40, 0), (40, 1), (40, 2), (40, 3), (40, 4), (40, 10), (40, 12), (40, 13), (40, 14), (40, 15), (40, 16), (41, 9999), (42, 9999), (43, 9999)] S35 S89), (q91 : ((S89 40 0 2 = 4 ∨ S89 40 0 2 = 5) → 0 ≤ S89 40 0 0 ∧ (S89 40 0 13 = 2 → 0 ≤ S89 40 0 14)))⟩ => ?_)
              have w92 : S89 0 0 10 = S35 0 0 10 := f90 0 0 10 rfl
              have g93 : SegA S89 := fx_pfr SegA_stab f90 rfl g43
              have g94 : TreeL S89 := fx_pfr TreeL_stab f90 rfl g44
              have g95 : LCt S89 := fx_pfr LCt_stab f90 rfl g45
              refine c_spend40  (show ((S89 40 0 2 = 4 ∨ S89 40 0 2 = 5) → 0 ≤ S89 40 0 0 ∧ (S89 40 0 13 = 2 → 0 ≤ S89 40 0 14)) by omega) (fun (z96 : Int) (S97 : fxS) ⟨(f98 : fxfr [(40, 0), (40, 1), (40, 2), (40, 3)] S89 S97), (q99 : 0 ≤ z96 ∧ z96 ≤ 1 ∧ ((S97 40 0 2 = 4 ∨ S97 40 0 2 = 5) → 0 ≤ S97 40 0 0 ∧ (S97 40 0 13 = 2 → 0 ≤ S97 40 0 14)) ∧ (z96 = 1 → 0 ≤ S97 40 0 0 ∧ (S97 40 0 13 = 2 → 0 ≤ S97 40 0 14)))⟩ => ?_)
              have w100 : S97 40 0 13 = S89 40 0 13 := f98 40 0 13 rfl
              have w101 : S97 40 0 14 = S89 40 0 14 := f98 40 0 14 rfl
              have w102 : S97 0 0 10 = S89 0 0 10 := f98 0 0 10 rfl
              have g103 : SegA S97 := fx_pfr SegA_stab f98 rfl g93
              have g104 : TreeL S97 := fx_pfr TreeL_stab f98 rfl g94
              have g105 : LCt S97 := fx_pfr LCt_stab f98 rfl g95
              refine And.intro (fun (h106 : (z96 = (0 : Int) : Prop)) => ?_) (fun (h106 : (z96 ≠ (0 : Int) : Prop)) => ?_)
              ·
                refine c_Migrator_work  g104 (fun (S107 : fxS) ⟨(f108 : fxfr [(4, 11), (4, 12), (7, 9999), (8, 4), (9, 9999), (10, 9999), (11, 9999), (12, 9999), (13, 6), (13, 7), (13, 10), (15, 9999), (16, 9999), (17, 9999), (18, 9999), (19, 9999), (20, 0), (20, 1), (20, 3), (20, 4), (20, 5), (20, 6), (20, 7), (20, 11), (20, 12), (21, 9999), (22, 9999), (23, 9999), (40, 10), (41, 9999), (42, 9999), (44, 6), (44, 7), (44, 10), (47, 9999), (48, 9999)] S97 S107), (g109 : TreeL S107)⟩ => ?_)
                have w110 : S107 40 0 0 = S97 40 0 0 := f108 40 0 0 rfl
                have w111 : S107 40 0 2 = S97 40 0 2 := f108 40 0 2 rfl
                have w112 : S107 40 0 13 = S97 40 0 13 := f108 40 0 13 rfl
                have w113 : S107 40 0 14 = S97 40 0 14 := f108 40 0 14 rfl
                have w114 : S107 0 0 10 = S97 0 0 10 := f108 0 0 10 rfl
                have g115 : SegA S107 := fx_pfr SegA_stab f108 rfl g103
                have lc : LCt S107 := LCt_of (by omega)
                refine And.intro (by decide) (And.intro (show -2147483648 ≤ j + (1 : Int) ∧ j + (1 : Int) < 2147483648 by omega) ?_)
                exact ih (j + (1 : Int)) S107 (fxfr_tr (fxfr_tr (fxfr_tr (fxfr_tr (fxfr_up (fxfr_tr (fxfr_up hf rfl) f15 rfl) rfl) f36 rfl) f90 rfl) f98 rfl) f108 rfl) (by omega) (by omega) (by omega) g115 g109 lc (by omega)
              ·
                refine c_Writer_finish  g103 (show 0 ≤ S97 40 0 0 by omega) (show S97 40 0 13 = 2 → 0 ≤ S97 40 0 14 by omega) g104 (fun (S117 : fxS) ⟨(f118 : fxfr [(4, 7), (5, 9999), (6, 9999), (8, 4), (10, 9999), (11, 9999), (13, 6), (13, 7), (13, 10), (15, 9999), (16, 9999), (17, 9999), (18, 9999), (19, 9999), (20, 0), (20, 1), (20, 3), (20, 4), (20, 5), (20, 6), (20, 7), (20, 11), (20, 12), (21, 9999), (22, 9999), (23, 9999), (26, 3), (32, 1), (32, 3), (32, 4), (32, 5), (33, 9999), (38, 15)] S97 S117), (g119 : SegA S117), (g120 : TreeL S117)⟩ => ?_)
                have w121 : S117 40 0 0 = S97 40 0 0 := f118 40 0 0 rfl
                have w122 : S117 40 0 2 = S97 40 0 2 := f118 40 0 2 rfl
                have w123 : S117 40 0 13 = S97 40 0 13 := f118 40 0 13 rfl
                have w124 : S117 40 0 14 = S97 40 0 14 := f118 40 0 14 rfl
                have w125 : S117 0 0 10 = S97 0 0 10 := f118 0 0 10 rfl
                refine c_Migrator_work  g120 (fun (S126 : fxS) ⟨(f127 : fxfr [(4, 11), (4, 12), (7, 9999), (8, 4), (9, 9999), (10, 9999), (11, 9999), (12, 9999), (13, 6), (13, 7), (13, 10), (15, 9999), (16, 9999), (17, 9999), (18, 9999), (19, 9999), (20, 0), (20, 1), (20, 3), (20, 4), (20, 5), (20, 6), (20, 7), (20, 11), (20, 12), (21, 9999), (22, 9999), (23, 9999), (40, 10), (41, 9999), (42, 9999), (44, 6), (44, 7), (44, 10), (47, 9999), (48, 9999)] S117 S126), (g128 : TreeL S126)⟩ => ?_)
                have w129 : S126 40 0 0 = S117 40 0 0 := f127 40 0 0 rfl
                have w130 : S126 40 0 2 = S117 40 0 2 := f127 40 0 2 rfl
                have w131 : S126 40 0 13 = S117 40 0 13 := f127 40 0 13 rfl
                have w132 : S126 40 0 14 = S117 40 0 14 := f127 40 0 14 rfl
                have w133 : S126 0 0 10 = S117 0 0 10 := f127 0 0 10 rfl
                have g134 : SegA S126 := fx_pfr SegA_stab f127 rfl g119
                have lc : LCt S126 := LCt_of (by omega)
                refine And.intro (by decide) (And.intro (show -2147483648 ≤ j + (1 : Int) ∧ j + (1 : Int) < 2147483648 by omega) ?_)
                exact ih (j + (1 : Int)) S126 (fxfr_tr (fxfr_tr (fxfr_tr (fxfr_tr (fxfr_tr (fxfr_up (fxfr_tr (fxfr_up hf rfl) f15 rfl) rfl) f36 rfl) f90 rfl) f98 rfl) f118 rfl) f127 rfl) (by omega) (by omega) (by omega) g134 g128 lc (by omega)
          ·
            refine c_Reader_finish  g43 g44 (fun (S136 : fxS) ⟨(f137 : fxfr [(4, 6), (4, 7), (4, 11), (4, 12), (5, 9999), (6, 9999), (7, 9999), (8, 4), (9, 9999), (10, 9999), (11, 9999), (12, 9999), (13, 6), (13, 7), (13, 10), (15, 9999), (16, 9999), (17, 9999), (18, 9999), (19, 9999), (20, 0), (20, 1), (20, 3), (20, 4), (20, 5), (20, 6), (20, 7), (20, 11), (20, 12), (21, 9999), (22, 9999), (23, 9999), (24, 4), (25, 9999), (38, 13), (38, 15), (38, 16), (39, 9999)] S35 S136), (g138 : SegA S136), (g139 : TreeL S136)⟩ => ?_)
            have w140 : S136 40 0 0 = S35 40 0 0 := f137 40 0 0 rfl
            have w141 : S136 40 0 2 = S35 40 0 2 := f137 40 0 2 rfl
            have w142 : S136 40 0 13 = S35 40 0 13 := f137 40 0 13 rfl
            have w143 : S136 40 0 14 = S35 40 0 14 := f137 40 0 14 rfl
            have w144 : S136 0 0 10 = S35 0 0 10 := f137 0 0 10 rfl
            intro z145 (z145a : (0 : Int) ≤ z145) (z145b : z145 ≤ (5 : Int)) (z145c : z145 = S136 40 0 2)
            refine And.intro (fun (h146 : (z145 ≠ (0 : Int) : Prop)) => ?_) (fun (h146 : (z145 = (0 : Int) : Prop)) => ?_)
            ·
              refine c_spend40  (show ((S136 40 0 2 = 4 ∨ S136 40 0 2 = 5) → 0 ≤ S136 40 0 0 ∧ (S136 40 0 13 = 2 → 0 ≤ S136 40 0 14)) by omega) (fun (z147 : Int) (S148 : fxS) ⟨(f149 : fxfr [(40, 0), (40, 1), (40, 2), (40, 3)] S136 S148), (q150 : 0 ≤ z147 ∧ z147 ≤ 1 ∧ ((S148 40 0 2 = 4 ∨ S148 40 0 2 = 5) → 0 ≤ S148 40 0 0 ∧ (S148 40 0 13 = 2 → 0 ≤ S148 40 0 14)) ∧ (z147 = 1 → 0 ≤ S148 40 0 0 ∧ (S148 40 0 13 = 2 → 0 ≤ S148 40 0 14)))⟩ => ?_)
              have w151 : S148 40 0 13 = S136 40 0 13 := f149 40 0 13 rfl
              have w152 : S148 40 0 14 = S136 40 0 14 := f149 40 0 14 rfl
              have w153 : S148 0 0 10 = S136 0 0 10 := f149 0 0 10 rfl
              have g154 : SegA S148 := fx_pfr SegA_stab f149 rfl g138
              have g155 : TreeL S148 := fx_pfr TreeL_stab f149 rfl g139
              refine And.intro (fun (h156 : (z147 = (0 : Int) : Prop)) => ?_) (fun (h156 : (z147 ≠ (0 : Int) : Prop)) => ?_)
              ·
                refine c_Migrator_work  g155 (fun (S157 : fxS) ⟨(f158 : fxfr [(4, 11), (4, 12), (7, 9999), (8, 4), (9, 9999), (10, 9999), (11, 9999), (12, 9999), (13, 6), (13, 7), (13, 10), (15, 9999), (16, 9999), (17, 9999), (18, 9999), (19, 9999), (20, 0), (20, 1), (20, 3), (20, 4), (20, 5), (20, 6), (20, 7), (20, 11), (20, 12), (21, 9999), (22, 9999), (23, 9999), (40, 10), (41, 9999), (42, 9999), (44, 6), (44, 7), (44, 10), (47, 9999), (48, 9999)] S148 S157), (g159 : TreeL S157)⟩ => ?_)
                have w160 : S157 40 0 0 = S148 40 0 0 := f158 40 0 0 rfl
                have w161 : S157 40 0 2 = S148 40 0 2 := f158 40 0 2 rfl
                have w162 : S157 40 0 13 = S148 40 0 13 := f158 40 0 13 rfl
                have w163 : S157 40 0 14 = S148 40 0 14 := f158 40 0 14 rfl
                have w164 : S157 0 0 10 = S148 0 0 10 := f158 0 0 10 rfl
                have g165 : SegA S157 := fx_pfr SegA_stab f158 rfl g154
                have lc : LCt S157 := LCt_of (by omega)
                refine And.intro (by decide) (And.intro (show -2147483648 ≤ j + (1 : Int) ∧ j + (1 : Int) < 2147483648 by omega) ?_)
                exact ih (j + (1 : Int)) S157 (fxfr_tr (fxfr_tr (fxfr_tr (fxfr_tr (fxfr_up (fxfr_tr (fxfr_up hf rfl) f15 rfl) rfl) f36 rfl) f137 rfl) f149 rfl) f158 rfl) (by omega) (by omega) (by omega) g165 g159 lc (by omega)
              ·
                refine c_Writer_finish  g154 (show 0 ≤ S148 40 0 0 by omega) (show S148 40 0 13 = 2 → 0 ≤ S148 40 0 14 by omega) g155 (fun (S167 : fxS) ⟨(f168 : fxfr [(4, 7), (5, 9999), (6, 9999), (8, 4), (10, 9999), (11, 9999), (13, 6), (13, 7), (13, 10), (15, 9999), (16, 9999), (17, 9999), (18, 9999), (19, 9999), (20, 0), (20, 1), (20, 3), (20, 4), (20, 5), (20, 6), (20, 7), (20, 11), (20, 12), (21, 9999), (22, 9999), (23, 9999), (26, 3), (32, 1), (32, 3), (32, 4), (32, 5), (33, 9999), (38, 15)] S148 S167), (g169 : SegA S167), (g170 : TreeL S167)⟩ => ?_)
                have w171 : S167 40 0 0 = S148 40 0 0 := f168 40 0 0 rfl
                have w172 : S167 40 0 2 = S148 40 0 2 := f168 40 0 2 rfl
                have w173 : S167 40 0 13 = S148 40 0 13 := f168 40 0 13 rfl
                have w174 : S167 40 0 14 = S148 40 0 14 := f168 40 0 14 rfl
                have w175 : S167 0 0 10 = S148 0 0 10 := f168 0 0 10 rfl
                refine c_Migrator_work  g170 (fun (S176 : fxS) ⟨(f177 : fxfr [(4, 11), (4, 12), (7, 9999), (8, 4), (9, 9999), (10, 9999), (11, 9999), (12, 9999), (13, 6), (13, 7), (13, 10), (15, 9999), (16, 9999), (17, 9999), (18, 9999), (19, 9999), (20, 0), (20, 1), (20, 3), (20, 4), (20, 5), (20, 6), (20, 7), (20, 11), (20, 12), (21, 9999), (22, 9999), (23, 9999), (40, 10), (41, 9999), (42, 9999), (44, 6), (44, 7), (44, 10), (47, 9999), (48, 9999)] S167 S176), (g178 : TreeL S176)⟩ => ?_)
                have w179 : S176 40 0 0 = S167 40 0 0 := f177 40 0 0 rfl
                have w180 : S176 40 0 2 = S167 40 0 2 := f177 40 0 2 rfl
                have w181 : S176 40 0 13 = S167 40 0 13 := f177 40 0 13 rfl
                have w182 : S176 40 0 14 = S167 40 0 14 := f177 40 0 14 rfl
                have w183 : S176 0 0 10 = S167 0 0 10 := f177 0 0 10 rfl
                have g184 : SegA S176 := fx_pfr SegA_stab f177 rfl g169
                have lc : LCt S176 := LCt_of (by omega)
                refine And.intro (by decide) (And.intro (show -2147483648 ≤ j + (1 : Int) ∧ j + (1 : Int) < 2147483648 by omega) ?_)
                exact ih (j + (1 : Int)) S176 (fxfr_tr (fxfr_tr (fxfr_tr (fxfr_tr (fxfr_tr (fxfr_up (fxfr_tr (fxfr_up hf rfl) f15 rfl) rfl) f36 rfl) f137 rfl) f149 rfl) f168 rfl) f177 rfl) (by omega) (by omega) (by omega) g184 g178 lc (by omega)
            ·
              refine c_Writer_choose  (show ((S136 40 0 2 = 4 ∨ S136 40 0 2 = 5) → 0 ≤ S136 40 0 0 ∧ (S136 40 0 13 = 2 → 0 ≤ S136 40 0 14)) by omega) g139 (fun (S186 : fxS) ⟨(f187 : fxfr [(26, 2), (40, 0), (40, 1), (40, 2), (40, 3), (40, 4), (40, 10), (40, 12), (40, 13), (40, 14), (40, 15), (40, 16), (41, 9999), (42, 9999), (43, 9999)] S136 S186), (q188 : ((S186 40 0 2 = 4 ∨ S186 40 0 2 = 5) → 0 ≤ S186 40 0 0 ∧ (S186 40 0 13 = 2 → 0 ≤ S186 40 0 14)))⟩ => ?_)
              have w189 : S186 0 0 10 = S136 0 0 10 := f187 0 0 10 rfl
              have g190 : SegA S186 := fx_pfr SegA_stab f187 rfl g138
              have g191 : TreeL S186 := fx_pfr TreeL_stab f187 rfl g139
              refine c_spend40  (show ((S186 40 0 2 = 4 ∨ S186 40 0 2 = 5) → 0 ≤ S186 40 0 0 ∧ (S186 40 0 13 = 2 → 0 ≤ S186 40 0 14)) by omega) (fun (z192 : Int) (S193 : fxS) ⟨(f194 : fxfr [(40, 0), (40, 1), (40, 2), (40, 3)] S186 S193), (q195 : 0 ≤ z192 ∧ z192 ≤ 1 ∧ ((S193 40 0 2 = 4 ∨ S193 40 0 2 = 5) → 0 ≤ S193 40 0 0 ∧ (S193 40 0 13 = 2 → 0 ≤ S193 40 0 14)) ∧ (z192 = 1 → 0 ≤ S193 40 0 0 ∧ (S193 40 0 13 = 2 → 0 ≤ S193 40 0 14)))⟩ => ?_)
              have w196 : S193 40 0 13 = S186 40 0 13 := f194 40 0 13 rfl
              have w197 : S193 40 0 14 = S186 40 0 14 := f194 40 0 14 rfl
              have w198 : S193 0 0 10 = S186 0 0 10 := f194 0 0 10 rfl
              have g199 : SegA S193 := fx_pfr SegA_stab f194 rfl g190
              have g200 : TreeL S193 := fx_pfr TreeL_stab f194 rfl g191
              refine And.intro (fun (h201 : (z192 = (0 : Int) : Prop)) => ?_) (fun (h201 : (z192 ≠ (0 : Int) : Prop)) => ?_)
              ·
                refine c_Migrator_work  g200 (fun (S202 : fxS) ⟨(f203 : fxfr [(4, 11), (4, 12), (7, 9999), (8, 4), (9, 9999), (10, 9999), (11, 9999), (12, 9999), (13, 6), (13, 7), (13, 10), (15, 9999), (16, 9999), (17, 9999), (18, 9999), (19, 9999), (20, 0), (20, 1), (20, 3), (20, 4), (20, 5), (20, 6), (20, 7), (20, 11), (20, 12), (21, 9999), (22, 9999), (23, 9999), (40, 10), (41, 9999), (42, 9999), (44, 6), (44, 7), (44, 10), (47, 9999), (48, 9999)] S193 S202), (g204 : TreeL S202)⟩ => ?_)
                have w205 : S202 40 0 0 = S193 40 0 0 := f203 40 0 0 rfl
                have w206 : S202 40 0 2 = S193 40 0 2 := f203 40 0 2 rfl
                have w207 : S202 40 0 13 = S193 40 0 13 := f203 40 0 13 rfl
                have w208 : S202 40 0 14 = S193 40 0 14 := f203 40 0 14 rfl
                have w209 : S202 0 0 10 = S193 0 0 10 := f203 0 0 10 rfl
                have g210 : SegA S202 := fx_pfr SegA_stab f203 rfl g199
                have lc : LCt S202 := LCt_of (by omega)
                refine And.intro (by decide) (And.intro (show -2147483648 ≤ j + (1 : Int) ∧ j + (1 : Int) < 2147483648 by omega) ?_)
                exact ih (j + (1 : Int)) S202 (fxfr_tr (fxfr_tr (fxfr_tr (fxfr_tr (fxfr_tr (fxfr_up (fxfr_tr (fxfr_up hf rfl) f15 rfl) rfl) f36 rfl) f137 rfl) f187 rfl) f194 rfl) f203 rfl) (by omega) (by omega) (by omega) g210 g204 lc (by omega)
              ·
                refine c_Writer_finish  g199 (show 0 ≤ S193 40 0 0 by omega) (show S193 40 0 13 = 2 → 0 ≤ S193 40 0 14 by omega) g200 (fun (S212 : fxS) ⟨(f213 : fxfr [(4, 7), (5, 9999), (6, 9999), (8, 4), (10, 9999), (11, 9999), (13, 6), (13, 7), (13, 10), (15, 9999), (16, 9999), (17, 9999), (18, 9999), (19, 9999), (20, 0), (20, 1), (20, 3), (20, 4), (20, 5), (20, 6), (20, 7), (20, 11), (20, 12), (21, 9999), (22, 9999), (23, 9999), (26, 3), (32, 1), (32, 3), (32, 4), (32, 5), (33, 9999), (38, 15)] S193 S212), (g214 : SegA S212), (g215 : TreeL S212)⟩ => ?_)
                have w216 : S212 40 0 0 = S193 40 0 0 := f213 40 0 0 rfl
                have w217 : S212 40 0 2 = S193 40 0 2 := f213 40 0 2 rfl
                have w218 : S212 40 0 13 = S193 40 0 13 := f213 40 0 13 rfl
                have w219 : S212 40 0 14 = S193 40 0 14 := f213 40 0 14 rfl
                have w220 : S212 0 0 10 = S193 0 0 10 := f213 0 0 10 rfl
                refine c_Migrator_work  g215 (fun (S221 : fxS) ⟨(f222 : fxfr [(4, 11), (4, 12), (7, 9999), (8, 4), (9, 9999), (10, 9999), (11, 9999), (12, 9999), (13, 6), (13, 7), (13, 10), (15, 9999), (16, 9999), (17, 9999), (18, 9999), (19, 9999), (20, 0), (20, 1), (20, 3), (20, 4), (20, 5), (20, 6), (20, 7), (20, 11), (20, 12), (21, 9999), (22, 9999), (23, 9999), (40, 10), (41, 9999), (42, 9999), (44, 6), (44, 7), (44, 10), (47, 9999), (48, 9999)] S212 S221), (g223 : TreeL S221)⟩ => ?_)
                have w224 : S221 40 0 0 = S212 40 0 0 := f222 40 0 0 rfl
                have w225 : S221 40 0 2 = S212 40 0 2 := f222 40 0 2 rfl
                have w226 : S221 40 0 13 = S212 40 0 13 := f222 40 0 13 rfl
                have w227 : S221 40 0 14 = S212 40 0 14 := f222 40 0 14 rfl
                have w228 : S221 0 0 10 = S212 0 0 10 := f222 0 0 10 rfl
                have g229 : SegA S221 := fx_pfr SegA_stab f222 rfl g214
                have lc : LCt S221 := LCt_of (by omega)
                refine And.intro (by decide) (And.intro (show -2147483648 ≤ j + (1 : Int) ∧ j + (1 : Int) < 2147483648 by omega) ?_)
                exact ih (j + (1 : Int)) S221 (fxfr_tr (fxfr_tr (fxfr_tr (fxfr_tr (fxfr_tr (fxfr_tr (fxfr_up (fxfr_tr (fxfr_up hf rfl) f15 rfl) rfl) f36 rfl) f137 rfl) f187 rfl) f194 rfl) f213 rfl) f222 rfl) (by omega) (by omega) (by omega) g229 g223 lc (by omega)
        ·
          intro z231 (z231a : (-1 : Int) ≤ z231) (z231b : z231 ≤ (5 : Int)) (z231c : z231 = S14 40 0 0)
          refine c_Reader_choose (w := z231) g29 g30 (show -2147483648 ≤ z231 ∧ z231 < 2147483648 by omega) (fun S232 ⟨f233, g234, g235⟩ => ?_)
          replace f233 : fxfr [(4, 7), (5, 9999), (6, 9999), (8, 4), (10, 9999), (11, 9999), (13, 6), (13, 7), (13, 10), (15, 9999), (16, 9999), (17, 9999), (18, 9999), (19, 9999), (20, 0), (20, 1), (20, 3), (20, 4), (20, 5), (20, 6), (20, 7), (20, 11), (20, 12), (21, 9999), (22, 9999), (23, 9999), (24, 4), (25, 9999), (26, 3), (32, 1), (32, 2), (32, 3), (32, 4), (32, 5), (38, 0), (38, 1), (38, 2), (38, 3), (38, 4), (38, 7), (38, 8), (38, 9), (38, 10), (38, 11), (38, 12)] (fx_up S14 38 0 7 (-1 : Int)) S232 := f233
          replace g234 : SegA S232 := g234
          replace g235 : TreeL S232 := g235
          have w236 : S232 40 0 0 = (fx_up S14 38 0 7 (-1 : Int)) 40 0 0 := f233 40 0 0 rfl
          have w237 : S232 40 0 2 = (fx_up S14 38 0 7 (-1 : Int)) 40 0 2 := f233 40 0 2 rfl
          have w238 : S232 40 0 13 = (fx_up S14 38 0 7 (-1 : Int)) 40 0 13 := f233 40 0 13 rfl
          have w239 : S232 40 0 14 = (fx_up S14 38 0 7 (-1 : Int)) 40 0 14 := f233 40 0 14 rfl
          have w240 : S232 0 0 10 = (fx_up S14 38 0 7 (-1 : Int)) 0 0 10 := f233 0 0 10 rfl
          refine c_spend38   (fun (z241 : Int) (S242 : fxS) ⟨(f243 : fxfr [(38, 0), (38, 1), (38, 2), (38, 3)] S232 S242), (q244 : z241 = 0 ∨ z241 = 1)⟩ => ?_)
          have w245 : S242 40 0 0 = S232 40 0 0 := f243 40 0 0 rfl
          have w246 : S242 40 0 2 = S232 40 0 2 := f243 40 0 2 rfl
          have w247 : S242 40 0 13 = S232 40 0 13 := f243 40 0 13 rfl
          have w248 : S242 40 0 14 = S232 40 0 14 := f243 40 0 14 rfl
          have w249 : S242 0 0 10 = S232 0 0 10 := f243 0 0 10 rfl
          have g250 : SegA S242 := fx_pfr SegA_stab f243 rfl g234
          have g251 : TreeL S242 := fx_pfr TreeL_stab f243 rfl g235
          refine And.intro (fun (h252 : (z241 = (0 : Int) : Prop)) => ?_) (fun (h252 : (z241 ≠ (0 : Int) : Prop)) => ?_)
          ·
            intro z253 (z253a : (0 : Int) ≤ z253) (z253b : z253 ≤ (5 : Int)) (z253c : z253 = S242 40 0 2)
            refine And.intro (fun (h254 : (z253 ≠ (0 : Int) : Prop)) => ?_) (fun (h254 : (z253 = (0 : Int) : Prop)) => ?_)
            ·
              refine c_spend40  (show ((S242 40 0 2 = 4 ∨ S242 40 0 2 = 5) → 0 ≤ S242 40 0 0 ∧ (S242 40 0 13 = 2 → 0 ≤ S242 40 0 14)) by omega) (fun (z255 : Int) (S256 : fxS) ⟨(f257 : fxfr [(40, 0), (40, 1), (40, 2), (40, 3)] S242 S256), (q258 : 0 ≤ z255 ∧ z255 ≤ 1 ∧ ((S256 40 0 2 = 4 ∨ S256 40 0 2 = 5) → 0 ≤ S256 40 0 0 ∧ (S256 40 0 13 = 2 → 0 ≤ S256 40 0 14)) ∧ (z255 = 1 → 0 ≤ S256 40 0 0 ∧ (S256 40 0 13 = 2 → 0 ≤ S256 40 0 14)))⟩ => ?_)
              have w259 : S256 40 0 13 = S242 40 0 13 := f257 40 0 13 rfl
              have w260 : S256 40 0 14 = S242 40 0 14 := f257 40 0 14 rfl
              have w261 : S256 0 0 10 = S242 0 0 10 := f257 0 0 10 rfl
              have g262 : SegA S256 := fx_pfr SegA_stab f257 rfl g250
              have g263 : TreeL S256 := fx_pfr TreeL_stab f257 rfl g251
              refine And.intro (fun (h264 : (z255 = (0 : Int) : Prop)) => ?_) (fun (h264 : (z255 ≠ (0 : Int) : Prop)) => ?_)
              ·
                refine c_Migrator_work  g263 (fun (S265 : fxS) ⟨(f266 : fxfr [(4, 11), (4, 12), (7, 9999), (8, 4), (9, 9999), (10, 9999), (11, 9999), (12, 9999), (13, 6), (13, 7), (13, 10), (15, 9999), (16, 9999), (17, 9999), (18, 9999), (19, 9999), (20, 0), (20, 1), (20, 3), (20, 4), (20, 5), (20, 6), (20, 7), (20, 11), (20, 12), (21, 9999), (22, 9999), (23, 9999), (40, 10), (41, 9999), (42, 9999), (44, 6), (44, 7), (44, 10), (47, 9999), (48, 9999)] S256 S265), (g267 : TreeL S265)⟩ => ?_)
                have w268 : S265 40 0 0 = S256 40 0 0 := f266 40 0 0 rfl
                have w269 : S265 40 0 2 = S256 40 0 2 := f266 40 0 2 rfl
                have w270 : S265 40 0 13 = S256 40 0 13 := f266 40 0 13 rfl
                have w271 : S265 40 0 14 = S256 40 0 14 := f266 40 0 14 rfl
                have w272 : S265 0 0 10 = S256 0 0 10 := f266 0 0 10 rfl
                have g273 : SegA S265 := fx_pfr SegA_stab f266 rfl g262
                have lc : LCt S265 := LCt_of (by omega)
                refine And.intro (by decide) (And.intro (show -2147483648 ≤ j + (1 : Int) ∧ j + (1 : Int) < 2147483648 by omega) ?_)
                exact ih (j + (1 : Int)) S265 (fxfr_tr (fxfr_tr (fxfr_tr (fxfr_tr (fxfr_up (fxfr_tr (fxfr_up hf rfl) f15 rfl) rfl) f233 rfl) f243 rfl) f257 rfl) f266 rfl) (by omega) (by omega) (by omega) g273 g267 lc (by omega)
              ·
                refine c_Writer_finish  g262 (show 0 ≤ S256 40 0 0 by omega) (show S256 40 0 13 = 2 → 0 ≤ S256 40 0 14 by omega) g263 (fun (S275 : fxS) ⟨(f276 : fxfr [(4, 7), (5, 9999), (6, 9999), (8, 4), (10, 9999), (11, 9999), (13, 6), (13, 7), (13, 10), (15, 9999), (16, 9999), (17, 9999), (18, 9999), (19, 9999), (20, 0), (20, 1), (20, 3), (20, 4), (20, 5), (20, 6), (20, 7), (20, 11), (20, 12), (21, 9999), (22, 9999), (23, 9999), (26, 3), (32, 1), (32, 3), (32, 4), (32, 5), (33, 9999), (38, 15)] S256 S275), (g277 : SegA S275), (g278 : TreeL S275)⟩ => ?_)
                have w279 : S275 40 0 0 = S256 40 0 0 := f276 40 0 0 rfl
                have w280 : S275 40 0 2 = S256 40 0 2 := f276 40 0 2 rfl
                have w281 : S275 40 0 13 = S256 40 0 13 := f276 40 0 13 rfl
                have w282 : S275 40 0 14 = S256 40 0 14 := f276 40 0 14 rfl
                have w283 : S275 0 0 10 = S256 0 0 10 := f276 0 0 10 rfl
                refine c_Migrator_work  g278 (fun (S284 : fxS) ⟨(f285 : fxfr [(4, 11), (4, 12), (7, 9999), (8, 4), (9, 9999), (10, 9999), (11, 9999), (12, 9999), (13, 6), (13, 7), (13, 10), (15, 9999), (16, 9999), (17, 9999), (18, 9999), (19, 9999), (20, 0), (20, 1), (20, 3), (20, 4), (20, 5), (20, 6), (20, 7), (20, 11), (20, 12), (21, 9999), (22, 9999), (23, 9999), (40, 10), (41, 9999), (42, 9999), (44, 6), (44, 7), (44, 10), (47, 9999), (48, 9999)] S275 S284), (g286 : TreeL S284)⟩ => ?_)
                have w287 : S284 40 0 0 = S275 40 0 0 := f285 40 0 0 rfl
                have w288 : S284 40 0 2 = S275 40 0 2 := f285 40 0 2 rfl
                have w289 : S284 40 0 13 = S275 40 0 13 := f285 40 0 13 rfl
                have w290 : S284 40 0 14 = S275 40 0 14 := f285 40 0 14 rfl
                have w291 : S284 0 0 10 = S275 0 0 10 := f285 0 0 10 rfl
                have g292 : SegA S284 := fx_pfr SegA_stab f285 rfl g277
                have lc : LCt S284 := LCt_of (by omega)
                refine And.intro (by decide) (And.intro (show -2147483648 ≤ j + (1 : Int) ∧ j + (1 : Int) < 2147483648 by omega) ?_)
                exact ih (j + (1 : Int)) S284 (fxfr_tr (fxfr_tr (fxfr_tr (fxfr_tr (fxfr_tr (fxfr_up (fxfr_tr (fxfr_up hf rfl) f15 rfl) rfl) f233 rfl) f243 rfl) f257 rfl) f276 rfl) f285 rfl) (by omega) (by omega) (by omega) g292 g286 lc (by omega)
            ·
              refine c_Writer_choose  (show ((S242 40 0 2 = 4 ∨ S242 40 0 2 = 5) → 0 ≤ S242 40 0 0 ∧ (S242 40 0 13 = 2 → 0 ≤ S242 40 0 14)) by omega) g251 (fun (S294 : fxS) ⟨(f295 : fxfr [(26, 2), (40, 0), (40, 1), (40, 2), (40, 3), (40, 4), (40, 10), (40, 12), (40, 13), (40, 14), (40, 15), (40, 16), (41, 9999), (42, 9999), (43, 9999)] S242 S294), (q296 : ((S294 40 0 2 = 4 ∨ S294 40 0 2 = 5) → 0 ≤ S294 40 0 0 ∧ (S294 40 0 13 = 2 → 0 ≤ S294 40 0 14)))⟩ => ?_)
              have w297 : S294 0 0 10 = S242 0 0 10 := f295 0 0 10 rfl
              have g298 : SegA S294 := fx_pfr SegA_stab f295 rfl g250
              have g299 : TreeL S294 := fx_pfr TreeL_stab f295 rfl g251
              refine c_spend40  (show ((S294 40 0 2 = 4 ∨ S294 40 0 2 = 5) → 0 ≤ S294 40 0 0 ∧ (S294 40 0 13 = 2 → 0 ≤ S294 40 0 14)) by omega) (fun (z300 : Int) (S301 : fxS) ⟨(f302 : fxfr [(40, 0), (40, 1), (40, 2), (40, 3)] S294 S301), (q303 : 0 ≤ z300 ∧ z300 ≤ 1 ∧ ((S301 40 0 2 = 4 ∨ S301 40 0 2 = 5) → 0 ≤ S301 40 0 0 ∧ (S301 40 0 13 = 2 → 0 ≤ S301 40 0 14)) ∧ (z300 = 1 → 0 ≤ S301 40 0 0 ∧ (S301 40 0 13 = 2 → 0 ≤ S301 40 0 14)))⟩ => ?_)
              have w304 : S301 40 0 13 = S294 40 0 13 := f302 40 0 13 rfl
              have w305 : S301 40 0 14 = S294 40 0 14 := f302 40 0 14 rfl
              have w306 : S301 0 0 10 = S294 0 0 10 := f302 0 0 10 rfl
              have g307 : SegA S301 := fx_pfr SegA_stab f302 rfl g298
              have g308 : TreeL S301 := fx_pfr TreeL_stab f302 rfl g299
              refine And.intro (fun (h309 : (z300 = (0 : Int) : Prop)) => ?_) (fun (h309 : (z300 ≠ (0 : Int) : Prop)) => ?_)
              ·
                refine c_Migrator_work  g308 (fun (S310 : fxS) ⟨(f311 : fxfr [(4, 11), (4, 12), (7, 9999), (8, 4), (9, 9999), (10, 9999), (11, 9999), (12, 9999), (13, 6), (13, 7), (13, 10), (15, 9999), (16, 9999), (17, 9999), (18, 9999), (19, 9999), (20, 0), (20, 1), (20, 3), (20, 4), (20, 5), (20, 6), (20, 7), (20, 11), (20, 12), (21, 9999), (22, 9999), (23, 9999), (40, 10), (41, 9999), (42, 9999), (44, 6), (44, 7), (44, 10), (47, 9999), (48, 9999)] S301 S310), (g312 : TreeL S310)⟩ => ?_)
                have w313 : S310 40 0 0 = S301 40 0 0 := f311 40 0 0 rfl
                have w314 : S310 40 0 2 = S301 40 0 2 := f311 40 0 2 rfl
                have w315 : S310 40 0 13 = S301 40 0 13 := f311 40 0 13 rfl
                have w316 : S310 40 0 14 = S301 40 0 14 := f311 40 0 14 rfl
                have w317 : S310 0 0 10 = S301 0 0 10 := f311 0 0 10 rfl
                have g318 : SegA S310 := fx_pfr SegA_stab f311 rfl g307
                have lc : LCt S310 := LCt_of (by omega)
                refine And.intro (by decide) (And.intro (show -2147483648 ≤ j + (1 : Int) ∧ j + (1 : Int) < 2147483648 by omega) ?_)
                exact ih (j + (1 : Int)) S310 (fxfr_tr (fxfr_tr (fxfr_tr (fxfr_tr (fxfr_tr (fxfr_up (fxfr_tr (fxfr_up hf rfl) f15 rfl) rfl) f233 rfl) f243 rfl) f295 rfl) f302 rfl) f311 rfl) (by omega) (by omega) (by omega) g318 g312 lc (by omega)
              ·
                refine c_Writer_finish  g307 (show 0 ≤ S301 40 0 0 by omega) (show S301 40 0 13 = 2 → 0 ≤ S301 40 0 14 by omega) g308 (fun (S320 : fxS) ⟨(f321 : fxfr [(4, 7), (5, 9999), (6, 9999), (8, 4), (10, 9999), (11, 9999), (13, 6), (13, 7), (13, 10), (15, 9999), (16, 9999), (17, 9999), (18, 9999), (19, 9999), (20, 0), (20, 1), (20, 3), (20, 4), (20, 5), (20, 6), (20, 7), (20, 11), (20, 12), (21, 9999), (22, 9999), (23, 9999), (26, 3), (32, 1), (32, 3), (32, 4), (32, 5), (33, 9999), (38, 15)] S301 S320), (g322 : SegA S320), (g323 : TreeL S320)⟩ => ?_)
                have w324 : S320 40 0 0 = S301 40 0 0 := f321 40 0 0 rfl
                have w325 : S320 40 0 2 = S301 40 0 2 := f321 40 0 2 rfl
                have w326 : S320 40 0 13 = S301 40 0 13 := f321 40 0 13 rfl
                have w327 : S320 40 0 14 = S301 40 0 14 := f321 40 0 14 rfl
                have w328 : S320 0 0 10 = S301 0 0 10 := f321 0 0 10 rfl
                refine c_Migrator_work  g323 (fun (S329 : fxS) ⟨(f330 : fxfr [(4, 11), (4, 12), (7, 9999), (8, 4), (9, 9999), (10, 9999), (11, 9999), (12, 9999), (13, 6), (13, 7), (13, 10), (15, 9999), (16, 9999), (17, 9999), (18, 9999), (19, 9999), (20, 0), (20, 1), (20, 3), (20, 4), (20, 5), (20, 6), (20, 7), (20, 11), (20, 12), (21, 9999), (22, 9999), (23, 9999), (40, 10), (41, 9999), (42, 9999), (44, 6), (44, 7), (44, 10), (47, 9999), (48, 9999)] S320 S329), (g331 : TreeL S329)⟩ => ?_)
                have w332 : S329 40 0 0 = S320 40 0 0 := f330 40 0 0 rfl
                have w333 : S329 40 0 2 = S320 40 0 2 := f330 40 0 2 rfl
                have w334 : S329 40 0 13 = S320 40 0 13 := f330 40 0 13 rfl
                have w335 : S329 40 0 14 = S320 40 0 14 := f330 40 0 14 rfl
                have w336 : S329 0 0 10 = S320 0 0 10 := f330 0 0 10 rfl
                have g337 : SegA S329 := fx_pfr SegA_stab f330 rfl g322
                have lc : LCt S329 := LCt_of (by omega)
                refine And.intro (by decide) (And.intro (show -2147483648 ≤ j + (1 : Int) ∧ j + (1 : Int) < 2147483648 by omega) ?_)
                exact ih (j + (1 : Int)) S329 (fxfr_tr (fxfr_tr (fxfr_tr (fxfr_tr (fxfr_tr (fxfr_tr (fxfr_up (fxfr_tr (fxfr_up hf rfl) f15 rfl) rfl) f233 rfl) f243 rfl) f295 rfl) f302 rfl) f321 rfl) f330 rfl) (by omega) (by omega) (by omega) g337 g331 lc (by omega)
          ·
            refine c_Reader_finish  g250 g251 (fun (S339 : fxS) ⟨(f340 : fxfr [(4, 6), (4, 7), (4, 11), (4, 12), (5, 9999), (6, 9999), (7, 9999), (8, 4), (9, 9999), (10, 9999), (11, 9999), (12, 9999), (13, 6), (13, 7), (13, 10), (15, 9999), (16, 9999), (17, 9999), (18, 9999), (19, 9999), (20, 0), (20, 1), (20, 3), (20, 4), (20, 5), (20, 6), (20, 7), (20, 11), (20, 12), (21, 9999), (22, 9999), (23, 9999), (24, 4), (25, 9999), (38, 13), (38, 15), (38, 16), (39, 9999)] S242 S339), (g341 : SegA S339), (g342 : TreeL S339)⟩ => ?_)
            have w343 : S339 40 0 0 = S242 40 0 0 := f340 40 0 0 rfl
            have w344 : S339 40 0 2 = S242 40 0 2 := f340 40 0 2 rfl
            have w345 : S339 40 0 13 = S242 40 0 13 := f340 40 0 13 rfl
            have w346 : S339 40 0 14 = S242 40 0 14 := f340 40 0 14 rfl
            have w347 : S339 0 0 10 = S242 0 0 10 := f340 0 0 10 rfl
            intro z348 (z348a : (0 : Int) ≤ z348) (z348b : z348 ≤ (5 : Int)) (z348c : z348 = S339 40 0 2)
            refine And.intro (fun (h349 : (z348 ≠ (0 : Int) : Prop)) => ?_) (fun (h349 : (z348 = (0 : Int) : Prop)) => ?_)
            ·
              refine c_spend40  (show ((S339 40 0 2 = 4 ∨ S339 40 0 2 = 5) → 0 ≤ S339 40 0 0 ∧ (S339 40 0 13 = 2 → 0 ≤ S339 40 0 14)) by omega) (fun (z350 : Int) (S351 : fxS) ⟨(f352 : fxfr [(40, 0), (40, 1), (40, 2), (40, 3)] S339 S351), (q353 : 0 ≤ z350 ∧ z350 ≤ 1 ∧ ((S351 40 0 2 = 4 ∨ S351 40 0 2 = 5) → 0 ≤ S351 40 0 0 ∧ (S351 40 0 13 = 2 → 0 ≤ S351 40 0 14)) ∧ (z350 = 1 → 0 ≤ S351 40 0 0 ∧ (S351 40 0 13 = 2 → 0 ≤ S351 40 0 14)))⟩ => ?_)
              have w354 : S351 40 0 13 = S339 40 0 13 := f352 40 0 13 rfl
              have w355 : S351 40 0 14 = S339 40 0 14 := f352 40 0 14 rfl
              have w356 : S351 0 0 10 = S339 0 0 10 := f352 0 0 10 rfl
              have g357 : SegA S351 := fx_pfr SegA_stab f352 rfl g341
              have g358 : TreeL S351 := fx_pfr TreeL_stab f352 rfl g342
              refine And.intro (fun (h359 : (z350 = (0 : Int) : Prop)) => ?_) (fun (h359 : (z350 ≠ (0 : Int) : Prop)) => ?_)
              ·
                refine c_Migrator_work  g358 (fun (S360 : fxS) ⟨(f361 : fxfr [(4, 11), (4, 12), (7, 9999), (8, 4), (9, 9999), (10, 9999), (11, 9999), (12, 9999), (13, 6), (13, 7), (13, 10), (15, 9999), (16, 9999), (17, 9999), (18, 9999), (19, 9999), (20, 0), (20, 1), (20, 3), (20, 4), (20, 5), (20, 6), (20, 7), (20, 11), (20, 12), (21, 9999), (22, 9999), (23, 9999), (40, 10), (41, 9999), (42, 9999), (44, 6), (44, 7), (44, 10), (47, 9999), (48, 9999)] S351 S360), (g362 : TreeL S360)⟩ => ?_)
                have w363 : S360 40 0 0 = S351 40 0 0 := f361 40 0 0 rfl
                have w364 : S360 40 0 2 = S351 40 0 2 := f361 40 0 2 rfl
                have w365 : S360 40 0 13 = S351 40 0 13 := f361 40 0 13 rfl
                have w366 : S360 40 0 14 = S351 40 0 14 := f361 40 0 14 rfl
                have w367 : S360 0 0 10 = S351 0 0 10 := f361 0 0 10 rfl
                have g368 : SegA S360 := fx_pfr SegA_stab f361 rfl g357
                have lc : LCt S360 := LCt_of (by omega)
                refine And.intro (by decide) (And.intro (show -2147483648 ≤ j + (1 : Int) ∧ j + (1 : Int) < 2147483648 by omega) ?_)
                exact ih (j + (1 : Int)) S360 (fxfr_tr (fxfr_tr (fxfr_tr (fxfr_tr (fxfr_tr (fxfr_up (fxfr_tr (fxfr_up hf rfl) f15 rfl) rfl) f233 rfl) f243 rfl) f340 rfl) f352 rfl) f361 rfl) (by omega) (by omega) (by omega) g368 g362 lc (by omega)
              ·
                refine c_Writer_finish  g357 (show 0 ≤ S351 40 0 0 by omega) (show S351 40 0 13 = 2 → 0 ≤ S351 40 0 14 by omega) g358 (fun (S370 : fxS) ⟨(f371 : fxfr [(4, 7), (5, 9999), (6, 9999), (8, 4), (10, 9999), (11, 9999), (13, 6), (13, 7), (13, 10), (15, 9999), (16, 9999), (17, 9999), (18, 9999), (19, 9999), (20, 0), (20, 1), (20, 3), (20, 4), (20, 5), (20, 6), (20, 7), (20, 11), (20, 12), (21, 9999), (22, 9999), (23, 9999), (26, 3), (32, 1), (32, 3), (32, 4), (32, 5), (33, 9999), (38, 15)] S351 S370), (g372 : SegA S370), (g373 : TreeL S370)⟩ => ?_)
                have w374 : S370 40 0 0 = S351 40 0 0 := f371 40 0 0 rfl
                have w375 : S370 40 0 2 = S351 40 0 2 := f371 40 0 2 rfl
                have w376 : S370 40 0 13 = S351 40 0 13 := f371 40 0 13 rfl
                have w377 : S370 40 0 14 = S351 40 0 14 := f371 40 0 14 rfl
                have w378 : S370 0 0 10 = S351 0 0 10 := f371 0 0 10 rfl
                refine c_Migrator_work  g373 (fun (S379 : fxS) ⟨(f380 : fxfr [(4, 11), (4, 12), (7, 9999), (8, 4), (9, 9999), (10, 9999), (11, 9999), (12, 9999), (13, 6), (13, 7), (13, 10), (15, 9999), (16, 9999), (17, 9999), (18, 9999), (19, 9999), (20, 0), (20, 1), (20, 3), (20, 4), (20, 5), (20, 6), (20, 7), (20, 11), (20, 12), (21, 9999), (22, 9999), (23, 9999), (40, 10), (41, 9999), (42, 9999), (44, 6), (44, 7), (44, 10), (47, 9999), (48, 9999)] S370 S379), (g381 : TreeL S379)⟩ => ?_)
                have w382 : S379 40 0 0 = S370 40 0 0 := f380 40 0 0 rfl
                have w383 : S379 40 0 2 = S370 40 0 2 := f380 40 0 2 rfl
                have w384 : S379 40 0 13 = S370 40 0 13 := f380 40 0 13 rfl
                have w385 : S379 40 0 14 = S370 40 0 14 := f380 40 0 14 rfl
                have w386 : S379 0 0 10 = S370 0 0 10 := f380 0 0 10 rfl
                have g387 : SegA S379 := fx_pfr SegA_stab f380 rfl g372
                have lc : LCt S379 := LCt_of (by omega)
                refine And.intro (by decide) (And.intro (show -2147483648 ≤ j + (1 : Int) ∧ j + (1 : Int) < 2147483648 by omega) ?_)
                exact ih (j + (1 : Int)) S379 (fxfr_tr (fxfr_tr (fxfr_tr (fxfr_tr (fxfr_tr (fxfr_tr (fxfr_up (fxfr_tr (fxfr_up hf rfl) f15 rfl) rfl) f233 rfl) f243 rfl) f340 rfl) f352 rfl) f371 rfl) f380 rfl) (by omega) (by omega) (by omega) g387 g381 lc (by omega)
            ·
              refine c_Writer_choose  (show ((S339 40 0 2 = 4 ∨ S339 40 0 2 = 5) → 0 ≤ S339 40 0 0 ∧ (S339 40 0 13 = 2 → 0 ≤ S339 40 0 14)) by omega) g342 (fun (S389 : fxS) ⟨(f390 : fxfr [(26, 2), (40, 0), (40, 1), (40, 2), (40, 3), (40, 4), (40, 10), (40, 12), (40, 13), (40, 14), (40, 15), (40, 16), (41, 9999), (42, 9999), (43, 9999)] S339 S389), (q391 : ((S389 40 0 2 = 4 ∨ S389 40 0 2 = 5) → 0 ≤ S389 40 0 0 ∧ (S389 40 0 13 = 2 → 0 ≤ S389 40 0 14)))⟩ => ?_)
              have w392 : S389 0 0 10 = S339 0 0 10 := f390 0 0 10 rfl
              have g393 : SegA S389 := fx_pfr SegA_stab f390 rfl g341
              have g394 : TreeL S389 := fx_pfr TreeL_stab f390 rfl g342
              refine c_spend40  (show ((S389 40 0 2 = 4 ∨ S389 40 0 2 = 5) → 0 ≤ S389 40 0 0 ∧ (S389 40 0 13 = 2 → 0 ≤ S389 40 0 14)) by omega) (fun (z395 : Int) (S396 : fxS) ⟨(f397 : fxfr [(40, 0), (40, 1), (40, 2), (40, 3)] S389 S396), (q398 : 0 ≤ z395 ∧ z395 ≤ 1 ∧ ((S396 40 0 2 = 4 ∨ S396 40 0 2 = 5) → 0 ≤ S396 40 0 0 ∧ (S396 40 0 13 = 2 → 0 ≤ S396 40 0 14)) ∧ (z395 = 1 → 0 ≤ S396 40 0 0 ∧ (S396 40 0 13 = 2 → 0 ≤ S396 40 0 14)))⟩ => ?_)
              have w399 : S396 40 0 13 = S389 40 0 13 := f397 40 0 13 rfl
              have w400 : S396 40 0 14 = S389 40 0 14 := f397 40 0 14 rfl
              have w401 : S396 0 0 10 = S389 0 0 10 := f397 0 0 10 rfl
              have g402 : SegA S396 := fx_pfr SegA_stab f397 rfl g393
              have g403 : TreeL S396 := fx_pfr TreeL_stab f397 rfl g394
              refine And.intro (fun (h404 : (z395 = (0 : Int) : Prop)) => ?_) (fun (h404 : (z395 ≠ (0 : Int) : Prop)) => ?_)
              ·
                refine c_Migrator_work  g403 (fun (S405 : fxS) ⟨(f406 : fxfr [(4, 11), (4, 12), (7, 9999), (8, 4), (9, 9999), (10, 9999), (11, 9999), (12, 9999), (13, 6), (13, 7), (13, 10), (15, 9999), (16, 9999), (17, 9999), (18, 9999), (19, 9999), (20, 0), (20, 1), (20, 3), (20, 4), (20, 5), (20, 6), (20, 7), (20, 11), (20, 12), (21, 9999), (22, 9999), (23, 9999), (40, 10), (41, 9999), (42, 9999), (44, 6), (44, 7), (44, 10), (47, 9999), (48, 9999)] S396 S405), (g407 : TreeL S405)⟩ => ?_)
                have w408 : S405 40 0 0 = S396 40 0 0 := f406 40 0 0 rfl
                have w409 : S405 40 0 2 = S396 40 0 2 := f406 40 0 2 rfl
                have w410 : S405 40 0 13 = S396 40 0 13 := f406 40 0 13 rfl
                have w411 : S405 40 0 14 = S396 40 0 14 := f406 40 0 14 rfl
                have w412 : S405 0 0 10 = S396 0 0 10 := f406 0 0 10 rfl
                have g413 : SegA S405 := fx_pfr SegA_stab f406 rfl g402
                have lc : LCt S405 := LCt_of (by omega)
                refine And.intro (by decide) (And.intro (show -2147483648 ≤ j + (1 : Int) ∧ j + (1 : Int) < 2147483648 by omega) ?_)
                exact ih (j + (1 : Int)) S405 (fxfr_tr (fxfr_tr (fxfr_tr (fxfr_tr (fxfr_tr (fxfr_tr (fxfr_up (fxfr_tr (fxfr_up hf rfl) f15 rfl) rfl) f233 rfl) f243 rfl) f340 rfl) f390 rfl) f397 rfl) f406 rfl) (by omega) (by omega) (by omega) g413 g407 lc (by omega)
              ·
                refine c_Writer_finish  g402 (show 0 ≤ S396 40 0 0 by omega) (show S396 40 0 13 = 2 → 0 ≤ S396 40 0 14 by omega) g403 (fun (S415 : fxS) ⟨(f416 : fxfr [(4, 7), (5, 9999), (6, 9999), (8, 4), (10, 9999), (11, 9999), (13, 6), (13, 7), (13, 10), (15, 9999), (16, 9999), (17, 9999), (18, 9999), (19, 9999), (20, 0), (20, 1), (20, 3), (20, 4), (20, 5), (20, 6), (20, 7), (20, 11), (20, 12), (21, 9999), (22, 9999), (23, 9999), (26, 3), (32, 1), (32, 3), (32, 4), (32, 5), (33, 9999), (38, 15)] S396 S415), (g417 : SegA S415), (g418 : TreeL S415)⟩ => ?_)
                have w419 : S415 40 0 0 = S396 40 0 0 := f416 40 0 0 rfl
                have w420 : S415 40 0 2 = S396 40 0 2 := f416 40 0 2 rfl
                have w421 : S415 40 0 13 = S396 40 0 13 := f416 40 0 13 rfl
                have w422 : S415 40 0 14 = S396 40 0 14 := f416 40 0 14 rfl
                have w423 : S415 0 0 10 = S396 0 0 10 := f416 0 0 10 rfl
                refine c_Migrator_work  g418 (fun (S424 : fxS) ⟨(f425 : fxfr [(4, 11), (4, 12), (7, 9999), (8, 4), (9, 9999), (10, 9999), (11, 9999), (12, 9999), (13, 6), (13, 7), (13, 10), (15, 9999), (16, 9999), (17, 9999), (18, 9999), (19, 9999), (20, 0), (20, 1), (20, 3), (20, 4), (20, 5), (20, 6), (20, 7), (20, 11), (20, 12), (21, 9999), (22, 9999), (23, 9999), (40, 10), (41, 9999), (42, 9999), (44, 6), (44, 7), (44, 10), (47, 9999), (48, 9999)] S415 S424), (g426 : TreeL S424)⟩ => ?_)
                have w427 : S424 40 0 0 = S415 40 0 0 := f425 40 0 0 rfl
                have w428 : S424 40 0 2 = S415 40 0 2 := f425 40 0 2 rfl
                have w429 : S424 40 0 13 = S415 40 0 13 := f425 40 0 13 rfl
                have w430 : S424 40 0 14 = S415 40 0 14 := f425 40 0 14 rfl
                have w431 : S424 0 0 10 = S415 0 0 10 := f425 0 0 10 rfl
                have g432 : SegA S424 := fx_pfr SegA_stab f425 rfl g417
                have lc : LCt S424 := LCt_of (by omega)
                refine And.intro (by decide) (And.intro (show -2147483648 ≤ j + (1 : Int) ∧ j + (1 : Int) < 2147483648 by omega) ?_)
                exact ih (j + (1 : Int)) S424 (fxfr_tr (fxfr_tr (fxfr_tr (fxfr_tr (fxfr_tr (fxfr_tr (fxfr_tr (fxfr_up (fxfr_tr (fxfr_up hf rfl) f15 rfl) rfl) f233 rfl) f243 rfl) f340 rfl) f390 rfl) f397 rfl) f416 rfl) f425 rfl) (by omega) (by omega) (by omega) g432 g426 lc (by omega)
      ·
        refine And.intro (by decide) (And.intro (show -2147483648 ≤ j + (1 : Int) ∧ j + (1 : Int) < 2147483648 by omega) ?_)
        exact ih (j + (1 : Int)) (fx_up S1 2 0 1 z3) (fxfr_up hf rfl) (by omega) (by omega) (by omega) g9 g10 g11 (by omega)
theorem c_StubHouse_step {l : Launch} {k : fxK} {S : fxS} {n : Int} (p0 : ((S 40 0 2 = 4 ∨ S 40 0 2 = 5) → 0 ≤ S 40 0 0 ∧ (S 40 0 13 = 2 → 0 ≤ S 40 0 14))) (p1 : SegA S) (p2 : TreeL S) (p3 : LCt S) (p4 : -2147483648 ≤ n ∧ n < 2147483648) (hk : ∀ (r : Int) (S' : fxS) , (fxfr [(2, 1), (4, 6), (4, 7), (4, 11), (4, 12), (5, 9999), (6, 9999), (7, 9999), (8, 4), (9, 9999), (10, 9999), (11, 9999), (12, 9999), (13, 6), (13, 7), (13, 10), (15, 9999), (16, 9999), (17, 9999), (18, 9999), (19, 9999), (20, 0), (20, 1), (20, 3), (20, 4), (20, 5), (20, 6), (20, 7), (20, 11), (20, 12), (21, 9999), (22, 9999), (23, 9999), (24, 4), (25, 9999), (26, 2), (26, 3), (32, 1), (32, 2), (32, 3), (32, 4), (32, 5), (33, 9999), (34, 9999), (35, 9999), (36, 9999), (37, 9999), (38, 0), (38, 1), (38, 2), (38, 3), (38, 4), (38, 7), (38, 8), (38, 9), (38, 10), (38, 11), (38, 12), (38, 13), (38, 15), (38, 16), (39, 9999), (40, 0), (40, 1), (40, 2), (40, 3), (40, 4), (40, 10), (40, 12), (40, 13), (40, 14), (40, 15), (40, 16), (41, 9999), (42, 9999), (43, 9999), (44, 6), (44, 7), (44, 10), (47, 9999), (48, 9999)] S S' ∧ (-2147483648 ≤ r ∧ r < 2147483648 ∧ (((S' 40 0 2 = 4 ∨ S' 40 0 2 = 5) → 0 ≤ S' 40 0 0 ∧ (S' 40 0 13 = 2 → 0 ≤ S' 40 0 14)))) ∧ (SegA S') ∧ (TreeL S') ∧ (LCt S')) → k (some (.inl r)) S') : fC l 254 [.inr (.inr (0, 0)), .inl n] S k := by
  refine fxe_254 (Nat.le_of_ble_eq_true rfl) (fxz_254 400 ?_)
  refine And.intro (fun (h435 : (n < (1 : Int) : Prop)) => ?_) (fun (h435 : ((1 : Int) ≤ n : Prop)) => ?_)
  ·
    exact hk (-1 : Int) S ⟨fxfr_rfl, by omega, p1, p2, p3⟩
  ·
    refine And.intro (fun (h436 : (n ≤ (500 : Int) : Prop)) => ?_) (fun (h436 : ((500 : Int) < n : Prop)) => ?_)
    ·
      refine And.intro (by decide) ?_
      exact (z_StubHouse_step p0 p1 p2 p3 p4 hk (n + 1 - (0 : Int)).toNat) (0 : Int) S fxfr_rfl (by omega) (by omega) (by omega) p1 p2 p3 (by omega)
    ·
      exact hk (-1 : Int) S ⟨fxfr_rfl, by omega, p1, p2, p3⟩
