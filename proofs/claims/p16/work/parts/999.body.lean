/-! the law's loop, once round -/
/-- what both sides have alike, so that the answers that the law compares are alike -/
def LEQ (S : fxS) : Prop := S 2 0 4 = S 49 0 18
set_option maxHeartbeats 4000000 in
theorem law_body {sc : Nat} {X : Nat → Int} {L : Int} {l : Launch} {K : fxZ} {kr : fxK} {S : fxS} {i : Int} (hI : INV S) (hm : LEQ S) (hi : 0 ≤ i ∧ i < 2147483648) (hL : 0 ≤ L ∧ L < 2147483648)
    (hc : ∀ (j : Int) (S' : fxS), i < j → j ≤ i + 5 → INV S' → LEQ S' → K 18 [some (.inr (.inr (sc, 0))), some (.inr (.inr (0, 0))), some (.inr (.inr (49, 0))), some (.inl j)] [] S') (hr : ∀ (S' : fxS) (_ : True), kr (some (.inl 1)) S') :
    fxLaw sc X L (fC l) fx_rm fxt_316 (13, 552) [(18, [0, 1, 2, 3])] K kr 400 18 [some (.inr (.inr (sc, 0))), some (.inr (.inr (0, 0))), some (.inr (.inr (49, 0))), some (.inl i)] [] S := by
  have m0 : S 2 0 4 = S 49 0 18 := hm
  refine And.intro rfl ?_
  refine And.intro (show -2147483648 ≤ (L - (5 : Int)) ∧ (L - (5 : Int)) < 2147483648 by omega) ?_
  refine And.intro (fun (h1 : ((L - (5 : Int)) < i : Prop)) => ?_) (fun (h1 : (i ≤ (L - (5 : Int)) : Prop)) => ?_)
  ·
    refine And.intro (show 0 ≤ (1 : Int) ∧ (1 : Int) ≤ 1 by omega) ?_
    exact hr _ trivial
  ·
    refine And.intro rfl (And.intro (show 0 ≤ i ∧ i < L by omega) ?_)
    intro z2 (z2a : -2147483648 ≤ z2) (z2b : z2 < 2147483648) (z2c : z2 = X (i).toNat)
    refine And.intro (show (0 : Int) ≤ (31 : Int) by omega) ?_
    intro z3 (z3a : 0 ≤ z3) (z3b : z3 ≤ (31 : Int)) z3d
    refine And.intro (fun (h4 : z3 = (0 : Int)) => ?_) (fun (h4 : z3 ≠ (0 : Int)) => ?_)
    ·
      refine And.intro (show -2147483648 ≤ (i + (1 : Int)) ∧ (i + (1 : Int)) < 2147483648 by omega) ?_
      refine And.intro rfl (And.intro (show 0 ≤ (i + (1 : Int)) ∧ (i + (1 : Int)) < L by omega) ?_)
      intro z5 (z5a : -2147483648 ≤ z5) (z5b : z5 < 2147483648) (z5c : z5 = X ((i + (1 : Int))).toNat)
      refine And.intro (show -2147483648 ≤ (i + (2 : Int)) ∧ (i + (2 : Int)) < 2147483648 by omega) ?_
      refine And.intro rfl (And.intro (show 0 ≤ (i + (2 : Int)) ∧ (i + (2 : Int)) < L by omega) ?_)
      intro z6 (z6a : -2147483648 ≤ z6) (z6b : z6 < 2147483648) (z6c : z6 = X ((i + (2 : Int))).toNat)
      intro z7
      refine And.intro (show -2147483648 ≤ (i + (3 : Int)) ∧ (i + (3 : Int)) < 2147483648 by omega) ?_
      refine And.intro rfl (And.intro (show 0 ≤ (i + (3 : Int)) ∧ (i + (3 : Int)) < L by omega) ?_)
      intro z8 (z8a : -2147483648 ≤ z8) (z8b : z8 < 2147483648) (z8c : z8 = X ((i + (3 : Int))).toNat)
      intro z9
      intro z10
      refine And.intro (show -2147483648 ≤ (i + (4 : Int)) ∧ (i + (4 : Int)) < 2147483648 by omega) ?_
      refine And.intro rfl (And.intro (show 0 ≤ (i + (4 : Int)) ∧ (i + (4 : Int)) < L by omega) ?_)
      intro z11 (z11a : -2147483648 ≤ z11) (z11b : z11 < 2147483648) (z11c : z11 = X ((i + (4 : Int))).toNat)
      refine And.intro (fun (h12 : (z11 = (0 : Int) : Prop)) => ?_) (fun (h12 : (z11 ≠ (0 : Int) : Prop)) => ?_)
      ·
        refine i_StubHouse_make (o := z5) (x := z10) (q := (0 : Int)) (show 0 ≤ (0 : Int) ∧ (0 : Int) ≤ 1 by omega) (show -2147483648 ≤ z5 ∧ z5 < 2147483648 by omega) hI (fun z13 S14 I15  e16 e17 => ?_)
        have m18 : S14 2 0 4 = S 2 0 4 ∧ S14 49 0 18 = S 49 0 18 := ⟨e17.1, e17.2⟩
        refine And.intro (show -2147483648 ≤ (i + (1 : Int)) ∧ (i + (1 : Int)) < 2147483648 by omega) ?_
        refine And.intro rfl (And.intro (show 0 ≤ (i + (1 : Int)) ∧ (i + (1 : Int)) < L by omega) ?_)
        intro z19 (z19a : -2147483648 ≤ z19) (z19b : z19 < 2147483648) (z19c : z19 = X ((i + (1 : Int))).toNat)
        obtain rfl : z5 = z19 := z5c.trans z19c.symm
        refine And.intro (show -2147483648 ≤ (i + (2 : Int)) ∧ (i + (2 : Int)) < 2147483648 by omega) ?_
        refine And.intro rfl (And.intro (show 0 ≤ (i + (2 : Int)) ∧ (i + (2 : Int)) < L by omega) ?_)
        intro z20 (z20a : -2147483648 ≤ z20) (z20b : z20 < 2147483648) (z20c : z20 = X ((i + (2 : Int))).toNat)
        obtain rfl : z6 = z20 := z6c.trans z20c.symm
        intro z21
        refine And.intro (show -2147483648 ≤ (i + (3 : Int)) ∧ (i + (3 : Int)) < 2147483648 by omega) ?_
        refine And.intro rfl (And.intro (show 0 ≤ (i + (3 : Int)) ∧ (i + (3 : Int)) < L by omega) ?_)
        intro z22 (z22a : -2147483648 ≤ z22) (z22b : z22 < 2147483648) (z22c : z22 = X ((i + (3 : Int))).toNat)
        obtain rfl : z8 = z22 := z8c.trans z22c.symm
        intro z23
        intro z24
        refine And.intro (show -2147483648 ≤ (i + (4 : Int)) ∧ (i + (4 : Int)) < 2147483648 by omega) ?_
        refine And.intro rfl (And.intro (show 0 ≤ (i + (4 : Int)) ∧ (i + (4 : Int)) < L by omega) ?_)
        intro z25 (z25a : -2147483648 ≤ z25) (z25b : z25 < 2147483648) (z25c : z25 = X ((i + (4 : Int))).toNat)
        obtain rfl : z11 = z25 := z11c.trans z25c.symm
        refine And.intro (fun (h26 : (z11 = (0 : Int) : Prop)) => ?_) (fun (h26 : (z11 ≠ (0 : Int) : Prop)) => ?_)
        ·
          refine i_StubHouseModel_make (o := z5) (x := z24) (q := (0 : Int)) (show 0 ≤ (0 : Int) ∧ (0 : Int) ≤ 1 by omega) (show -2147483648 ≤ z5 ∧ z5 < 2147483648 by omega) I15 (fun z27 S28 I29  e30 e31 => ?_)
          have m32 : S28 2 0 4 = S14 2 0 4 ∧ S28 49 0 18 = S14 49 0 18 := ⟨e31.1, e31.2⟩
          refine And.intro (by decide) (And.intro (show -2147483648 ≤ i + (5 : Int) ∧ i + (5 : Int) < 2147483648 by omega) ?_)
          exact hc (i + (5 : Int)) S28 (by omega) (by omega) I29 (show _ = _ by omega)
        ·
          refine i_StubHouseModel_make (o := z5) (x := z24) (q := (1 : Int)) (show 0 ≤ (1 : Int) ∧ (1 : Int) ≤ 1 by omega) (show -2147483648 ≤ z5 ∧ z5 < 2147483648 by omega) I15 (fun z34 S35 I36  e37 e38 => ?_)
          have m39 : S35 2 0 4 = S14 2 0 4 ∧ S35 49 0 18 = S14 49 0 18 := ⟨e38.1, e38.2⟩
          refine And.intro (by decide) (And.intro (show -2147483648 ≤ i + (5 : Int) ∧ i + (5 : Int) < 2147483648 by omega) ?_)
          exact hc (i + (5 : Int)) S35 (by omega) (by omega) I36 (show _ = _ by omega)
      ·
        refine i_StubHouse_make (o := z5) (x := z10) (q := (1 : Int)) (show 0 ≤ (1 : Int) ∧ (1 : Int) ≤ 1 by omega) (show -2147483648 ≤ z5 ∧ z5 < 2147483648 by omega) hI (fun z41 S42 I43  e44 e45 => ?_)
        have m46 : S42 2 0 4 = S 2 0 4 ∧ S42 49 0 18 = S 49 0 18 := ⟨e45.1, e45.2⟩
        refine And.intro (show -2147483648 ≤ (i + (1 : Int)) ∧ (i + (1 : Int)) < 2147483648 by omega) ?_
        refine And.intro rfl (And.intro (show 0 ≤ (i + (1 : Int)) ∧ (i + (1 : Int)) < L by omega) ?_)
        intro z47 (z47a : -2147483648 ≤ z47) (z47b : z47 < 2147483648) (z47c : z47 = X ((i + (1 : Int))).toNat)
        obtain rfl : z5 = z47 := z5c.trans z47c.symm
        refine And.intro (show -2147483648 ≤ (i + (2 : Int)) ∧ (i + (2 : Int)) < 2147483648 by omega) ?_
        refine And.intro rfl (And.intro (show 0 ≤ (i + (2 : Int)) ∧ (i + (2 : Int)) < L by omega) ?_)
        intro z48 (z48a : -2147483648 ≤ z48) (z48b : z48 < 2147483648) (z48c : z48 = X ((i + (2 : Int))).toNat)
        obtain rfl : z6 = z48 := z6c.trans z48c.symm
        intro z49
        refine And.intro (show -2147483648 ≤ (i + (3 : Int)) ∧ (i + (3 : Int)) < 2147483648 by omega) ?_
        refine And.intro rfl (And.intro (show 0 ≤ (i + (3 : Int)) ∧ (i + (3 : Int)) < L by omega) ?_)
        intro z50 (z50a : -2147483648 ≤ z50) (z50b : z50 < 2147483648) (z50c : z50 = X ((i + (3 : Int))).toNat)
        obtain rfl : z8 = z50 := z8c.trans z50c.symm
        intro z51
        intro z52
        refine And.intro (show -2147483648 ≤ (i + (4 : Int)) ∧ (i + (4 : Int)) < 2147483648 by omega) ?_
        refine And.intro rfl (And.intro (show 0 ≤ (i + (4 : Int)) ∧ (i + (4 : Int)) < L by omega) ?_)
        intro z53 (z53a : -2147483648 ≤ z53) (z53b : z53 < 2147483648) (z53c : z53 = X ((i + (4 : Int))).toNat)
        obtain rfl : z11 = z53 := z11c.trans z53c.symm
        refine And.intro (fun (h54 : (z11 = (0 : Int) : Prop)) => ?_) (fun (h54 : (z11 ≠ (0 : Int) : Prop)) => ?_)
        ·
          refine i_StubHouseModel_make (o := z5) (x := z52) (q := (0 : Int)) (show 0 ≤ (0 : Int) ∧ (0 : Int) ≤ 1 by omega) (show -2147483648 ≤ z5 ∧ z5 < 2147483648 by omega) I43 (fun z55 S56 I57  e58 e59 => ?_)
          have m60 : S56 2 0 4 = S42 2 0 4 ∧ S56 49 0 18 = S42 49 0 18 := ⟨e59.1, e59.2⟩
          refine And.intro (by decide) (And.intro (show -2147483648 ≤ i + (5 : Int) ∧ i + (5 : Int) < 2147483648 by omega) ?_)
          exact hc (i + (5 : Int)) S56 (by omega) (by omega) I57 (show _ = _ by omega)
        ·
          refine i_StubHouseModel_make (o := z5) (x := z52) (q := (1 : Int)) (show 0 ≤ (1 : Int) ∧ (1 : Int) ≤ 1 by omega) (show -2147483648 ≤ z5 ∧ z5 < 2147483648 by omega) I43 (fun z62 S63 I64  e65 e66 => ?_)
          have m67 : S63 2 0 4 = S42 2 0 4 ∧ S63 49 0 18 = S42 49 0 18 := ⟨e66.1, e66.2⟩
          refine And.intro (by decide) (And.intro (show -2147483648 ≤ i + (5 : Int) ∧ i + (5 : Int) < 2147483648 by omega) ?_)
          exact hc (i + (5 : Int)) S63 (by omega) (by omega) I64 (show _ = _ by omega)
    refine And.intro (fun (h69 : z3 = (1 : Int)) => ?_) (fun (h69 : z3 ≠ (1 : Int)) => ?_)
    ·
      refine And.intro (show -2147483648 ≤ (i + (1 : Int)) ∧ (i + (1 : Int)) < 2147483648 by omega) ?_
      refine And.intro rfl (And.intro (show 0 ≤ (i + (1 : Int)) ∧ (i + (1 : Int)) < L by omega) ?_)
      intro z70 (z70a : -2147483648 ≤ z70) (z70b : z70 < 2147483648) (z70c : z70 = X ((i + (1 : Int))).toNat)
      refine And.intro (show -2147483648 ≤ (i + (2 : Int)) ∧ (i + (2 : Int)) < 2147483648 by omega) ?_
      refine And.intro rfl (And.intro (show 0 ≤ (i + (2 : Int)) ∧ (i + (2 : Int)) < L by omega) ?_)
      intro z71 (z71a : -2147483648 ≤ z71) (z71b : z71 < 2147483648) (z71c : z71 = X ((i + (2 : Int))).toNat)
      intro z72
      refine And.intro (show -2147483648 ≤ (i + (3 : Int)) ∧ (i + (3 : Int)) < 2147483648 by omega) ?_
      refine And.intro rfl (And.intro (show 0 ≤ (i + (3 : Int)) ∧ (i + (3 : Int)) < L by omega) ?_)
      intro z73 (z73a : -2147483648 ≤ z73) (z73b : z73 < 2147483648) (z73c : z73 = X ((i + (3 : Int))).toNat)
      intro z74
      intro z75
      refine i_StubHouse_find (o := z70) (x := z75) (show -2147483648 ≤ z70 ∧ z70 < 2147483648 by omega) hI (fun z76 S77 I78  e79 e80 => ?_)
      have m81 : S77 2 0 4 = S 2 0 4 ∧ S77 49 0 18 = S 49 0 18 := ⟨e80.1, e80.2⟩
      refine And.intro (show -2147483648 ≤ (i + (1 : Int)) ∧ (i + (1 : Int)) < 2147483648 by omega) ?_
      refine And.intro rfl (And.intro (show 0 ≤ (i + (1 : Int)) ∧ (i + (1 : Int)) < L by omega) ?_)
      intro z82 (z82a : -2147483648 ≤ z82) (z82b : z82 < 2147483648) (z82c : z82 = X ((i + (1 : Int))).toNat)
      obtain rfl : z70 = z82 := z70c.trans z82c.symm
      refine And.intro (show -2147483648 ≤ (i + (2 : Int)) ∧ (i + (2 : Int)) < 2147483648 by omega) ?_
      refine And.intro rfl (And.intro (show 0 ≤ (i + (2 : Int)) ∧ (i + (2 : Int)) < L by omega) ?_)
      intro z83 (z83a : -2147483648 ≤ z83) (z83b : z83 < 2147483648) (z83c : z83 = X ((i + (2 : Int))).toNat)
      obtain rfl : z71 = z83 := z71c.trans z83c.symm
      intro z84
      refine And.intro (show -2147483648 ≤ (i + (3 : Int)) ∧ (i + (3 : Int)) < 2147483648 by omega) ?_
      refine And.intro rfl (And.intro (show 0 ≤ (i + (3 : Int)) ∧ (i + (3 : Int)) < L by omega) ?_)
      intro z85 (z85a : -2147483648 ≤ z85) (z85b : z85 < 2147483648) (z85c : z85 = X ((i + (3 : Int))).toNat)
      obtain rfl : z73 = z85 := z73c.trans z85c.symm
      intro z86
      intro z87
      refine i_StubHouseModel_find (o := z70) (x := z87) (show -2147483648 ≤ z70 ∧ z70 < 2147483648 by omega) I78 (fun z88 S89 I90  e91 e92 => ?_)
      have m93 : S89 2 0 4 = S77 2 0 4 ∧ S89 49 0 18 = S77 49 0 18 := ⟨e92.1, e92.2⟩
      refine And.intro (by decide) (And.intro (show -2147483648 ≤ i + (5 : Int) ∧ i + (5 : Int) < 2147483648 by omega) ?_)
      exact hc (i + (5 : Int)) S89 (by omega) (by omega) I90 (show _ = _ by omega)
    refine And.intro (fun (h95 : z3 = (2 : Int)) => ?_) (fun (h95 : z3 ≠ (2 : Int)) => ?_)
    ·
      refine And.intro (show -2147483648 ≤ (i + (1 : Int)) ∧ (i + (1 : Int)) < 2147483648 by omega) ?_
      refine And.intro rfl (And.intro (show 0 ≤ (i + (1 : Int)) ∧ (i + (1 : Int)) < L by omega) ?_)
      intro z96 (z96a : -2147483648 ≤ z96) (z96b : z96 < 2147483648) (z96c : z96 = X ((i + (1 : Int))).toNat)
      refine i_StubHouse_remove (n := z96) (show -2147483648 ≤ z96 ∧ z96 < 2147483648 by omega) hI (fun z97 S98 I99  e100 e101 => ?_)
      have m102 : S98 2 0 4 = S 2 0 4 ∧ S98 49 0 18 = S 49 0 18 := ⟨e101.1, e101.2⟩
      refine And.intro (show -2147483648 ≤ (i + (1 : Int)) ∧ (i + (1 : Int)) < 2147483648 by omega) ?_
      refine And.intro rfl (And.intro (show 0 ≤ (i + (1 : Int)) ∧ (i + (1 : Int)) < L by omega) ?_)
      intro z103 (z103a : -2147483648 ≤ z103) (z103b : z103 < 2147483648) (z103c : z103 = X ((i + (1 : Int))).toNat)
      obtain rfl : z96 = z103 := z96c.trans z103c.symm
      refine i_StubHouseModel_remove (n := z96) (show -2147483648 ≤ z96 ∧ z96 < 2147483648 by omega) I99 (fun z104 S105 I106  e107 e108 => ?_)
      have m109 : S105 2 0 4 = S98 2 0 4 ∧ S105 49 0 18 = S98 49 0 18 := ⟨e108.1, e108.2⟩
      refine And.intro (by decide) (And.intro (show -2147483648 ≤ i + (5 : Int) ∧ i + (5 : Int) < 2147483648 by omega) ?_)
      exact hc (i + (5 : Int)) S105 (by omega) (by omega) I106 (show _ = _ by omega)
    refine And.intro (fun (h111 : z3 = (3 : Int)) => ?_) (fun (h111 : z3 ≠ (3 : Int)) => ?_)
    ·
      refine And.intro (show -2147483648 ≤ (i + (1 : Int)) ∧ (i + (1 : Int)) < 2147483648 by omega) ?_
      refine And.intro rfl (And.intro (show 0 ≤ (i + (1 : Int)) ∧ (i + (1 : Int)) < L by omega) ?_)
      intro z112 (z112a : -2147483648 ≤ z112) (z112b : z112 < 2147483648) (z112c : z112 = X ((i + (1 : Int))).toNat)
      refine And.intro (show -2147483648 ≤ (i + (2 : Int)) ∧ (i + (2 : Int)) < 2147483648 by omega) ?_
      refine And.intro rfl (And.intro (show 0 ≤ (i + (2 : Int)) ∧ (i + (2 : Int)) < L by omega) ?_)
      intro z113 (z113a : -2147483648 ≤ z113) (z113b : z113 < 2147483648) (z113c : z113 = X ((i + (2 : Int))).toNat)
      refine And.intro (show -2147483648 ≤ (i + (3 : Int)) ∧ (i + (3 : Int)) < 2147483648 by omega) ?_
      refine And.intro rfl (And.intro (show 0 ≤ (i + (3 : Int)) ∧ (i + (3 : Int)) < L by omega) ?_)
      intro z114 (z114a : -2147483648 ≤ z114) (z114b : z114 < 2147483648) (z114c : z114 = X ((i + (3 : Int))).toNat)
      intro z115
      refine And.intro (show -2147483648 ≤ (i + (4 : Int)) ∧ (i + (4 : Int)) < 2147483648 by omega) ?_
      refine And.intro rfl (And.intro (show 0 ≤ (i + (4 : Int)) ∧ (i + (4 : Int)) < L by omega) ?_)
      intro z116 (z116a : -2147483648 ≤ z116) (z116b : z116 < 2147483648) (z116c : z116 = X ((i + (4 : Int))).toNat)
      intro z117
      intro z118
      refine i_StubHouse_move (n := z112) (o := z113) (x := z118) (show -2147483648 ≤ z112 ∧ z112 < 2147483648 by omega) (show -2147483648 ≤ z113 ∧ z113 < 2147483648 by omega) hI (fun z119 S120 I121  e122 e123 => ?_)
      have m124 : S120 2 0 4 = S 2 0 4 ∧ S120 49 0 18 = S 49 0 18 := ⟨e123.1, e123.2⟩
      refine And.intro (show -2147483648 ≤ (i + (1 : Int)) ∧ (i + (1 : Int)) < 2147483648 by omega) ?_
      refine And.intro rfl (And.intro (show 0 ≤ (i + (1 : Int)) ∧ (i + (1 : Int)) < L by omega) ?_)
      intro z125 (z125a : -2147483648 ≤ z125) (z125b : z125 < 2147483648) (z125c : z125 = X ((i + (1 : Int))).toNat)
      obtain rfl : z112 = z125 := z112c.trans z125c.symm
      refine And.intro (show -2147483648 ≤ (i + (2 : Int)) ∧ (i + (2 : Int)) < 2147483648 by omega) ?_
      refine And.intro rfl (And.intro (show 0 ≤ (i + (2 : Int)) ∧ (i + (2 : Int)) < L by omega) ?_)
      intro z126 (z126a : -2147483648 ≤ z126) (z126b : z126 < 2147483648) (z126c : z126 = X ((i + (2 : Int))).toNat)
      obtain rfl : z113 = z126 := z113c.trans z126c.symm
      refine And.intro (show -2147483648 ≤ (i + (3 : Int)) ∧ (i + (3 : Int)) < 2147483648 by omega) ?_
      refine And.intro rfl (And.intro (show 0 ≤ (i + (3 : Int)) ∧ (i + (3 : Int)) < L by omega) ?_)
      intro z127 (z127a : -2147483648 ≤ z127) (z127b : z127 < 2147483648) (z127c : z127 = X ((i + (3 : Int))).toNat)
      obtain rfl : z114 = z127 := z114c.trans z127c.symm
      intro z128
      refine And.intro (show -2147483648 ≤ (i + (4 : Int)) ∧ (i + (4 : Int)) < 2147483648 by omega) ?_
      refine And.intro rfl (And.intro (show 0 ≤ (i + (4 : Int)) ∧ (i + (4 : Int)) < L by omega) ?_)
      intro z129 (z129a : -2147483648 ≤ z129) (z129b : z129 < 2147483648) (z129c : z129 = X ((i + (4 : Int))).toNat)
      obtain rfl : z116 = z129 := z116c.trans z129c.symm
      intro z130
      intro z131
      refine i_StubHouseModel_move (n := z112) (o := z113) (x := z131) (show -2147483648 ≤ z112 ∧ z112 < 2147483648 by omega) (show -2147483648 ≤ z113 ∧ z113 < 2147483648 by omega) I121 (fun z132 S133 I134  e135 e136 => ?_)
      have m137 : S133 2 0 4 = S120 2 0 4 ∧ S133 49 0 18 = S120 49 0 18 := ⟨e136.1, e136.2⟩
      refine And.intro (by decide) (And.intro (show -2147483648 ≤ i + (5 : Int) ∧ i + (5 : Int) < 2147483648 by omega) ?_)
      exact hc (i + (5 : Int)) S133 (by omega) (by omega) I134 (show _ = _ by omega)
    refine And.intro (fun (h139 : z3 = (4 : Int)) => ?_) (fun (h139 : z3 ≠ (4 : Int)) => ?_)
    ·
      refine And.intro (show -2147483648 ≤ (i + (1 : Int)) ∧ (i + (1 : Int)) < 2147483648 by omega) ?_
      refine And.intro rfl (And.intro (show 0 ≤ (i + (1 : Int)) ∧ (i + (1 : Int)) < L by omega) ?_)
      intro z140 (z140a : -2147483648 ≤ z140) (z140b : z140 < 2147483648) (z140c : z140 = X ((i + (1 : Int))).toNat)
      refine And.intro (show -2147483648 ≤ (i + (2 : Int)) ∧ (i + (2 : Int)) < 2147483648 by omega) ?_
      refine And.intro rfl (And.intro (show 0 ≤ (i + (2 : Int)) ∧ (i + (2 : Int)) < L by omega) ?_)
      intro z141 (z141a : -2147483648 ≤ z141) (z141b : z141 < 2147483648) (z141c : z141 = X ((i + (2 : Int))).toNat)
      intro z142
      refine And.intro (show -2147483648 ≤ (i + (3 : Int)) ∧ (i + (3 : Int)) < 2147483648 by omega) ?_
      refine And.intro rfl (And.intro (show 0 ≤ (i + (3 : Int)) ∧ (i + (3 : Int)) < L by omega) ?_)
      intro z143 (z143a : -2147483648 ≤ z143) (z143b : z143 < 2147483648) (z143c : z143 = X ((i + (3 : Int))).toNat)
      intro z144
      intro z145
      refine i_StubHouse_feed (n := z140) (x := z145) (show -2147483648 ≤ z140 ∧ z140 < 2147483648 by omega) hI (fun z146 S147 I148  e149 e150 => ?_)
      have m151 : S147 2 0 4 = S 2 0 4 ∧ S147 49 0 18 = S 49 0 18 := ⟨e150.1, e150.2⟩
      refine And.intro (show -2147483648 ≤ (i + (1 : Int)) ∧ (i + (1 : Int)) < 2147483648 by omega) ?_
      refine And.intro rfl (And.intro (show 0 ≤ (i + (1 : Int)) ∧ (i + (1 : Int)) < L by omega) ?_)
      intro z152 (z152a : -2147483648 ≤ z152) (z152b : z152 < 2147483648) (z152c : z152 = X ((i + (1 : Int))).toNat)
      obtain rfl : z140 = z152 := z140c.trans z152c.symm
      refine And.intro (show -2147483648 ≤ (i + (2 : Int)) ∧ (i + (2 : Int)) < 2147483648 by omega) ?_
      refine And.intro rfl (And.intro (show 0 ≤ (i + (2 : Int)) ∧ (i + (2 : Int)) < L by omega) ?_)
      intro z153 (z153a : -2147483648 ≤ z153) (z153b : z153 < 2147483648) (z153c : z153 = X ((i + (2 : Int))).toNat)
      obtain rfl : z141 = z153 := z141c.trans z153c.symm
      intro z154
      refine And.intro (show -2147483648 ≤ (i + (3 : Int)) ∧ (i + (3 : Int)) < 2147483648 by omega) ?_
      refine And.intro rfl (And.intro (show 0 ≤ (i + (3 : Int)) ∧ (i + (3 : Int)) < L by omega) ?_)
      intro z155 (z155a : -2147483648 ≤ z155) (z155b : z155 < 2147483648) (z155c : z155 = X ((i + (3 : Int))).toNat)
      obtain rfl : z143 = z155 := z143c.trans z155c.symm
      intro z156
      intro z157
      refine i_StubHouseModel_feed (n := z140) (x := z157) (show -2147483648 ≤ z140 ∧ z140 < 2147483648 by omega) I148 (fun z158 S159 I160  e161 e162 => ?_)
      have m163 : S159 2 0 4 = S147 2 0 4 ∧ S159 49 0 18 = S147 49 0 18 := ⟨e162.1, e162.2⟩
      refine And.intro (by decide) (And.intro (show -2147483648 ≤ i + (5 : Int) ∧ i + (5 : Int) < 2147483648 by omega) ?_)
      exact hc (i + (5 : Int)) S159 (by omega) (by omega) I160 (show _ = _ by omega)
    refine And.intro (fun (h165 : z3 = (5 : Int)) => ?_) (fun (h165 : z3 ≠ (5 : Int)) => ?_)
    ·
      refine And.intro (show -2147483648 ≤ (i + (1 : Int)) ∧ (i + (1 : Int)) < 2147483648 by omega) ?_
      refine And.intro rfl (And.intro (show 0 ≤ (i + (1 : Int)) ∧ (i + (1 : Int)) < L by omega) ?_)
      intro z166 (z166a : -2147483648 ≤ z166) (z166b : z166 < 2147483648) (z166c : z166 = X ((i + (1 : Int))).toNat)
      refine And.intro (show -2147483648 ≤ (i + (2 : Int)) ∧ (i + (2 : Int)) < 2147483648 by omega) ?_
      refine And.intro rfl (And.intro (show 0 ≤ (i + (2 : Int)) ∧ (i + (2 : Int)) < L by omega) ?_)
      intro z167 (z167a : -2147483648 ≤ z167) (z167b : z167 < 2147483648) (z167c : z167 = X ((i + (2 : Int))).toNat)
      refine i_StubHouse_fill (n := z166) (v := z167) (show -2147483648 ≤ z166 ∧ z166 < 2147483648 by omega) (show -2147483648 ≤ z167 ∧ z167 < 2147483648 by omega) hI (fun z168 S169 I170  e171 e172 => ?_)
      have m173 : S169 2 0 4 = S 2 0 4 ∧ S169 49 0 18 = S 49 0 18 := ⟨e172.1, e172.2⟩
      refine And.intro (show -2147483648 ≤ (i + (1 : Int)) ∧ (i + (1 : Int)) < 2147483648 by omega) ?_
      refine And.intro rfl (And.intro (show 0 ≤ (i + (1 : Int)) ∧ (i + (1 : Int)) < L by omega) ?_)
      intro z174 (z174a : -2147483648 ≤ z174) (z174b : z174 < 2147483648) (z174c : z174 = X ((i + (1 : Int))).toNat)
      obtain rfl : z166 = z174 := z166c.trans z174c.symm
      refine And.intro (show -2147483648 ≤ (i + (2 : Int)) ∧ (i + (2 : Int)) < 2147483648 by omega) ?_
      refine And.intro rfl (And.intro (show 0 ≤ (i + (2 : Int)) ∧ (i + (2 : Int)) < L by omega) ?_)
      intro z175 (z175a : -2147483648 ≤ z175) (z175b : z175 < 2147483648) (z175c : z175 = X ((i + (2 : Int))).toNat)
      obtain rfl : z167 = z175 := z167c.trans z175c.symm
      refine i_StubHouseModel_fill (n := z166) (v := z167) (show -2147483648 ≤ z166 ∧ z166 < 2147483648 by omega) (show -2147483648 ≤ z167 ∧ z167 < 2147483648 by omega) I170 (fun z176 S177 I178  e179 e180 => ?_)
      have m181 : S177 2 0 4 = S169 2 0 4 ∧ S177 49 0 18 = S169 49 0 18 := ⟨e180.1, e180.2⟩
      refine And.intro (by decide) (And.intro (show -2147483648 ≤ i + (5 : Int) ∧ i + (5 : Int) < 2147483648 by omega) ?_)
      exact hc (i + (5 : Int)) S177 (by omega) (by omega) I178 (show _ = _ by omega)
    refine And.intro (fun (h183 : z3 = (6 : Int)) => ?_) (fun (h183 : z3 ≠ (6 : Int)) => ?_)
    ·
      refine And.intro (show -2147483648 ≤ (i + (1 : Int)) ∧ (i + (1 : Int)) < 2147483648 by omega) ?_
      refine And.intro rfl (And.intro (show 0 ≤ (i + (1 : Int)) ∧ (i + (1 : Int)) < L by omega) ?_)
      intro z184 (z184a : -2147483648 ≤ z184) (z184b : z184 < 2147483648) (z184c : z184 = X ((i + (1 : Int))).toNat)
      refine And.intro (show -2147483648 ≤ (i + (2 : Int)) ∧ (i + (2 : Int)) < 2147483648 by omega) ?_
      refine And.intro rfl (And.intro (show 0 ≤ (i + (2 : Int)) ∧ (i + (2 : Int)) < L by omega) ?_)
      intro z185 (z185a : -2147483648 ≤ z185) (z185b : z185 < 2147483648) (z185c : z185 = X ((i + (2 : Int))).toNat)
      refine i_StubHouse_write (n := z184) (p := z185) (show -2147483648 ≤ z184 ∧ z184 < 2147483648 by omega) (show -2147483648 ≤ z185 ∧ z185 < 2147483648 by omega) hI (fun z186 S187 I188  e189 e190 => ?_)
      have m191 : S187 2 0 4 = S 2 0 4 ∧ S187 49 0 18 = S 49 0 18 := ⟨e190.1, e190.2⟩
      refine And.intro (show -2147483648 ≤ (i + (1 : Int)) ∧ (i + (1 : Int)) < 2147483648 by omega) ?_
      refine And.intro rfl (And.intro (show 0 ≤ (i + (1 : Int)) ∧ (i + (1 : Int)) < L by omega) ?_)
      intro z192 (z192a : -2147483648 ≤ z192) (z192b : z192 < 2147483648) (z192c : z192 = X ((i + (1 : Int))).toNat)
      obtain rfl : z184 = z192 := z184c.trans z192c.symm
      refine And.intro (show -2147483648 ≤ (i + (2 : Int)) ∧ (i + (2 : Int)) < 2147483648 by omega) ?_
      refine And.intro rfl (And.intro (show 0 ≤ (i + (2 : Int)) ∧ (i + (2 : Int)) < L by omega) ?_)
      intro z193 (z193a : -2147483648 ≤ z193) (z193b : z193 < 2147483648) (z193c : z193 = X ((i + (2 : Int))).toNat)
      obtain rfl : z185 = z193 := z185c.trans z193c.symm
      refine i_StubHouseModel_write (f := z184) (p := z185) (show -2147483648 ≤ z184 ∧ z184 < 2147483648 by omega) (show -2147483648 ≤ z185 ∧ z185 < 2147483648 by omega) I188 (fun z194 S195 I196  e197 e198 => ?_)
      have m199 : S195 2 0 4 = S187 2 0 4 ∧ S195 49 0 18 = S187 49 0 18 := ⟨e198.1, e198.2⟩
      refine And.intro (by decide) (And.intro (show -2147483648 ≤ i + (5 : Int) ∧ i + (5 : Int) < 2147483648 by omega) ?_)
      exact hc (i + (5 : Int)) S195 (by omega) (by omega) I196 (show _ = _ by omega)
    refine And.intro (fun (h201 : z3 = (7 : Int)) => ?_) (fun (h201 : z3 ≠ (7 : Int)) => ?_)
    ·
      refine And.intro (show -2147483648 ≤ (i + (1 : Int)) ∧ (i + (1 : Int)) < 2147483648 by omega) ?_
      refine And.intro rfl (And.intro (show 0 ≤ (i + (1 : Int)) ∧ (i + (1 : Int)) < L by omega) ?_)
      intro z202 (z202a : -2147483648 ≤ z202) (z202b : z202 < 2147483648) (z202c : z202 = X ((i + (1 : Int))).toNat)
      refine And.intro (show -2147483648 ≤ (i + (2 : Int)) ∧ (i + (2 : Int)) < 2147483648 by omega) ?_
      refine And.intro rfl (And.intro (show 0 ≤ (i + (2 : Int)) ∧ (i + (2 : Int)) < L by omega) ?_)
      intro z203 (z203a : -2147483648 ≤ z203) (z203b : z203 < 2147483648) (z203c : z203 = X ((i + (2 : Int))).toNat)
      refine i_StubHouse_cut (n := z202) (z := z203) (show -2147483648 ≤ z202 ∧ z202 < 2147483648 by omega) (show -2147483648 ≤ z203 ∧ z203 < 2147483648 by omega) hI (fun z204 S205 I206  e207 e208 => ?_)
      have m209 : S205 2 0 4 = S 2 0 4 ∧ S205 49 0 18 = S 49 0 18 := ⟨e208.1, e208.2⟩
      refine And.intro (show -2147483648 ≤ (i + (1 : Int)) ∧ (i + (1 : Int)) < 2147483648 by omega) ?_
      refine And.intro rfl (And.intro (show 0 ≤ (i + (1 : Int)) ∧ (i + (1 : Int)) < L by omega) ?_)
      intro z210 (z210a : -2147483648 ≤ z210) (z210b : z210 < 2147483648) (z210c : z210 = X ((i + (1 : Int))).toNat)
      obtain rfl : z202 = z210 := z202c.trans z210c.symm
      refine And.intro (show -2147483648 ≤ (i + (2 : Int)) ∧ (i + (2 : Int)) < 2147483648 by omega) ?_
      refine And.intro rfl (And.intro (show 0 ≤ (i + (2 : Int)) ∧ (i + (2 : Int)) < L by omega) ?_)
      intro z211 (z211a : -2147483648 ≤ z211) (z211b : z211 < 2147483648) (z211c : z211 = X ((i + (2 : Int))).toNat)
      obtain rfl : z203 = z211 := z203c.trans z211c.symm
      refine i_StubHouseModel_cut (f := z202) (z := z203) (show -2147483648 ≤ z202 ∧ z202 < 2147483648 by omega) (show -2147483648 ≤ z203 ∧ z203 < 2147483648 by omega) I206 (fun z212 S213 I214  e215 e216 => ?_)
      have m217 : S213 2 0 4 = S205 2 0 4 ∧ S213 49 0 18 = S205 49 0 18 := ⟨e216.1, e216.2⟩
      refine And.intro (by decide) (And.intro (show -2147483648 ≤ i + (5 : Int) ∧ i + (5 : Int) < 2147483648 by omega) ?_)
      exact hc (i + (5 : Int)) S213 (by omega) (by omega) I214 (show _ = _ by omega)
    refine And.intro (fun (h219 : z3 = (8 : Int)) => ?_) (fun (h219 : z3 ≠ (8 : Int)) => ?_)
    ·
      refine And.intro (show -2147483648 ≤ (i + (1 : Int)) ∧ (i + (1 : Int)) < 2147483648 by omega) ?_
      refine And.intro rfl (And.intro (show 0 ≤ (i + (1 : Int)) ∧ (i + (1 : Int)) < L by omega) ?_)
      intro z220 (z220a : -2147483648 ≤ z220) (z220b : z220 < 2147483648) (z220c : z220 = X ((i + (1 : Int))).toNat)
      refine And.intro (show -2147483648 ≤ (i + (2 : Int)) ∧ (i + (2 : Int)) < 2147483648 by omega) ?_
      refine And.intro rfl (And.intro (show 0 ≤ (i + (2 : Int)) ∧ (i + (2 : Int)) < L by omega) ?_)
      intro z221 (z221a : -2147483648 ≤ z221) (z221b : z221 < 2147483648) (z221c : z221 = X ((i + (2 : Int))).toNat)
      refine i_StubHouse_read (n := z220) (p := z221) (show -2147483648 ≤ z220 ∧ z220 < 2147483648 by omega) (show -2147483648 ≤ z221 ∧ z221 < 2147483648 by omega) hI (fun z222 S223 I224  e225 e226 => ?_)
      have m227 : S223 2 0 4 = S 2 0 4 ∧ S223 49 0 18 = S 49 0 18 := ⟨e226.1, e226.2⟩
      refine And.intro (show -2147483648 ≤ (i + (1 : Int)) ∧ (i + (1 : Int)) < 2147483648 by omega) ?_
      refine And.intro rfl (And.intro (show 0 ≤ (i + (1 : Int)) ∧ (i + (1 : Int)) < L by omega) ?_)
      intro z228 (z228a : -2147483648 ≤ z228) (z228b : z228 < 2147483648) (z228c : z228 = X ((i + (1 : Int))).toNat)
      obtain rfl : z220 = z228 := z220c.trans z228c.symm
      refine And.intro (show -2147483648 ≤ (i + (2 : Int)) ∧ (i + (2 : Int)) < 2147483648 by omega) ?_
      refine And.intro rfl (And.intro (show 0 ≤ (i + (2 : Int)) ∧ (i + (2 : Int)) < L by omega) ?_)
      intro z229 (z229a : -2147483648 ≤ z229) (z229b : z229 < 2147483648) (z229c : z229 = X ((i + (2 : Int))).toNat)
      obtain rfl : z221 = z229 := z221c.trans z229c.symm
      refine i_StubHouseModel_read (f := z220) (p := z221) (show -2147483648 ≤ z220 ∧ z220 < 2147483648 by omega) (show -2147483648 ≤ z221 ∧ z221 < 2147483648 by omega) I224 (fun z230 S231 I232  e233 e234 => ?_)
      have m235 : S231 2 0 4 = S223 2 0 4 ∧ S231 49 0 18 = S223 49 0 18 := ⟨e234.1, e234.2⟩
      refine And.intro (by decide) (And.intro (show -2147483648 ≤ i + (5 : Int) ∧ i + (5 : Int) < 2147483648 by omega) ?_)
      exact hc (i + (5 : Int)) S231 (by omega) (by omega) I232 (show _ = _ by omega)
    refine And.intro (fun (h237 : z3 = (9 : Int)) => ?_) (fun (h237 : z3 ≠ (9 : Int)) => ?_)
    ·
      refine And.intro (show -2147483648 ≤ (i + (1 : Int)) ∧ (i + (1 : Int)) < 2147483648 by omega) ?_
      refine And.intro rfl (And.intro (show 0 ≤ (i + (1 : Int)) ∧ (i + (1 : Int)) < L by omega) ?_)
      intro z238 (z238a : -2147483648 ≤ z238) (z238b : z238 < 2147483648) (z238c : z238 = X ((i + (1 : Int))).toNat)
      refine And.intro (show -2147483648 ≤ (i + (2 : Int)) ∧ (i + (2 : Int)) < 2147483648 by omega) ?_
      refine And.intro rfl (And.intro (show 0 ≤ (i + (2 : Int)) ∧ (i + (2 : Int)) < L by omega) ?_)
      intro z239 (z239a : -2147483648 ≤ z239) (z239b : z239 < 2147483648) (z239c : z239 = X ((i + (2 : Int))).toNat)
      refine i_StubHouse_about (n := z238) (w := z239) (show -2147483648 ≤ z238 ∧ z238 < 2147483648 by omega) (show -2147483648 ≤ z239 ∧ z239 < 2147483648 by omega) hI (fun z240 S241 I242  e243 e244 => ?_)
      have m245 : S241 2 0 4 = S 2 0 4 ∧ S241 49 0 18 = S 49 0 18 := ⟨e244.1, e244.2⟩
      refine And.intro (show -2147483648 ≤ (i + (1 : Int)) ∧ (i + (1 : Int)) < 2147483648 by omega) ?_
      refine And.intro rfl (And.intro (show 0 ≤ (i + (1 : Int)) ∧ (i + (1 : Int)) < L by omega) ?_)
      intro z246 (z246a : -2147483648 ≤ z246) (z246b : z246 < 2147483648) (z246c : z246 = X ((i + (1 : Int))).toNat)
      obtain rfl : z238 = z246 := z238c.trans z246c.symm
      refine And.intro (show -2147483648 ≤ (i + (2 : Int)) ∧ (i + (2 : Int)) < 2147483648 by omega) ?_
      refine And.intro rfl (And.intro (show 0 ≤ (i + (2 : Int)) ∧ (i + (2 : Int)) < L by omega) ?_)
      intro z247 (z247a : -2147483648 ≤ z247) (z247b : z247 < 2147483648) (z247c : z247 = X ((i + (2 : Int))).toNat)
      obtain rfl : z239 = z247 := z239c.trans z247c.symm
      refine i_StubHouseModel_about (n := z238) (w := z239) (show -2147483648 ≤ z238 ∧ z238 < 2147483648 by omega) (show -2147483648 ≤ z239 ∧ z239 < 2147483648 by omega) I242 (fun z248 S249 I250  e251 e252 => ?_)
      have m253 : S249 2 0 4 = S241 2 0 4 ∧ S249 49 0 18 = S241 49 0 18 := ⟨e252.1, e252.2⟩
      refine And.intro (by decide) (And.intro (show -2147483648 ≤ i + (5 : Int) ∧ i + (5 : Int) < 2147483648 by omega) ?_)
      exact hc (i + (5 : Int)) S249 (by omega) (by omega) I250 (show _ = _ by omega)
    refine And.intro (fun (h255 : z3 = (10 : Int)) => ?_) (fun (h255 : z3 ≠ (10 : Int)) => ?_)
    ·
      refine And.intro (show -2147483648 ≤ (i + (1 : Int)) ∧ (i + (1 : Int)) < 2147483648 by omega) ?_
      refine And.intro rfl (And.intro (show 0 ≤ (i + (1 : Int)) ∧ (i + (1 : Int)) < L by omega) ?_)
      intro z256 (z256a : -2147483648 ≤ z256) (z256b : z256 < 2147483648) (z256c : z256 = X ((i + (1 : Int))).toNat)
      refine i_StubHouse_name (n := z256) (show -2147483648 ≤ z256 ∧ z256 < 2147483648 by omega) hI (fun z257 S258 I259  e260 e261 => ?_)
      have m262 : S258 2 0 4 = S 2 0 4 ∧ S258 49 0 18 = S 49 0 18 := ⟨e261.1, e261.2⟩
      refine And.intro (show -2147483648 ≤ (i + (1 : Int)) ∧ (i + (1 : Int)) < 2147483648 by omega) ?_
      refine And.intro rfl (And.intro (show 0 ≤ (i + (1 : Int)) ∧ (i + (1 : Int)) < L by omega) ?_)
      intro z263 (z263a : -2147483648 ≤ z263) (z263b : z263 < 2147483648) (z263c : z263 = X ((i + (1 : Int))).toNat)
      obtain rfl : z256 = z263 := z256c.trans z263c.symm
      refine i_StubHouseModel_name (n := z256) (show -2147483648 ≤ z256 ∧ z256 < 2147483648 by omega) I259 (fun z264 S265 I266  e267 e268 => ?_)
      have m269 : S265 2 0 4 = S258 2 0 4 ∧ S265 49 0 18 = S258 49 0 18 := ⟨e268.1, e268.2⟩
      refine And.intro (by decide) (And.intro (show -2147483648 ≤ i + (5 : Int) ∧ i + (5 : Int) < 2147483648 by omega) ?_)
      exact hc (i + (5 : Int)) S265 (by omega) (by omega) I266 (show _ = _ by omega)
    refine And.intro (fun (h271 : z3 = (11 : Int)) => ?_) (fun (h271 : z3 ≠ (11 : Int)) => ?_)
    ·
      refine And.intro (show -2147483648 ≤ (i + (1 : Int)) ∧ (i + (1 : Int)) < 2147483648 by omega) ?_
      refine And.intro rfl (And.intro (show 0 ≤ (i + (1 : Int)) ∧ (i + (1 : Int)) < L by omega) ?_)
      intro z272 (z272a : -2147483648 ≤ z272) (z272b : z272 < 2147483648) (z272c : z272 = X ((i + (1 : Int))).toNat)
      refine And.intro (show -2147483648 ≤ (i + (2 : Int)) ∧ (i + (2 : Int)) < 2147483648 by omega) ?_
      refine And.intro rfl (And.intro (show 0 ≤ (i + (2 : Int)) ∧ (i + (2 : Int)) < L by omega) ?_)
      intro z273 (z273a : -2147483648 ≤ z273) (z273b : z273 < 2147483648) (z273c : z273 = X ((i + (2 : Int))).toNat)
      refine i_StubHouse_block (n := z272) (j := z273) (show -2147483648 ≤ z272 ∧ z272 < 2147483648 by omega) (show -2147483648 ≤ z273 ∧ z273 < 2147483648 by omega) hI (fun z274 S275 I276  e277 e278 => ?_)
      have m279 : S275 2 0 4 = S 2 0 4 ∧ S275 49 0 18 = S 49 0 18 := ⟨e278.1, e278.2⟩
      refine And.intro (show -2147483648 ≤ (i + (1 : Int)) ∧ (i + (1 : Int)) < 2147483648 by omega) ?_
      refine And.intro rfl (And.intro (show 0 ≤ (i + (1 : Int)) ∧ (i + (1 : Int)) < L by omega) ?_)
      intro z280 (z280a : -2147483648 ≤ z280) (z280b : z280 < 2147483648) (z280c : z280 = X ((i + (1 : Int))).toNat)
      obtain rfl : z272 = z280 := z272c.trans z280c.symm
      refine And.intro (show -2147483648 ≤ (i + (2 : Int)) ∧ (i + (2 : Int)) < 2147483648 by omega) ?_
      refine And.intro rfl (And.intro (show 0 ≤ (i + (2 : Int)) ∧ (i + (2 : Int)) < L by omega) ?_)
      intro z281 (z281a : -2147483648 ≤ z281) (z281b : z281 < 2147483648) (z281c : z281 = X ((i + (2 : Int))).toNat)
      obtain rfl : z273 = z281 := z273c.trans z281c.symm
      refine i_StubHouseModel_block (f := z272) (i := z273) (show -2147483648 ≤ z272 ∧ z272 < 2147483648 by omega) (show -2147483648 ≤ z273 ∧ z273 < 2147483648 by omega) I276 (fun z282 S283 I284  e285 e286 => ?_)
      have m287 : S283 2 0 4 = S275 2 0 4 ∧ S283 49 0 18 = S275 49 0 18 := ⟨e286.1, e286.2⟩
      refine And.intro (by decide) (And.intro (show -2147483648 ≤ i + (5 : Int) ∧ i + (5 : Int) < 2147483648 by omega) ?_)
      exact hc (i + (5 : Int)) S283 (by omega) (by omega) I284 (show _ = _ by omega)
    refine And.intro (fun (h289 : z3 = (12 : Int)) => ?_) (fun (h289 : z3 ≠ (12 : Int)) => ?_)
    ·
      refine And.intro (show -2147483648 ≤ (i + (1 : Int)) ∧ (i + (1 : Int)) < 2147483648 by omega) ?_
      refine And.intro rfl (And.intro (show 0 ≤ (i + (1 : Int)) ∧ (i + (1 : Int)) < L by omega) ?_)
      intro z290 (z290a : -2147483648 ≤ z290) (z290b : z290 < 2147483648) (z290c : z290 = X ((i + (1 : Int))).toNat)
      refine And.intro (show -2147483648 ≤ (i + (2 : Int)) ∧ (i + (2 : Int)) < 2147483648 by omega) ?_
      refine And.intro rfl (And.intro (show 0 ≤ (i + (2 : Int)) ∧ (i + (2 : Int)) < L by omega) ?_)
      intro z291 (z291a : -2147483648 ≤ z291) (z291b : z291 < 2147483648) (z291c : z291 = X ((i + (2 : Int))).toNat)
      refine And.intro (show -2147483648 ≤ (i + (3 : Int)) ∧ (i + (3 : Int)) < 2147483648 by omega) ?_
      refine And.intro rfl (And.intro (show 0 ≤ (i + (3 : Int)) ∧ (i + (3 : Int)) < L by omega) ?_)
      intro z292 (z292a : -2147483648 ≤ z292) (z292b : z292 < 2147483648) (z292c : z292 = X ((i + (3 : Int))).toNat)
      refine i_StubHouse_copy (n := z290) (j := z291) (w := z292) (show -2147483648 ≤ z290 ∧ z290 < 2147483648 by omega) (show -2147483648 ≤ z291 ∧ z291 < 2147483648 by omega) (show -2147483648 ≤ z292 ∧ z292 < 2147483648 by omega) hI (fun z293 S294 I295  e296 e297 => ?_)
      have m298 : S294 2 0 4 = S 2 0 4 ∧ S294 49 0 18 = S 49 0 18 := ⟨e297.1, e297.2⟩
      refine And.intro (show -2147483648 ≤ (i + (1 : Int)) ∧ (i + (1 : Int)) < 2147483648 by omega) ?_
      refine And.intro rfl (And.intro (show 0 ≤ (i + (1 : Int)) ∧ (i + (1 : Int)) < L by omega) ?_)
      intro z299 (z299a : -2147483648 ≤ z299) (z299b : z299 < 2147483648) (z299c : z299 = X ((i + (1 : Int))).toNat)
      obtain rfl : z290 = z299 := z290c.trans z299c.symm
      refine And.intro (show -2147483648 ≤ (i + (2 : Int)) ∧ (i + (2 : Int)) < 2147483648 by omega) ?_
      refine And.intro rfl (And.intro (show 0 ≤ (i + (2 : Int)) ∧ (i + (2 : Int)) < L by omega) ?_)
      intro z300 (z300a : -2147483648 ≤ z300) (z300b : z300 < 2147483648) (z300c : z300 = X ((i + (2 : Int))).toNat)
      obtain rfl : z291 = z300 := z291c.trans z300c.symm
      refine And.intro (show -2147483648 ≤ (i + (3 : Int)) ∧ (i + (3 : Int)) < 2147483648 by omega) ?_
      refine And.intro rfl (And.intro (show 0 ≤ (i + (3 : Int)) ∧ (i + (3 : Int)) < L by omega) ?_)
      intro z301 (z301a : -2147483648 ≤ z301) (z301b : z301 < 2147483648) (z301c : z301 = X ((i + (3 : Int))).toNat)
      obtain rfl : z292 = z301 := z292c.trans z301c.symm
      refine i_StubHouseModel_copy (f := z290) (i := z291) (w := z292) (show -2147483648 ≤ z290 ∧ z290 < 2147483648 by omega) (show -2147483648 ≤ z291 ∧ z291 < 2147483648 by omega) (show -2147483648 ≤ z292 ∧ z292 < 2147483648 by omega) I295 (fun z302 S303 I304  e305 e306 => ?_)
      have m307 : S303 2 0 4 = S294 2 0 4 ∧ S303 49 0 18 = S294 49 0 18 := ⟨e306.1, e306.2⟩
      refine And.intro (by decide) (And.intro (show -2147483648 ≤ i + (5 : Int) ∧ i + (5 : Int) < 2147483648 by omega) ?_)
      exact hc (i + (5 : Int)) S303 (by omega) (by omega) I304 (show _ = _ by omega)
    refine And.intro (fun (h309 : z3 = (13 : Int)) => ?_) (fun (h309 : z3 ≠ (13 : Int)) => ?_)
    ·
      refine And.intro (show -2147483648 ≤ (i + (1 : Int)) ∧ (i + (1 : Int)) < 2147483648 by omega) ?_
      refine And.intro rfl (And.intro (show 0 ≤ (i + (1 : Int)) ∧ (i + (1 : Int)) < L by omega) ?_)
      intro z310 (z310a : -2147483648 ≤ z310) (z310b : z310 < 2147483648) (z310c : z310 = X ((i + (1 : Int))).toNat)
      refine And.intro (show -2147483648 ≤ (i + (2 : Int)) ∧ (i + (2 : Int)) < 2147483648 by omega) ?_
      refine And.intro rfl (And.intro (show 0 ≤ (i + (2 : Int)) ∧ (i + (2 : Int)) < L by omega) ?_)
      intro z311 (z311a : -2147483648 ≤ z311) (z311b : z311 < 2147483648) (z311c : z311 = X ((i + (2 : Int))).toNat)
      refine And.intro (show -2147483648 ≤ (i + (3 : Int)) ∧ (i + (3 : Int)) < 2147483648 by omega) ?_
      refine And.intro rfl (And.intro (show 0 ≤ (i + (3 : Int)) ∧ (i + (3 : Int)) < L by omega) ?_)
      intro z312 (z312a : -2147483648 ≤ z312) (z312b : z312 < 2147483648) (z312c : z312 = X ((i + (3 : Int))).toNat)
      refine i_StubHouse_marks (s := z310) (h := z311) (lo := z312) (show -2147483648 ≤ z310 ∧ z310 < 2147483648 by omega) (show -2147483648 ≤ z311 ∧ z311 < 2147483648 by omega) (show -2147483648 ≤ z312 ∧ z312 < 2147483648 by omega) hI (fun z313 S314 I315 q318 e316 e317 => ?_)
      have m319 : S314 2 0 4 = S 2 0 4 ∧ S314 49 0 18 = S 49 0 18 := ⟨e317.1, e317.2⟩
      clear q318
      refine And.intro (show -2147483648 ≤ (i + (1 : Int)) ∧ (i + (1 : Int)) < 2147483648 by omega) ?_
      refine And.intro rfl (And.intro (show 0 ≤ (i + (1 : Int)) ∧ (i + (1 : Int)) < L by omega) ?_)
      intro z320 (z320a : -2147483648 ≤ z320) (z320b : z320 < 2147483648) (z320c : z320 = X ((i + (1 : Int))).toNat)
      obtain rfl : z310 = z320 := z310c.trans z320c.symm
      refine And.intro (show -2147483648 ≤ (i + (2 : Int)) ∧ (i + (2 : Int)) < 2147483648 by omega) ?_
      refine And.intro rfl (And.intro (show 0 ≤ (i + (2 : Int)) ∧ (i + (2 : Int)) < L by omega) ?_)
      intro z321 (z321a : -2147483648 ≤ z321) (z321b : z321 < 2147483648) (z321c : z321 = X ((i + (2 : Int))).toNat)
      obtain rfl : z311 = z321 := z311c.trans z321c.symm
      refine And.intro (show -2147483648 ≤ (i + (3 : Int)) ∧ (i + (3 : Int)) < 2147483648 by omega) ?_
      refine And.intro rfl (And.intro (show 0 ≤ (i + (3 : Int)) ∧ (i + (3 : Int)) < L by omega) ?_)
      intro z322 (z322a : -2147483648 ≤ z322) (z322b : z322 < 2147483648) (z322c : z322 = X ((i + (3 : Int))).toNat)
      obtain rfl : z312 = z322 := z312c.trans z322c.symm
      refine i_StubHouseModel_marks (s := z310) (h := z311) (lo := z312) (show -2147483648 ≤ z310 ∧ z310 < 2147483648 by omega) (show -2147483648 ≤ z311 ∧ z311 < 2147483648 by omega) (show -2147483648 ≤ z312 ∧ z312 < 2147483648 by omega) I315 (fun z323 S324 I325 q328 e326 e327 => ?_)
      have m329 : S324 2 0 4 = S314 2 0 4 ∧ S324 49 0 18 = S314 49 0 18 := ⟨e327.1, e327.2⟩
      clear q328
      refine And.intro (by decide) (And.intro (show -2147483648 ≤ i + (5 : Int) ∧ i + (5 : Int) < 2147483648 by omega) ?_)
      exact hc (i + (5 : Int)) S324 (by omega) (by omega) I325 (show _ = _ by omega)
    refine And.intro (fun (h331 : z3 = (14 : Int)) => ?_) (fun (h331 : z3 ≠ (14 : Int)) => ?_)
    ·
      refine And.intro (show -2147483648 ≤ (i + (1 : Int)) ∧ (i + (1 : Int)) < 2147483648 by omega) ?_
      refine And.intro rfl (And.intro (show 0 ≤ (i + (1 : Int)) ∧ (i + (1 : Int)) < L by omega) ?_)
      intro z332 (z332a : -2147483648 ≤ z332) (z332b : z332 < 2147483648) (z332c : z332 = X ((i + (1 : Int))).toNat)
      refine i_StubHouse_copies (n := z332) (show -2147483648 ≤ z332 ∧ z332 < 2147483648 by omega) hI (fun z333 S334 I335 q338 e336 e337 => ?_)
      refine And.intro (show -2147483648 ≤ (i + (1 : Int)) ∧ (i + (1 : Int)) < 2147483648 by omega) ?_
      refine And.intro rfl (And.intro (show 0 ≤ (i + (1 : Int)) ∧ (i + (1 : Int)) < L by omega) ?_)
      intro z339 (z339a : -2147483648 ≤ z339) (z339b : z339 < 2147483648) (z339c : z339 = X ((i + (1 : Int))).toNat)
      obtain rfl : z332 = z339 := z332c.trans z339c.symm
      refine i_StubHouseModel_copies (n := z332) (show -2147483648 ≤ z332 ∧ z332 < 2147483648 by omega) I335 (fun z340 S341 I342 q345 e343 e344 => ?_)
      refine And.intro (fun (h346 : (z333 = z340 : Prop)) => ?_) (fun (h346 : (z333 ≠ z340 : Prop)) => ?_)
      ·
        refine And.intro (by decide) (And.intro (show -2147483648 ≤ i + (5 : Int) ∧ i + (5 : Int) < 2147483648 by omega) ?_)
        exact hc (i + (5 : Int)) S341 (by omega) (by omega) I342 (show _ = _ by omega)
      ·
        refine And.intro (show 0 ≤ (0 : Int) ∧ (0 : Int) ≤ 1 by omega) ?_
        exfalso; omega
    refine And.intro (fun (h348 : z3 = (15 : Int)) => ?_) (fun (h348 : z3 ≠ (15 : Int)) => ?_)
    ·
      refine i_StubHouse_sync   hI (fun z349 S350 I351  e352 e353 => ?_)
      have m354 : S350 2 0 4 = S 2 0 4 ∧ S350 49 0 18 = S 49 0 18 := ⟨e353.1, e353.2⟩
      refine i_StubHouseModel_sync   I351 (fun z355 S356 I357  e358 e359 => ?_)
      have m360 : S356 2 0 4 = S350 2 0 4 ∧ S356 49 0 18 = S350 49 0 18 := ⟨e359.1, e359.2⟩
      refine And.intro (by decide) (And.intro (show -2147483648 ≤ i + (5 : Int) ∧ i + (5 : Int) < 2147483648 by omega) ?_)
      exact hc (i + (5 : Int)) S356 (by omega) (by omega) I357 (show _ = _ by omega)
    refine And.intro (fun (h362 : z3 = (16 : Int)) => ?_) (fun (h362 : z3 ≠ (16 : Int)) => ?_)
    ·
      refine And.intro (show -2147483648 ≤ (i + (1 : Int)) ∧ (i + (1 : Int)) < 2147483648 by omega) ?_
      refine And.intro rfl (And.intro (show 0 ≤ (i + (1 : Int)) ∧ (i + (1 : Int)) < L by omega) ?_)
      intro z363 (z363a : -2147483648 ≤ z363) (z363b : z363 < 2147483648) (z363c : z363 = X ((i + (1 : Int))).toNat)
      refine i_StubHouse_crash (n := z363) (show -2147483648 ≤ z363 ∧ z363 < 2147483648 by omega) hI (fun z364 S365 I366  e367 e368 => ?_)
      have m369 : S365 2 0 4 = S 2 0 4 ∧ S365 49 0 18 = S 49 0 18 := ⟨e368.1, e368.2⟩
      refine And.intro (show -2147483648 ≤ (i + (1 : Int)) ∧ (i + (1 : Int)) < 2147483648 by omega) ?_
      refine And.intro rfl (And.intro (show 0 ≤ (i + (1 : Int)) ∧ (i + (1 : Int)) < L by omega) ?_)
      intro z370 (z370a : -2147483648 ≤ z370) (z370b : z370 < 2147483648) (z370c : z370 = X ((i + (1 : Int))).toNat)
      obtain rfl : z363 = z370 := z363c.trans z370c.symm
      refine i_StubHouseModel_crash (n := z363) (show -2147483648 ≤ z363 ∧ z363 < 2147483648 by omega) I366 (fun z371 S372 I373  e374 e375 => ?_)
      have m376 : S372 2 0 4 = S365 2 0 4 ∧ S372 49 0 18 = S365 49 0 18 := ⟨e375.1, e375.2⟩
      refine And.intro (by decide) (And.intro (show -2147483648 ≤ i + (5 : Int) ∧ i + (5 : Int) < 2147483648 by omega) ?_)
      exact hc (i + (5 : Int)) S372 (by omega) (by omega) I373 (show _ = _ by omega)
    refine And.intro (fun (h378 : z3 = (17 : Int)) => ?_) (fun (h378 : z3 ≠ (17 : Int)) => ?_)
    ·
      refine i_StubHouse_lose   hI (fun z379 S380 I381  e382 e383 => ?_)
      have m384 : S380 2 0 4 = S 2 0 4 ∧ S380 49 0 18 = S 49 0 18 := ⟨e383.1, e383.2⟩
      refine i_StubHouseModel_lose   I381 (fun z385 S386 I387  e388 e389 => ?_)
      have m390 : S386 2 0 4 = S380 2 0 4 ∧ S386 49 0 18 = S380 49 0 18 := ⟨e389.1, e389.2⟩
      refine And.intro (by decide) (And.intro (show -2147483648 ≤ i + (5 : Int) ∧ i + (5 : Int) < 2147483648 by omega) ?_)
      exact hc (i + (5 : Int)) S386 (by omega) (by omega) I387 (show _ = _ by omega)
    refine And.intro (fun (h392 : z3 = (18 : Int)) => ?_) (fun (h392 : z3 ≠ (18 : Int)) => ?_)
    ·
      refine i_StubHouse_rebuild   hI (fun z393 S394 I395  e396 e397 => ?_)
      have m398 : S394 2 0 4 = S 2 0 4 ∧ S394 49 0 18 = S 49 0 18 := ⟨e397.1, e397.2⟩
      refine i_StubHouseModel_rebuild   I395 (fun z399 S400 I401  e402 e403 => ?_)
      have m404 : S400 2 0 4 = S394 2 0 4 ∧ S400 49 0 18 = S394 49 0 18 := ⟨e403.1, e403.2⟩
      refine And.intro (by decide) (And.intro (show -2147483648 ≤ i + (5 : Int) ∧ i + (5 : Int) < 2147483648 by omega) ?_)
      exact hc (i + (5 : Int)) S400 (by omega) (by omega) I401 (show _ = _ by omega)
    refine And.intro (fun (h406 : z3 = (19 : Int)) => ?_) (fun (h406 : z3 ≠ (19 : Int)) => ?_)
    ·
      refine And.intro (show -2147483648 ≤ (i + (1 : Int)) ∧ (i + (1 : Int)) < 2147483648 by omega) ?_
      refine And.intro rfl (And.intro (show 0 ≤ (i + (1 : Int)) ∧ (i + (1 : Int)) < L by omega) ?_)
      intro z407 (z407a : -2147483648 ≤ z407) (z407b : z407 < 2147483648) (z407c : z407 = X ((i + (1 : Int))).toNat)
      refine i_StubHouse_step (n := z407) (show -2147483648 ≤ z407 ∧ z407 < 2147483648 by omega) hI (fun z408 S409 I410 q413 e411 e412 => ?_)
      have m414 : S409 2 0 4 = S 2 0 4 ∧ S409 49 0 18 = S 49 0 18 := ⟨e412.1, e412.2⟩
      clear q413
      refine And.intro (show -2147483648 ≤ (i + (1 : Int)) ∧ (i + (1 : Int)) < 2147483648 by omega) ?_
      refine And.intro rfl (And.intro (show 0 ≤ (i + (1 : Int)) ∧ (i + (1 : Int)) < L by omega) ?_)
      intro z415 (z415a : -2147483648 ≤ z415) (z415b : z415 < 2147483648) (z415c : z415 = X ((i + (1 : Int))).toNat)
      obtain rfl : z407 = z415 := z407c.trans z415c.symm
      refine i_StubHouseModel_step (n := z407) (show -2147483648 ≤ z407 ∧ z407 < 2147483648 by omega) I410 (fun z416 S417 I418 q421 e419 e420 => ?_)
      have m422 : S417 2 0 4 = S409 2 0 4 ∧ S417 49 0 18 = S409 49 0 18 := ⟨e420.1, e420.2⟩
      clear q421
      refine And.intro (by decide) (And.intro (show -2147483648 ≤ i + (5 : Int) ∧ i + (5 : Int) < 2147483648 by omega) ?_)
      exact hc (i + (5 : Int)) S417 (by omega) (by omega) I418 (show _ = _ by omega)
    refine And.intro (fun (h424 : z3 = (20 : Int)) => ?_) (fun (h424 : z3 ≠ (20 : Int)) => ?_)
    ·
      refine And.intro (show -2147483648 ≤ (i + (1 : Int)) ∧ (i + (1 : Int)) < 2147483648 by omega) ?_
      refine And.intro rfl (And.intro (show 0 ≤ (i + (1 : Int)) ∧ (i + (1 : Int)) < L by omega) ?_)
      intro z425 (z425a : -2147483648 ≤ z425) (z425b : z425 < 2147483648) (z425c : z425 = X ((i + (1 : Int))).toNat)
      refine i_StubHouse_reclaim (t := z425) (show -2147483648 ≤ z425 ∧ z425 < 2147483648 by omega) hI (fun z426 S427 I428  e429 e430 => ?_)
      have m431 : S427 2 0 4 = S 2 0 4 ∧ S427 49 0 18 = S 49 0 18 := ⟨e430.1, e430.2⟩
      refine And.intro (show -2147483648 ≤ (i + (1 : Int)) ∧ (i + (1 : Int)) < 2147483648 by omega) ?_
      refine And.intro rfl (And.intro (show 0 ≤ (i + (1 : Int)) ∧ (i + (1 : Int)) < L by omega) ?_)
      intro z432 (z432a : -2147483648 ≤ z432) (z432b : z432 < 2147483648) (z432c : z432 = X ((i + (1 : Int))).toNat)
      obtain rfl : z425 = z432 := z425c.trans z432c.symm
      refine i_StubHouseModel_reclaim (t := z425) (show -2147483648 ≤ z425 ∧ z425 < 2147483648 by omega) I428 (fun z433 S434 I435  e436 e437 => ?_)
      have m438 : S434 2 0 4 = S427 2 0 4 ∧ S434 49 0 18 = S427 49 0 18 := ⟨e437.1, e437.2⟩
      refine And.intro (by decide) (And.intro (show -2147483648 ≤ i + (5 : Int) ∧ i + (5 : Int) < 2147483648 by omega) ?_)
      exact hc (i + (5 : Int)) S434 (by omega) (by omega) I435 (show _ = _ by omega)
    refine And.intro (fun (h440 : z3 = (21 : Int)) => ?_) (fun (h440 : z3 ≠ (21 : Int)) => ?_)
    ·
      refine And.intro (show -2147483648 ≤ (i + (1 : Int)) ∧ (i + (1 : Int)) < 2147483648 by omega) ?_
      refine And.intro rfl (And.intro (show 0 ≤ (i + (1 : Int)) ∧ (i + (1 : Int)) < L by omega) ?_)
      intro z441 (z441a : -2147483648 ≤ z441) (z441b : z441 < 2147483648) (z441c : z441 = X ((i + (1 : Int))).toNat)
      refine And.intro (show -2147483648 ≤ (i + (2 : Int)) ∧ (i + (2 : Int)) < 2147483648 by omega) ?_
      refine And.intro rfl (And.intro (show 0 ≤ (i + (2 : Int)) ∧ (i + (2 : Int)) < L by omega) ?_)
      intro z442 (z442a : -2147483648 ≤ z442) (z442b : z442 < 2147483648) (z442c : z442 = X ((i + (2 : Int))).toNat)
      refine i_StubHouse_drive (d := z441) (w := z442) (show -2147483648 ≤ z441 ∧ z441 < 2147483648 by omega) (show -2147483648 ≤ z442 ∧ z442 < 2147483648 by omega) hI (fun z443 S444 I445  e446 e447 => ?_)
      have m448 : S444 2 0 4 = S 2 0 4 ∧ S444 49 0 18 = S 49 0 18 := ⟨e447.1, e447.2⟩
      refine And.intro (show -2147483648 ≤ (i + (1 : Int)) ∧ (i + (1 : Int)) < 2147483648 by omega) ?_
      refine And.intro rfl (And.intro (show 0 ≤ (i + (1 : Int)) ∧ (i + (1 : Int)) < L by omega) ?_)
      intro z449 (z449a : -2147483648 ≤ z449) (z449b : z449 < 2147483648) (z449c : z449 = X ((i + (1 : Int))).toNat)
      obtain rfl : z441 = z449 := z441c.trans z449c.symm
      refine And.intro (show -2147483648 ≤ (i + (2 : Int)) ∧ (i + (2 : Int)) < 2147483648 by omega) ?_
      refine And.intro rfl (And.intro (show 0 ≤ (i + (2 : Int)) ∧ (i + (2 : Int)) < L by omega) ?_)
      intro z450 (z450a : -2147483648 ≤ z450) (z450b : z450 < 2147483648) (z450c : z450 = X ((i + (2 : Int))).toNat)
      obtain rfl : z442 = z450 := z442c.trans z450c.symm
      refine i_StubHouseModel_drive (d := z441) (w := z442) (show -2147483648 ≤ z441 ∧ z441 < 2147483648 by omega) (show -2147483648 ≤ z442 ∧ z442 < 2147483648 by omega) I445 (fun z451 S452 I453  e454 e455 => ?_)
      have m456 : S452 2 0 4 = S444 2 0 4 ∧ S452 49 0 18 = S444 49 0 18 := ⟨e455.1, e455.2⟩
      refine And.intro (by decide) (And.intro (show -2147483648 ≤ i + (5 : Int) ∧ i + (5 : Int) < 2147483648 by omega) ?_)
      exact hc (i + (5 : Int)) S452 (by omega) (by omega) I453 (show _ = _ by omega)
    refine And.intro (fun (h458 : z3 = (22 : Int)) => ?_) (fun (h458 : z3 ≠ (22 : Int)) => ?_)
    ·
      refine And.intro (show -2147483648 ≤ (i + (1 : Int)) ∧ (i + (1 : Int)) < 2147483648 by omega) ?_
      refine And.intro rfl (And.intro (show 0 ≤ (i + (1 : Int)) ∧ (i + (1 : Int)) < L by omega) ?_)
      intro z459 (z459a : -2147483648 ≤ z459) (z459b : z459 < 2147483648) (z459c : z459 = X ((i + (1 : Int))).toNat)
      refine i_StubHouse_told (w := z459) (show -2147483648 ≤ z459 ∧ z459 < 2147483648 by omega) hI (fun z460 S461 I462  e463 e464 => ?_)
      have m465 : S461 2 0 4 = S 2 0 4 ∧ S461 49 0 18 = S 49 0 18 := ⟨e464.1, e464.2⟩
      refine And.intro (show -2147483648 ≤ (i + (1 : Int)) ∧ (i + (1 : Int)) < 2147483648 by omega) ?_
      refine And.intro rfl (And.intro (show 0 ≤ (i + (1 : Int)) ∧ (i + (1 : Int)) < L by omega) ?_)
      intro z466 (z466a : -2147483648 ≤ z466) (z466b : z466 < 2147483648) (z466c : z466 = X ((i + (1 : Int))).toNat)
      obtain rfl : z459 = z466 := z459c.trans z466c.symm
      refine i_StubHouseModel_told (w := z459) (show -2147483648 ≤ z459 ∧ z459 < 2147483648 by omega) I462 (fun z467 S468 I469  e470 e471 => ?_)
      have m472 : S468 2 0 4 = S461 2 0 4 ∧ S468 49 0 18 = S461 49 0 18 := ⟨e471.1, e471.2⟩
      refine And.intro (by decide) (And.intro (show -2147483648 ≤ i + (5 : Int) ∧ i + (5 : Int) < 2147483648 by omega) ?_)
      exact hc (i + (5 : Int)) S468 (by omega) (by omega) I469 (show _ = _ by omega)
    refine And.intro (fun (h474 : z3 = (23 : Int)) => ?_) (fun (h474 : z3 ≠ (23 : Int)) => ?_)
    ·
      refine And.intro (show -2147483648 ≤ (i + (1 : Int)) ∧ (i + (1 : Int)) < 2147483648 by omega) ?_
      refine And.intro rfl (And.intro (show 0 ≤ (i + (1 : Int)) ∧ (i + (1 : Int)) < L by omega) ?_)
      intro z475 (z475a : -2147483648 ≤ z475) (z475b : z475 < 2147483648) (z475c : z475 = X ((i + (1 : Int))).toNat)
      refine And.intro (show -2147483648 ≤ (i + (2 : Int)) ∧ (i + (2 : Int)) < 2147483648 by omega) ?_
      refine And.intro rfl (And.intro (show 0 ≤ (i + (2 : Int)) ∧ (i + (2 : Int)) < L by omega) ?_)
      intro z476 (z476a : -2147483648 ≤ z476) (z476b : z476 < 2147483648) (z476c : z476 = X ((i + (2 : Int))).toNat)
      refine i_StubHouse_tape (t := z475) (w := z476) (show -2147483648 ≤ z475 ∧ z475 < 2147483648 by omega) (show -2147483648 ≤ z476 ∧ z476 < 2147483648 by omega) hI (fun z477 S478 I479  e480 e481 => ?_)
      have m482 : S478 2 0 4 = S 2 0 4 ∧ S478 49 0 18 = S 49 0 18 := ⟨e481.1, e481.2⟩
      refine And.intro (show -2147483648 ≤ (i + (1 : Int)) ∧ (i + (1 : Int)) < 2147483648 by omega) ?_
      refine And.intro rfl (And.intro (show 0 ≤ (i + (1 : Int)) ∧ (i + (1 : Int)) < L by omega) ?_)
      intro z483 (z483a : -2147483648 ≤ z483) (z483b : z483 < 2147483648) (z483c : z483 = X ((i + (1 : Int))).toNat)
      obtain rfl : z475 = z483 := z475c.trans z483c.symm
      refine And.intro (show -2147483648 ≤ (i + (2 : Int)) ∧ (i + (2 : Int)) < 2147483648 by omega) ?_
      refine And.intro rfl (And.intro (show 0 ≤ (i + (2 : Int)) ∧ (i + (2 : Int)) < L by omega) ?_)
      intro z484 (z484a : -2147483648 ≤ z484) (z484b : z484 < 2147483648) (z484c : z484 = X ((i + (2 : Int))).toNat)
      obtain rfl : z476 = z484 := z476c.trans z484c.symm
      refine i_StubHouseModel_tape (t := z475) (w := z476) (show -2147483648 ≤ z475 ∧ z475 < 2147483648 by omega) (show -2147483648 ≤ z476 ∧ z476 < 2147483648 by omega) I479 (fun z485 S486 I487  e488 e489 => ?_)
      have m490 : S486 2 0 4 = S478 2 0 4 ∧ S486 49 0 18 = S478 49 0 18 := ⟨e489.1, e489.2⟩
      refine And.intro (by decide) (And.intro (show -2147483648 ≤ i + (5 : Int) ∧ i + (5 : Int) < 2147483648 by omega) ?_)
      exact hc (i + (5 : Int)) S486 (by omega) (by omega) I487 (show _ = _ by omega)
    refine And.intro (fun (h492 : z3 = (24 : Int)) => ?_) (fun (h492 : z3 ≠ (24 : Int)) => ?_)
    ·
      refine And.intro (show -2147483648 ≤ (i + (1 : Int)) ∧ (i + (1 : Int)) < 2147483648 by omega) ?_
      refine And.intro rfl (And.intro (show 0 ≤ (i + (1 : Int)) ∧ (i + (1 : Int)) < L by omega) ?_)
      intro z493 (z493a : -2147483648 ≤ z493) (z493b : z493 < 2147483648) (z493c : z493 = X ((i + (1 : Int))).toNat)
      refine And.intro (show -2147483648 ≤ (i + (2 : Int)) ∧ (i + (2 : Int)) < 2147483648 by omega) ?_
      refine And.intro rfl (And.intro (show 0 ≤ (i + (2 : Int)) ∧ (i + (2 : Int)) < L by omega) ?_)
      intro z494 (z494a : -2147483648 ≤ z494) (z494b : z494 < 2147483648) (z494c : z494 = X ((i + (2 : Int))).toNat)
      refine i_StubHouse_byteOf (t := z493) (p := z494) (show -2147483648 ≤ z493 ∧ z493 < 2147483648 by omega) (show -2147483648 ≤ z494 ∧ z494 < 2147483648 by omega) hI (fun z495 S496 I497  e498 e499 => ?_)
      have m500 : S496 2 0 4 = S 2 0 4 ∧ S496 49 0 18 = S 49 0 18 := ⟨e499.1, e499.2⟩
      refine And.intro (show -2147483648 ≤ (i + (1 : Int)) ∧ (i + (1 : Int)) < 2147483648 by omega) ?_
      refine And.intro rfl (And.intro (show 0 ≤ (i + (1 : Int)) ∧ (i + (1 : Int)) < L by omega) ?_)
      intro z501 (z501a : -2147483648 ≤ z501) (z501b : z501 < 2147483648) (z501c : z501 = X ((i + (1 : Int))).toNat)
      obtain rfl : z493 = z501 := z493c.trans z501c.symm
      refine And.intro (show -2147483648 ≤ (i + (2 : Int)) ∧ (i + (2 : Int)) < 2147483648 by omega) ?_
      refine And.intro rfl (And.intro (show 0 ≤ (i + (2 : Int)) ∧ (i + (2 : Int)) < L by omega) ?_)
      intro z502 (z502a : -2147483648 ≤ z502) (z502b : z502 < 2147483648) (z502c : z502 = X ((i + (2 : Int))).toNat)
      obtain rfl : z494 = z502 := z494c.trans z502c.symm
      refine i_StubHouseModel_byteOf (t := z493) (p := z494) (show -2147483648 ≤ z493 ∧ z493 < 2147483648 by omega) (show -2147483648 ≤ z494 ∧ z494 < 2147483648 by omega) I497 (fun z503 S504 I505  e506 e507 => ?_)
      have m508 : S504 2 0 4 = S496 2 0 4 ∧ S504 49 0 18 = S496 49 0 18 := ⟨e507.1, e507.2⟩
      refine And.intro (by decide) (And.intro (show -2147483648 ≤ i + (5 : Int) ∧ i + (5 : Int) < 2147483648 by omega) ?_)
      exact hc (i + (5 : Int)) S504 (by omega) (by omega) I505 (show _ = _ by omega)
    refine And.intro (fun (h510 : z3 = (25 : Int)) => ?_) (fun (h510 : z3 ≠ (25 : Int)) => ?_)
    ·
      refine And.intro (show -2147483648 ≤ (i + (1 : Int)) ∧ (i + (1 : Int)) < 2147483648 by omega) ?_
      refine And.intro rfl (And.intro (show 0 ≤ (i + (1 : Int)) ∧ (i + (1 : Int)) < L by omega) ?_)
      intro z511 (z511a : -2147483648 ≤ z511) (z511b : z511 < 2147483648) (z511c : z511 = X ((i + (1 : Int))).toNat)
      refine And.intro (show -2147483648 ≤ (i + (2 : Int)) ∧ (i + (2 : Int)) < 2147483648 by omega) ?_
      refine And.intro rfl (And.intro (show 0 ≤ (i + (2 : Int)) ∧ (i + (2 : Int)) < L by omega) ?_)
      intro z512 (z512a : -2147483648 ≤ z512) (z512b : z512 < 2147483648) (z512c : z512 = X ((i + (2 : Int))).toNat)
      refine And.intro (show -2147483648 ≤ (i + (3 : Int)) ∧ (i + (3 : Int)) < 2147483648 by omega) ?_
      refine And.intro rfl (And.intro (show 0 ≤ (i + (3 : Int)) ∧ (i + (3 : Int)) < L by omega) ?_)
      intro z513 (z513a : -2147483648 ≤ z513) (z513b : z513 < 2147483648) (z513c : z513 = X ((i + (3 : Int))).toNat)
      refine i_StubHouse_spoil (t := z511) (p := z512) (w := z513) (show -2147483648 ≤ z511 ∧ z511 < 2147483648 by omega) (show -2147483648 ≤ z512 ∧ z512 < 2147483648 by omega) (show -2147483648 ≤ z513 ∧ z513 < 2147483648 by omega) hI (fun z514 S515 I516  e517 e518 => ?_)
      have m519 : S515 2 0 4 = S 2 0 4 ∧ S515 49 0 18 = S 49 0 18 := ⟨e518.1, e518.2⟩
      refine And.intro (show -2147483648 ≤ (i + (1 : Int)) ∧ (i + (1 : Int)) < 2147483648 by omega) ?_
      refine And.intro rfl (And.intro (show 0 ≤ (i + (1 : Int)) ∧ (i + (1 : Int)) < L by omega) ?_)
      intro z520 (z520a : -2147483648 ≤ z520) (z520b : z520 < 2147483648) (z520c : z520 = X ((i + (1 : Int))).toNat)
      obtain rfl : z511 = z520 := z511c.trans z520c.symm
      refine And.intro (show -2147483648 ≤ (i + (2 : Int)) ∧ (i + (2 : Int)) < 2147483648 by omega) ?_
      refine And.intro rfl (And.intro (show 0 ≤ (i + (2 : Int)) ∧ (i + (2 : Int)) < L by omega) ?_)
      intro z521 (z521a : -2147483648 ≤ z521) (z521b : z521 < 2147483648) (z521c : z521 = X ((i + (2 : Int))).toNat)
      obtain rfl : z512 = z521 := z512c.trans z521c.symm
      refine And.intro (show -2147483648 ≤ (i + (3 : Int)) ∧ (i + (3 : Int)) < 2147483648 by omega) ?_
      refine And.intro rfl (And.intro (show 0 ≤ (i + (3 : Int)) ∧ (i + (3 : Int)) < L by omega) ?_)
      intro z522 (z522a : -2147483648 ≤ z522) (z522b : z522 < 2147483648) (z522c : z522 = X ((i + (3 : Int))).toNat)
      obtain rfl : z513 = z522 := z513c.trans z522c.symm
      refine i_StubHouseModel_spoil (t := z511) (p := z512) (w := z513) (show -2147483648 ≤ z511 ∧ z511 < 2147483648 by omega) (show -2147483648 ≤ z512 ∧ z512 < 2147483648 by omega) (show -2147483648 ≤ z513 ∧ z513 < 2147483648 by omega) I516 (fun z523 S524 I525  e526 e527 => ?_)
      have m528 : S524 2 0 4 = S515 2 0 4 ∧ S524 49 0 18 = S515 49 0 18 := ⟨e527.1, e527.2⟩
      refine And.intro (by decide) (And.intro (show -2147483648 ≤ i + (5 : Int) ∧ i + (5 : Int) < 2147483648 by omega) ?_)
      exact hc (i + (5 : Int)) S524 (by omega) (by omega) I525 (show _ = _ by omega)
    refine And.intro (fun (h530 : z3 = (26 : Int)) => ?_) (fun (h530 : z3 ≠ (26 : Int)) => ?_)
    ·
      refine And.intro (show -2147483648 ≤ (i + (1 : Int)) ∧ (i + (1 : Int)) < 2147483648 by omega) ?_
      refine And.intro rfl (And.intro (show 0 ≤ (i + (1 : Int)) ∧ (i + (1 : Int)) < L by omega) ?_)
      intro z531 (z531a : -2147483648 ≤ z531) (z531b : z531 < 2147483648) (z531c : z531 = X ((i + (1 : Int))).toNat)
      refine And.intro (show -2147483648 ≤ (i + (2 : Int)) ∧ (i + (2 : Int)) < 2147483648 by omega) ?_
      refine And.intro rfl (And.intro (show 0 ≤ (i + (2 : Int)) ∧ (i + (2 : Int)) < L by omega) ?_)
      intro z532 (z532a : -2147483648 ≤ z532) (z532b : z532 < 2147483648) (z532c : z532 = X ((i + (2 : Int))).toNat)
      refine And.intro (show -2147483648 ≤ (i + (3 : Int)) ∧ (i + (3 : Int)) < 2147483648 by omega) ?_
      refine And.intro rfl (And.intro (show 0 ≤ (i + (3 : Int)) ∧ (i + (3 : Int)) < L by omega) ?_)
      intro z533 (z533a : -2147483648 ≤ z533) (z533b : z533 < 2147483648) (z533c : z533 = X ((i + (3 : Int))).toNat)
      refine i_StubHouse_segment (t := z531) (c := z532) (w := z533) (show -2147483648 ≤ z531 ∧ z531 < 2147483648 by omega) (show -2147483648 ≤ z532 ∧ z532 < 2147483648 by omega) (show -2147483648 ≤ z533 ∧ z533 < 2147483648 by omega) hI (fun z534 S535 I536  e537 e538 => ?_)
      have m539 : S535 2 0 4 = S 2 0 4 ∧ S535 49 0 18 = S 49 0 18 := ⟨e538.1, e538.2⟩
      refine And.intro (show -2147483648 ≤ (i + (1 : Int)) ∧ (i + (1 : Int)) < 2147483648 by omega) ?_
      refine And.intro rfl (And.intro (show 0 ≤ (i + (1 : Int)) ∧ (i + (1 : Int)) < L by omega) ?_)
      intro z540 (z540a : -2147483648 ≤ z540) (z540b : z540 < 2147483648) (z540c : z540 = X ((i + (1 : Int))).toNat)
      obtain rfl : z531 = z540 := z531c.trans z540c.symm
      refine And.intro (show -2147483648 ≤ (i + (2 : Int)) ∧ (i + (2 : Int)) < 2147483648 by omega) ?_
      refine And.intro rfl (And.intro (show 0 ≤ (i + (2 : Int)) ∧ (i + (2 : Int)) < L by omega) ?_)
      intro z541 (z541a : -2147483648 ≤ z541) (z541b : z541 < 2147483648) (z541c : z541 = X ((i + (2 : Int))).toNat)
      obtain rfl : z532 = z541 := z532c.trans z541c.symm
      refine And.intro (show -2147483648 ≤ (i + (3 : Int)) ∧ (i + (3 : Int)) < 2147483648 by omega) ?_
      refine And.intro rfl (And.intro (show 0 ≤ (i + (3 : Int)) ∧ (i + (3 : Int)) < L by omega) ?_)
      intro z542 (z542a : -2147483648 ≤ z542) (z542b : z542 < 2147483648) (z542c : z542 = X ((i + (3 : Int))).toNat)
      obtain rfl : z533 = z542 := z533c.trans z542c.symm
      refine i_StubHouseModel_segment (t := z531) (i := z532) (w := z533) (show -2147483648 ≤ z531 ∧ z531 < 2147483648 by omega) (show -2147483648 ≤ z532 ∧ z532 < 2147483648 by omega) (show -2147483648 ≤ z533 ∧ z533 < 2147483648 by omega) I536 (fun z543 S544 I545  e546 e547 => ?_)
      have m548 : S544 2 0 4 = S535 2 0 4 ∧ S544 49 0 18 = S535 49 0 18 := ⟨e547.1, e547.2⟩
      refine And.intro (by decide) (And.intro (show -2147483648 ≤ i + (5 : Int) ∧ i + (5 : Int) < 2147483648 by omega) ?_)
      exact hc (i + (5 : Int)) S544 (by omega) (by omega) I545 (show _ = _ by omega)
    refine And.intro (fun (h550 : z3 = (27 : Int)) => ?_) (fun (h550 : z3 ≠ (27 : Int)) => ?_)
    ·
      refine And.intro (show -2147483648 ≤ (i + (1 : Int)) ∧ (i + (1 : Int)) < 2147483648 by omega) ?_
      refine And.intro rfl (And.intro (show 0 ≤ (i + (1 : Int)) ∧ (i + (1 : Int)) < L by omega) ?_)
      intro z551 (z551a : -2147483648 ≤ z551) (z551b : z551 < 2147483648) (z551c : z551 = X ((i + (1 : Int))).toNat)
      refine And.intro (show -2147483648 ≤ (i + (2 : Int)) ∧ (i + (2 : Int)) < 2147483648 by omega) ?_
      refine And.intro rfl (And.intro (show 0 ≤ (i + (2 : Int)) ∧ (i + (2 : Int)) < L by omega) ?_)
      intro z552 (z552a : -2147483648 ≤ z552) (z552b : z552 < 2147483648) (z552c : z552 = X ((i + (2 : Int))).toNat)
      refine i_StubHouse_view (c := z551) (w := z552) (show -2147483648 ≤ z551 ∧ z551 < 2147483648 by omega) (show -2147483648 ≤ z552 ∧ z552 < 2147483648 by omega) hI (fun z553 S554 I555  e556 e557 => ?_)
      have m558 : S554 2 0 4 = S 2 0 4 ∧ S554 49 0 18 = S 49 0 18 := ⟨e557.1, e557.2⟩
      refine And.intro (show -2147483648 ≤ (i + (1 : Int)) ∧ (i + (1 : Int)) < 2147483648 by omega) ?_
      refine And.intro rfl (And.intro (show 0 ≤ (i + (1 : Int)) ∧ (i + (1 : Int)) < L by omega) ?_)
      intro z559 (z559a : -2147483648 ≤ z559) (z559b : z559 < 2147483648) (z559c : z559 = X ((i + (1 : Int))).toNat)
      obtain rfl : z551 = z559 := z551c.trans z559c.symm
      refine And.intro (show -2147483648 ≤ (i + (2 : Int)) ∧ (i + (2 : Int)) < 2147483648 by omega) ?_
      refine And.intro rfl (And.intro (show 0 ≤ (i + (2 : Int)) ∧ (i + (2 : Int)) < L by omega) ?_)
      intro z560 (z560a : -2147483648 ≤ z560) (z560b : z560 < 2147483648) (z560c : z560 = X ((i + (2 : Int))).toNat)
      obtain rfl : z552 = z560 := z552c.trans z560c.symm
      refine i_StubHouseModel_view (i := z551) (w := z552) (show -2147483648 ≤ z551 ∧ z551 < 2147483648 by omega) (show -2147483648 ≤ z552 ∧ z552 < 2147483648 by omega) I555 (fun z561 S562 I563  e564 e565 => ?_)
      have m566 : S562 2 0 4 = S554 2 0 4 ∧ S562 49 0 18 = S554 49 0 18 := ⟨e565.1, e565.2⟩
      refine And.intro (by decide) (And.intro (show -2147483648 ≤ i + (5 : Int) ∧ i + (5 : Int) < 2147483648 by omega) ?_)
      exact hc (i + (5 : Int)) S562 (by omega) (by omega) I563 (show _ = _ by omega)
    refine And.intro (by decide) (And.intro (show -2147483648 ≤ i + (5 : Int) ∧ i + (5 : Int) < 2147483648 by omega) ?_)
    exact hc (i + (5 : Int)) S (by omega) (by omega) hI (show _ = _ by omega)
