/-! the law's loop, once round -/
/-- what both sides have alike, so that the answers that the law compares are alike -/
def LEQ (S : fxS) : Prop := True
set_option maxHeartbeats 4000000 in
theorem law_body {sc : Nat} {X : Nat → Int} {L : Int} {l : Launch} {K : fxZ} {kr : fxK} {S : fxS} {i : Int} (hI : INV S) (hm : LEQ S) (hi : 0 ≤ i ∧ i < 2147483648) (hL : 0 ≤ L ∧ L < 2147483648)
    (hc : ∀ (j : Int) (S' : fxS), i < j → j ≤ i + 5 → INV S' → LEQ S' → K 18 [some (.inr (.inr (sc, 0))), some (.inr (.inr (0, 0))), some (.inr (.inr (49, 0))), some (.inl j)] [] S') (hr : ∀ (S' : fxS) (_ : True), kr (some (.inl 1)) S') :
    fxLaw sc X L (fC l) fx_rm fxt_316 (13, 552) [(18, [0, 1, 2, 3])] K kr 400 18 [some (.inr (.inr (sc, 0))), some (.inr (.inr (0, 0))), some (.inr (.inr (49, 0))), some (.inl i)] [] S := by
  refine And.intro rfl ?_
  refine And.intro (show -2147483648 ≤ (L - (5 : Int)) ∧ (L - (5 : Int)) < 2147483648 by omega) ?_
  refine And.intro (fun (h1 : ((L - (5 : Int)) < i : Prop)) => ?_) (fun (h1 : (i ≤ (L - (5 : Int)) : Prop)) => ?_)
  ·
    refine And.intro (show 0 ≤ (1 : Int) ∧ (1 : Int) ≤ 1 by omega) ?_
    exact hr _ trivial
  ·
    refine And.intro rfl (And.intro (show 0 ≤ i ∧ i < L by omega) ?_)
    intro z2 (z2a : -2147483648 ≤ z2) (z2b : z2 < 2147483648) (z2c : z2 = X (i).toNat)
    refine And.intro (show (0 : Int) ≤ (31 : Int) by omega) ?_
    intro z3 (z3a : 0 ≤ z3) (z3b : z3 ≤ (31 : Int)) z3d
    refine And.intro (fun (h4 : z3 = (0 : Int)) => ?_) (fun (h4 : z3 ≠ (0 : Int)) => ?_)
    ·
      refine And.intro (show -2147483648 ≤ (i + (1 : Int)) ∧ (i + (1 : Int)) < 2147483648 by omega) ?_
      refine And.intro rfl (And.intro (show 0 ≤ (i + (1 : Int)) ∧ (i + (1 : Int)) < L by omega) ?_)
      intro z5 (z5a : -2147483648 ≤ z5) (z5b : z5 < 2147483648) (z5c : z5 = X ((i + (1 : Int))).toNat)
      refine And.intro (show -2147483648 ≤ (i + (2 : Int)) ∧ (i + (2 : Int)) < 2147483648 by omega) ?_
      refine And.intro rfl (And.intro (show 0 ≤ (i + (2 : Int)) ∧ (i + (2 : Int)) < L by omega) ?_)
      intro z6 (z6a : -2147483648 ≤ z6) (z6b : z6 < 2147483648) (z6c : z6 = X ((i + (2 : Int))).toNat)
      intro z7
      refine And.intro (show -2147483648 ≤ (i + (3 : Int)) ∧ (i + (3 : Int)) < 2147483648 by omega) ?_
      refine And.intro rfl (And.intro (show 0 ≤ (i + (3 : Int)) ∧ (i + (3 : Int)) < L by omega) ?_)
      intro z8 (z8a : -2147483648 ≤ z8) (z8b : z8 < 2147483648) (z8c : z8 = X ((i + (3 : Int))).toNat)
      intro z9
      intro z10
      refine And.intro (show -2147483648 ≤ (i + (4 : Int)) ∧ (i + (4 : Int)) < 2147483648 by omega) ?_
      refine And.intro rfl (And.intro (show 0 ≤ (i + (4 : Int)) ∧ (i + (4 : Int)) < L by omega) ?_)
      intro z11 (z11a : -2147483648 ≤ z11) (z11b : z11 < 2147483648) (z11c : z11 = X ((i + (4 : Int))).toNat)
      refine And.intro (fun (h12 : (z11 = (0 : Int) : Prop)) => ?_) (fun (h12 : (z11 ≠ (0 : Int) : Prop)) => ?_)
      ·
        refine i_StubHouse_make (o := z5) (x := z10) (q := (0 : Int)) (show 0 ≤ (0 : Int) ∧ (0 : Int) ≤ 1 by omega) (show -2147483648 ≤ z5 ∧ z5 < 2147483648 by omega) hI (fun z13 S14 I15  e16 e17 => ?_)
        refine And.intro (show -2147483648 ≤ (i + (1 : Int)) ∧ (i + (1 : Int)) < 2147483648 by omega) ?_
        refine And.intro rfl (And.intro (show 0 ≤ (i + (1 : Int)) ∧ (i + (1 : Int)) < L by omega) ?_)
        intro z18 (z18a : -2147483648 ≤ z18) (z18b : z18 < 2147483648) (z18c : z18 = X ((i + (1 : Int))).toNat)
        obtain rfl : z5 = z18 := z5c.trans z18c.symm
        refine And.intro (show -2147483648 ≤ (i + (2 : Int)) ∧ (i + (2 : Int)) < 2147483648 by omega) ?_
        refine And.intro rfl (And.intro (show 0 ≤ (i + (2 : Int)) ∧ (i + (2 : Int)) < L by omega) ?_)
        intro z19 (z19a : -2147483648 ≤ z19) (z19b : z19 < 2147483648) (z19c : z19 = X ((i + (2 : Int))).toNat)
        obtain rfl : z6 = z19 := z6c.trans z19c.symm
        intro z20
        refine And.intro (show -2147483648 ≤ (i + (3 : Int)) ∧ (i + (3 : Int)) < 2147483648 by omega) ?_
        refine And.intro rfl (And.intro (show 0 ≤ (i + (3 : Int)) ∧ (i + (3 : Int)) < L by omega) ?_)
        intro z21 (z21a : -2147483648 ≤ z21) (z21b : z21 < 2147483648) (z21c : z21 = X ((i + (3 : Int))).toNat)
        obtain rfl : z8 = z21 := z8c.trans z21c.symm
        intro z22
        intro z23
        refine And.intro (show -2147483648 ≤ (i + (4 : Int)) ∧ (i + (4 : Int)) < 2147483648 by omega) ?_
        refine And.intro rfl (And.intro (show 0 ≤ (i + (4 : Int)) ∧ (i + (4 : Int)) < L by omega) ?_)
        intro z24 (z24a : -2147483648 ≤ z24) (z24b : z24 < 2147483648) (z24c : z24 = X ((i + (4 : Int))).toNat)
        obtain rfl : z11 = z24 := z11c.trans z24c.symm
        refine And.intro (fun (h25 : (z11 = (0 : Int) : Prop)) => ?_) (fun (h25 : (z11 ≠ (0 : Int) : Prop)) => ?_)
        ·
          refine i_StubHouseModel_make (o := z5) (x := z23) (q := (0 : Int)) (show 0 ≤ (0 : Int) ∧ (0 : Int) ≤ 1 by omega) (show -2147483648 ≤ z5 ∧ z5 < 2147483648 by omega) I15 (fun z26 S27 I28  e29 e30 => ?_)
          refine And.intro (by decide) (And.intro (show -2147483648 ≤ i + (5 : Int) ∧ i + (5 : Int) < 2147483648 by omega) ?_)
          exact hc (i + (5 : Int)) S27 (by omega) (by omega) I28 trivial
        ·
          refine i_StubHouseModel_make (o := z5) (x := z23) (q := (1 : Int)) (show 0 ≤ (1 : Int) ∧ (1 : Int) ≤ 1 by omega) (show -2147483648 ≤ z5 ∧ z5 < 2147483648 by omega) I15 (fun z32 S33 I34  e35 e36 => ?_)
          refine And.intro (by decide) (And.intro (show -2147483648 ≤ i + (5 : Int) ∧ i + (5 : Int) < 2147483648 by omega) ?_)
          exact hc (i + (5 : Int)) S33 (by omega) (by omega) I34 trivial
      ·
        refine i_StubHouse_make (o := z5) (x := z10) (q := (1 : Int)) (show 0 ≤ (1 : Int) ∧ (1 : Int) ≤ 1 by omega) (show -2147483648 ≤ z5 ∧ z5 < 2147483648 by omega) hI (fun z38 S39 I40  e41 e42 => ?_)
        refine And.intro (show -2147483648 ≤ (i + (1 : Int)) ∧ (i + (1 : Int)) < 2147483648 by omega) ?_
        refine And.intro rfl (And.intro (show 0 ≤ (i + (1 : Int)) ∧ (i + (1 : Int)) < L by omega) ?_)
        intro z43 (z43a : -2147483648 ≤ z43) (z43b : z43 < 2147483648) (z43c : z43 = X ((i + (1 : Int))).toNat)
        obtain rfl : z5 = z43 := z5c.trans z43c.symm
        refine And.intro (show -2147483648 ≤ (i + (2 : Int)) ∧ (i + (2 : Int)) < 2147483648 by omega) ?_
        refine And.intro rfl (And.intro (show 0 ≤ (i + (2 : Int)) ∧ (i + (2 : Int)) < L by omega) ?_)
        intro z44 (z44a : -2147483648 ≤ z44) (z44b : z44 < 2147483648) (z44c : z44 = X ((i + (2 : Int))).toNat)
        obtain rfl : z6 = z44 := z6c.trans z44c.symm
        intro z45
        refine And.intro (show -2147483648 ≤ (i + (3 : Int)) ∧ (i + (3 : Int)) < 2147483648 by omega) ?_
        refine And.intro rfl (And.intro (show 0 ≤ (i + (3 : Int)) ∧ (i + (3 : Int)) < L by omega) ?_)
        intro z46 (z46a : -2147483648 ≤ z46) (z46b : z46 < 2147483648) (z46c : z46 = X ((i + (3 : Int))).toNat)
        obtain rfl : z8 = z46 := z8c.trans z46c.symm
        intro z47
        intro z48
        refine And.intro (show -2147483648 ≤ (i + (4 : Int)) ∧ (i + (4 : Int)) < 2147483648 by omega) ?_
        refine And.intro rfl (And.intro (show 0 ≤ (i + (4 : Int)) ∧ (i + (4 : Int)) < L by omega) ?_)
        intro z49 (z49a : -2147483648 ≤ z49) (z49b : z49 < 2147483648) (z49c : z49 = X ((i + (4 : Int))).toNat)
        obtain rfl : z11 = z49 := z11c.trans z49c.symm
        refine And.intro (fun (h50 : (z11 = (0 : Int) : Prop)) => ?_) (fun (h50 : (z11 ≠ (0 : Int) : Prop)) => ?_)
        ·
          refine i_StubHouseModel_make (o := z5) (x := z48) (q := (0 : Int)) (show 0 ≤ (0 : Int) ∧ (0 : Int) ≤ 1 by omega) (show -2147483648 ≤ z5 ∧ z5 < 2147483648 by omega) I40 (fun z51 S52 I53  e54 e55 => ?_)
          refine And.intro (by decide) (And.intro (show -2147483648 ≤ i + (5 : Int) ∧ i + (5 : Int) < 2147483648 by omega) ?_)
          exact hc (i + (5 : Int)) S52 (by omega) (by omega) I53 trivial
        ·
          refine i_StubHouseModel_make (o := z5) (x := z48) (q := (1 : Int)) (show 0 ≤ (1 : Int) ∧ (1 : Int) ≤ 1 by omega) (show -2147483648 ≤ z5 ∧ z5 < 2147483648 by omega) I40 (fun z57 S58 I59  e60 e61 => ?_)
          refine And.intro (by decide) (And.intro (show -2147483648 ≤ i + (5 : Int) ∧ i + (5 : Int) < 2147483648 by omega) ?_)
          exact hc (i + (5 : Int)) S58 (by omega) (by omega) I59 trivial
    refine And.intro (fun (h63 : z3 = (1 : Int)) => ?_) (fun (h63 : z3 ≠ (1 : Int)) => ?_)
    ·
      refine And.intro (show -2147483648 ≤ (i + (1 : Int)) ∧ (i + (1 : Int)) < 2147483648 by omega) ?_
      refine And.intro rfl (And.intro (show 0 ≤ (i + (1 : Int)) ∧ (i + (1 : Int)) < L by omega) ?_)
      intro z64 (z64a : -2147483648 ≤ z64) (z64b : z64 < 2147483648) (z64c : z64 = X ((i + (1 : Int))).toNat)
      refine And.intro (show -2147483648 ≤ (i + (2 : Int)) ∧ (i + (2 : Int)) < 2147483648 by omega) ?_
      refine And.intro rfl (And.intro (show 0 ≤ (i + (2 : Int)) ∧ (i + (2 : Int)) < L by omega) ?_)
      intro z65 (z65a : -2147483648 ≤ z65) (z65b : z65 < 2147483648) (z65c : z65 = X ((i + (2 : Int))).toNat)
      intro z66
      refine And.intro (show -2147483648 ≤ (i + (3 : Int)) ∧ (i + (3 : Int)) < 2147483648 by omega) ?_
      refine And.intro rfl (And.intro (show 0 ≤ (i + (3 : Int)) ∧ (i + (3 : Int)) < L by omega) ?_)
      intro z67 (z67a : -2147483648 ≤ z67) (z67b : z67 < 2147483648) (z67c : z67 = X ((i + (3 : Int))).toNat)
      intro z68
      intro z69
      refine i_StubHouse_find (o := z64) (x := z69) (show -2147483648 ≤ z64 ∧ z64 < 2147483648 by omega) hI (fun z70 S71 I72  e73 e74 => ?_)
      refine And.intro (show -2147483648 ≤ (i + (1 : Int)) ∧ (i + (1 : Int)) < 2147483648 by omega) ?_
      refine And.intro rfl (And.intro (show 0 ≤ (i + (1 : Int)) ∧ (i + (1 : Int)) < L by omega) ?_)
      intro z75 (z75a : -2147483648 ≤ z75) (z75b : z75 < 2147483648) (z75c : z75 = X ((i + (1 : Int))).toNat)
      obtain rfl : z64 = z75 := z64c.trans z75c.symm
      refine And.intro (show -2147483648 ≤ (i + (2 : Int)) ∧ (i + (2 : Int)) < 2147483648 by omega) ?_
      refine And.intro rfl (And.intro (show 0 ≤ (i + (2 : Int)) ∧ (i + (2 : Int)) < L by omega) ?_)
      intro z76 (z76a : -2147483648 ≤ z76) (z76b : z76 < 2147483648) (z76c : z76 = X ((i + (2 : Int))).toNat)
      obtain rfl : z65 = z76 := z65c.trans z76c.symm
      intro z77
      refine And.intro (show -2147483648 ≤ (i + (3 : Int)) ∧ (i + (3 : Int)) < 2147483648 by omega) ?_
      refine And.intro rfl (And.intro (show 0 ≤ (i + (3 : Int)) ∧ (i + (3 : Int)) < L by omega) ?_)
      intro z78 (z78a : -2147483648 ≤ z78) (z78b : z78 < 2147483648) (z78c : z78 = X ((i + (3 : Int))).toNat)
      obtain rfl : z67 = z78 := z67c.trans z78c.symm
      intro z79
      intro z80
      refine i_StubHouseModel_find (o := z64) (x := z80) (show -2147483648 ≤ z64 ∧ z64 < 2147483648 by omega) I72 (fun z81 S82 I83  e84 e85 => ?_)
      refine And.intro (by decide) (And.intro (show -2147483648 ≤ i + (5 : Int) ∧ i + (5 : Int) < 2147483648 by omega) ?_)
      exact hc (i + (5 : Int)) S82 (by omega) (by omega) I83 trivial
    refine And.intro (fun (h87 : z3 = (2 : Int)) => ?_) (fun (h87 : z3 ≠ (2 : Int)) => ?_)
    ·
      refine And.intro (show -2147483648 ≤ (i + (1 : Int)) ∧ (i + (1 : Int)) < 2147483648 by omega) ?_
      refine And.intro rfl (And.intro (show 0 ≤ (i + (1 : Int)) ∧ (i + (1 : Int)) < L by omega) ?_)
      intro z88 (z88a : -2147483648 ≤ z88) (z88b : z88 < 2147483648) (z88c : z88 = X ((i + (1 : Int))).toNat)
      refine i_StubHouse_remove (n := z88) (show -2147483648 ≤ z88 ∧ z88 < 2147483648 by omega) hI (fun z89 S90 I91  e92 e93 => ?_)
      refine And.intro (show -2147483648 ≤ (i + (1 : Int)) ∧ (i + (1 : Int)) < 2147483648 by omega) ?_
      refine And.intro rfl (And.intro (show 0 ≤ (i + (1 : Int)) ∧ (i + (1 : Int)) < L by omega) ?_)
      intro z94 (z94a : -2147483648 ≤ z94) (z94b : z94 < 2147483648) (z94c : z94 = X ((i + (1 : Int))).toNat)
      obtain rfl : z88 = z94 := z88c.trans z94c.symm
      refine i_StubHouseModel_remove (n := z88) (show -2147483648 ≤ z88 ∧ z88 < 2147483648 by omega) I91 (fun z95 S96 I97  e98 e99 => ?_)
      refine And.intro (by decide) (And.intro (show -2147483648 ≤ i + (5 : Int) ∧ i + (5 : Int) < 2147483648 by omega) ?_)
      exact hc (i + (5 : Int)) S96 (by omega) (by omega) I97 trivial
    refine And.intro (fun (h101 : z3 = (3 : Int)) => ?_) (fun (h101 : z3 ≠ (3 : Int)) => ?_)
    ·
      refine And.intro (show -2147483648 ≤ (i + (1 : Int)) ∧ (i + (1 : Int)) < 2147483648 by omega) ?_
      refine And.intro rfl (And.intro (show 0 ≤ (i + (1 : Int)) ∧ (i + (1 : Int)) < L by omega) ?_)
      intro z102 (z102a : -2147483648 ≤ z102) (z102b : z102 < 2147483648) (z102c : z102 = X ((i + (1 : Int))).toNat)
      refine And.intro (show -2147483648 ≤ (i + (2 : Int)) ∧ (i + (2 : Int)) < 2147483648 by omega) ?_
      refine And.intro rfl (And.intro (show 0 ≤ (i + (2 : Int)) ∧ (i + (2 : Int)) < L by omega) ?_)
      intro z103 (z103a : -2147483648 ≤ z103) (z103b : z103 < 2147483648) (z103c : z103 = X ((i + (2 : Int))).toNat)
      refine And.intro (show -2147483648 ≤ (i + (3 : Int)) ∧ (i + (3 : Int)) < 2147483648 by omega) ?_
      refine And.intro rfl (And.intro (show 0 ≤ (i + (3 : Int)) ∧ (i + (3 : Int)) < L by omega) ?_)
      intro z104 (z104a : -2147483648 ≤ z104) (z104b : z104 < 2147483648) (z104c : z104 = X ((i + (3 : Int))).toNat)
      intro z105
      refine And.intro (show -2147483648 ≤ (i + (4 : Int)) ∧ (i + (4 : Int)) < 2147483648 by omega) ?_
      refine And.intro rfl (And.intro (show 0 ≤ (i + (4 : Int)) ∧ (i + (4 : Int)) < L by omega) ?_)
      intro z106 (z106a : -2147483648 ≤ z106) (z106b : z106 < 2147483648) (z106c : z106 = X ((i + (4 : Int))).toNat)
      intro z107
      intro z108
      refine i_StubHouse_move (n := z102) (o := z103) (x := z108) (show -2147483648 ≤ z102 ∧ z102 < 2147483648 by omega) (show -2147483648 ≤ z103 ∧ z103 < 2147483648 by omega) hI (fun z109 S110 I111  e112 e113 => ?_)
      refine And.intro (show -2147483648 ≤ (i + (1 : Int)) ∧ (i + (1 : Int)) < 2147483648 by omega) ?_
      refine And.intro rfl (And.intro (show 0 ≤ (i + (1 : Int)) ∧ (i + (1 : Int)) < L by omega) ?_)
      intro z114 (z114a : -2147483648 ≤ z114) (z114b : z114 < 2147483648) (z114c : z114 = X ((i + (1 : Int))).toNat)
      obtain rfl : z102 = z114 := z102c.trans z114c.symm
      refine And.intro (show -2147483648 ≤ (i + (2 : Int)) ∧ (i + (2 : Int)) < 2147483648 by omega) ?_
      refine And.intro rfl (And.intro (show 0 ≤ (i + (2 : Int)) ∧ (i + (2 : Int)) < L by omega) ?_)
      intro z115 (z115a : -2147483648 ≤ z115) (z115b : z115 < 2147483648) (z115c : z115 = X ((i + (2 : Int))).toNat)
      obtain rfl : z103 = z115 := z103c.trans z115c.symm
      refine And.intro (show -2147483648 ≤ (i + (3 : Int)) ∧ (i + (3 : Int)) < 2147483648 by omega) ?_
      refine And.intro rfl (And.intro (show 0 ≤ (i + (3 : Int)) ∧ (i + (3 : Int)) < L by omega) ?_)
      intro z116 (z116a : -2147483648 ≤ z116) (z116b : z116 < 2147483648) (z116c : z116 = X ((i + (3 : Int))).toNat)
      obtain rfl : z104 = z116 := z104c.trans z116c.symm
      intro z117
      refine And.intro (show -2147483648 ≤ (i + (4 : Int)) ∧ (i + (4 : Int)) < 2147483648 by omega) ?_
      refine And.intro rfl (And.intro (show 0 ≤ (i + (4 : Int)) ∧ (i + (4 : Int)) < L by omega) ?_)
      intro z118 (z118a : -2147483648 ≤ z118) (z118b : z118 < 2147483648) (z118c : z118 = X ((i + (4 : Int))).toNat)
      obtain rfl : z106 = z118 := z106c.trans z118c.symm
      intro z119
      intro z120
      refine i_StubHouseModel_move (n := z102) (o := z103) (x := z120) (show -2147483648 ≤ z102 ∧ z102 < 2147483648 by omega) (show -2147483648 ≤ z103 ∧ z103 < 2147483648 by omega) I111 (fun z121 S122 I123  e124 e125 => ?_)
      refine And.intro (by decide) (And.intro (show -2147483648 ≤ i + (5 : Int) ∧ i + (5 : Int) < 2147483648 by omega) ?_)
      exact hc (i + (5 : Int)) S122 (by omega) (by omega) I123 trivial
    refine And.intro (fun (h127 : z3 = (4 : Int)) => ?_) (fun (h127 : z3 ≠ (4 : Int)) => ?_)
    ·
      refine And.intro (show -2147483648 ≤ (i + (1 : Int)) ∧ (i + (1 : Int)) < 2147483648 by omega) ?_
      refine And.intro rfl (And.intro (show 0 ≤ (i + (1 : Int)) ∧ (i + (1 : Int)) < L by omega) ?_)
      intro z128 (z128a : -2147483648 ≤ z128) (z128b : z128 < 2147483648) (z128c : z128 = X ((i + (1 : Int))).toNat)
      refine And.intro (show -2147483648 ≤ (i + (2 : Int)) ∧ (i + (2 : Int)) < 2147483648 by omega) ?_
      refine And.intro rfl (And.intro (show 0 ≤ (i + (2 : Int)) ∧ (i + (2 : Int)) < L by omega) ?_)
      intro z129 (z129a : -2147483648 ≤ z129) (z129b : z129 < 2147483648) (z129c : z129 = X ((i + (2 : Int))).toNat)
      intro z130
      refine And.intro (show -2147483648 ≤ (i + (3 : Int)) ∧ (i + (3 : Int)) < 2147483648 by omega) ?_
      refine And.intro rfl (And.intro (show 0 ≤ (i + (3 : Int)) ∧ (i + (3 : Int)) < L by omega) ?_)
      intro z131 (z131a : -2147483648 ≤ z131) (z131b : z131 < 2147483648) (z131c : z131 = X ((i + (3 : Int))).toNat)
      intro z132
      intro z133
      refine i_StubHouse_feed (n := z128) (x := z133) (show -2147483648 ≤ z128 ∧ z128 < 2147483648 by omega) hI (fun z134 S135 I136  e137 e138 => ?_)
      refine And.intro (show -2147483648 ≤ (i + (1 : Int)) ∧ (i + (1 : Int)) < 2147483648 by omega) ?_
      refine And.intro rfl (And.intro (show 0 ≤ (i + (1 : Int)) ∧ (i + (1 : Int)) < L by omega) ?_)
      intro z139 (z139a : -2147483648 ≤ z139) (z139b : z139 < 2147483648) (z139c : z139 = X ((i + (1 : Int))).toNat)
      obtain rfl : z128 = z139 := z128c.trans z139c.symm
      refine And.intro (show -2147483648 ≤ (i + (2 : Int)) ∧ (i + (2 : Int)) < 2147483648 by omega) ?_
      refine And.intro rfl (And.intro (show 0 ≤ (i + (2 : Int)) ∧ (i + (2 : Int)) < L by omega) ?_)
      intro z140 (z140a : -2147483648 ≤ z140) (z140b : z140 < 2147483648) (z140c : z140 = X ((i + (2 : Int))).toNat)
      obtain rfl : z129 = z140 := z129c.trans z140c.symm
      intro z141
      refine And.intro (show -2147483648 ≤ (i + (3 : Int)) ∧ (i + (3 : Int)) < 2147483648 by omega) ?_
      refine And.intro rfl (And.intro (show 0 ≤ (i + (3 : Int)) ∧ (i + (3 : Int)) < L by omega) ?_)
      intro z142 (z142a : -2147483648 ≤ z142) (z142b : z142 < 2147483648) (z142c : z142 = X ((i + (3 : Int))).toNat)
      obtain rfl : z131 = z142 := z131c.trans z142c.symm
      intro z143
      intro z144
      refine i_StubHouseModel_feed (n := z128) (x := z144) (show -2147483648 ≤ z128 ∧ z128 < 2147483648 by omega) I136 (fun z145 S146 I147  e148 e149 => ?_)
      refine And.intro (by decide) (And.intro (show -2147483648 ≤ i + (5 : Int) ∧ i + (5 : Int) < 2147483648 by omega) ?_)
      exact hc (i + (5 : Int)) S146 (by omega) (by omega) I147 trivial
    refine And.intro (fun (h151 : z3 = (5 : Int)) => ?_) (fun (h151 : z3 ≠ (5 : Int)) => ?_)
    ·
      refine And.intro (show -2147483648 ≤ (i + (1 : Int)) ∧ (i + (1 : Int)) < 2147483648 by omega) ?_
      refine And.intro rfl (And.intro (show 0 ≤ (i + (1 : Int)) ∧ (i + (1 : Int)) < L by omega) ?_)
      intro z152 (z152a : -2147483648 ≤ z152) (z152b : z152 < 2147483648) (z152c : z152 = X ((i + (1 : Int))).toNat)
      refine And.intro (show -2147483648 ≤ (i + (2 : Int)) ∧ (i + (2 : Int)) < 2147483648 by omega) ?_
      refine And.intro rfl (And.intro (show 0 ≤ (i + (2 : Int)) ∧ (i + (2 : Int)) < L by omega) ?_)
      intro z153 (z153a : -2147483648 ≤ z153) (z153b : z153 < 2147483648) (z153c : z153 = X ((i + (2 : Int))).toNat)
      refine i_StubHouse_fill (n := z152) (v := z153) (show -2147483648 ≤ z152 ∧ z152 < 2147483648 by omega) (show -2147483648 ≤ z153 ∧ z153 < 2147483648 by omega) hI (fun z154 S155 I156  e157 e158 => ?_)
      refine And.intro (show -2147483648 ≤ (i + (1 : Int)) ∧ (i + (1 : Int)) < 2147483648 by omega) ?_
      refine And.intro rfl (And.intro (show 0 ≤ (i + (1 : Int)) ∧ (i + (1 : Int)) < L by omega) ?_)
      intro z159 (z159a : -2147483648 ≤ z159) (z159b : z159 < 2147483648) (z159c : z159 = X ((i + (1 : Int))).toNat)
      obtain rfl : z152 = z159 := z152c.trans z159c.symm
      refine And.intro (show -2147483648 ≤ (i + (2 : Int)) ∧ (i + (2 : Int)) < 2147483648 by omega) ?_
      refine And.intro rfl (And.intro (show 0 ≤ (i + (2 : Int)) ∧ (i + (2 : Int)) < L by omega) ?_)
      intro z160 (z160a : -2147483648 ≤ z160) (z160b : z160 < 2147483648) (z160c : z160 = X ((i + (2 : Int))).toNat)
      obtain rfl : z153 = z160 := z153c.trans z160c.symm
      refine i_StubHouseModel_fill (n := z152) (v := z153) (show -2147483648 ≤ z152 ∧ z152 < 2147483648 by omega) (show -2147483648 ≤ z153 ∧ z153 < 2147483648 by omega) I156 (fun z161 S162 I163  e164 e165 => ?_)
      refine And.intro (by decide) (And.intro (show -2147483648 ≤ i + (5 : Int) ∧ i + (5 : Int) < 2147483648 by omega) ?_)
      exact hc (i + (5 : Int)) S162 (by omega) (by omega) I163 trivial
    refine And.intro (fun (h167 : z3 = (6 : Int)) => ?_) (fun (h167 : z3 ≠ (6 : Int)) => ?_)
    ·
      refine And.intro (show -2147483648 ≤ (i + (1 : Int)) ∧ (i + (1 : Int)) < 2147483648 by omega) ?_
      refine And.intro rfl (And.intro (show 0 ≤ (i + (1 : Int)) ∧ (i + (1 : Int)) < L by omega) ?_)
      intro z168 (z168a : -2147483648 ≤ z168) (z168b : z168 < 2147483648) (z168c : z168 = X ((i + (1 : Int))).toNat)
      refine And.intro (show -2147483648 ≤ (i + (2 : Int)) ∧ (i + (2 : Int)) < 2147483648 by omega) ?_
      refine And.intro rfl (And.intro (show 0 ≤ (i + (2 : Int)) ∧ (i + (2 : Int)) < L by omega) ?_)
      intro z169 (z169a : -2147483648 ≤ z169) (z169b : z169 < 2147483648) (z169c : z169 = X ((i + (2 : Int))).toNat)
      refine i_StubHouse_write (n := z168) (p := z169) (show -2147483648 ≤ z168 ∧ z168 < 2147483648 by omega) (show -2147483648 ≤ z169 ∧ z169 < 2147483648 by omega) hI (fun z170 S171 I172  e173 e174 => ?_)
      refine And.intro (show -2147483648 ≤ (i + (1 : Int)) ∧ (i + (1 : Int)) < 2147483648 by omega) ?_
      refine And.intro rfl (And.intro (show 0 ≤ (i + (1 : Int)) ∧ (i + (1 : Int)) < L by omega) ?_)
      intro z175 (z175a : -2147483648 ≤ z175) (z175b : z175 < 2147483648) (z175c : z175 = X ((i + (1 : Int))).toNat)
      obtain rfl : z168 = z175 := z168c.trans z175c.symm
      refine And.intro (show -2147483648 ≤ (i + (2 : Int)) ∧ (i + (2 : Int)) < 2147483648 by omega) ?_
      refine And.intro rfl (And.intro (show 0 ≤ (i + (2 : Int)) ∧ (i + (2 : Int)) < L by omega) ?_)
      intro z176 (z176a : -2147483648 ≤ z176) (z176b : z176 < 2147483648) (z176c : z176 = X ((i + (2 : Int))).toNat)
      obtain rfl : z169 = z176 := z169c.trans z176c.symm
      refine i_StubHouseModel_write (f := z168) (p := z169) (show -2147483648 ≤ z168 ∧ z168 < 2147483648 by omega) (show -2147483648 ≤ z169 ∧ z169 < 2147483648 by omega) I172 (fun z177 S178 I179  e180 e181 => ?_)
      refine And.intro (by decide) (And.intro (show -2147483648 ≤ i + (5 : Int) ∧ i + (5 : Int) < 2147483648 by omega) ?_)
      exact hc (i + (5 : Int)) S178 (by omega) (by omega) I179 trivial
    refine And.intro (fun (h183 : z3 = (7 : Int)) => ?_) (fun (h183 : z3 ≠ (7 : Int)) => ?_)
    ·
      refine And.intro (show -2147483648 ≤ (i + (1 : Int)) ∧ (i + (1 : Int)) < 2147483648 by omega) ?_
      refine And.intro rfl (And.intro (show 0 ≤ (i + (1 : Int)) ∧ (i + (1 : Int)) < L by omega) ?_)
      intro z184 (z184a : -2147483648 ≤ z184) (z184b : z184 < 2147483648) (z184c : z184 = X ((i + (1 : Int))).toNat)
      refine And.intro (show -2147483648 ≤ (i + (2 : Int)) ∧ (i + (2 : Int)) < 2147483648 by omega) ?_
      refine And.intro rfl (And.intro (show 0 ≤ (i + (2 : Int)) ∧ (i + (2 : Int)) < L by omega) ?_)
      intro z185 (z185a : -2147483648 ≤ z185) (z185b : z185 < 2147483648) (z185c : z185 = X ((i + (2 : Int))).toNat)
      refine i_StubHouse_cut (n := z184) (z := z185) (show -2147483648 ≤ z184 ∧ z184 < 2147483648 by omega) (show -2147483648 ≤ z185 ∧ z185 < 2147483648 by omega) hI (fun z186 S187 I188  e189 e190 => ?_)
      refine And.intro (show -2147483648 ≤ (i + (1 : Int)) ∧ (i + (1 : Int)) < 2147483648 by omega) ?_
      refine And.intro rfl (And.intro (show 0 ≤ (i + (1 : Int)) ∧ (i + (1 : Int)) < L by omega) ?_)
      intro z191 (z191a : -2147483648 ≤ z191) (z191b : z191 < 2147483648) (z191c : z191 = X ((i + (1 : Int))).toNat)
      obtain rfl : z184 = z191 := z184c.trans z191c.symm
      refine And.intro (show -2147483648 ≤ (i + (2 : Int)) ∧ (i + (2 : Int)) < 2147483648 by omega) ?_
      refine And.intro rfl (And.intro (show 0 ≤ (i + (2 : Int)) ∧ (i + (2 : Int)) < L by omega) ?_)
      intro z192 (z192a : -2147483648 ≤ z192) (z192b : z192 < 2147483648) (z192c : z192 = X ((i + (2 : Int))).toNat)
      obtain rfl : z185 = z192 := z185c.trans z192c.symm
      refine i_StubHouseModel_cut (f := z184) (z := z185) (show -2147483648 ≤ z184 ∧ z184 < 2147483648 by omega) (show -2147483648 ≤ z185 ∧ z185 < 2147483648 by omega) I188 (fun z193 S194 I195  e196 e197 => ?_)
      refine And.intro (by decide) (And.intro (show -2147483648 ≤ i + (5 : Int) ∧ i + (5 : Int) < 2147483648 by omega) ?_)
      exact hc (i + (5 : Int)) S194 (by omega) (by omega) I195 trivial
    refine And.intro (fun (h199 : z3 = (8 : Int)) => ?_) (fun (h199 : z3 ≠ (8 : Int)) => ?_)
    ·
      refine And.intro (show -2147483648 ≤ (i + (1 : Int)) ∧ (i + (1 : Int)) < 2147483648 by omega) ?_
      refine And.intro rfl (And.intro (show 0 ≤ (i + (1 : Int)) ∧ (i + (1 : Int)) < L by omega) ?_)
      intro z200 (z200a : -2147483648 ≤ z200) (z200b : z200 < 2147483648) (z200c : z200 = X ((i + (1 : Int))).toNat)
      refine And.intro (show -2147483648 ≤ (i + (2 : Int)) ∧ (i + (2 : Int)) < 2147483648 by omega) ?_
      refine And.intro rfl (And.intro (show 0 ≤ (i + (2 : Int)) ∧ (i + (2 : Int)) < L by omega) ?_)
      intro z201 (z201a : -2147483648 ≤ z201) (z201b : z201 < 2147483648) (z201c : z201 = X ((i + (2 : Int))).toNat)
      refine i_StubHouse_read (n := z200) (p := z201) (show -2147483648 ≤ z200 ∧ z200 < 2147483648 by omega) (show -2147483648 ≤ z201 ∧ z201 < 2147483648 by omega) hI (fun z202 S203 I204  e205 e206 => ?_)
      refine And.intro (show -2147483648 ≤ (i + (1 : Int)) ∧ (i + (1 : Int)) < 2147483648 by omega) ?_
      refine And.intro rfl (And.intro (show 0 ≤ (i + (1 : Int)) ∧ (i + (1 : Int)) < L by omega) ?_)
      intro z207 (z207a : -2147483648 ≤ z207) (z207b : z207 < 2147483648) (z207c : z207 = X ((i + (1 : Int))).toNat)
      obtain rfl : z200 = z207 := z200c.trans z207c.symm
      refine And.intro (show -2147483648 ≤ (i + (2 : Int)) ∧ (i + (2 : Int)) < 2147483648 by omega) ?_
      refine And.intro rfl (And.intro (show 0 ≤ (i + (2 : Int)) ∧ (i + (2 : Int)) < L by omega) ?_)
      intro z208 (z208a : -2147483648 ≤ z208) (z208b : z208 < 2147483648) (z208c : z208 = X ((i + (2 : Int))).toNat)
      obtain rfl : z201 = z208 := z201c.trans z208c.symm
      refine i_StubHouseModel_read (f := z200) (p := z201) (show -2147483648 ≤ z200 ∧ z200 < 2147483648 by omega) (show -2147483648 ≤ z201 ∧ z201 < 2147483648 by omega) I204 (fun z209 S210 I211  e212 e213 => ?_)
      refine And.intro (by decide) (And.intro (show -2147483648 ≤ i + (5 : Int) ∧ i + (5 : Int) < 2147483648 by omega) ?_)
      exact hc (i + (5 : Int)) S210 (by omega) (by omega) I211 trivial
    refine And.intro (fun (h215 : z3 = (9 : Int)) => ?_) (fun (h215 : z3 ≠ (9 : Int)) => ?_)
    ·
      refine And.intro (show -2147483648 ≤ (i + (1 : Int)) ∧ (i + (1 : Int)) < 2147483648 by omega) ?_
      refine And.intro rfl (And.intro (show 0 ≤ (i + (1 : Int)) ∧ (i + (1 : Int)) < L by omega) ?_)
      intro z216 (z216a : -2147483648 ≤ z216) (z216b : z216 < 2147483648) (z216c : z216 = X ((i + (1 : Int))).toNat)
      refine And.intro (show -2147483648 ≤ (i + (2 : Int)) ∧ (i + (2 : Int)) < 2147483648 by omega) ?_
      refine And.intro rfl (And.intro (show 0 ≤ (i + (2 : Int)) ∧ (i + (2 : Int)) < L by omega) ?_)
      intro z217 (z217a : -2147483648 ≤ z217) (z217b : z217 < 2147483648) (z217c : z217 = X ((i + (2 : Int))).toNat)
      refine i_StubHouse_about (n := z216) (w := z217) (show -2147483648 ≤ z216 ∧ z216 < 2147483648 by omega) (show -2147483648 ≤ z217 ∧ z217 < 2147483648 by omega) hI (fun z218 S219 I220  e221 e222 => ?_)
      refine And.intro (show -2147483648 ≤ (i + (1 : Int)) ∧ (i + (1 : Int)) < 2147483648 by omega) ?_
      refine And.intro rfl (And.intro (show 0 ≤ (i + (1 : Int)) ∧ (i + (1 : Int)) < L by omega) ?_)
      intro z223 (z223a : -2147483648 ≤ z223) (z223b : z223 < 2147483648) (z223c : z223 = X ((i + (1 : Int))).toNat)
      obtain rfl : z216 = z223 := z216c.trans z223c.symm
      refine And.intro (show -2147483648 ≤ (i + (2 : Int)) ∧ (i + (2 : Int)) < 2147483648 by omega) ?_
      refine And.intro rfl (And.intro (show 0 ≤ (i + (2 : Int)) ∧ (i + (2 : Int)) < L by omega) ?_)
      intro z224 (z224a : -2147483648 ≤ z224) (z224b : z224 < 2147483648) (z224c : z224 = X ((i + (2 : Int))).toNat)
      obtain rfl : z217 = z224 := z217c.trans z224c.symm
      refine i_StubHouseModel_about (n := z216) (w := z217) (show -2147483648 ≤ z216 ∧ z216 < 2147483648 by omega) (show -2147483648 ≤ z217 ∧ z217 < 2147483648 by omega) I220 (fun z225 S226 I227  e228 e229 => ?_)
      refine And.intro (by decide) (And.intro (show -2147483648 ≤ i + (5 : Int) ∧ i + (5 : Int) < 2147483648 by omega) ?_)
      exact hc (i + (5 : Int)) S226 (by omega) (by omega) I227 trivial
    refine And.intro (fun (h231 : z3 = (10 : Int)) => ?_) (fun (h231 : z3 ≠ (10 : Int)) => ?_)
    ·
      refine And.intro (show -2147483648 ≤ (i + (1 : Int)) ∧ (i + (1 : Int)) < 2147483648 by omega) ?_
      refine And.intro rfl (And.intro (show 0 ≤ (i + (1 : Int)) ∧ (i + (1 : Int)) < L by omega) ?_)
      intro z232 (z232a : -2147483648 ≤ z232) (z232b : z232 < 2147483648) (z232c : z232 = X ((i + (1 : Int))).toNat)
      refine i_StubHouse_name (n := z232) (show -2147483648 ≤ z232 ∧ z232 < 2147483648 by omega) hI (fun z233 S234 I235  e236 e237 => ?_)
      refine And.intro (show -2147483648 ≤ (i + (1 : Int)) ∧ (i + (1 : Int)) < 2147483648 by omega) ?_
      refine And.intro rfl (And.intro (show 0 ≤ (i + (1 : Int)) ∧ (i + (1 : Int)) < L by omega) ?_)
      intro z238 (z238a : -2147483648 ≤ z238) (z238b : z238 < 2147483648) (z238c : z238 = X ((i + (1 : Int))).toNat)
      obtain rfl : z232 = z238 := z232c.trans z238c.symm
      refine i_StubHouseModel_name (n := z232) (show -2147483648 ≤ z232 ∧ z232 < 2147483648 by omega) I235 (fun z239 S240 I241  e242 e243 => ?_)
      refine And.intro (by decide) (And.intro (show -2147483648 ≤ i + (5 : Int) ∧ i + (5 : Int) < 2147483648 by omega) ?_)
      exact hc (i + (5 : Int)) S240 (by omega) (by omega) I241 trivial
    refine And.intro (fun (h245 : z3 = (11 : Int)) => ?_) (fun (h245 : z3 ≠ (11 : Int)) => ?_)
    ·
      refine And.intro (show -2147483648 ≤ (i + (1 : Int)) ∧ (i + (1 : Int)) < 2147483648 by omega) ?_
      refine And.intro rfl (And.intro (show 0 ≤ (i + (1 : Int)) ∧ (i + (1 : Int)) < L by omega) ?_)
      intro z246 (z246a : -2147483648 ≤ z246) (z246b : z246 < 2147483648) (z246c : z246 = X ((i + (1 : Int))).toNat)
      refine And.intro (show -2147483648 ≤ (i + (2 : Int)) ∧ (i + (2 : Int)) < 2147483648 by omega) ?_
      refine And.intro rfl (And.intro (show 0 ≤ (i + (2 : Int)) ∧ (i + (2 : Int)) < L by omega) ?_)
      intro z247 (z247a : -2147483648 ≤ z247) (z247b : z247 < 2147483648) (z247c : z247 = X ((i + (2 : Int))).toNat)
      refine i_StubHouse_block (n := z246) (j := z247) (show -2147483648 ≤ z246 ∧ z246 < 2147483648 by omega) (show -2147483648 ≤ z247 ∧ z247 < 2147483648 by omega) hI (fun z248 S249 I250  e251 e252 => ?_)
      refine And.intro (show -2147483648 ≤ (i + (1 : Int)) ∧ (i + (1 : Int)) < 2147483648 by omega) ?_
      refine And.intro rfl (And.intro (show 0 ≤ (i + (1 : Int)) ∧ (i + (1 : Int)) < L by omega) ?_)
      intro z253 (z253a : -2147483648 ≤ z253) (z253b : z253 < 2147483648) (z253c : z253 = X ((i + (1 : Int))).toNat)
      obtain rfl : z246 = z253 := z246c.trans z253c.symm
      refine And.intro (show -2147483648 ≤ (i + (2 : Int)) ∧ (i + (2 : Int)) < 2147483648 by omega) ?_
      refine And.intro rfl (And.intro (show 0 ≤ (i + (2 : Int)) ∧ (i + (2 : Int)) < L by omega) ?_)
      intro z254 (z254a : -2147483648 ≤ z254) (z254b : z254 < 2147483648) (z254c : z254 = X ((i + (2 : Int))).toNat)
      obtain rfl : z247 = z254 := z247c.trans z254c.symm
      refine i_StubHouseModel_block (f := z246) (i := z247) (show -2147483648 ≤ z246 ∧ z246 < 2147483648 by omega) (show -2147483648 ≤ z247 ∧ z247 < 2147483648 by omega) I250 (fun z255 S256 I257  e258 e259 => ?_)
      refine And.intro (by decide) (And.intro (show -2147483648 ≤ i + (5 : Int) ∧ i + (5 : Int) < 2147483648 by omega) ?_)
      exact hc (i + (5 : Int)) S256 (by omega) (by omega) I257 trivial
    refine And.intro (fun (h261 : z3 = (12 : Int)) => ?_) (fun (h261 : z3 ≠ (12 : Int)) => ?_)
    ·
      refine And.intro (show -2147483648 ≤ (i + (1 : Int)) ∧ (i + (1 : Int)) < 2147483648 by omega) ?_
      refine And.intro rfl (And.intro (show 0 ≤ (i + (1 : Int)) ∧ (i + (1 : Int)) < L by omega) ?_)
      intro z262 (z262a : -2147483648 ≤ z262) (z262b : z262 < 2147483648) (z262c : z262 = X ((i + (1 : Int))).toNat)
      refine And.intro (show -2147483648 ≤ (i + (2 : Int)) ∧ (i + (2 : Int)) < 2147483648 by omega) ?_
      refine And.intro rfl (And.intro (show 0 ≤ (i + (2 : Int)) ∧ (i + (2 : Int)) < L by omega) ?_)
      intro z263 (z263a : -2147483648 ≤ z263) (z263b : z263 < 2147483648) (z263c : z263 = X ((i + (2 : Int))).toNat)
      refine And.intro (show -2147483648 ≤ (i + (3 : Int)) ∧ (i + (3 : Int)) < 2147483648 by omega) ?_
      refine And.intro rfl (And.intro (show 0 ≤ (i + (3 : Int)) ∧ (i + (3 : Int)) < L by omega) ?_)
      intro z264 (z264a : -2147483648 ≤ z264) (z264b : z264 < 2147483648) (z264c : z264 = X ((i + (3 : Int))).toNat)
      refine i_StubHouse_copy (n := z262) (j := z263) (w := z264) (show -2147483648 ≤ z262 ∧ z262 < 2147483648 by omega) (show -2147483648 ≤ z263 ∧ z263 < 2147483648 by omega) (show -2147483648 ≤ z264 ∧ z264 < 2147483648 by omega) hI (fun z265 S266 I267  e268 e269 => ?_)
      refine And.intro (show -2147483648 ≤ (i + (1 : Int)) ∧ (i + (1 : Int)) < 2147483648 by omega) ?_
      refine And.intro rfl (And.intro (show 0 ≤ (i + (1 : Int)) ∧ (i + (1 : Int)) < L by omega) ?_)
      intro z270 (z270a : -2147483648 ≤ z270) (z270b : z270 < 2147483648) (z270c : z270 = X ((i + (1 : Int))).toNat)
      obtain rfl : z262 = z270 := z262c.trans z270c.symm
      refine And.intro (show -2147483648 ≤ (i + (2 : Int)) ∧ (i + (2 : Int)) < 2147483648 by omega) ?_
      refine And.intro rfl (And.intro (show 0 ≤ (i + (2 : Int)) ∧ (i + (2 : Int)) < L by omega) ?_)
      intro z271 (z271a : -2147483648 ≤ z271) (z271b : z271 < 2147483648) (z271c : z271 = X ((i + (2 : Int))).toNat)
      obtain rfl : z263 = z271 := z263c.trans z271c.symm
      refine And.intro (show -2147483648 ≤ (i + (3 : Int)) ∧ (i + (3 : Int)) < 2147483648 by omega) ?_
      refine And.intro rfl (And.intro (show 0 ≤ (i + (3 : Int)) ∧ (i + (3 : Int)) < L by omega) ?_)
      intro z272 (z272a : -2147483648 ≤ z272) (z272b : z272 < 2147483648) (z272c : z272 = X ((i + (3 : Int))).toNat)
      obtain rfl : z264 = z272 := z264c.trans z272c.symm
      refine i_StubHouseModel_copy (f := z262) (i := z263) (w := z264) (show -2147483648 ≤ z262 ∧ z262 < 2147483648 by omega) (show -2147483648 ≤ z263 ∧ z263 < 2147483648 by omega) (show -2147483648 ≤ z264 ∧ z264 < 2147483648 by omega) I267 (fun z273 S274 I275  e276 e277 => ?_)
      refine And.intro (by decide) (And.intro (show -2147483648 ≤ i + (5 : Int) ∧ i + (5 : Int) < 2147483648 by omega) ?_)
      exact hc (i + (5 : Int)) S274 (by omega) (by omega) I275 trivial
    refine And.intro (fun (h279 : z3 = (13 : Int)) => ?_) (fun (h279 : z3 ≠ (13 : Int)) => ?_)
    ·
      refine And.intro (show -2147483648 ≤ (i + (1 : Int)) ∧ (i + (1 : Int)) < 2147483648 by omega) ?_
      refine And.intro rfl (And.intro (show 0 ≤ (i + (1 : Int)) ∧ (i + (1 : Int)) < L by omega) ?_)
      intro z280 (z280a : -2147483648 ≤ z280) (z280b : z280 < 2147483648) (z280c : z280 = X ((i + (1 : Int))).toNat)
      refine And.intro (show -2147483648 ≤ (i + (2 : Int)) ∧ (i + (2 : Int)) < 2147483648 by omega) ?_
      refine And.intro rfl (And.intro (show 0 ≤ (i + (2 : Int)) ∧ (i + (2 : Int)) < L by omega) ?_)
      intro z281 (z281a : -2147483648 ≤ z281) (z281b : z281 < 2147483648) (z281c : z281 = X ((i + (2 : Int))).toNat)
      refine And.intro (show -2147483648 ≤ (i + (3 : Int)) ∧ (i + (3 : Int)) < 2147483648 by omega) ?_
      refine And.intro rfl (And.intro (show 0 ≤ (i + (3 : Int)) ∧ (i + (3 : Int)) < L by omega) ?_)
      intro z282 (z282a : -2147483648 ≤ z282) (z282b : z282 < 2147483648) (z282c : z282 = X ((i + (3 : Int))).toNat)
      refine i_StubHouse_marks (s := z280) (h := z281) (lo := z282) (show -2147483648 ≤ z280 ∧ z280 < 2147483648 by omega) (show -2147483648 ≤ z281 ∧ z281 < 2147483648 by omega) (show -2147483648 ≤ z282 ∧ z282 < 2147483648 by omega) hI (fun z283 S284 I285 q288 e286 e287 => ?_)
      clear q288
      refine And.intro (show -2147483648 ≤ (i + (1 : Int)) ∧ (i + (1 : Int)) < 2147483648 by omega) ?_
      refine And.intro rfl (And.intro (show 0 ≤ (i + (1 : Int)) ∧ (i + (1 : Int)) < L by omega) ?_)
      intro z289 (z289a : -2147483648 ≤ z289) (z289b : z289 < 2147483648) (z289c : z289 = X ((i + (1 : Int))).toNat)
      obtain rfl : z280 = z289 := z280c.trans z289c.symm
      refine And.intro (show -2147483648 ≤ (i + (2 : Int)) ∧ (i + (2 : Int)) < 2147483648 by omega) ?_
      refine And.intro rfl (And.intro (show 0 ≤ (i + (2 : Int)) ∧ (i + (2 : Int)) < L by omega) ?_)
      intro z290 (z290a : -2147483648 ≤ z290) (z290b : z290 < 2147483648) (z290c : z290 = X ((i + (2 : Int))).toNat)
      obtain rfl : z281 = z290 := z281c.trans z290c.symm
      refine And.intro (show -2147483648 ≤ (i + (3 : Int)) ∧ (i + (3 : Int)) < 2147483648 by omega) ?_
      refine And.intro rfl (And.intro (show 0 ≤ (i + (3 : Int)) ∧ (i + (3 : Int)) < L by omega) ?_)
      intro z291 (z291a : -2147483648 ≤ z291) (z291b : z291 < 2147483648) (z291c : z291 = X ((i + (3 : Int))).toNat)
      obtain rfl : z282 = z291 := z282c.trans z291c.symm
      refine i_StubHouseModel_marks (s := z280) (h := z281) (lo := z282) (show -2147483648 ≤ z280 ∧ z280 < 2147483648 by omega) (show -2147483648 ≤ z281 ∧ z281 < 2147483648 by omega) (show -2147483648 ≤ z282 ∧ z282 < 2147483648 by omega) I285 (fun z292 S293 I294 q297 e295 e296 => ?_)
      clear q297
      refine And.intro (by decide) (And.intro (show -2147483648 ≤ i + (5 : Int) ∧ i + (5 : Int) < 2147483648 by omega) ?_)
      exact hc (i + (5 : Int)) S293 (by omega) (by omega) I294 trivial
    refine And.intro (fun (h299 : z3 = (14 : Int)) => ?_) (fun (h299 : z3 ≠ (14 : Int)) => ?_)
    ·
      refine And.intro (show -2147483648 ≤ (i + (1 : Int)) ∧ (i + (1 : Int)) < 2147483648 by omega) ?_
      refine And.intro rfl (And.intro (show 0 ≤ (i + (1 : Int)) ∧ (i + (1 : Int)) < L by omega) ?_)
      intro z300 (z300a : -2147483648 ≤ z300) (z300b : z300 < 2147483648) (z300c : z300 = X ((i + (1 : Int))).toNat)
      refine i_StubHouse_copies (n := z300) (show -2147483648 ≤ z300 ∧ z300 < 2147483648 by omega) hI (fun z301 S302 I303 q306 e304 e305 => ?_)
      clear q306
      refine And.intro (show -2147483648 ≤ (i + (1 : Int)) ∧ (i + (1 : Int)) < 2147483648 by omega) ?_
      refine And.intro rfl (And.intro (show 0 ≤ (i + (1 : Int)) ∧ (i + (1 : Int)) < L by omega) ?_)
      intro z307 (z307a : -2147483648 ≤ z307) (z307b : z307 < 2147483648) (z307c : z307 = X ((i + (1 : Int))).toNat)
      obtain rfl : z300 = z307 := z300c.trans z307c.symm
      refine i_StubHouseModel_copies (n := z300) (show -2147483648 ≤ z300 ∧ z300 < 2147483648 by omega) I303 (fun z308 S309 I310 q313 e311 e312 => ?_)
      clear q313
      refine And.intro (by decide) (And.intro (show -2147483648 ≤ i + (5 : Int) ∧ i + (5 : Int) < 2147483648 by omega) ?_)
      exact hc (i + (5 : Int)) S309 (by omega) (by omega) I310 trivial
    refine And.intro (fun (h315 : z3 = (15 : Int)) => ?_) (fun (h315 : z3 ≠ (15 : Int)) => ?_)
    ·
      refine i_StubHouse_sync   hI (fun z316 S317 I318  e319 e320 => ?_)
      refine i_StubHouseModel_sync   I318 (fun z321 S322 I323  e324 e325 => ?_)
      refine And.intro (by decide) (And.intro (show -2147483648 ≤ i + (5 : Int) ∧ i + (5 : Int) < 2147483648 by omega) ?_)
      exact hc (i + (5 : Int)) S322 (by omega) (by omega) I323 trivial
    refine And.intro (fun (h327 : z3 = (16 : Int)) => ?_) (fun (h327 : z3 ≠ (16 : Int)) => ?_)
    ·
      refine And.intro (show -2147483648 ≤ (i + (1 : Int)) ∧ (i + (1 : Int)) < 2147483648 by omega) ?_
      refine And.intro rfl (And.intro (show 0 ≤ (i + (1 : Int)) ∧ (i + (1 : Int)) < L by omega) ?_)
      intro z328 (z328a : -2147483648 ≤ z328) (z328b : z328 < 2147483648) (z328c : z328 = X ((i + (1 : Int))).toNat)
      refine i_StubHouse_crash (n := z328) (show -2147483648 ≤ z328 ∧ z328 < 2147483648 by omega) hI (fun z329 S330 I331  e332 e333 => ?_)
      refine And.intro (show -2147483648 ≤ (i + (1 : Int)) ∧ (i + (1 : Int)) < 2147483648 by omega) ?_
      refine And.intro rfl (And.intro (show 0 ≤ (i + (1 : Int)) ∧ (i + (1 : Int)) < L by omega) ?_)
      intro z334 (z334a : -2147483648 ≤ z334) (z334b : z334 < 2147483648) (z334c : z334 = X ((i + (1 : Int))).toNat)
      obtain rfl : z328 = z334 := z328c.trans z334c.symm
      refine i_StubHouseModel_crash (n := z328) (show -2147483648 ≤ z328 ∧ z328 < 2147483648 by omega) I331 (fun z335 S336 I337  e338 e339 => ?_)
      refine And.intro (by decide) (And.intro (show -2147483648 ≤ i + (5 : Int) ∧ i + (5 : Int) < 2147483648 by omega) ?_)
      exact hc (i + (5 : Int)) S336 (by omega) (by omega) I337 trivial
    refine And.intro (fun (h341 : z3 = (17 : Int)) => ?_) (fun (h341 : z3 ≠ (17 : Int)) => ?_)
    ·
      refine i_StubHouse_lose   hI (fun z342 S343 I344  e345 e346 => ?_)
      refine i_StubHouseModel_lose   I344 (fun z347 S348 I349  e350 e351 => ?_)
      refine And.intro (by decide) (And.intro (show -2147483648 ≤ i + (5 : Int) ∧ i + (5 : Int) < 2147483648 by omega) ?_)
      exact hc (i + (5 : Int)) S348 (by omega) (by omega) I349 trivial
    refine And.intro (fun (h353 : z3 = (18 : Int)) => ?_) (fun (h353 : z3 ≠ (18 : Int)) => ?_)
    ·
      refine i_StubHouse_rebuild   hI (fun z354 S355 I356  e357 e358 => ?_)
      refine i_StubHouseModel_rebuild   I356 (fun z359 S360 I361  e362 e363 => ?_)
      refine And.intro (by decide) (And.intro (show -2147483648 ≤ i + (5 : Int) ∧ i + (5 : Int) < 2147483648 by omega) ?_)
      exact hc (i + (5 : Int)) S360 (by omega) (by omega) I361 trivial
    refine And.intro (fun (h365 : z3 = (19 : Int)) => ?_) (fun (h365 : z3 ≠ (19 : Int)) => ?_)
    ·
      refine And.intro (show -2147483648 ≤ (i + (1 : Int)) ∧ (i + (1 : Int)) < 2147483648 by omega) ?_
      refine And.intro rfl (And.intro (show 0 ≤ (i + (1 : Int)) ∧ (i + (1 : Int)) < L by omega) ?_)
      intro z366 (z366a : -2147483648 ≤ z366) (z366b : z366 < 2147483648) (z366c : z366 = X ((i + (1 : Int))).toNat)
      refine i_StubHouse_step (n := z366) (show -2147483648 ≤ z366 ∧ z366 < 2147483648 by omega) hI (fun z367 S368 I369 q372 e370 e371 => ?_)
      refine And.intro (show -2147483648 ≤ (i + (1 : Int)) ∧ (i + (1 : Int)) < 2147483648 by omega) ?_
      refine And.intro rfl (And.intro (show 0 ≤ (i + (1 : Int)) ∧ (i + (1 : Int)) < L by omega) ?_)
      intro z373 (z373a : -2147483648 ≤ z373) (z373b : z373 < 2147483648) (z373c : z373 = X ((i + (1 : Int))).toNat)
      obtain rfl : z366 = z373 := z366c.trans z373c.symm
      refine i_StubHouseModel_step (n := z366) (show -2147483648 ≤ z366 ∧ z366 < 2147483648 by omega) I369 (fun z374 S375 I376 q379 e377 e378 => ?_)
      refine And.intro (fun (h380 : (z367 = z374 : Prop)) => ?_) (fun (h380 : (z367 ≠ z374 : Prop)) => ?_)
      ·
        refine And.intro (by decide) (And.intro (show -2147483648 ≤ i + (5 : Int) ∧ i + (5 : Int) < 2147483648 by omega) ?_)
        exact hc (i + (5 : Int)) S375 (by omega) (by omega) I376 trivial
      ·
        refine And.intro (show 0 ≤ (0 : Int) ∧ (0 : Int) ≤ 1 by omega) ?_
        exfalso; omega
    refine And.intro (fun (h382 : z3 = (20 : Int)) => ?_) (fun (h382 : z3 ≠ (20 : Int)) => ?_)
    ·
      refine And.intro (show -2147483648 ≤ (i + (1 : Int)) ∧ (i + (1 : Int)) < 2147483648 by omega) ?_
      refine And.intro rfl (And.intro (show 0 ≤ (i + (1 : Int)) ∧ (i + (1 : Int)) < L by omega) ?_)
      intro z383 (z383a : -2147483648 ≤ z383) (z383b : z383 < 2147483648) (z383c : z383 = X ((i + (1 : Int))).toNat)
      refine i_StubHouse_reclaim (t := z383) (show -2147483648 ≤ z383 ∧ z383 < 2147483648 by omega) hI (fun z384 S385 I386  e387 e388 => ?_)
      refine And.intro (show -2147483648 ≤ (i + (1 : Int)) ∧ (i + (1 : Int)) < 2147483648 by omega) ?_
      refine And.intro rfl (And.intro (show 0 ≤ (i + (1 : Int)) ∧ (i + (1 : Int)) < L by omega) ?_)
      intro z389 (z389a : -2147483648 ≤ z389) (z389b : z389 < 2147483648) (z389c : z389 = X ((i + (1 : Int))).toNat)
      obtain rfl : z383 = z389 := z383c.trans z389c.symm
      refine i_StubHouseModel_reclaim (t := z383) (show -2147483648 ≤ z383 ∧ z383 < 2147483648 by omega) I386 (fun z390 S391 I392  e393 e394 => ?_)
      refine And.intro (by decide) (And.intro (show -2147483648 ≤ i + (5 : Int) ∧ i + (5 : Int) < 2147483648 by omega) ?_)
      exact hc (i + (5 : Int)) S391 (by omega) (by omega) I392 trivial
    refine And.intro (fun (h396 : z3 = (21 : Int)) => ?_) (fun (h396 : z3 ≠ (21 : Int)) => ?_)
    ·
      refine And.intro (show -2147483648 ≤ (i + (1 : Int)) ∧ (i + (1 : Int)) < 2147483648 by omega) ?_
      refine And.intro rfl (And.intro (show 0 ≤ (i + (1 : Int)) ∧ (i + (1 : Int)) < L by omega) ?_)
      intro z397 (z397a : -2147483648 ≤ z397) (z397b : z397 < 2147483648) (z397c : z397 = X ((i + (1 : Int))).toNat)
      refine And.intro (show -2147483648 ≤ (i + (2 : Int)) ∧ (i + (2 : Int)) < 2147483648 by omega) ?_
      refine And.intro rfl (And.intro (show 0 ≤ (i + (2 : Int)) ∧ (i + (2 : Int)) < L by omega) ?_)
      intro z398 (z398a : -2147483648 ≤ z398) (z398b : z398 < 2147483648) (z398c : z398 = X ((i + (2 : Int))).toNat)
      refine i_StubHouse_drive (d := z397) (w := z398) (show -2147483648 ≤ z397 ∧ z397 < 2147483648 by omega) (show -2147483648 ≤ z398 ∧ z398 < 2147483648 by omega) hI (fun z399 S400 I401  e402 e403 => ?_)
      refine And.intro (show -2147483648 ≤ (i + (1 : Int)) ∧ (i + (1 : Int)) < 2147483648 by omega) ?_
      refine And.intro rfl (And.intro (show 0 ≤ (i + (1 : Int)) ∧ (i + (1 : Int)) < L by omega) ?_)
      intro z404 (z404a : -2147483648 ≤ z404) (z404b : z404 < 2147483648) (z404c : z404 = X ((i + (1 : Int))).toNat)
      obtain rfl : z397 = z404 := z397c.trans z404c.symm
      refine And.intro (show -2147483648 ≤ (i + (2 : Int)) ∧ (i + (2 : Int)) < 2147483648 by omega) ?_
      refine And.intro rfl (And.intro (show 0 ≤ (i + (2 : Int)) ∧ (i + (2 : Int)) < L by omega) ?_)
      intro z405 (z405a : -2147483648 ≤ z405) (z405b : z405 < 2147483648) (z405c : z405 = X ((i + (2 : Int))).toNat)
      obtain rfl : z398 = z405 := z398c.trans z405c.symm
      refine i_StubHouseModel_drive (d := z397) (w := z398) (show -2147483648 ≤ z397 ∧ z397 < 2147483648 by omega) (show -2147483648 ≤ z398 ∧ z398 < 2147483648 by omega) I401 (fun z406 S407 I408  e409 e410 => ?_)
      refine And.intro (by decide) (And.intro (show -2147483648 ≤ i + (5 : Int) ∧ i + (5 : Int) < 2147483648 by omega) ?_)
      exact hc (i + (5 : Int)) S407 (by omega) (by omega) I408 trivial
    refine And.intro (fun (h412 : z3 = (22 : Int)) => ?_) (fun (h412 : z3 ≠ (22 : Int)) => ?_)
    ·
      refine And.intro (show -2147483648 ≤ (i + (1 : Int)) ∧ (i + (1 : Int)) < 2147483648 by omega) ?_
      refine And.intro rfl (And.intro (show 0 ≤ (i + (1 : Int)) ∧ (i + (1 : Int)) < L by omega) ?_)
      intro z413 (z413a : -2147483648 ≤ z413) (z413b : z413 < 2147483648) (z413c : z413 = X ((i + (1 : Int))).toNat)
      refine i_StubHouse_told (w := z413) (show -2147483648 ≤ z413 ∧ z413 < 2147483648 by omega) hI (fun z414 S415 I416  e417 e418 => ?_)
      refine And.intro (show -2147483648 ≤ (i + (1 : Int)) ∧ (i + (1 : Int)) < 2147483648 by omega) ?_
      refine And.intro rfl (And.intro (show 0 ≤ (i + (1 : Int)) ∧ (i + (1 : Int)) < L by omega) ?_)
      intro z419 (z419a : -2147483648 ≤ z419) (z419b : z419 < 2147483648) (z419c : z419 = X ((i + (1 : Int))).toNat)
      obtain rfl : z413 = z419 := z413c.trans z419c.symm
      refine i_StubHouseModel_told (w := z413) (show -2147483648 ≤ z413 ∧ z413 < 2147483648 by omega) I416 (fun z420 S421 I422  e423 e424 => ?_)
      refine And.intro (by decide) (And.intro (show -2147483648 ≤ i + (5 : Int) ∧ i + (5 : Int) < 2147483648 by omega) ?_)
      exact hc (i + (5 : Int)) S421 (by omega) (by omega) I422 trivial
    refine And.intro (fun (h426 : z3 = (23 : Int)) => ?_) (fun (h426 : z3 ≠ (23 : Int)) => ?_)
    ·
      refine And.intro (show -2147483648 ≤ (i + (1 : Int)) ∧ (i + (1 : Int)) < 2147483648 by omega) ?_
      refine And.intro rfl (And.intro (show 0 ≤ (i + (1 : Int)) ∧ (i + (1 : Int)) < L by omega) ?_)
      intro z427 (z427a : -2147483648 ≤ z427) (z427b : z427 < 2147483648) (z427c : z427 = X ((i + (1 : Int))).toNat)
      refine And.intro (show -2147483648 ≤ (i + (2 : Int)) ∧ (i + (2 : Int)) < 2147483648 by omega) ?_
      refine And.intro rfl (And.intro (show 0 ≤ (i + (2 : Int)) ∧ (i + (2 : Int)) < L by omega) ?_)
      intro z428 (z428a : -2147483648 ≤ z428) (z428b : z428 < 2147483648) (z428c : z428 = X ((i + (2 : Int))).toNat)
      refine i_StubHouse_tape (t := z427) (w := z428) (show -2147483648 ≤ z427 ∧ z427 < 2147483648 by omega) (show -2147483648 ≤ z428 ∧ z428 < 2147483648 by omega) hI (fun z429 S430 I431  e432 e433 => ?_)
      refine And.intro (show -2147483648 ≤ (i + (1 : Int)) ∧ (i + (1 : Int)) < 2147483648 by omega) ?_
      refine And.intro rfl (And.intro (show 0 ≤ (i + (1 : Int)) ∧ (i + (1 : Int)) < L by omega) ?_)
      intro z434 (z434a : -2147483648 ≤ z434) (z434b : z434 < 2147483648) (z434c : z434 = X ((i + (1 : Int))).toNat)
      obtain rfl : z427 = z434 := z427c.trans z434c.symm
      refine And.intro (show -2147483648 ≤ (i + (2 : Int)) ∧ (i + (2 : Int)) < 2147483648 by omega) ?_
      refine And.intro rfl (And.intro (show 0 ≤ (i + (2 : Int)) ∧ (i + (2 : Int)) < L by omega) ?_)
      intro z435 (z435a : -2147483648 ≤ z435) (z435b : z435 < 2147483648) (z435c : z435 = X ((i + (2 : Int))).toNat)
      obtain rfl : z428 = z435 := z428c.trans z435c.symm
      refine i_StubHouseModel_tape (t := z427) (w := z428) (show -2147483648 ≤ z427 ∧ z427 < 2147483648 by omega) (show -2147483648 ≤ z428 ∧ z428 < 2147483648 by omega) I431 (fun z436 S437 I438  e439 e440 => ?_)
      refine And.intro (by decide) (And.intro (show -2147483648 ≤ i + (5 : Int) ∧ i + (5 : Int) < 2147483648 by omega) ?_)
      exact hc (i + (5 : Int)) S437 (by omega) (by omega) I438 trivial
    refine And.intro (fun (h442 : z3 = (24 : Int)) => ?_) (fun (h442 : z3 ≠ (24 : Int)) => ?_)
    ·
      refine And.intro (show -2147483648 ≤ (i + (1 : Int)) ∧ (i + (1 : Int)) < 2147483648 by omega) ?_
      refine And.intro rfl (And.intro (show 0 ≤ (i + (1 : Int)) ∧ (i + (1 : Int)) < L by omega) ?_)
      intro z443 (z443a : -2147483648 ≤ z443) (z443b : z443 < 2147483648) (z443c : z443 = X ((i + (1 : Int))).toNat)
      refine And.intro (show -2147483648 ≤ (i + (2 : Int)) ∧ (i + (2 : Int)) < 2147483648 by omega) ?_
      refine And.intro rfl (And.intro (show 0 ≤ (i + (2 : Int)) ∧ (i + (2 : Int)) < L by omega) ?_)
      intro z444 (z444a : -2147483648 ≤ z444) (z444b : z444 < 2147483648) (z444c : z444 = X ((i + (2 : Int))).toNat)
      refine i_StubHouse_byteOf (t := z443) (p := z444) (show -2147483648 ≤ z443 ∧ z443 < 2147483648 by omega) (show -2147483648 ≤ z444 ∧ z444 < 2147483648 by omega) hI (fun z445 S446 I447  e448 e449 => ?_)
      refine And.intro (show -2147483648 ≤ (i + (1 : Int)) ∧ (i + (1 : Int)) < 2147483648 by omega) ?_
      refine And.intro rfl (And.intro (show 0 ≤ (i + (1 : Int)) ∧ (i + (1 : Int)) < L by omega) ?_)
      intro z450 (z450a : -2147483648 ≤ z450) (z450b : z450 < 2147483648) (z450c : z450 = X ((i + (1 : Int))).toNat)
      obtain rfl : z443 = z450 := z443c.trans z450c.symm
      refine And.intro (show -2147483648 ≤ (i + (2 : Int)) ∧ (i + (2 : Int)) < 2147483648 by omega) ?_
      refine And.intro rfl (And.intro (show 0 ≤ (i + (2 : Int)) ∧ (i + (2 : Int)) < L by omega) ?_)
      intro z451 (z451a : -2147483648 ≤ z451) (z451b : z451 < 2147483648) (z451c : z451 = X ((i + (2 : Int))).toNat)
      obtain rfl : z444 = z451 := z444c.trans z451c.symm
      refine i_StubHouseModel_byteOf (t := z443) (p := z444) (show -2147483648 ≤ z443 ∧ z443 < 2147483648 by omega) (show -2147483648 ≤ z444 ∧ z444 < 2147483648 by omega) I447 (fun z452 S453 I454  e455 e456 => ?_)
      refine And.intro (by decide) (And.intro (show -2147483648 ≤ i + (5 : Int) ∧ i + (5 : Int) < 2147483648 by omega) ?_)
      exact hc (i + (5 : Int)) S453 (by omega) (by omega) I454 trivial
    refine And.intro (fun (h458 : z3 = (25 : Int)) => ?_) (fun (h458 : z3 ≠ (25 : Int)) => ?_)
    ·
      refine And.intro (show -2147483648 ≤ (i + (1 : Int)) ∧ (i + (1 : Int)) < 2147483648 by omega) ?_
      refine And.intro rfl (And.intro (show 0 ≤ (i + (1 : Int)) ∧ (i + (1 : Int)) < L by omega) ?_)
      intro z459 (z459a : -2147483648 ≤ z459) (z459b : z459 < 2147483648) (z459c : z459 = X ((i + (1 : Int))).toNat)
      refine And.intro (show -2147483648 ≤ (i + (2 : Int)) ∧ (i + (2 : Int)) < 2147483648 by omega) ?_
      refine And.intro rfl (And.intro (show 0 ≤ (i + (2 : Int)) ∧ (i + (2 : Int)) < L by omega) ?_)
      intro z460 (z460a : -2147483648 ≤ z460) (z460b : z460 < 2147483648) (z460c : z460 = X ((i + (2 : Int))).toNat)
      refine And.intro (show -2147483648 ≤ (i + (3 : Int)) ∧ (i + (3 : Int)) < 2147483648 by omega) ?_
      refine And.intro rfl (And.intro (show 0 ≤ (i + (3 : Int)) ∧ (i + (3 : Int)) < L by omega) ?_)
      intro z461 (z461a : -2147483648 ≤ z461) (z461b : z461 < 2147483648) (z461c : z461 = X ((i + (3 : Int))).toNat)
      refine i_StubHouse_spoil (t := z459) (p := z460) (w := z461) (show -2147483648 ≤ z459 ∧ z459 < 2147483648 by omega) (show -2147483648 ≤ z460 ∧ z460 < 2147483648 by omega) (show -2147483648 ≤ z461 ∧ z461 < 2147483648 by omega) hI (fun z462 S463 I464  e465 e466 => ?_)
      refine And.intro (show -2147483648 ≤ (i + (1 : Int)) ∧ (i + (1 : Int)) < 2147483648 by omega) ?_
      refine And.intro rfl (And.intro (show 0 ≤ (i + (1 : Int)) ∧ (i + (1 : Int)) < L by omega) ?_)
      intro z467 (z467a : -2147483648 ≤ z467) (z467b : z467 < 2147483648) (z467c : z467 = X ((i + (1 : Int))).toNat)
      obtain rfl : z459 = z467 := z459c.trans z467c.symm
      refine And.intro (show -2147483648 ≤ (i + (2 : Int)) ∧ (i + (2 : Int)) < 2147483648 by omega) ?_
      refine And.intro rfl (And.intro (show 0 ≤ (i + (2 : Int)) ∧ (i + (2 : Int)) < L by omega) ?_)
      intro z468 (z468a : -2147483648 ≤ z468) (z468b : z468 < 2147483648) (z468c : z468 = X ((i + (2 : Int))).toNat)
      obtain rfl : z460 = z468 := z460c.trans z468c.symm
      refine And.intro (show -2147483648 ≤ (i + (3 : Int)) ∧ (i + (3 : Int)) < 2147483648 by omega) ?_
      refine And.intro rfl (And.intro (show 0 ≤ (i + (3 : Int)) ∧ (i + (3 : Int)) < L by omega) ?_)
      intro z469 (z469a : -2147483648 ≤ z469) (z469b : z469 < 2147483648) (z469c : z469 = X ((i + (3 : Int))).toNat)
      obtain rfl : z461 = z469 := z461c.trans z469c.symm
      refine i_StubHouseModel_spoil (t := z459) (p := z460) (w := z461) (show -2147483648 ≤ z459 ∧ z459 < 2147483648 by omega) (show -2147483648 ≤ z460 ∧ z460 < 2147483648 by omega) (show -2147483648 ≤ z461 ∧ z461 < 2147483648 by omega) I464 (fun z470 S471 I472  e473 e474 => ?_)
      refine And.intro (by decide) (And.intro (show -2147483648 ≤ i + (5 : Int) ∧ i + (5 : Int) < 2147483648 by omega) ?_)
      exact hc (i + (5 : Int)) S471 (by omega) (by omega) I472 trivial
    refine And.intro (fun (h476 : z3 = (26 : Int)) => ?_) (fun (h476 : z3 ≠ (26 : Int)) => ?_)
    ·
      refine And.intro (show -2147483648 ≤ (i + (1 : Int)) ∧ (i + (1 : Int)) < 2147483648 by omega) ?_
      refine And.intro rfl (And.intro (show 0 ≤ (i + (1 : Int)) ∧ (i + (1 : Int)) < L by omega) ?_)
      intro z477 (z477a : -2147483648 ≤ z477) (z477b : z477 < 2147483648) (z477c : z477 = X ((i + (1 : Int))).toNat)
      refine And.intro (show -2147483648 ≤ (i + (2 : Int)) ∧ (i + (2 : Int)) < 2147483648 by omega) ?_
      refine And.intro rfl (And.intro (show 0 ≤ (i + (2 : Int)) ∧ (i + (2 : Int)) < L by omega) ?_)
      intro z478 (z478a : -2147483648 ≤ z478) (z478b : z478 < 2147483648) (z478c : z478 = X ((i + (2 : Int))).toNat)
      refine And.intro (show -2147483648 ≤ (i + (3 : Int)) ∧ (i + (3 : Int)) < 2147483648 by omega) ?_
      refine And.intro rfl (And.intro (show 0 ≤ (i + (3 : Int)) ∧ (i + (3 : Int)) < L by omega) ?_)
      intro z479 (z479a : -2147483648 ≤ z479) (z479b : z479 < 2147483648) (z479c : z479 = X ((i + (3 : Int))).toNat)
      refine i_StubHouse_segment (t := z477) (c := z478) (w := z479) (show -2147483648 ≤ z477 ∧ z477 < 2147483648 by omega) (show -2147483648 ≤ z478 ∧ z478 < 2147483648 by omega) (show -2147483648 ≤ z479 ∧ z479 < 2147483648 by omega) hI (fun z480 S481 I482  e483 e484 => ?_)
      refine And.intro (show -2147483648 ≤ (i + (1 : Int)) ∧ (i + (1 : Int)) < 2147483648 by omega) ?_
      refine And.intro rfl (And.intro (show 0 ≤ (i + (1 : Int)) ∧ (i + (1 : Int)) < L by omega) ?_)
      intro z485 (z485a : -2147483648 ≤ z485) (z485b : z485 < 2147483648) (z485c : z485 = X ((i + (1 : Int))).toNat)
      obtain rfl : z477 = z485 := z477c.trans z485c.symm
      refine And.intro (show -2147483648 ≤ (i + (2 : Int)) ∧ (i + (2 : Int)) < 2147483648 by omega) ?_
      refine And.intro rfl (And.intro (show 0 ≤ (i + (2 : Int)) ∧ (i + (2 : Int)) < L by omega) ?_)
      intro z486 (z486a : -2147483648 ≤ z486) (z486b : z486 < 2147483648) (z486c : z486 = X ((i + (2 : Int))).toNat)
      obtain rfl : z478 = z486 := z478c.trans z486c.symm
      refine And.intro (show -2147483648 ≤ (i + (3 : Int)) ∧ (i + (3 : Int)) < 2147483648 by omega) ?_
      refine And.intro rfl (And.intro (show 0 ≤ (i + (3 : Int)) ∧ (i + (3 : Int)) < L by omega) ?_)
      intro z487 (z487a : -2147483648 ≤ z487) (z487b : z487 < 2147483648) (z487c : z487 = X ((i + (3 : Int))).toNat)
      obtain rfl : z479 = z487 := z479c.trans z487c.symm
      refine i_StubHouseModel_segment (t := z477) (i := z478) (w := z479) (show -2147483648 ≤ z477 ∧ z477 < 2147483648 by omega) (show -2147483648 ≤ z478 ∧ z478 < 2147483648 by omega) (show -2147483648 ≤ z479 ∧ z479 < 2147483648 by omega) I482 (fun z488 S489 I490  e491 e492 => ?_)
      refine And.intro (by decide) (And.intro (show -2147483648 ≤ i + (5 : Int) ∧ i + (5 : Int) < 2147483648 by omega) ?_)
      exact hc (i + (5 : Int)) S489 (by omega) (by omega) I490 trivial
    refine And.intro (fun (h494 : z3 = (27 : Int)) => ?_) (fun (h494 : z3 ≠ (27 : Int)) => ?_)
    ·
      refine And.intro (show -2147483648 ≤ (i + (1 : Int)) ∧ (i + (1 : Int)) < 2147483648 by omega) ?_
      refine And.intro rfl (And.intro (show 0 ≤ (i + (1 : Int)) ∧ (i + (1 : Int)) < L by omega) ?_)
      intro z495 (z495a : -2147483648 ≤ z495) (z495b : z495 < 2147483648) (z495c : z495 = X ((i + (1 : Int))).toNat)
      refine And.intro (show -2147483648 ≤ (i + (2 : Int)) ∧ (i + (2 : Int)) < 2147483648 by omega) ?_
      refine And.intro rfl (And.intro (show 0 ≤ (i + (2 : Int)) ∧ (i + (2 : Int)) < L by omega) ?_)
      intro z496 (z496a : -2147483648 ≤ z496) (z496b : z496 < 2147483648) (z496c : z496 = X ((i + (2 : Int))).toNat)
      refine i_StubHouse_view (c := z495) (w := z496) (show -2147483648 ≤ z495 ∧ z495 < 2147483648 by omega) (show -2147483648 ≤ z496 ∧ z496 < 2147483648 by omega) hI (fun z497 S498 I499  e500 e501 => ?_)
      refine And.intro (show -2147483648 ≤ (i + (1 : Int)) ∧ (i + (1 : Int)) < 2147483648 by omega) ?_
      refine And.intro rfl (And.intro (show 0 ≤ (i + (1 : Int)) ∧ (i + (1 : Int)) < L by omega) ?_)
      intro z502 (z502a : -2147483648 ≤ z502) (z502b : z502 < 2147483648) (z502c : z502 = X ((i + (1 : Int))).toNat)
      obtain rfl : z495 = z502 := z495c.trans z502c.symm
      refine And.intro (show -2147483648 ≤ (i + (2 : Int)) ∧ (i + (2 : Int)) < 2147483648 by omega) ?_
      refine And.intro rfl (And.intro (show 0 ≤ (i + (2 : Int)) ∧ (i + (2 : Int)) < L by omega) ?_)
      intro z503 (z503a : -2147483648 ≤ z503) (z503b : z503 < 2147483648) (z503c : z503 = X ((i + (2 : Int))).toNat)
      obtain rfl : z496 = z503 := z496c.trans z503c.symm
      refine i_StubHouseModel_view (i := z495) (w := z496) (show -2147483648 ≤ z495 ∧ z495 < 2147483648 by omega) (show -2147483648 ≤ z496 ∧ z496 < 2147483648 by omega) I499 (fun z504 S505 I506  e507 e508 => ?_)
      refine And.intro (by decide) (And.intro (show -2147483648 ≤ i + (5 : Int) ∧ i + (5 : Int) < 2147483648 by omega) ?_)
      exact hc (i + (5 : Int)) S505 (by omega) (by omega) I506 trivial
    refine And.intro (by decide) (And.intro (show -2147483648 ≤ i + (5 : Int) ∧ i + (5 : Int) < 2147483648 by omega) ?_)
    exact hc (i + (5 : Int)) S (by omega) (by omega) hI trivial
