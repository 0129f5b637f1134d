/-! contracts: THE VIEW of the class, made -/
theorem c_Library_offer {l : Launch} {k : fxK} {S : fxS} {t : Int} {c : Int} (p0 : ViewV S) (p1 : 0 ≤ t ∧ t ≤ 5) (p2 : 0 ≤ c ∧ c < 285 ∧ c < S 32 (t).toNat 5) (p3 : S 26 0 4 < 1710) (hk : ∀ (S' : fxS) , (fxfr [(26, 4), (28, 9999), (29, 9999), (30, 9999)] S S' ∧ (0 ≤ S' 26 0 4 ∧ S' 26 0 4 ≤ S 26 0 4 + 1) ∧ (ViewV S')) → k none S') : fC l 160 [.inr (.inr (26, 0)), .inl t, .inl c] S k := by
  refine fxe_160 (Nat.le_of_ble_eq_true rfl) (fxz_160 400 ?_)
  refine And.intro (show 0 ≤ t ∧ t < 6 by omega) ?_
  refine And.intro (show 0 ≤ c ∧ c < 285 by omega) ?_
  intro z1 (z1a : (-2147483648 : Int) ≤ z1) (z1b : z1 ≤ (2147483647 : Int)) (z1c : z1 = S 35 (t).toNat (c).toNat)
  refine And.intro (by decide) ?_
  refine c_Library_viewPlace (d := z1) (show -2147483648 ≤ z1 ∧ z1 < 2147483648 by omega) (fun (z2 : Int) (q3 : 0 ≤ z2 ∧ z2 ≤ S 26 0 4 ∧ z2 ≤ 1710) => ?_)
  refine And.intro (by decide) ?_
  intro z4 (z4a : (0 : Int) ≤ z4) (z4b : z4 ≤ (1710 : Int)) (z4c : z4 = S 26 0 4)
  refine And.intro (fun (h5 : (z4 ≤ z2 : Prop)) => ?_) (fun (h5 : (z2 < z4 : Prop)) => ?_)
  ·
    refine And.intro (show -2147483648 ≤ (z2 + (1 : Int)) ∧ (z2 + (1 : Int)) < 2147483648 by omega) ?_
    intro z6 (z6a : (0 : Int) ≤ z6) (z6b : z6 ≤ (1710 : Int)) (z6c : z6 = S 26 0 4)
    obtain rfl : z4 = z6 := by omega
    refine And.intro (show -2147483648 ≤ (z4 - z2) ∧ (z4 - z2) < 2147483648 by omega) ?_
    refine And.intro (show ((-2147483648 : Int) ≤ (-2147483648 : Int) ∧ (2147483647 : Int) ≤ (2147483647 : Int) : Prop) by omega) (And.intro (show (0 ≤ z2 ∧ 0 ≤ (z2 + (1 : Int))) ∧ (0 ≤ (z4 - z2) ∧ z2 + (z4 - z2) ≤ (1710 : Int) ∧ (z2 + (1 : Int)) + (z4 - z2) ≤ (1710 : Int)) by omega) ?_)
    have w7 : (fx_cpy S 28 0 (z2 + (1 : Int)) (z4 - z2) 28 0 z2) 26 0 4 = S 26 0 4 := rfl
    refine And.intro (show -2147483648 ≤ (z2 + (1 : Int)) ∧ (z2 + (1 : Int)) < 2147483648 by omega) ?_
    intro z8 (z8a : (0 : Int) ≤ z8) (z8b : z8 ≤ (1710 : Int)) (z8c : z8 = S 26 0 4)
    obtain rfl : z4 = z8 := by omega
    refine And.intro (show -2147483648 ≤ (z4 - z2) ∧ (z4 - z2) < 2147483648 by omega) ?_
    refine And.intro (show ((0 : Int) ≤ (0 : Int) ∧ (5 : Int) ≤ (5 : Int) : Prop) by omega) (And.intro (show (0 ≤ z2 ∧ 0 ≤ (z2 + (1 : Int))) ∧ (0 ≤ (z4 - z2) ∧ z2 + (z4 - z2) ≤ (1710 : Int) ∧ (z2 + (1 : Int)) + (z4 - z2) ≤ (1710 : Int)) by omega) ?_)
    have w9 : (fx_cpy (fx_cpy S 28 0 (z2 + (1 : Int)) (z4 - z2) 28 0 z2) 29 0 (z2 + (1 : Int)) (z4 - z2) 29 0 z2) 26 0 4 = (fx_cpy S 28 0 (z2 + (1 : Int)) (z4 - z2) 28 0 z2) 26 0 4 := rfl
    refine And.intro (show -2147483648 ≤ (z2 + (1 : Int)) ∧ (z2 + (1 : Int)) < 2147483648 by omega) ?_
    intro z10 (z10a : (0 : Int) ≤ z10) (z10b : z10 ≤ (1710 : Int)) (z10c : z10 = S 26 0 4)
    obtain rfl : z4 = z10 := by omega
    refine And.intro (show -2147483648 ≤ (z4 - z2) ∧ (z4 - z2) < 2147483648 by omega) ?_
    refine And.intro (show ((0 : Int) ≤ (0 : Int) ∧ (284 : Int) ≤ (284 : Int) : Prop) by omega) (And.intro (show (0 ≤ z2 ∧ 0 ≤ (z2 + (1 : Int))) ∧ (0 ≤ (z4 - z2) ∧ z2 + (z4 - z2) ≤ (1710 : Int) ∧ (z2 + (1 : Int)) + (z4 - z2) ≤ (1710 : Int)) by omega) ?_)
    have w11 : (fx_cpy (fx_cpy (fx_cpy S 28 0 (z2 + (1 : Int)) (z4 - z2) 28 0 z2) 29 0 (z2 + (1 : Int)) (z4 - z2) 29 0 z2) 30 0 (z2 + (1 : Int)) (z4 - z2) 30 0 z2) 26 0 4 = (fx_cpy (fx_cpy S 28 0 (z2 + (1 : Int)) (z4 - z2) 28 0 z2) 29 0 (z2 + (1 : Int)) (z4 - z2) 29 0 z2) 26 0 4 := rfl
    intro z12 (z12a : (0 : Int) ≤ z12) (z12b : z12 ≤ (1710 : Int)) (z12c : z12 = S 26 0 4)
    obtain rfl : z4 = z12 := by omega
    refine And.intro (show -2147483648 ≤ (z4 + (1 : Int)) ∧ (z4 + (1 : Int)) < 2147483648 by omega) ?_
    refine And.intro (show (0 : Int) ≤ (z4 + (1 : Int)) ∧ (z4 + (1 : Int)) ≤ (1710 : Int) by omega) ?_
    have w13 : (fx_up (fx_cpy (fx_cpy (fx_cpy S 28 0 (z2 + (1 : Int)) (z4 - z2) 28 0 z2) 29 0 (z2 + (1 : Int)) (z4 - z2) 29 0 z2) 30 0 (z2 + (1 : Int)) (z4 - z2) 30 0 z2) 26 0 4 (z4 + (1 : Int))) 26 0 4 = (z4 + (1 : Int)) := fx_up_at _ _ _ _ _
    refine And.intro (show 0 ≤ z2 ∧ z2 < 1710 by omega) ?_
    refine And.intro (show (-2147483648 : Int) ≤ z1 ∧ z1 ≤ (2147483647 : Int) by omega) ?_
    have w14 : (fx_up (fx_up (fx_cpy (fx_cpy (fx_cpy S 28 0 (z2 + (1 : Int)) (z4 - z2) 28 0 z2) 29 0 (z2 + (1 : Int)) (z4 - z2) 29 0 z2) 30 0 (z2 + (1 : Int)) (z4 - z2) 30 0 z2) 26 0 4 (z4 + (1 : Int))) 28 0 (z2).toNat z1) 26 0 4 = (fx_up (fx_cpy (fx_cpy (fx_cpy S 28 0 (z2 + (1 : Int)) (z4 - z2) 28 0 z2) 29 0 (z2 + (1 : Int)) (z4 - z2) 29 0 z2) 30 0 (z2 + (1 : Int)) (z4 - z2) 30 0 z2) 26 0 4 (z4 + (1 : Int))) 26 0 4 := rfl
    refine And.intro (show 0 ≤ z2 ∧ z2 < 1710 by omega) ?_
    refine And.intro (show (0 : Int) ≤ t ∧ t ≤ (5 : Int) by omega) ?_
    have w15 : (fx_up (fx_up (fx_up (fx_cpy (fx_cpy (fx_cpy S 28 0 (z2 + (1 : Int)) (z4 - z2) 28 0 z2) 29 0 (z2 + (1 : Int)) (z4 - z2) 29 0 z2) 30 0 (z2 + (1 : Int)) (z4 - z2) 30 0 z2) 26 0 4 (z4 + (1 : Int))) 28 0 (z2).toNat z1) 29 0 (z2).toNat t) 26 0 4 = (fx_up (fx_up (fx_cpy (fx_cpy (fx_cpy S 28 0 (z2 + (1 : Int)) (z4 - z2) 28 0 z2) 29 0 (z2 + (1 : Int)) (z4 - z2) 29 0 z2) 30 0 (z2 + (1 : Int)) (z4 - z2) 30 0 z2) 26 0 4 (z4 + (1 : Int))) 28 0 (z2).toNat z1) 26 0 4 := rfl
    refine And.intro (show 0 ≤ z2 ∧ z2 < 1710 by omega) ?_
    refine And.intro (show (0 : Int) ≤ c ∧ c ≤ (284 : Int) by omega) ?_
    have w16 : (fx_up (fx_up (fx_up (fx_up (fx_cpy (fx_cpy (fx_cpy S 28 0 (z2 + (1 : Int)) (z4 - z2) 28 0 z2) 29 0 (z2 + (1 : Int)) (z4 - z2) 29 0 z2) 30 0 (z2 + (1 : Int)) (z4 - z2) 30 0 z2) 26 0 4 (z4 + (1 : Int))) 28 0 (z2).toNat z1) 29 0 (z2).toNat t) 30 0 (z2).toNat c) 26 0 4 = (fx_up (fx_up (fx_up (fx_cpy (fx_cpy (fx_cpy S 28 0 (z2 + (1 : Int)) (z4 - z2) 28 0 z2) 29 0 (z2 + (1 : Int)) (z4 - z2) 29 0 z2) 30 0 (z2 + (1 : Int)) (z4 - z2) 30 0 z2) 26 0 4 (z4 + (1 : Int))) 28 0 (z2).toNat z1) 29 0 (z2).toNat t) 26 0 4 := rfl
    exact hk (fx_up (fx_up (fx_up (fx_up (fx_cpy (fx_cpy (fx_cpy S 28 0 (z2 + (1 : Int)) (z4 - z2) 28 0 z2) 29 0 (z2 + (1 : Int)) (z4 - z2) 29 0 z2) 30 0 (z2 + (1 : Int)) (z4 - z2) 30 0 z2) 26 0 4 (z4 + (1 : Int))) 28 0 (z2).toNat z1) 29 0 (z2).toNat t) 30 0 (z2).toNat c) ⟨(fxfr_up (fxfr_up (fxfr_up (fxfr_up (fxfr_cpy (fxfr_cpy (fxfr_cpy fxfr_rfl (fun _ => rfl)) (fun _ => rfl)) (fun _ => rfl)) rfl) rfl) rfl) rfl), by omega, by first | assumption | exact View_set p0 (by omega) | exact View_ins p0 (by omega) (by omega) (by omega) (by omega)⟩
  ·
    refine And.intro (show 0 ≤ z2 ∧ z2 < 1710 by omega) ?_
    intro z17 (z17a : (-2147483648 : Int) ≤ z17) (z17b : z17 ≤ (2147483647 : Int)) (z17c : z17 = S 28 0 (z2).toNat)
    refine And.intro (fun (h18 : (z17 ≠ z1 : Prop)) => ?_) (fun (h18 : (z17 = z1 : Prop)) => ?_)
    ·
      refine And.intro (show -2147483648 ≤ (z2 + (1 : Int)) ∧ (z2 + (1 : Int)) < 2147483648 by omega) ?_
      intro z19 (z19a : (0 : Int) ≤ z19) (z19b : z19 ≤ (1710 : Int)) (z19c : z19 = S 26 0 4)
      obtain rfl : z4 = z19 := by omega
      refine And.intro (show -2147483648 ≤ (z4 - z2) ∧ (z4 - z2) < 2147483648 by omega) ?_
      refine And.intro (show ((-2147483648 : Int) ≤ (-2147483648 : Int) ∧ (2147483647 : Int) ≤ (2147483647 : Int) : Prop) by omega) (And.intro (show (0 ≤ z2 ∧ 0 ≤ (z2 + (1 : Int))) ∧ (0 ≤ (z4 - z2) ∧ z2 + (z4 - z2) ≤ (1710 : Int) ∧ (z2 + (1 : Int)) + (z4 - z2) ≤ (1710 : Int)) by omega) ?_)
      have w20 : (fx_cpy S 28 0 (z2 + (1 : Int)) (z4 - z2) 28 0 z2) 26 0 4 = S 26 0 4 := rfl
      refine And.intro (show -2147483648 ≤ (z2 + (1 : Int)) ∧ (z2 + (1 : Int)) < 2147483648 by omega) ?_
      intro z21 (z21a : (0 : Int) ≤ z21) (z21b : z21 ≤ (1710 : Int)) (z21c : z21 = S 26 0 4)
      obtain rfl : z4 = z21 := by omega
      refine And.intro (show -2147483648 ≤ (z4 - z2) ∧ (z4 - z2) < 2147483648 by omega) ?_
      refine And.intro (show ((0 : Int) ≤ (0 : Int) ∧ (5 : Int) ≤ (5 : Int) : Prop) by omega) (And.intro (show (0 ≤ z2 ∧ 0 ≤ (z2 + (1 : Int))) ∧ (0 ≤ (z4 - z2) ∧ z2 + (z4 - z2) ≤ (1710 : Int) ∧ (z2 + (1 : Int)) + (z4 - z2) ≤ (1710 : Int)) by omega) ?_)
      have w22 : (fx_cpy (fx_cpy S 28 0 (z2 + (1 : Int)) (z4 - z2) 28 0 z2) 29 0 (z2 + (1 : Int)) (z4 - z2) 29 0 z2) 26 0 4 = (fx_cpy S 28 0 (z2 + (1 : Int)) (z4 - z2) 28 0 z2) 26 0 4 := rfl
      refine And.intro (show -2147483648 ≤ (z2 + (1 : Int)) ∧ (z2 + (1 : Int)) < 2147483648 by omega) ?_
      intro z23 (z23a : (0 : Int) ≤ z23) (z23b : z23 ≤ (1710 : Int)) (z23c : z23 = S 26 0 4)
      obtain rfl : z4 = z23 := by omega
      refine And.intro (show -2147483648 ≤ (z4 - z2) ∧ (z4 - z2) < 2147483648 by omega) ?_
      refine And.intro (show ((0 : Int) ≤ (0 : Int) ∧ (284 : Int) ≤ (284 : Int) : Prop) by omega) (And.intro (show (0 ≤ z2 ∧ 0 ≤ (z2 + (1 : Int))) ∧ (0 ≤ (z4 - z2) ∧ z2 + (z4 - z2) ≤ (1710 : Int) ∧ (z2 + (1 : Int)) + (z4 - z2) ≤ (1710 : Int)) by omega) ?_)
      have w24 : (fx_cpy (fx_cpy (fx_cpy S 28 0 (z2 + (1 : Int)) (z4 - z2) 28 0 z2) 29 0 (z2 + (1 : Int)) (z4 - z2) 29 0 z2) 30 0 (z2 + (1 : Int)) (z4 - z2) 30 0 z2) 26 0 4 = (fx_cpy (fx_cpy S 28 0 (z2 + (1 : Int)) (z4 - z2) 28 0 z2) 29 0 (z2 + (1 : Int)) (z4 - z2) 29 0 z2) 26 0 4 := rfl
      intro z25 (z25a : (0 : Int) ≤ z25) (z25b : z25 ≤ (1710 : Int)) (z25c : z25 = S 26 0 4)
      obtain rfl : z4 = z25 := by omega
      refine And.intro (show -2147483648 ≤ (z4 + (1 : Int)) ∧ (z4 + (1 : Int)) < 2147483648 by omega) ?_
      refine And.intro (show (0 : Int) ≤ (z4 + (1 : Int)) ∧ (z4 + (1 : Int)) ≤ (1710 : Int) by omega) ?_
      have w26 : (fx_up (fx_cpy (fx_cpy (fx_cpy S 28 0 (z2 + (1 : Int)) (z4 - z2) 28 0 z2) 29 0 (z2 + (1 : Int)) (z4 - z2) 29 0 z2) 30 0 (z2 + (1 : Int)) (z4 - z2) 30 0 z2) 26 0 4 (z4 + (1 : Int))) 26 0 4 = (z4 + (1 : Int)) := fx_up_at _ _ _ _ _
      refine And.intro (show 0 ≤ z2 ∧ z2 < 1710 by omega) ?_
      refine And.intro (show (-2147483648 : Int) ≤ z1 ∧ z1 ≤ (2147483647 : Int) by omega) ?_
      have w27 : (fx_up (fx_up (fx_cpy (fx_cpy (fx_cpy S 28 0 (z2 + (1 : Int)) (z4 - z2) 28 0 z2) 29 0 (z2 + (1 : Int)) (z4 - z2) 29 0 z2) 30 0 (z2 + (1 : Int)) (z4 - z2) 30 0 z2) 26 0 4 (z4 + (1 : Int))) 28 0 (z2).toNat z1) 26 0 4 = (fx_up (fx_cpy (fx_cpy (fx_cpy S 28 0 (z2 + (1 : Int)) (z4 - z2) 28 0 z2) 29 0 (z2 + (1 : Int)) (z4 - z2) 29 0 z2) 30 0 (z2 + (1 : Int)) (z4 - z2) 30 0 z2) 26 0 4 (z4 + (1 : Int))) 26 0 4 := rfl
      refine And.intro (show 0 ≤ z2 ∧ z2 < 1710 by omega) ?_
      refine And.intro (show (0 : Int) ≤ t ∧ t ≤ (5 : Int) by omega) ?_
      have w28 : (fx_up (fx_up (fx_up (fx_cpy (fx_cpy (fx_cpy S 28 0 (z2 + (1 : Int)) (z4 - z2) 28 0 z2) 29 0 (z2 + (1 : Int)) (z4 - z2) 29 0 z2) 30 0 (z2 + (1 : Int)) (z4 - z2) 30 0 z2) 26 0 4 (z4 + (1 : Int))) 28 0 (z2).toNat z1) 29 0 (z2).toNat t) 26 0 4 = (fx_up (fx_up (fx_cpy (fx_cpy (fx_cpy S 28 0 (z2 + (1 : Int)) (z4 - z2) 28 0 z2) 29 0 (z2 + (1 : Int)) (z4 - z2) 29 0 z2) 30 0 (z2 + (1 : Int)) (z4 - z2) 30 0 z2) 26 0 4 (z4 + (1 : Int))) 28 0 (z2).toNat z1) 26 0 4 := rfl
      refine And.intro (show 0 ≤ z2 ∧ z2 < 1710 by omega) ?_
      refine And.intro (show (0 : Int) ≤ c ∧ c ≤ (284 : Int) by omega) ?_
      have w29 : (fx_up (fx_up (fx_up (fx_up (fx_cpy (fx_cpy (fx_cpy S 28 0 (z2 + (1 : Int)) (z4 - z2) 28 0 z2) 29 0 (z2 + (1 : Int)) (z4 - z2) 29 0 z2) 30 0 (z2 + (1 : Int)) (z4 - z2) 30 0 z2) 26 0 4 (z4 + (1 : Int))) 28 0 (z2).toNat z1) 29 0 (z2).toNat t) 30 0 (z2).toNat c) 26 0 4 = (fx_up (fx_up (fx_up (fx_cpy (fx_cpy (fx_cpy S 28 0 (z2 + (1 : Int)) (z4 - z2) 28 0 z2) 29 0 (z2 + (1 : Int)) (z4 - z2) 29 0 z2) 30 0 (z2 + (1 : Int)) (z4 - z2) 30 0 z2) 26 0 4 (z4 + (1 : Int))) 28 0 (z2).toNat z1) 29 0 (z2).toNat t) 26 0 4 := rfl
      exact hk (fx_up (fx_up (fx_up (fx_up (fx_cpy (fx_cpy (fx_cpy S 28 0 (z2 + (1 : Int)) (z4 - z2) 28 0 z2) 29 0 (z2 + (1 : Int)) (z4 - z2) 29 0 z2) 30 0 (z2 + (1 : Int)) (z4 - z2) 30 0 z2) 26 0 4 (z4 + (1 : Int))) 28 0 (z2).toNat z1) 29 0 (z2).toNat t) 30 0 (z2).toNat c) ⟨(fxfr_up (fxfr_up (fxfr_up (fxfr_up (fxfr_cpy (fxfr_cpy (fxfr_cpy fxfr_rfl (fun _ => rfl)) (fun _ => rfl)) (fun _ => rfl)) rfl) rfl) rfl) rfl), by omega, by first | assumption | exact View_set p0 (by omega) | exact View_ins p0 (by omega) (by omega) (by omega) (by omega)⟩
    ·
      refine And.intro (show 0 ≤ t ∧ t < 6 by omega) ?_
      refine And.intro (show 0 ≤ c ∧ c < 285 by omega) ?_
      intro z30 (z30a : (-2147483648 : Int) ≤ z30) (z30b : z30 ≤ (2147483647 : Int)) (z30c : z30 = S 36 (t).toNat (c).toNat)
      refine c_Library_viewStamp (v := z2) (show 0 ≤ z2 ∧ z2 < 1710 by omega) (fun (z31 : Int) (q32 : -2147483648 ≤ z31 ∧ z31 < 2147483648) => ?_)
      refine And.intro (fun (h33 : (z31 < z30 : Prop)) => ?_) (fun (h33 : (z30 ≤ z31 : Prop)) => ?_)
      ·
        refine And.intro (show 0 ≤ z2 ∧ z2 < 1710 by omega) ?_
        refine And.intro (show (-2147483648 : Int) ≤ z1 ∧ z1 ≤ (2147483647 : Int) by omega) ?_
        have w34 : (fx_up S 28 0 (z2).toNat z1) 26 0 4 = S 26 0 4 := rfl
        refine And.intro (show 0 ≤ z2 ∧ z2 < 1710 by omega) ?_
        refine And.intro (show (0 : Int) ≤ t ∧ t ≤ (5 : Int) by omega) ?_
        have w35 : (fx_up (fx_up S 28 0 (z2).toNat z1) 29 0 (z2).toNat t) 26 0 4 = (fx_up S 28 0 (z2).toNat z1) 26 0 4 := rfl
        refine And.intro (show 0 ≤ z2 ∧ z2 < 1710 by omega) ?_
        refine And.intro (show (0 : Int) ≤ c ∧ c ≤ (284 : Int) by omega) ?_
        have w36 : (fx_up (fx_up (fx_up S 28 0 (z2).toNat z1) 29 0 (z2).toNat t) 30 0 (z2).toNat c) 26 0 4 = (fx_up (fx_up S 28 0 (z2).toNat z1) 29 0 (z2).toNat t) 26 0 4 := rfl
        exact hk (fx_up (fx_up (fx_up S 28 0 (z2).toNat z1) 29 0 (z2).toNat t) 30 0 (z2).toNat c) ⟨(fxfr_up (fxfr_up (fxfr_up fxfr_rfl rfl) rfl) rfl), by omega, by first | assumption | exact View_set p0 (by omega) | exact View_ins p0 (by omega) (by omega) (by omega) (by omega)⟩
      ·
        exact hk S ⟨fxfr_rfl, by omega, by first | assumption | exact View_set p0 (by omega) | exact View_ins p0 (by omega) (by omega) (by omega) (by omega)⟩
theorem z_Library_doPathsClash {l : Launch} {k : fxK} {S : fxS} {v : Int} {w : Int} (p0 : SegB S) (p1 : ViewV S) (p2 : 0 ≤ v ∧ v < 1710) (p3 : v < S 26 0 4) (p4 : 0 ≤ w ∧ w < 1710 ∧ w < S 26 0 4) (hk : ∀ (r : Int) , (r = 0 ∨ r = 1) → k (some (.inl r)) S) : ∀ m : Nat, (∀ (a b m1 j : Int), (0 ≤ j ∧ j ≤ m1 ∨ m1 ≤ 0 ∧ j = 0) → (8 ≤ a ∧ a + 21 + 8 * m1 ≤ 6000) → (8 ≤ b ∧ b + 21 + 8 * m1 ≤ 6000) → (m1 ≤ 255) → 400 - j ≤ (m : Int) → fZ l 166 k 60 [none, none, none, some (.inr (.inr (32, (S 29 0 (v).toNat).toNat))), some (.inr (.inr (32, (S 29 0 (w).toNat).toNat))), some (.inl a), some (.inl b), some (.inl m1), some (.inl j)] [] S) := by
  intro m
  induction m with
  | zero =>
    intro a b m1 j  i0 i1 i2 i3 hmu
    exfalso
    omega
  | succ m ih =>
    intro a b m1 j  i0 i1 i2 i3 hmu
    refine fxz_166 400 ?_
    refine And.intro (fun (h1 : (m1 ≤ j : Prop)) => ?_) (fun (h1 : (j < m1 : Prop)) => ?_)
    ·
      refine And.intro (show 0 ≤ (1 : Int) ∧ (1 : Int) ≤ 1 by omega) ?_
      exact hk (1 : Int) (by omega)
    ·
      refine c_Tape_titleAt (i := (S 29 0 (v).toNat).toNat) (p := a) (q := j) (show 0 ≤ a ∧ a ≤ 6000 ∧ -1 ≤ j ∧ j ≤ 255 ∧ 0 ≤ a + 15 + 8 * j ∧ a + 15 + 8 * j + 8 ≤ 6000 by omega) (fun (z2 : Int) => ?_)
      refine c_Tape_titleAt (i := (S 29 0 (w).toNat).toNat) (p := b) (q := j) (show 0 ≤ b ∧ b ≤ 6000 ∧ -1 ≤ j ∧ j ≤ 255 ∧ 0 ≤ b + 15 + 8 * j ∧ b + 15 + 8 * j + 8 ≤ 6000 by omega) (fun (z3 : Int) => ?_)
      refine And.intro (fun (_ : z2 < z3) => ?_) (And.intro (fun (_ : z2 = z3) => ?_) (fun (_ : z3 < z2) => ?_))
      ·
        refine And.intro (fun h => absurd h (by decide)) (fun _ => ?_)
        refine And.intro (show 0 ≤ (0 : Int) ∧ (0 : Int) ≤ 1 by omega) ?_
        exact hk (0 : Int) (by omega)
      ·
        refine And.intro (fun _ => ?_) (fun h => absurd h (by decide))
        refine And.intro (by decide) (And.intro (show -2147483648 ≤ j + (1 : Int) ∧ j + (1 : Int) < 2147483648 by omega) ?_)
        exact ih a b m1 (j + (1 : Int))  (by omega) (by omega) (by omega) (by omega) (by omega)
      ·
        refine And.intro (fun h => absurd h (by decide)) (fun _ => ?_)
        refine And.intro (show 0 ≤ (0 : Int) ∧ (0 : Int) ≤ 1 by omega) ?_
        exact hk (0 : Int) (by omega)
theorem c_Library_doPathsClash {l : Launch} {k : fxK} {S : fxS} {v : Int} {w : Int} (p0 : SegB S) (p1 : ViewV S) (p2 : 0 ≤ v ∧ v < 1710) (p3 : v < S 26 0 4) (p4 : 0 ≤ w ∧ w < 1710 ∧ w < S 26 0 4) (hk : ∀ (r : Int) , (r = 0 ∨ r = 1) → k (some (.inl r)) S) : fC l 166 [.inr (.inr (26, 0)), .inl v, .inl w] S k := by
  refine fxe_166 (Nat.le_of_ble_eq_true rfl) (fxz_166 400 ?_)
  refine And.intro (show 0 ≤ v ∧ v < 1710 by omega) ?_
  intro z5 (z5a : (0 : Int) ≤ z5) (z5b : z5 ≤ (5 : Int)) (z5c : z5 = S 29 0 (v).toNat)
  subst z5c
  refine And.intro (show 0 ≤ (S 29 0 (v).toNat) ∧ (S 29 0 (v).toNat) < 6 by omega) ?_
  refine And.intro (by decide) ?_
  refine And.intro (show 0 ≤ w ∧ w < 1710 by omega) ?_
  intro z6 (z6a : (0 : Int) ≤ z6) (z6b : z6 ≤ (5 : Int)) (z6c : z6 = S 29 0 (w).toNat)
  subst z6c
  refine And.intro (show 0 ≤ (S 29 0 (w).toNat) ∧ (S 29 0 (w).toNat) < 6 by omega) ?_
  refine And.intro (by decide) ?_
  refine c_Library_placeInView (v := v) (show 0 ≤ v ∧ v < 1710 by omega) (fun (z7 : Int) (q8 : 0 ≤ z7 ∧ z7 ≤ 5979 ∧ z7 = S 34 (S 29 0 (v).toNat).toNat (S 30 0 (v).toNat).toNat ∧ 0 ≤ S 30 0 (v).toNat) => ?_)
  have sg1 : (8 ≤ z7 ∧ z7 + 21 + 8 * (S 33 (S 29 0 (v).toNat).toNat (z7 + 14).toNat % 256) ≤ S 32 (S 29 0 (v).toNat).toNat 1 ∧ S 32 (S 29 0 (v).toNat).toNat 1 ≤ 6000 ∧ (S 33 (S 29 0 (v).toNat).toNat (z7 + 14).toNat % 256) ≤ 5 ∧ (S 33 (S 29 0 (v).toNat).toNat (z7 + 1).toNat % 256 = 1 ∨ S 33 (S 29 0 (v).toNat).toNat (z7 + 1).toNat % 256 = 2) ∧ sN S 33 (S 29 0 (v).toNat).toNat (z7 + 15 + 8 * (S 33 (S 29 0 (v).toNat).toNat (z7 + 14).toNat % 256)) 2 ≤ 1024 ∧ (S 33 (S 29 0 (v).toNat).toNat (z7 + 1).toNat % 256 = 1 → 1 ≤ (S 33 (S 29 0 (v).toNat).toNat (z7 + 14).toNat % 256) ∧ z7 + 25 + 8 * (S 33 (S 29 0 (v).toNat).toNat (z7 + 14).toNat % 256) + sN S 33 (S 29 0 (v).toNat).toNat (z7 + 15 + 8 * (S 33 (S 29 0 (v).toNat).toNat (z7 + 14).toNat % 256)) 2 ≤ S 32 (S 29 0 (v).toNat).toNat 1)) := SegB_at p0 q8.2.2.1 ⟨by omega, q8.2.2.2, View_at p1 rfl rfl (by omega)⟩
  refine And.intro (by decide) ?_
  refine c_Library_placeInView (v := w) (show 0 ≤ w ∧ w < 1710 by omega) (fun (z9 : Int) (q10 : 0 ≤ z9 ∧ z9 ≤ 5979 ∧ z9 = S 34 (S 29 0 (w).toNat).toNat (S 30 0 (w).toNat).toNat ∧ 0 ≤ S 30 0 (w).toNat) => ?_)
  have sg2 : (8 ≤ z9 ∧ z9 + 21 + 8 * (S 33 (S 29 0 (w).toNat).toNat (z9 + 14).toNat % 256) ≤ S 32 (S 29 0 (w).toNat).toNat 1 ∧ S 32 (S 29 0 (w).toNat).toNat 1 ≤ 6000 ∧ (S 33 (S 29 0 (w).toNat).toNat (z9 + 14).toNat % 256) ≤ 5 ∧ (S 33 (S 29 0 (w).toNat).toNat (z9 + 1).toNat % 256 = 1 ∨ S 33 (S 29 0 (w).toNat).toNat (z9 + 1).toNat % 256 = 2) ∧ sN S 33 (S 29 0 (w).toNat).toNat (z9 + 15 + 8 * (S 33 (S 29 0 (w).toNat).toNat (z9 + 14).toNat % 256)) 2 ≤ 1024 ∧ (S 33 (S 29 0 (w).toNat).toNat (z9 + 1).toNat % 256 = 1 → 1 ≤ (S 33 (S 29 0 (w).toNat).toNat (z9 + 14).toNat % 256) ∧ z9 + 25 + 8 * (S 33 (S 29 0 (w).toNat).toNat (z9 + 14).toNat % 256) + sN S 33 (S 29 0 (w).toNat).toNat (z9 + 15 + 8 * (S 33 (S 29 0 (w).toNat).toNat (z9 + 14).toNat % 256)) 2 ≤ S 32 (S 29 0 (w).toNat).toNat 1)) := SegB_at p0 q10.2.2.1 ⟨by omega, q10.2.2.2, View_at p1 rfl rfl (by omega)⟩
  refine And.intro (by decide) ?_
  refine c_Tape_depthAt (i := (S 29 0 (v).toNat).toNat) (p := z7) (show 0 ≤ z7 ∧ z7 < 5986 by omega) (fun (z11 : Int) (q12 : z11 = (S 33 (S 29 0 (v).toNat).toNat (z7 + 14).toNat % 256) ∧ 0 ≤ z11 ∧ z11 ≤ 255) => ?_)
  refine c_Tape_depthAt (i := (S 29 0 (w).toNat).toNat) (p := z9) (show 0 ≤ z9 ∧ z9 < 5986 by omega) (fun (z13 : Int) (q14 : z13 = (S 33 (S 29 0 (w).toNat).toNat (z9 + 14).toNat % 256) ∧ 0 ≤ z13 ∧ z13 ≤ 255) => ?_)
  intro z15 (z15a : z15 ≤ z11) (z15b : z15 ≤ z13) (z15c : z15 = z11 ∨ z15 = z13)
  refine And.intro (by decide) ?_
  refine And.intro (by decide) ?_
  exact (z_Library_doPathsClash p0 p1 p2 p3 p4 hk (400 - (0 : Int)).toNat) z7 z9 z15 (0 : Int)  (by omega) (by omega) (by omega) (by omega) (by omega)
theorem z_Library_clashesWithTaken {l : Launch} {k : fxK} {S : fxS} {v : Int} {u : Int} (p0 : SegB S) (p1 : ViewV S) (p2 : OrdV S) (p3 : 0 ≤ v ∧ v < 1710) (p4 : v < S 26 0 4) (p5 : 0 ≤ u ∧ u ≤ S 26 0 4 ∧ u ≤ 1710) (hk : ∀ (r : Int) , (r = 0 ∨ r = 1) → k (some (.inl r)) S) : ∀ m : Nat, (∀ (j : Int), (0 ≤ j ∧ j ≤ 1710) → 1711 - j ≤ (m : Int) → fZ l 167 k 2 [some (.inr (.inr (26, 0))), some (.inl v), some (.inl u), some (.inl j)] [] S) := by
  intro m
  induction m with
  | zero =>
    intro j  i0 hmu
    exfalso
    omega
  | succ m ih =>
    intro j  i0 hmu
    refine fxz_167 400 ?_
    refine And.intro (fun (h1 : (u ≤ j : Prop)) => ?_) (fun (h1 : (j < u : Prop)) => ?_)
    ·
      refine And.intro (show 0 ≤ (0 : Int) ∧ (0 : Int) ≤ 1 by omega) ?_
      exact hk (0 : Int) (by omega)
    ·
      refine And.intro (show 0 ≤ j ∧ j < 1710 by omega) ?_
      intro z2 (z2a : (0 : Int) ≤ z2) (z2b : z2 ≤ (1709 : Int)) (z2c : z2 = S 31 0 (j).toNat)
      have o3 : (0 ≤ j ∧ j < S 26 0 4) → z2 < S 26 0 4 := OrdV_at (by assumption) z2c
      refine c_Library_doPathsClash (v := v) (w := z2) p0 p1 (show 0 ≤ v ∧ v < 1710 by omega) (show v < S 26 0 4 by omega) (show 0 ≤ z2 ∧ z2 < 1710 ∧ z2 < S 26 0 4 by omega) (fun (z4 : Int) (q5 : z4 = 0 ∨ z4 = 1) => ?_)
      refine And.intro (fun (h6 : (z4 = (0 : Int) : Prop)) => ?_) (fun (h6 : (z4 ≠ (0 : Int) : Prop)) => ?_)
      ·
        refine And.intro (by decide) (And.intro (show -2147483648 ≤ j + (1 : Int) ∧ j + (1 : Int) < 2147483648 by omega) ?_)
        exact ih (j + (1 : Int))  (by omega) (by omega)
      ·
        refine And.intro (show 0 ≤ (1 : Int) ∧ (1 : Int) ≤ 1 by omega) ?_
        exact hk (1 : Int) (by omega)
theorem c_Library_clashesWithTaken {l : Launch} {k : fxK} {S : fxS} {v : Int} {u : Int} (p0 : SegB S) (p1 : ViewV S) (p2 : OrdV S) (p3 : 0 ≤ v ∧ v < 1710) (p4 : v < S 26 0 4) (p5 : 0 ≤ u ∧ u ≤ S 26 0 4 ∧ u ≤ 1710) (hk : ∀ (r : Int) , (r = 0 ∨ r = 1) → k (some (.inl r)) S) : fC l 167 [.inr (.inr (26, 0)), .inl v, .inl u] S k := by
  refine fxe_167 (Nat.le_of_ble_eq_true rfl) (fxz_167 400 ?_)
  refine And.intro (by decide) ?_
  exact (z_Library_clashesWithTaken p0 p1 p2 p3 p4 p5 hk (1711 - (0 : Int)).toNat) (0 : Int)  (by omega) (by omega)
theorem z_Library_dropClashes {l : Launch} {k : fxK} {S : fxS}  (p0 : SegB S) (p1 : ViewV S) (p2 : S 26 0 4 ≤ 1710) (hk : ∀ (S' : fxS) , (fxfr [(26, 4), (28, 9999), (29, 9999), (30, 9999), (31, 9999)] S S' ∧ (ViewV S')) → k none S') : ∀ m : Nat, (∀ (u j : Int) (S1 : fxS), (fxfr [(26, 4), (28, 9999), (29, 9999), (30, 9999), (31, 9999)] S S1) → (0 ≤ u ∧ u ≤ j ∧ j ≤ 1710) → (u ≤ 0 ∨ u ≤ S1 26 0 4) → (S1 26 0 4 = S 26 0 4) → (SegB S1) → (ViewV S1) → (OrdV S1) → 2000 + 1711 - j ≤ (m : Int) → fZ l 169 k 8 [some (.inr (.inr (26, 0))), some (.inl u), some (.inl j), none] [] S1) ∧ (∀ (u j : Int) (S1 : fxS), (fxfr [(26, 4), (28, 9999), (29, 9999), (30, 9999), (31, 9999)] S S1) → (0 ≤ u ∧ u ≤ 1710 ∧ 0 ≤ j ∧ j ≤ 1710) → (u ≤ 0 ∨ u ≤ S1 26 0 4) → (S1 26 0 4 = S 26 0 4) → (SegB S1) → (ViewV S1) → (OrdV S1) → 1711 - j ≤ (m : Int) → fZ l 169 k 55 [some (.inr (.inr (26, 0))), some (.inl u), some (.inl j), none] [] S1) := by
  intro m
  induction m with
  | zero =>
    refine ⟨?_, ?_⟩
    · intro u j S1 hf i0 i1 i2 i3 i4 i5 hmu
      exfalso
      omega
    · intro u j S1 hf i0 i1 i2 i3 i4 i5 hmu
      exfalso
      omega
  | succ m ih =>
    refine ⟨?_, ?_⟩
    · intro u j S1 hf i0 i1 i2 i3 i4 i5 hmu
      refine fxz_169 400 ?_
      intro z1 (z1a : (0 : Int) ≤ z1) (z1b : z1 ≤ (1710 : Int)) (z1c : z1 = S1 26 0 4)
      refine And.intro (fun (h2 : (z1 ≤ j : Prop)) => ?_) (fun (h2 : (j < z1 : Prop)) => ?_)
      ·
        refine c_Library_sortTaken (u := u) i5 (show 0 ≤ u ∧ u ≤ S1 26 0 4 ∧ u ≤ 1710 by omega) (fun (S3 : fxS) ⟨(f4 : fxfr [(31, 9999)] S1 S3), (g5 : OrdV S3)⟩ => ?_)
        have w6 : S3 26 0 4 = S1 26 0 4 := f4 26 0 4 rfl
        have g7 : SegB S3 := fx_pfr SegB_stab f4 rfl i3
        have g8 : ViewV S3 := fx_pfr ViewV_stab f4 rfl i4
        refine And.intro (by decide) ?_
        exact ih.2 u (0 : Int) S3 (fxfr_tr hf f4 rfl) (by omega) (by omega) (by omega) g7 g8 g5 (by omega)
      ·
        refine And.intro (show 0 ≤ j ∧ j < 1710 by omega) ?_
        intro z9 (z9a : (0 : Int) ≤ z9) (z9b : z9 ≤ (1709 : Int)) (z9c : z9 = S1 31 0 (j).toNat)
        have o10 : (0 ≤ j ∧ j < S1 26 0 4) → z9 < S1 26 0 4 := OrdV_at (by assumption) z9c
        refine And.intro (by decide) ?_
        refine c_Library_clashesWithTaken (v := z9) (u := u) i3 i4 i5 (show 0 ≤ z9 ∧ z9 < 1710 by omega) (show z9 < S1 26 0 4 by omega) (show 0 ≤ u ∧ u ≤ S1 26 0 4 ∧ u ≤ 1710 by omega) (fun (z11 : Int) (q12 : z11 = 0 ∨ z11 = 1) => ?_)
        refine And.intro (fun (h13 : (z11 ≠ (0 : Int) : Prop)) => ?_) (fun (h13 : (z11 = (0 : Int) : Prop)) => ?_)
        ·
          refine And.intro (by decide) (And.intro (show -2147483648 ≤ j + (1 : Int) ∧ j + (1 : Int) < 2147483648 by omega) ?_)
          exact ih.1 u (j + (1 : Int)) S1 hf (by omega) (by omega) (by omega) i3 i4 i5 (by omega)
        ·
          refine And.intro (show 0 ≤ u ∧ u < 1710 by omega) ?_
          refine And.intro (show (0 : Int) ≤ z9 ∧ z9 ≤ (1709 : Int) by omega) ?_
          have w15 : (fx_up S1 31 0 (u).toNat z9) 26 0 4 = S1 26 0 4 := rfl
          have g16 : SegB (fx_up S1 31 0 (u).toNat z9) := fx_pup SegB_stab rfl i3
          have g17 : ViewV (fx_up S1 31 0 (u).toNat z9) := fx_pup ViewV_stab rfl i4
          have od : OrdV (fx_up S1 31 0 (u).toNat z9) := OrdV_up (by assumption) (by omega)
          refine And.intro (by decide) (And.intro (show -2147483648 ≤ u + (1 : Int) ∧ u + (1 : Int) < 2147483648 by omega) ?_)
          refine And.intro (by decide) (And.intro (show -2147483648 ≤ j + (1 : Int) ∧ j + (1 : Int) < 2147483648 by omega) ?_)
          exact ih.1 (u + (1 : Int)) (j + (1 : Int)) (fx_up S1 31 0 (u).toNat z9) (fxfr_up hf rfl) (by omega) (by omega) (by omega) g16 g17 od (by omega)
    · intro u j S1 hf i0 i1 i2 i3 i4 i5 hmu
      refine fxz_169 400 ?_
      refine And.intro (fun (h20 : (u ≤ j : Prop)) => ?_) (fun (h20 : (j < u : Prop)) => ?_)
      ·
        refine And.intro (show (0 : Int) ≤ u ∧ u ≤ (1710 : Int) by omega) ?_
        have w21 : (fx_up S1 26 0 4 u) 26 0 4 = u := fx_up_at _ _ _ _ _
        have g22 : SegB (fx_up S1 26 0 4 u) := fx_pup SegB_stab rfl i3
        exact hk (fx_up S1 26 0 4 u) ⟨(fxfr_up hf rfl), by first | assumption | exact View_cut (by assumption) (by omega)⟩
      ·
        refine And.intro (show 0 ≤ j ∧ j < 1710 by omega) ?_
        intro z23 (z23a : (0 : Int) ≤ z23) (z23b : z23 ≤ (1709 : Int)) (z23c : z23 = S1 31 0 (j).toNat)
        have o24 : (0 ≤ j ∧ j < S1 26 0 4) → z23 < S1 26 0 4 := OrdV_at (by assumption) z23c
        refine c_Library_keepInView (v := z23) (a := j) i4 (show 0 ≤ z23 ∧ z23 < 1710 by omega) (show z23 < S1 26 0 4 by omega) (show 0 ≤ j ∧ j < 1710 by omega) (fun (S25 : fxS) ⟨(f26 : fxfr [(28, 9999), (29, 9999), (30, 9999)] S1 S25), (g27 : ViewV S25)⟩ => ?_)
        have w28 : S25 26 0 4 = S1 26 0 4 := f26 26 0 4 rfl
        have g29 : SegB S25 := fx_pfr SegB_stab f26 rfl i3
        have g30 : OrdV S25 := fx_pfr OrdV_stab f26 rfl i5
        refine And.intro (by decide) (And.intro (show -2147483648 ≤ j + (1 : Int) ∧ j + (1 : Int) < 2147483648 by omega) ?_)
        exact ih.2 u (j + (1 : Int)) S25 (fxfr_tr hf f26 rfl) (by omega) (by omega) (by omega) g29 g27 g30 (by omega)
theorem c_Library_dropClashes {l : Launch} {k : fxK} {S : fxS}  (p0 : SegB S) (p1 : ViewV S) (p2 : S 26 0 4 ≤ 1710) (hk : ∀ (S' : fxS) , (fxfr [(26, 4), (28, 9999), (29, 9999), (30, 9999), (31, 9999)] S S' ∧ (ViewV S')) → k none S') : fC l 169 [.inr (.inr (26, 0))] S k := by
  refine fxe_169 (Nat.le_of_ble_eq_true rfl) (fxz_169 400 ?_)
  refine c_Library_sortByStamps  (show S 26 0 4 ≤ 1710 by omega) (fun (S32 : fxS) ⟨(f33 : fxfr [(31, 9999)] S S32), (g34 : OrdV S32)⟩ => ?_)
  have w35 : S32 26 0 4 = S 26 0 4 := f33 26 0 4 rfl
  have g36 : SegB S32 := fx_pfr SegB_stab f33 rfl p0
  have g37 : ViewV S32 := fx_pfr ViewV_stab f33 rfl p1
  refine And.intro (by decide) ?_
  refine And.intro (by decide) ?_
  exact (z_Library_dropClashes p0 p1 p2 hk (2000 + 1711 - (0 : Int)).toNat).1 (0 : Int) (0 : Int) S32 (fxfr_tr fxfr_rfl f33 rfl) (by omega) (by omega) (by omega) g36 g37 g34 (by omega)
theorem z_Library_lookOver {l : Launch} {k : fxK} {S : fxS}  (p0 : SegA S) (hk : ∀ (S' : fxS) , (fxfr [(26, 3), (26, 4), (28, 9999), (29, 9999), (30, 9999), (31, 9999)] S S' ∧ (SegA S') ∧ (ViewV S')) → k none S') : ∀ m : Nat, (∀ (t : Int) (S1 : fxS), (fxfr [(26, 3), (26, 4), (28, 9999), (29, 9999), (30, 9999), (31, 9999)] S S1) → (0 ≤ t ∧ t ≤ 6) → (0 ≤ S1 26 0 4 ∧ S1 26 0 4 ≤ 285 * t) → (SegB S1) → (ViewV S1) → (7 - t) * 1000 + 500 ≤ (m : Int) → fZ l 170 k 15 [some (.inr (.inr (26, 0))), some (.inl t), none] [] S1) ∧ (∀ (t c : Int) (S1 : fxS), (fxfr [(26, 3), (26, 4), (28, 9999), (29, 9999), (30, 9999), (31, 9999)] S S1) → (0 ≤ t ∧ t < 6) → (0 ≤ c ∧ c ≤ 285) → (0 ≤ S1 26 0 4 ∧ S1 26 0 4 ≤ 285 * t + c) → (SegB S1) → (ViewV S1) → (7 - t) * 1000 + 300 - c ≤ (m : Int) → fZ l 170 k 23 [some (.inr (.inr (26, 0))), some (.inl t), some (.inl c)] [] S1) := by
  intro m
  induction m with
  | zero =>
    refine ⟨?_, ?_⟩
    · intro t S1 hf i0 i1 i2 i3 hmu
      exfalso
      omega
    · intro t c S1 hf i0 i1 i2 i3 i4 hmu
      exfalso
      omega
  | succ m ih =>
    refine ⟨?_, ?_⟩
    · intro t S1 hf i0 i1 i2 i3 hmu
      refine fxz_170 400 ?_
      refine And.intro (fun (h1 : ((6 : Int) ≤ t : Prop)) => ?_) (fun (h1 : (t < (6 : Int) : Prop)) => ?_)
      ·
        refine c_Library_dropDeletes  i3 (fun (S2 : fxS) ⟨(f3 : fxfr [(26, 4), (28, 9999), (29, 9999), (30, 9999)] S1 S2), (q4 : S2 26 0 4 ≤ 1710), (g5 : ViewV S2)⟩ => ?_)
        have g6 : SegB S2 := fx_pfr SegB_stab f3 rfl i2
        refine c_Library_dropClashes  g6 g5 (show S2 26 0 4 ≤ 1710 by omega) (fun (S7 : fxS) ⟨(f8 : fxfr [(26, 4), (28, 9999), (29, 9999), (30, 9999), (31, 9999)] S2 S7), (g9 : ViewV S7)⟩ => ?_)
        have g10 : SegB S7 := fx_pfr SegB_stab f8 rfl g6
        refine And.intro (show (0 : Int) ≤ (1 : Int) ∧ (1 : Int) ≤ (1 : Int) by omega) ?_
        have w11 : (fx_up S7 26 0 3 (1 : Int)) 26 0 4 = S7 26 0 4 := if_neg (fun q => absurd q.2.2 (by decide))
        have g12 : SegB (fx_up S7 26 0 3 (1 : Int)) := fx_pup SegB_stab rfl g10
        have g13 : ViewV (fx_up S7 26 0 3 (1 : Int)) := fx_pup ViewV_stab rfl g9
        have sa : SegA (fx_up S7 26 0 3 (1 : Int)) := ⟨(by assumption), fun _ => (by assumption)⟩
        exact hk (fx_up S7 26 0 3 (1 : Int)) ⟨(fxfr_up (fxfr_tr (fxfr_tr hf f3 rfl) f8 rfl) rfl), sa, g13⟩
      ·
        refine And.intro (by decide) ?_
        exact ih.2 t (0 : Int) S1 hf (by omega) (by omega) (by omega) i2 i3 (by omega)
    · intro t c S1 hf i0 i1 i2 i3 i4 hmu
      refine fxz_170 400 ?_
      refine And.intro (show 0 ≤ t ∧ t < 6 by omega) ?_
      intro z14 (z14a : (0 : Int) ≤ z14) (z14b : z14 ≤ (285 : Int)) (z14c : z14 = S1 32 (t).toNat 5)
      refine And.intro (fun (h15 : (z14 ≤ c : Prop)) => ?_) (fun (h15 : (c < z14 : Prop)) => ?_)
      ·
        refine And.intro (by decide) (And.intro (show -2147483648 ≤ t + (1 : Int) ∧ t + (1 : Int) < 2147483648 by omega) ?_)
        exact ih.1 (t + (1 : Int)) S1 hf (by omega) (by omega) i3 i4 (by omega)
      ·
        refine And.intro (show 0 ≤ t ∧ t < 6 by omega) ?_
        refine And.intro (show 0 ≤ c ∧ c < 285 by omega) ?_
        intro z17 (z17a : (0 : Int) ≤ z17) (z17b : z17 ≤ (1 : Int)) (z17c : z17 = S1 37 (t).toNat (c).toNat)
        refine And.intro (fun (h18 : (z17 = (0 : Int) : Prop)) => ?_) (fun (h18 : (z17 ≠ (0 : Int) : Prop)) => ?_)
        ·
          refine And.intro (by decide) (And.intro (show -2147483648 ≤ c + (1 : Int) ∧ c + (1 : Int) < 2147483648 by omega) ?_)
          exact ih.2 t (c + (1 : Int)) S1 hf (by omega) (by omega) (by omega) i3 i4 (by omega)
        ·
          refine c_Library_offer (t := t) (c := c) i4 (show 0 ≤ t ∧ t ≤ 5 by omega) (show 0 ≤ c ∧ c < 285 ∧ c < S1 32 (t).toNat 5 by omega) (show S1 26 0 4 < 1710 by omega) (fun (S20 : fxS) ⟨(f21 : fxfr [(26, 4), (28, 9999), (29, 9999), (30, 9999)] S1 S20), (q22 : 0 ≤ S20 26 0 4 ∧ S20 26 0 4 ≤ S1 26 0 4 + 1), (g23 : ViewV S20)⟩ => ?_)
          have g24 : SegB S20 := fx_pfr SegB_stab f21 rfl i3
          refine And.intro (by decide) (And.intro (show -2147483648 ≤ c + (1 : Int) ∧ c + (1 : Int) < 2147483648 by omega) ?_)
          exact ih.2 t (c + (1 : Int)) S20 (fxfr_tr hf f21 rfl) (by omega) (by omega) (by omega) g24 g23 (by omega)
theorem c_Library_lookOver {l : Launch} {k : fxK} {S : fxS}  (p0 : SegA S) (hk : ∀ (S' : fxS) , (fxfr [(26, 3), (26, 4), (28, 9999), (29, 9999), (30, 9999), (31, 9999)] S S' ∧ (SegA S') ∧ (ViewV S')) → k none S') : fC l 170 [.inr (.inr (26, 0))] S k := by
  refine fxe_170 (Nat.le_of_ble_eq_true rfl) (fxz_170 400 ?_)
  intro z26 (z26a : (0 : Int) ≤ z26) (z26b : z26 ≤ (1 : Int)) (z26c : z26 = S 26 0 3)
  have sb : SegB S := p0.1
  refine And.intro (fun (h27 : (z26 = (0 : Int) : Prop)) => ?_) (fun (h27 : (z26 ≠ (0 : Int) : Prop)) => ?_)
  ·
    refine And.intro (show (0 : Int) ≤ (0 : Int) ∧ (0 : Int) ≤ (1710 : Int) by omega) ?_
    have w28 : (fx_up S 26 0 4 (0 : Int)) 26 0 4 = (0 : Int) := fx_up_at _ _ _ _ _
    have g29 : SegB (fx_up S 26 0 4 (0 : Int)) := fx_pup SegB_stab rfl sb
    have v0 : ViewV (fx_up S 26 0 4 (0 : Int)) := View_0 (Int.le_of_eq (fx_up_at _ _ _ _ _))
    refine And.intro (by decide) ?_
    exact (z_Library_lookOver p0 hk ((7 - (0 : Int)) * 1000 + 500).toNat).1 (0 : Int) (fx_up S 26 0 4 (0 : Int)) (fxfr_up fxfr_rfl rfl) (by omega) (by omega) g29 v0 (by omega)
  ·
    exact hk S ⟨fxfr_rfl, by first | assumption | exact p0.2 (by omega), by first | assumption | exact p0.2 (by omega)⟩
theorem c_StubHouse_view {l : Launch} {k : fxK} {S : fxS} {c : Int} {w : Int} (p0 : SegA S) (p1 : -2147483648 ≤ c ∧ c < 2147483648) (p2 : -2147483648 ≤ w ∧ w < 2147483648) (hk : ∀ (r : Int) (S' : fxS) , (fxfr [(26, 3), (26, 4), (28, 9999), (29, 9999), (30, 9999), (31, 9999), (32, 3), (32, 4), (32, 5), (34, 9999), (35, 9999), (36, 9999), (37, 9999)] S S' ∧ (-2147483648 ≤ r ∧ r < 2147483648) ∧ (SegA S')) → k (some (.inl r)) S') : fC l 314 [.inr (.inr (0, 0)), .inl c, .inl w] S k := by
  refine fxe_314 (Nat.le_of_ble_eq_true rfl) (fxz_314 400 ?_)
  refine And.intro (fun (h1 : (c < (-1 : Int) : Prop)) => ?_) (fun (h1 : ((-1 : Int) ≤ c : Prop)) => ?_)
  ·
    exact hk (-1 : Int) S ⟨fxfr_rfl, by omega, p0⟩
  ·
    refine And.intro (fun (h2 : (w < (0 : Int) : Prop)) => ?_) (fun (h2 : ((0 : Int) ≤ w : Prop)) => ?_)
    ·
      exact hk (-1 : Int) S ⟨fxfr_rfl, by omega, p0⟩
    ·
      refine And.intro (fun (h3 : ((4 : Int) < w : Prop)) => ?_) (fun (h3 : (w ≤ (4 : Int) : Prop)) => ?_)
      ·
        exact hk (-1 : Int) S ⟨fxfr_rfl, by omega, p0⟩
      ·
        refine And.intro (fun (h4 : (c ≠ (-1 : Int) : Prop)) => ?_) (fun (h4 : (c = (-1 : Int) : Prop)) => ?_)
        ·
          refine c_Library_scanAll  p0 (fun (S5 : fxS) ⟨(f6 : fxfr [(32, 3), (32, 4), (32, 5), (34, 9999), (35, 9999), (36, 9999), (37, 9999)] S S5), (g7 : SegA S5)⟩ => ?_)
          refine c_Library_lookOver  g7 (fun (S8 : fxS) ⟨(f9 : fxfr [(26, 3), (26, 4), (28, 9999), (29, 9999), (30, 9999), (31, 9999)] S5 S8), (g10 : SegA S8), (g11 : ViewV S8)⟩ => ?_)
          refine And.intro (fun (h12 : (c ≠ (-1 : Int) : Prop)) => ?_) (fun (h12 : (c = (-1 : Int) : Prop)) => ?_)
          ·
            intro z13 (z13a : (0 : Int) ≤ z13) (z13b : z13 ≤ (1710 : Int)) (z13c : z13 = S8 26 0 4)
            refine And.intro (fun (h14 : (c < z13 : Prop)) => ?_) (fun (h14 : (z13 ≤ c : Prop)) => ?_)
            ·
              refine And.intro (show 0 ≤ c ∧ c < 1710 by omega) ?_
              intro z15 (z15a : (0 : Int) ≤ z15) (z15b : z15 ≤ (5 : Int)) (z15c : z15 = S8 29 0 (c).toNat)
              refine And.intro (show 0 ≤ z15 ∧ z15 < 6 by omega) ?_
              refine And.intro (by decide) ?_
              refine And.intro (show 0 ≤ c ∧ c < 1710 by omega) ?_
              intro z16 (z16a : (0 : Int) ≤ z16) (z16b : z16 ≤ (284 : Int)) (z16c : z16 = S8 30 0 (c).toNat)
              have vi := View_at (S := S8) (by assumption) z16c (by assumption) (by omega)
              refine And.intro (show 0 ≤ z16 ∧ z16 < 285 by omega) ?_
              intro z17 (z17a : (0 : Int) ≤ z17) (z17b : z17 ≤ (5979 : Int)) (z17c : z17 = S8 34 (z15).toNat (z16).toNat)
              have s18 : ((z15).toNat < 6 ∧ 0 ≤ z16 ∧ z16 < S8 32 (z15).toNat 5) → (8 ≤ z17 ∧ z17 + 21 + 8 * (S8 33 (z15).toNat (z17 + 14).toNat % 256) ≤ S8 32 (z15).toNat 1 ∧ S8 32 (z15).toNat 1 ≤ 6000 ∧ (S8 33 (z15).toNat (z17 + 14).toNat % 256) ≤ 5 ∧ (S8 33 (z15).toNat (z17 + 1).toNat % 256 = 1 ∨ S8 33 (z15).toNat (z17 + 1).toNat % 256 = 2) ∧ sN S8 33 (z15).toNat (z17 + 15 + 8 * (S8 33 (z15).toNat (z17 + 14).toNat % 256)) 2 ≤ 1024 ∧ (S8 33 (z15).toNat (z17 + 1).toNat % 256 = 1 → 1 ≤ (S8 33 (z15).toNat (z17 + 14).toNat % 256) ∧ z17 + 25 + 8 * (S8 33 (z15).toNat (z17 + 14).toNat % 256) + sN S8 33 (z15).toNat (z17 + 15 + 8 * (S8 33 (z15).toNat (z17 + 14).toNat % 256)) 2 ≤ S8 32 (z15).toNat 1)) := SegA_at (by assumption) z17c
              refine And.intro (by decide) ?_
              refine And.intro (fun (h19 : w = (0 : Int)) => ?_) (fun (h19 : w ≠ (0 : Int)) => ?_)
              ·
                refine And.intro (show 0 ≤ c ∧ c < 1710 by omega) ?_
                intro z20 (z20a : (-2147483648 : Int) ≤ z20) (z20b : z20 ≤ (2147483647 : Int)) (z20c : z20 = S8 28 0 (c).toNat)
                exact hk z20 S8 ⟨(fxfr_tr (fxfr_tr fxfr_rfl f6 rfl) f9 rfl), by omega, g10⟩
              refine And.intro (fun (h21 : w = (1 : Int)) => ?_) (fun (h21 : w ≠ (1 : Int)) => ?_)
              ·
                refine And.intro (show 0 ≤ c ∧ c < 1710 by omega) ?_
                intro z22 (z22a : (0 : Int) ≤ z22) (z22b : z22 ≤ (5 : Int)) (z22c : z22 = S8 29 0 (c).toNat)
                exact hk z22 S8 ⟨(fxfr_tr (fxfr_tr fxfr_rfl f6 rfl) f9 rfl), by omega, g10⟩
              refine And.intro (fun (h23 : w = (2 : Int)) => ?_) (fun (h23 : w ≠ (2 : Int)) => ?_)
              ·
                exact hk z17 S8 ⟨(fxfr_tr (fxfr_tr fxfr_rfl f6 rfl) f9 rfl), by omega, g10⟩
              refine And.intro (fun (h24 : w = (3 : Int)) => ?_) (fun (h24 : w ≠ (3 : Int)) => ?_)
              ·
                refine c_Tape_sizeAt (i := (z15).toNat) (p := z17) (show 0 ≤ z17 ∧ z17 < 5986 ∧ z17 + 17 + 8 * (S8 33 (z15).toNat (z17 + 14).toNat % 256) ≤ 6000 by omega) (fun (z25 : Int) (q26 : z25 = sN S8 33 (z15).toNat (z17 + 15 + 8 * (S8 33 (z15).toNat (z17 + 14).toNat % 256)) 2 ∧ 0 ≤ z25 ∧ z25 ≤ 65535) => ?_)
                exact hk z25 S8 ⟨(fxfr_tr (fxfr_tr fxfr_rfl f6 rfl) f9 rfl), by omega, g10⟩
              refine c_Tape_versionAt (i := (z15).toNat) (p := z17) (show 0 ≤ z17 ∧ z17 ≤ 5990 by omega) (fun (z27 : Int) (q28 : -2147483648 ≤ z27 ∧ z27 < 2147483648) => ?_)
              exact hk z27 S8 ⟨(fxfr_tr (fxfr_tr fxfr_rfl f6 rfl) f9 rfl), by omega, g10⟩
            ·
              exact hk (-2 : Int) S8 ⟨(fxfr_tr (fxfr_tr fxfr_rfl f6 rfl) f9 rfl), by omega, g10⟩
          ·
            intro z29 (z29a : (0 : Int) ≤ z29) (z29b : z29 ≤ (1710 : Int)) (z29c : z29 = S8 26 0 4)
            exact hk z29 S8 ⟨(fxfr_tr (fxfr_tr fxfr_rfl f6 rfl) f9 rfl), by omega, g10⟩
        ·
          refine And.intro (fun (h30 : (w = (0 : Int) : Prop)) => ?_) (fun (h30 : (w ≠ (0 : Int) : Prop)) => ?_)
          ·
            refine c_Library_scanAll  p0 (fun (S31 : fxS) ⟨(f32 : fxfr [(32, 3), (32, 4), (32, 5), (34, 9999), (35, 9999), (36, 9999), (37, 9999)] S S31), (g33 : SegA S31)⟩ => ?_)
            refine c_Library_lookOver  g33 (fun (S34 : fxS) ⟨(f35 : fxfr [(26, 3), (26, 4), (28, 9999), (29, 9999), (30, 9999), (31, 9999)] S31 S34), (g36 : SegA S34), (g37 : ViewV S34)⟩ => ?_)
            refine And.intro (fun (h38 : (c ≠ (-1 : Int) : Prop)) => ?_) (fun (h38 : (c = (-1 : Int) : Prop)) => ?_)
            ·
              intro z39 (z39a : (0 : Int) ≤ z39) (z39b : z39 ≤ (1710 : Int)) (z39c : z39 = S34 26 0 4)
              refine And.intro (fun (h40 : (c < z39 : Prop)) => ?_) (fun (h40 : (z39 ≤ c : Prop)) => ?_)
              ·
                refine And.intro (show 0 ≤ c ∧ c < 1710 by omega) ?_
                intro z41 (z41a : (0 : Int) ≤ z41) (z41b : z41 ≤ (5 : Int)) (z41c : z41 = S34 29 0 (c).toNat)
                refine And.intro (show 0 ≤ z41 ∧ z41 < 6 by omega) ?_
                refine And.intro (by decide) ?_
                refine And.intro (show 0 ≤ c ∧ c < 1710 by omega) ?_
                intro z42 (z42a : (0 : Int) ≤ z42) (z42b : z42 ≤ (284 : Int)) (z42c : z42 = S34 30 0 (c).toNat)
                have vi := View_at (S := S34) (by assumption) z42c (by assumption) (by omega)
                refine And.intro (show 0 ≤ z42 ∧ z42 < 285 by omega) ?_
                intro z43 (z43a : (0 : Int) ≤ z43) (z43b : z43 ≤ (5979 : Int)) (z43c : z43 = S34 34 (z41).toNat (z42).toNat)
                have s44 : ((z41).toNat < 6 ∧ 0 ≤ z42 ∧ z42 < S34 32 (z41).toNat 5) → (8 ≤ z43 ∧ z43 + 21 + 8 * (S34 33 (z41).toNat (z43 + 14).toNat % 256) ≤ S34 32 (z41).toNat 1 ∧ S34 32 (z41).toNat 1 ≤ 6000 ∧ (S34 33 (z41).toNat (z43 + 14).toNat % 256) ≤ 5 ∧ (S34 33 (z41).toNat (z43 + 1).toNat % 256 = 1 ∨ S34 33 (z41).toNat (z43 + 1).toNat % 256 = 2) ∧ sN S34 33 (z41).toNat (z43 + 15 + 8 * (S34 33 (z41).toNat (z43 + 14).toNat % 256)) 2 ≤ 1024 ∧ (S34 33 (z41).toNat (z43 + 1).toNat % 256 = 1 → 1 ≤ (S34 33 (z41).toNat (z43 + 14).toNat % 256) ∧ z43 + 25 + 8 * (S34 33 (z41).toNat (z43 + 14).toNat % 256) + sN S34 33 (z41).toNat (z43 + 15 + 8 * (S34 33 (z41).toNat (z43 + 14).toNat % 256)) 2 ≤ S34 32 (z41).toNat 1)) := SegA_at (by assumption) z43c
                refine And.intro (by decide) ?_
                refine And.intro (fun (h45 : w = (0 : Int)) => ?_) (fun (h45 : w ≠ (0 : Int)) => ?_)
                ·
                  refine And.intro (show 0 ≤ c ∧ c < 1710 by omega) ?_
                  intro z46 (z46a : (-2147483648 : Int) ≤ z46) (z46b : z46 ≤ (2147483647 : Int)) (z46c : z46 = S34 28 0 (c).toNat)
                  exact hk z46 S34 ⟨(fxfr_tr (fxfr_tr fxfr_rfl f32 rfl) f35 rfl), by omega, g36⟩
                refine And.intro (fun (h47 : w = (1 : Int)) => ?_) (fun (h47 : w ≠ (1 : Int)) => ?_)
                ·
                  refine And.intro (show 0 ≤ c ∧ c < 1710 by omega) ?_
                  intro z48 (z48a : (0 : Int) ≤ z48) (z48b : z48 ≤ (5 : Int)) (z48c : z48 = S34 29 0 (c).toNat)
                  exact hk z48 S34 ⟨(fxfr_tr (fxfr_tr fxfr_rfl f32 rfl) f35 rfl), by omega, g36⟩
                refine And.intro (fun (h49 : w = (2 : Int)) => ?_) (fun (h49 : w ≠ (2 : Int)) => ?_)
                ·
                  exact hk z43 S34 ⟨(fxfr_tr (fxfr_tr fxfr_rfl f32 rfl) f35 rfl), by omega, g36⟩
                refine And.intro (fun (h50 : w = (3 : Int)) => ?_) (fun (h50 : w ≠ (3 : Int)) => ?_)
                ·
                  refine c_Tape_sizeAt (i := (z41).toNat) (p := z43) (show 0 ≤ z43 ∧ z43 < 5986 ∧ z43 + 17 + 8 * (S34 33 (z41).toNat (z43 + 14).toNat % 256) ≤ 6000 by omega) (fun (z51 : Int) (q52 : z51 = sN S34 33 (z41).toNat (z43 + 15 + 8 * (S34 33 (z41).toNat (z43 + 14).toNat % 256)) 2 ∧ 0 ≤ z51 ∧ z51 ≤ 65535) => ?_)
                  exact hk z51 S34 ⟨(fxfr_tr (fxfr_tr fxfr_rfl f32 rfl) f35 rfl), by omega, g36⟩
                refine c_Tape_versionAt (i := (z41).toNat) (p := z43) (show 0 ≤ z43 ∧ z43 ≤ 5990 by omega) (fun (z53 : Int) (q54 : -2147483648 ≤ z53 ∧ z53 < 2147483648) => ?_)
                exact hk z53 S34 ⟨(fxfr_tr (fxfr_tr fxfr_rfl f32 rfl) f35 rfl), by omega, g36⟩
              ·
                exact hk (-2 : Int) S34 ⟨(fxfr_tr (fxfr_tr fxfr_rfl f32 rfl) f35 rfl), by omega, g36⟩
            ·
              intro z55 (z55a : (0 : Int) ≤ z55) (z55b : z55 ≤ (1710 : Int)) (z55c : z55 = S34 26 0 4)
              exact hk z55 S34 ⟨(fxfr_tr (fxfr_tr fxfr_rfl f32 rfl) f35 rfl), by omega, g36⟩
          ·
            exact hk (-1 : Int) S ⟨fxfr_rfl, by omega, p0⟩
