/-! contracts: what changes a tape of the class -/
theorem c_Library_turnBits {l : Launch} {k : fxK} {S : fxS} {t : Int} {p : Int} {w : Int} (p0 : SegA S) (p1 : 0 ≤ t ∧ t ≤ 5) (p2 : 0 ≤ p ∧ p < 6000) (p3 : -2147483648 ≤ w ∧ w < 2147483648) (hk : ∀ (S' : fxS) , (fxfr [(26, 3), (32, 3), (32, 4), (32, 5), (33, 9999)] S S' ∧ (SegA S') ∧ (fxix (t).toNat S S')) → k none S') : fC l 309 [.inr (.inr (26, 0)), .inl t, .inl p, .inl w] S k := by
  have ix0 : fxix (t).toNat S S := fxix_rfl
  refine fxe_309 (Nat.le_of_ble_eq_true rfl) (fxz_309 400 ?_)
  refine And.intro (show 0 ≤ t ∧ t < 6 by omega) ?_
  refine And.intro (show 0 ≤ p ∧ p < 6000 by omega) ?_
  intro z1 (z1a : (-128 : Int) ≤ z1) (z1b : z1 ≤ (127 : Int)) (z1c : z1 = S 33 (t).toNat (p).toNat)
  intro z2 z2a z2b
  intro z3 z3a z3b (z3c : z3 = fx_bop 3 z1 z2)
  intro z4 z4a z4b
  refine And.intro (show 0 ≤ p ∧ p < 6000 by omega) ?_
  intro z5 z5a z5b z5c
  have w6 : (fx_up S 33 (t).toNat (p).toNat z5) 32 (t).toNat 5 = S 32 (t).toNat 5 := rfl
  have g7 : fxix (t).toNat S (fx_up S 33 (t).toNat (p).toNat z5) := fxix_up (by assumption)
  refine And.intro (show 0 ≤ t ∧ t < 6 by omega) ?_
  refine c_Tape_forgetScan (i := (t).toNat)  (fun (S8 : fxS) ⟨(f9 : fxfr [(32, 3), (32, 4), (32, 5)] (fx_up S 33 (t).toNat (p).toNat z5) S8), (q10 : S8 32 (t).toNat 5 = 0), (g11 : fxix (t).toNat (fx_up S 33 (t).toNat (p).toNat z5) S8)⟩ => ?_)
  have g12 : fxix (t).toNat S S8 := fxix_tr (S1 := (fx_up S 33 (t).toNat (p).toNat z5)) (by assumption) g11
  refine And.intro (show (0 : Int) ≤ (0 : Int) ∧ (0 : Int) ≤ (1 : Int) by omega) ?_
  have w13 : (fx_up S8 26 0 3 (0 : Int)) 32 (t).toNat 5 = S8 32 (t).toNat 5 := rfl
  have g14 : fxix (t).toNat S (fx_up S8 26 0 3 (0 : Int)) := fxix_upo rfl (by assumption)
  exact hk (fx_up S8 26 0 3 (0 : Int)) ⟨(fxfr_up (fxfr_tr (fxfr_up fxfr_rfl rfl) f9 rfl) rfl), by first | assumption | exact SegA_0 (i := (t).toNat) p0 (by assumption) (by omega), by first | assumption | exact SegA_0 (i := (t).toNat) p0 (by assumption) (by omega)⟩
theorem c_Library_wipe {l : Launch} {k : fxK} {S : fxS} {t : Int} (p0 : SegA S) (p1 : 0 ≤ t ∧ t ≤ 5) (hk : ∀ (S' : fxS) , (fxfr [(26, 3), (32, 1), (32, 2), (32, 3), (32, 4), (32, 5)] S S' ∧ (SegA S') ∧ (fxix (t).toNat S S')) → k none S') : fC l 203 [.inr (.inr (26, 0)), .inl t] S k := by
  have ix0 : fxix (t).toNat S S := fxix_rfl
  refine fxe_203 (Nat.le_of_ble_eq_true rfl) (fxz_203 400 ?_)
  refine And.intro (show 0 ≤ t ∧ t < 6 by omega) ?_
  refine And.intro (show (0 : Int) ≤ (0 : Int) ∧ (0 : Int) ≤ (6000 : Int) by omega) ?_
  have w1 : (fx_up S 32 (t).toNat 1 (0 : Int)) 32 (t).toNat 5 = S 32 (t).toNat 5 := if_neg (fun q => absurd q.2.2 (by decide))
  have g2 : fxix (t).toNat S (fx_up S 32 (t).toNat 1 (0 : Int)) := fxix_up (by assumption)
  refine And.intro (show 0 ≤ t ∧ t < 6 by omega) ?_
  refine And.intro (show 0 ≤ t ∧ t < 6 by omega) ?_
  intro z3 (z3a : (0 : Int) ≤ z3) (z3b : z3 ≤ (65535 : Int)) (z3c : z3 = (fx_up S 32 (t).toNat 1 (0 : Int)) 32 (t).toNat 2)
  refine And.intro (show -2147483648 ≤ (z3 + (1 : Int)) ∧ (z3 + (1 : Int)) < 2147483648 by omega) ?_
  refine And.intro (show (0 : Int) ≤ (65535 : Int) by omega) ?_
  intro z4 (z4a : 0 ≤ z4) (z4b : z4 ≤ (65535 : Int)) z4d
  refine And.intro (show (0 : Int) ≤ z4 ∧ z4 ≤ (65535 : Int) by omega) ?_
  have w5 : (fx_up (fx_up S 32 (t).toNat 1 (0 : Int)) 32 (t).toNat 2 z4) 32 (t).toNat 5 = (fx_up S 32 (t).toNat 1 (0 : Int)) 32 (t).toNat 5 := if_neg (fun q => absurd q.2.2 (by decide))
  have g6 : fxix (t).toNat S (fx_up (fx_up S 32 (t).toNat 1 (0 : Int)) 32 (t).toNat 2 z4) := fxix_up (by assumption)
  refine And.intro (show 0 ≤ t ∧ t < 6 by omega) ?_
  refine c_Tape_forgetScan (i := (t).toNat)  (fun (S7 : fxS) ⟨(f8 : fxfr [(32, 3), (32, 4), (32, 5)] (fx_up (fx_up S 32 (t).toNat 1 (0 : Int)) 32 (t).toNat 2 z4) S7), (q9 : S7 32 (t).toNat 5 = 0), (g10 : fxix (t).toNat (fx_up (fx_up S 32 (t).toNat 1 (0 : Int)) 32 (t).toNat 2 z4) S7)⟩ => ?_)
  have g11 : fxix (t).toNat S S7 := fxix_tr (S1 := (fx_up (fx_up S 32 (t).toNat 1 (0 : Int)) 32 (t).toNat 2 z4)) (by assumption) g10
  refine And.intro (show (0 : Int) ≤ (0 : Int) ∧ (0 : Int) ≤ (1 : Int) by omega) ?_
  have w12 : (fx_up S7 26 0 3 (0 : Int)) 32 (t).toNat 5 = S7 32 (t).toNat 5 := rfl
  have g13 : fxix (t).toNat S (fx_up S7 26 0 3 (0 : Int)) := fxix_upo rfl (by assumption)
  exact hk (fx_up S7 26 0 3 (0 : Int)) ⟨(fxfr_up (fxfr_tr (fxfr_up (fxfr_up fxfr_rfl rfl) rfl) f8 rfl) rfl), by first | assumption | exact SegA_0 (i := (t).toNat) p0 (by assumption) (by omega), by first | assumption | exact SegA_0 (i := (t).toNat) p0 (by assumption) (by omega)⟩
theorem c_Library_append {l : Launch} {k : fxK} {S : fxS} {t : Int} {n : Int} (p0 : SegA S) (p1 : 0 ≤ t ∧ t ≤ 5) (p2 : 0 ≤ n ∧ n ≤ 1089) (hk : ∀ (r : Int) (S' : fxS) , (fxfr [(26, 3), (32, 1), (32, 3), (32, 4), (32, 5), (33, 9999)] S S' ∧ (0 ≤ r ∧ r ≤ 6000) ∧ (SegA S') ∧ (fxix (t).toNat S S')) → k (some (.inl r)) S') : fC l 238 [.inr (.inr (26, 0)), .inl t, .inr (.inr (43, 0)), .inl n] S k := by
  have ix0 : fxix (t).toNat S S := fxix_rfl
  refine fxe_238 (Nat.le_of_ble_eq_true rfl) (fxz_238 400 ?_)
  refine And.intro (show 0 ≤ t ∧ t < 6 by omega) ?_
  refine And.intro (by decide) ?_
  intro z1 (z1a : (0 : Int) ≤ z1) (z1b : z1 ≤ (6000 : Int)) (z1c : z1 = S 32 (t).toNat 1)
  have bl : z1 ≤ 8 → S 32 (t).toNat 5 ≤ 0 := fun q => SegA_blank p0 (by omega) (by omega)
  refine And.intro (fun (h2 : (z1 ≠ (0 : Int) : Prop)) => ?_) (fun (h2 : (z1 = (0 : Int) : Prop)) => ?_)
  ·
    intro z3 (z3a : (0 : Int) ≤ z3) (z3b : z3 ≤ (6000 : Int)) (z3c : z3 = S 32 (t).toNat 1)
    obtain rfl : z1 = z3 := by omega
    refine And.intro (by decide) ?_
    refine And.intro (show -2147483648 ≤ ((6000 : Int) - z1) ∧ ((6000 : Int) - z1) < 2147483648 by omega) ?_
    refine And.intro (fun (h4 : (n ≤ ((6000 : Int) - z1) : Prop)) => ?_) (fun (h4 : (((6000 : Int) - z1) < n : Prop)) => ?_)
    ·
      refine And.intro (show ((-128 : Int) ≤ (-128 : Int) ∧ (127 : Int) ≤ (127 : Int) : Prop) by omega) (And.intro (show (0 ≤ (0 : Int) ∧ 0 ≤ z1) ∧ (0 ≤ n ∧ (0 : Int) + n ≤ (1089 : Int) ∧ z1 + n ≤ (6000 : Int)) by omega) ?_)
      have w5 : (fx_cpy S 33 (t).toNat z1 n 43 0 (0 : Int)) 32 (t).toNat 5 = S 32 (t).toNat 5 := rfl
      have w6 : (fx_cpy S 33 (t).toNat z1 n 43 0 (0 : Int)) 32 (t).toNat 1 = S 32 (t).toNat 1 := rfl
      have g7 : fxix (t).toNat S (fx_cpy S 33 (t).toNat z1 n 43 0 (0 : Int)) := fxix_cpy (by assumption)
      intro z8 (z8a : (0 : Int) ≤ z8) (z8b : z8 ≤ (6000 : Int)) (z8c : z8 = (fx_cpy S 33 (t).toNat z1 n 43 0 (0 : Int)) 32 (t).toNat 1)
      refine And.intro (show -2147483648 ≤ (z8 + n) ∧ (z8 + n) < 2147483648 by omega) ?_
      refine And.intro (show (0 : Int) ≤ (z8 + n) ∧ (z8 + n) ≤ (6000 : Int) by omega) ?_
      have w9 : (fx_up (fx_cpy S 33 (t).toNat z1 n 43 0 (0 : Int)) 32 (t).toNat 1 (z8 + n)) 32 (t).toNat 5 = (fx_cpy S 33 (t).toNat z1 n 43 0 (0 : Int)) 32 (t).toNat 5 := if_neg (fun q => absurd q.2.2 (by decide))
      have w10 : (fx_up (fx_cpy S 33 (t).toNat z1 n 43 0 (0 : Int)) 32 (t).toNat 1 (z8 + n)) 32 (t).toNat 1 = (z8 + n) := fx_up_at _ _ _ _ _
      have g11 : fxix (t).toNat S (fx_up (fx_cpy S 33 (t).toNat z1 n 43 0 (0 : Int)) 32 (t).toNat 1 (z8 + n)) := fxix_up (by assumption)
      refine c_Tape_noteGrowth (i := (t).toNat)  (fun (S12 : fxS) ⟨(f13 : fxfr [(32, 3), (32, 4), (32, 5)] (fx_up (fx_cpy S 33 (t).toNat z1 n 43 0 (0 : Int)) 32 (t).toNat 1 (z8 + n)) S12), (q14 : S12 32 (t).toNat 5 = 0 ∨ S12 32 (t).toNat 5 = (fx_up (fx_cpy S 33 (t).toNat z1 n 43 0 (0 : Int)) 32 (t).toNat 1 (z8 + n)) 32 (t).toNat 5), (g15 : fxix (t).toNat (fx_up (fx_cpy S 33 (t).toNat z1 n 43 0 (0 : Int)) 32 (t).toNat 1 (z8 + n)) S12)⟩ => ?_)
      have w16 : S12 32 (t).toNat 1 = (fx_up (fx_cpy S 33 (t).toNat z1 n 43 0 (0 : Int)) 32 (t).toNat 1 (z8 + n)) 32 (t).toNat 1 := f13 32 (t).toNat 1 rfl
      have g17 : fxix (t).toNat S S12 := fxix_tr (S1 := (fx_up (fx_cpy S 33 (t).toNat z1 n 43 0 (0 : Int)) 32 (t).toNat 1 (z8 + n))) (by assumption) g15
      refine And.intro (show (0 : Int) ≤ (0 : Int) ∧ (0 : Int) ≤ (1 : Int) by omega) ?_
      have w18 : (fx_up S12 26 0 3 (0 : Int)) 32 (t).toNat 5 = S12 32 (t).toNat 5 := rfl
      have w19 : (fx_up S12 26 0 3 (0 : Int)) 32 (t).toNat 1 = S12 32 (t).toNat 1 := rfl
      have g20 : fxix (t).toNat S (fx_up S12 26 0 3 (0 : Int)) := fxix_upo rfl (by assumption)
      exact hk z1 (fx_up S12 26 0 3 (0 : Int)) ⟨(fxfr_up (fxfr_tr (fxfr_up (fxfr_cpy fxfr_rfl (fun _ => rfl)) rfl) f13 rfl) rfl), by omega, by first | assumption | exact SegA_0 (i := (t).toNat) p0 (by assumption) (by omega) | exact SegA_lab (i := (t).toNat) p0 (by assumption) (fxfr_up (fxfr_tr (fxfr_up (fxfr_cpy fxfr_rfl (fun _ => rfl)) rfl) f13 rfl) rfl) (by omega) | exact SegA_app p0 (by assumption) (by assumption) (by omega) (by omega) (by omega) (by omega) (by omega), by first | assumption | exact SegA_0 (i := (t).toNat) p0 (by assumption) (by omega) | exact SegA_lab (i := (t).toNat) p0 (by assumption) (fxfr_up (fxfr_tr (fxfr_up (fxfr_cpy fxfr_rfl (fun _ => rfl)) rfl) f13 rfl) rfl) (by omega) | exact SegA_app p0 (by assumption) (by assumption) (by omega) (by omega) (by omega) (by omega) (by omega)⟩
    ·
      exact hk z1 S ⟨fxfr_rfl, by omega, by first | assumption | exact SegA_0 (i := (t).toNat) p0 (by assumption) (by omega) | exact SegA_lab (i := (t).toNat) p0 (by assumption) fxfr_rfl (by omega) | exact SegA_app p0 (by assumption) (by assumption) (by omega) (by omega) (by omega) (by omega) (by omega), by first | assumption | exact SegA_0 (i := (t).toNat) p0 (by assumption) (by omega) | exact SegA_lab (i := (t).toNat) p0 (by assumption) fxfr_rfl (by omega) | exact SegA_app p0 (by assumption) (by assumption) (by omega) (by omega) (by omega) (by omega) (by omega)⟩
  ·
    refine And.intro (show 0 ≤ (0 : Int) ∧ (0 : Int) < 6000 by omega) ?_
    intro z21 z21a z21b z21c
    have w22 : (fx_up S 33 (t).toNat ((0 : Int)).toNat z21) 32 (t).toNat 5 = S 32 (t).toNat 5 := rfl
    have w23 : (fx_up S 33 (t).toNat ((0 : Int)).toNat z21) 32 (t).toNat 1 = S 32 (t).toNat 1 := rfl
    have g24 : fxix (t).toNat S (fx_up S 33 (t).toNat ((0 : Int)).toNat z21) := fxix_up (by assumption)
    intro z25 z25a z25b
    refine And.intro (show 0 ≤ (1 : Int) ∧ (1 : Int) < 6000 by omega) ?_
    intro z26 z26a z26b z26c
    have w27 : (fx_up (fx_up S 33 (t).toNat ((0 : Int)).toNat z21) 33 (t).toNat ((1 : Int)).toNat z26) 32 (t).toNat 5 = (fx_up S 33 (t).toNat ((0 : Int)).toNat z21) 32 (t).toNat 5 := rfl
    have w28 : (fx_up (fx_up S 33 (t).toNat ((0 : Int)).toNat z21) 33 (t).toNat ((1 : Int)).toNat z26) 32 (t).toNat 1 = (fx_up S 33 (t).toNat ((0 : Int)).toNat z21) 32 (t).toNat 1 := rfl
    have g29 : fxix (t).toNat S (fx_up (fx_up S 33 (t).toNat ((0 : Int)).toNat z21) 33 (t).toNat ((1 : Int)).toNat z26) := fxix_up (by assumption)
    intro z30 (z30a : (0 : Int) ≤ z30) (z30b : z30 ≤ (65535 : Int)) (z30c : z30 = (fx_up (fx_up S 33 (t).toNat ((0 : Int)).toNat z21) 33 (t).toNat ((1 : Int)).toNat z26) 32 (t).toNat 2)
    refine c_putNumber33 (i := (t).toNat) (p := (2 : Int)) (c := (2 : Int)) (x := z30) (show 0 ≤ (2 : Int) by omega) (show 0 ≤ (2 : Int) ∧ (2 : Int) ≤ 8 ∧ (2 : Int) + (2 : Int) ≤ 6000 by omega) (fun (z31 : Int) (S32 : fxS) ⟨(f33 : fxfr [(33, 9999)] (fx_up (fx_up S 33 (t).toNat ((0 : Int)).toNat z21) 33 (t).toNat ((1 : Int)).toNat z26) S32), (q34 : z31 = (2 : Int) + (2 : Int)), (g35 : fxix (t).toNat (fx_up (fx_up S 33 (t).toNat ((0 : Int)).toNat z21) 33 (t).toNat ((1 : Int)).toNat z26) S32)⟩ => ?_)
    have w36 : S32 32 (t).toNat 5 = (fx_up (fx_up S 33 (t).toNat ((0 : Int)).toNat z21) 33 (t).toNat ((1 : Int)).toNat z26) 32 (t).toNat 5 := f33 32 (t).toNat 5 rfl
    have w37 : S32 32 (t).toNat 1 = (fx_up (fx_up S 33 (t).toNat ((0 : Int)).toNat z21) 33 (t).toNat ((1 : Int)).toNat z26) 32 (t).toNat 1 := f33 32 (t).toNat 1 rfl
    have g38 : fxix (t).toNat S S32 := fxix_tr (S1 := (fx_up (fx_up S 33 (t).toNat ((0 : Int)).toNat z21) 33 (t).toNat ((1 : Int)).toNat z26)) (by assumption) g35
    refine c_checkOf33 (i := (t).toNat) (f := (0 : Int)) (e := (4 : Int)) (show 0 ≤ (0 : Int) ∧ (0 : Int) ≤ 6000 by omega) (show (4 : Int) ≤ 6000 by omega) (fun (z39 : Int) (q40 : -2147483648 ≤ z39 ∧ z39 < 2147483648) => ?_)
    refine c_putNumber33 (i := (t).toNat) (p := (4 : Int)) (c := (4 : Int)) (x := z39) (show 0 ≤ (4 : Int) by omega) (show 0 ≤ (4 : Int) ∧ (4 : Int) ≤ 8 ∧ (4 : Int) + (4 : Int) ≤ 6000 by omega) (fun (z41 : Int) (S42 : fxS) ⟨(f43 : fxfr [(33, 9999)] S32 S42), (q44 : z41 = (4 : Int) + (4 : Int)), (g45 : fxix (t).toNat S32 S42)⟩ => ?_)
    have w46 : S42 32 (t).toNat 5 = S32 32 (t).toNat 5 := f43 32 (t).toNat 5 rfl
    have w47 : S42 32 (t).toNat 1 = S32 32 (t).toNat 1 := f43 32 (t).toNat 1 rfl
    have g48 : fxix (t).toNat S S42 := fxix_tr (S1 := S32) (by assumption) g45
    refine And.intro (show (0 : Int) ≤ (8 : Int) ∧ (8 : Int) ≤ (6000 : Int) by omega) ?_
    have w49 : (fx_up S42 32 (t).toNat 1 (8 : Int)) 32 (t).toNat 5 = S42 32 (t).toNat 5 := if_neg (fun q => absurd q.2.2 (by decide))
    have w50 : (fx_up S42 32 (t).toNat 1 (8 : Int)) 32 (t).toNat 1 = (8 : Int) := fx_up_at _ _ _ _ _
    have g51 : fxix (t).toNat S (fx_up S42 32 (t).toNat 1 (8 : Int)) := fxix_up (by assumption)
    intro z52 (z52a : (0 : Int) ≤ z52) (z52b : z52 ≤ (6000 : Int)) (z52c : z52 = (fx_up S42 32 (t).toNat 1 (8 : Int)) 32 (t).toNat 1)
    refine And.intro (by decide) ?_
    refine And.intro (show -2147483648 ≤ ((6000 : Int) - z52) ∧ ((6000 : Int) - z52) < 2147483648 by omega) ?_
    refine And.intro (fun (h53 : (n ≤ ((6000 : Int) - z52) : Prop)) => ?_) (fun (h53 : (((6000 : Int) - z52) < n : Prop)) => ?_)
    ·
      refine And.intro (show ((-128 : Int) ≤ (-128 : Int) ∧ (127 : Int) ≤ (127 : Int) : Prop) by omega) (And.intro (show (0 ≤ (0 : Int) ∧ 0 ≤ z52) ∧ (0 ≤ n ∧ (0 : Int) + n ≤ (1089 : Int) ∧ z52 + n ≤ (6000 : Int)) by omega) ?_)
      have w54 : (fx_cpy (fx_up S42 32 (t).toNat 1 (8 : Int)) 33 (t).toNat z52 n 43 0 (0 : Int)) 32 (t).toNat 5 = (fx_up S42 32 (t).toNat 1 (8 : Int)) 32 (t).toNat 5 := rfl
      have w55 : (fx_cpy (fx_up S42 32 (t).toNat 1 (8 : Int)) 33 (t).toNat z52 n 43 0 (0 : Int)) 32 (t).toNat 1 = (fx_up S42 32 (t).toNat 1 (8 : Int)) 32 (t).toNat 1 := rfl
      have g56 : fxix (t).toNat S (fx_cpy (fx_up S42 32 (t).toNat 1 (8 : Int)) 33 (t).toNat z52 n 43 0 (0 : Int)) := fxix_cpy (by assumption)
      intro z57 (z57a : (0 : Int) ≤ z57) (z57b : z57 ≤ (6000 : Int)) (z57c : z57 = (fx_cpy (fx_up S42 32 (t).toNat 1 (8 : Int)) 33 (t).toNat z52 n 43 0 (0 : Int)) 32 (t).toNat 1)
      refine And.intro (show -2147483648 ≤ (z57 + n) ∧ (z57 + n) < 2147483648 by omega) ?_
      refine And.intro (show (0 : Int) ≤ (z57 + n) ∧ (z57 + n) ≤ (6000 : Int) by omega) ?_
      have w58 : (fx_up (fx_cpy (fx_up S42 32 (t).toNat 1 (8 : Int)) 33 (t).toNat z52 n 43 0 (0 : Int)) 32 (t).toNat 1 (z57 + n)) 32 (t).toNat 5 = (fx_cpy (fx_up S42 32 (t).toNat 1 (8 : Int)) 33 (t).toNat z52 n 43 0 (0 : Int)) 32 (t).toNat 5 := if_neg (fun q => absurd q.2.2 (by decide))
      have w59 : (fx_up (fx_cpy (fx_up S42 32 (t).toNat 1 (8 : Int)) 33 (t).toNat z52 n 43 0 (0 : Int)) 32 (t).toNat 1 (z57 + n)) 32 (t).toNat 1 = (z57 + n) := fx_up_at _ _ _ _ _
      have g60 : fxix (t).toNat S (fx_up (fx_cpy (fx_up S42 32 (t).toNat 1 (8 : Int)) 33 (t).toNat z52 n 43 0 (0 : Int)) 32 (t).toNat 1 (z57 + n)) := fxix_up (by assumption)
      refine c_Tape_noteGrowth (i := (t).toNat)  (fun (S61 : fxS) ⟨(f62 : fxfr [(32, 3), (32, 4), (32, 5)] (fx_up (fx_cpy (fx_up S42 32 (t).toNat 1 (8 : Int)) 33 (t).toNat z52 n 43 0 (0 : Int)) 32 (t).toNat 1 (z57 + n)) S61), (q63 : S61 32 (t).toNat 5 = 0 ∨ S61 32 (t).toNat 5 = (fx_up (fx_cpy (fx_up S42 32 (t).toNat 1 (8 : Int)) 33 (t).toNat z52 n 43 0 (0 : Int)) 32 (t).toNat 1 (z57 + n)) 32 (t).toNat 5), (g64 : fxix (t).toNat (fx_up (fx_cpy (fx_up S42 32 (t).toNat 1 (8 : Int)) 33 (t).toNat z52 n 43 0 (0 : Int)) 32 (t).toNat 1 (z57 + n)) S61)⟩ => ?_)
      have w65 : S61 32 (t).toNat 1 = (fx_up (fx_cpy (fx_up S42 32 (t).toNat 1 (8 : Int)) 33 (t).toNat z52 n 43 0 (0 : Int)) 32 (t).toNat 1 (z57 + n)) 32 (t).toNat 1 := f62 32 (t).toNat 1 rfl
      have g66 : fxix (t).toNat S S61 := fxix_tr (S1 := (fx_up (fx_cpy (fx_up S42 32 (t).toNat 1 (8 : Int)) 33 (t).toNat z52 n 43 0 (0 : Int)) 32 (t).toNat 1 (z57 + n))) (by assumption) g64
      refine And.intro (show (0 : Int) ≤ (0 : Int) ∧ (0 : Int) ≤ (1 : Int) by omega) ?_
      have w67 : (fx_up S61 26 0 3 (0 : Int)) 32 (t).toNat 5 = S61 32 (t).toNat 5 := rfl
      have w68 : (fx_up S61 26 0 3 (0 : Int)) 32 (t).toNat 1 = S61 32 (t).toNat 1 := rfl
      have g69 : fxix (t).toNat S (fx_up S61 26 0 3 (0 : Int)) := fxix_upo rfl (by assumption)
      exact hk z52 (fx_up S61 26 0 3 (0 : Int)) ⟨(fxfr_up (fxfr_tr (fxfr_up (fxfr_cpy (fxfr_up (fxfr_tr (fxfr_tr (fxfr_up (fxfr_up fxfr_rfl rfl) rfl) f33 rfl) f43 rfl) rfl) (fun _ => rfl)) rfl) f62 rfl) rfl), by omega, by first | assumption | exact SegA_0 (i := (t).toNat) p0 (by assumption) (by omega) | exact SegA_lab (i := (t).toNat) p0 (by assumption) (fxfr_up (fxfr_tr (fxfr_up (fxfr_cpy (fxfr_up (fxfr_tr (fxfr_tr (fxfr_up (fxfr_up fxfr_rfl rfl) rfl) f33 rfl) f43 rfl) rfl) (fun _ => rfl)) rfl) f62 rfl) rfl) (by omega) | exact SegA_app p0 (by assumption) (by assumption) (by omega) (by omega) (by omega) (by omega) (by omega), by first | assumption | exact SegA_0 (i := (t).toNat) p0 (by assumption) (by omega) | exact SegA_lab (i := (t).toNat) p0 (by assumption) (fxfr_up (fxfr_tr (fxfr_up (fxfr_cpy (fxfr_up (fxfr_tr (fxfr_tr (fxfr_up (fxfr_up fxfr_rfl rfl) rfl) f33 rfl) f43 rfl) rfl) (fun _ => rfl)) rfl) f62 rfl) rfl) (by omega) | exact SegA_app p0 (by assumption) (by assumption) (by omega) (by omega) (by omega) (by omega) (by omega)⟩
    ·
      exact hk z52 (fx_up S42 32 (t).toNat 1 (8 : Int)) ⟨(fxfr_up (fxfr_tr (fxfr_tr (fxfr_up (fxfr_up fxfr_rfl rfl) rfl) f33 rfl) f43 rfl) rfl), by omega, by first | assumption | exact SegA_0 (i := (t).toNat) p0 (by assumption) (by omega) | exact SegA_lab (i := (t).toNat) p0 (by assumption) (fxfr_up (fxfr_tr (fxfr_tr (fxfr_up (fxfr_up fxfr_rfl rfl) rfl) f33 rfl) f43 rfl) rfl) (by omega) | exact SegA_app p0 (by assumption) (by assumption) (by omega) (by omega) (by omega) (by omega) (by omega), by first | assumption | exact SegA_0 (i := (t).toNat) p0 (by assumption) (by omega) | exact SegA_lab (i := (t).toNat) p0 (by assumption) (fxfr_up (fxfr_tr (fxfr_tr (fxfr_up (fxfr_up fxfr_rfl rfl) rfl) f33 rfl) f43 rfl) rfl) (by omega) | exact SegA_app p0 (by assumption) (by assumption) (by omega) (by omega) (by omega) (by omega) (by omega)⟩
theorem c_StubHouse_spoil {l : Launch} {k : fxK} {S : fxS} {t : Int} {p : Int} {w : Int} (p0 : SegA S) (p1 : -2147483648 ≤ t ∧ t < 2147483648) (p2 : -2147483648 ≤ p ∧ p < 2147483648) (p3 : -2147483648 ≤ w ∧ w < 2147483648) (hk : ∀ (r : Int) (S' : fxS) , (fxfr [(26, 3), (32, 3), (32, 4), (32, 5), (33, 9999)] S S' ∧ (-2147483648 ≤ r ∧ r < 2147483648) ∧ (SegA S')) → k (some (.inl r)) S') : fC l 310 [.inr (.inr (0, 0)), .inl t, .inl p, .inl w] S k := by
  refine fxe_310 (Nat.le_of_ble_eq_true rfl) (fxz_310 400 ?_)
  refine c_Library_hasByte (t := t) (p := p) (show -2147483648 ≤ t ∧ t < 2147483648 by omega) (show -2147483648 ≤ p ∧ p < 2147483648 by omega) (fun (z1 : Int) (q2 : 0 ≤ z1 ∧ z1 ≤ 1 ∧ (z1 = 1 → 0 ≤ t ∧ t ≤ 5 ∧ 0 ≤ p ∧ p < 6000)) => ?_)
  refine And.intro (fun (h3 : (z1 = (0 : Int) : Prop)) => ?_) (fun (h3 : (z1 ≠ (0 : Int) : Prop)) => ?_)
  ·
    exact hk (-1 : Int) S ⟨fxfr_rfl, by omega, p0⟩
  ·
    refine And.intro (fun (h4 : (w < (1 : Int) : Prop)) => ?_) (fun (h4 : ((1 : Int) ≤ w : Prop)) => ?_)
    ·
      exact hk (-1 : Int) S ⟨fxfr_rfl, by omega, p0⟩
    ·
      refine And.intro (fun (h5 : (w ≤ (255 : Int) : Prop)) => ?_) (fun (h5 : ((255 : Int) < w : Prop)) => ?_)
      ·
        refine c_Library_turnBits (t := t) (p := p) (w := w) p0 (show 0 ≤ t ∧ t ≤ 5 by omega) (show 0 ≤ p ∧ p < 6000 by omega) (show -2147483648 ≤ w ∧ w < 2147483648 by omega) (fun (S6 : fxS) ⟨(f7 : fxfr [(26, 3), (32, 3), (32, 4), (32, 5), (33, 9999)] S S6), (g8 : SegA S6), (g9 : fxix (t).toNat S S6)⟩ => ?_)
        refine And.intro (show 0 ≤ t ∧ t < 6 by omega) ?_
        refine c_Tape_byteAt (i := (t).toNat) (p := p) (show 0 ≤ p ∧ p < 6000 by omega) (fun (z10 : Int) (q11 : z10 = S6 33 (t).toNat p.toNat % 256 ∧ 0 ≤ z10 ∧ z10 ≤ 255) => ?_)
        exact hk z10 S6 ⟨(fxfr_tr fxfr_rfl f7 rfl), by omega, g8⟩
      ·
        exact hk (-1 : Int) S ⟨fxfr_rfl, by omega, p0⟩
