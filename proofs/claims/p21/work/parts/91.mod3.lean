/-! contracts of the reference: blocks, recalls -/
theorem z_StubHouseModel_hold {l : Launch} {k : fxK} {S : fxS} {f : Int} (p0 : COL S) (p1 : WTM S) (p2 : INJ S) (p3 : AON S) (p4 : USE S) (p5 : REC S) (p6 : 0 ≤ f ∧ f < 60) (p7 : aN S f 0 = 2) (hk : ∀ (S' : fxS) , (fxfr [(50, 9999), (56, 9999)] S S' ∧ (aN S' f 0 = 2) ∧ (COL S') ∧ (WTM S') ∧ (INJ S') ∧ (AON S') ∧ (USE S') ∧ (REC S') ∧ (EQR f S S')) → k none S') : ∀ m : Nat, (∀ (j : Int) (S1 : fxS), (fxfr [(50, 9999), (56, 9999)] S S1) → (0 ≤ j ∧ j ≤ 32) → (aN S1 f 0 = 2) → (1 ≤ j → aN S1 f 10 < 0) → (COL S1) → (WTM S1) → (INJ S1) → (AON S1) → (USE S1) → (REC S1) → (EQR f S S1) → 33 - j ≤ (m : Int) → fZ l 62 k 2 [some (.inr (.inr (49, 0))), some (.inl f), some (.inl j)] [] S1) := by
  intro m
  induction m with
  | zero =>
    intro j S1 hf i0 i1 i2 i3 i4 i5 i6 i7 i8 i9 hmu
    exfalso
    omega
  | succ m ih =>
    intro j S1 hf i0 i1 i2 i3 i4 i5 i6 i7 i8 i9 hmu
    refine fxz_62 400 ?_
    refine And.intro (fun (h1 : ((32 : Int) ≤ j : Prop)) => ?_) (fun (h1 : (j < (32 : Int) : Prop)) => ?_)
    ·
      exact hk S1 ⟨hf, by omega, i3, i4, i5, i6, i7, i8, i9⟩
    ·
      refine And.intro (show -2147483648 ≤ ((10 : Int) + j) ∧ ((10 : Int) + j) < 2147483648 by omega) ?_
      refine c_atb (n := f) (w := ((10 : Int) + j)) i3 (show 0 ≤ f ∧ f < 60 by omega) (show 10 ≤ ((10 : Int) + j) ∧ ((10 : Int) + j) < 42 by omega) (fun (z2 : Int) (q3 : z2 = aN S1 f ((10 : Int) + j) ∧ -1 ≤ z2 ∧ z2 ≤ 207) => ?_)
      have b1 : j = 0 → z2 = aN S1 f 10 := fun h => by rw [q3.1, h]; rfl
      refine And.intro (fun (h4 : (z2 < (0 : Int) : Prop)) => ?_) (fun (h4 : ((0 : Int) ≤ z2 : Prop)) => ?_)
      ·
        refine And.intro (by decide) (And.intro (show -2147483648 ≤ j + (1 : Int) ∧ j + (1 : Int) < 2147483648 by omega) ?_)
        exact ih (j + (1 : Int)) S1 hf (by omega) (by omega) (by omega) i3 i4 i5 i6 i7 i8 i9 (by omega)
      ·
        refine And.intro (show -2147483648 ≤ ((10 : Int) + j) ∧ ((10 : Int) + j) < 2147483648 by omega) ?_
        refine c_atb (n := f) (w := ((10 : Int) + j)) i3 (show 0 ≤ f ∧ f < 60 by omega) (show 10 ≤ ((10 : Int) + j) ∧ ((10 : Int) + j) < 42 by omega) (fun (z6 : Int) (q7 : z6 = aN S1 f ((10 : Int) + j) ∧ -1 ≤ z6 ∧ z6 ≤ 207) => ?_)
        refine And.intro (show 0 ≤ z6 ∧ z6 < 208 by omega) ?_
        refine And.intro (show (0 : Int) ≤ (2 : Int) ∧ (2 : Int) ≤ (2 : Int) by omega) ?_
        have w8 : aN (fx_up S1 56 0 (z6).toNat (2 : Int)) f (0 : Int) = aN S1 f (0 : Int) := (aN_o rfl)
        have g9 : COL (fx_up S1 56 0 (z6).toNat (2 : Int)) := fx_pup COL_stab rfl i3
        have g10 : WTM (fx_up S1 56 0 (z6).toNat (2 : Int)) := fx_pup WTM_stab rfl i4
        have g11 : INJ (fx_up S1 56 0 (z6).toNat (2 : Int)) := fx_pup INJ_stab rfl i5
        have g12 : AON (fx_up S1 56 0 (z6).toNat (2 : Int)) := fx_pup AON_stab rfl i6
        have g13 : REC (fx_up S1 56 0 (z6).toNat (2 : Int)) := fx_pup REC_stab rfl i8
        have g14 : EQR f S (fx_up S1 56 0 (z6).toNat (2 : Int)) := fx_pup EQR_stab rfl i9
        refine And.intro (show -2147483648 ≤ ((10 : Int) + j) ∧ ((10 : Int) + j) < 2147483648 by omega) ?_
        refine c_set (n := f) (w := ((10 : Int) + j)) (v := (-1 : Int)) (show 0 ≤ f ∧ f < 60 by omega) (show 0 ≤ ((10 : Int) + j) ∧ ((10 : Int) + j) < 42 by omega) (show -2147483648 ≤ (-1 : Int) ∧ (-1 : Int) < 2147483648 by omega) ?_
        have w15 : aN (fx_up (fx_up S1 56 0 (z6).toNat (2 : Int)) 50 0 (42 * f + ((10 : Int) + j)).toNat (-1 : Int)) f (0 : Int) = aN S1 f (0 : Int) := (aN_ne (S := (fx_up S1 56 0 (z6).toNat (2 : Int))) (by omega) (by omega) (by omega)).trans (aN_o rfl)
        have g16 : COL (fx_up (fx_up S1 56 0 (z6).toNat (2 : Int)) 50 0 (42 * f + ((10 : Int) + j)).toNat (-1 : Int)) := COL_set g9 (by omega) (by omega) (by omega)
        have g17 : WTM (fx_up (fx_up S1 56 0 (z6).toNat (2 : Int)) 50 0 (42 * f + ((10 : Int) + j)).toNat (-1 : Int)) := WTM_set g10 (by omega) (by omega)
        have g18 : INJ (fx_up (fx_up S1 56 0 (z6).toNat (2 : Int)) 50 0 (42 * f + ((10 : Int) + j)).toNat (-1 : Int)) := INJ_set g11 (by omega) (by omega)
        have g19 : REC (fx_up (fx_up S1 56 0 (z6).toNat (2 : Int)) 50 0 (42 * f + ((10 : Int) + j)).toNat (-1 : Int)) := REC_set g13 (by omega) (by omega)
        have g20 : EQR f S (fx_up (fx_up S1 56 0 (z6).toNat (2 : Int)) 50 0 (42 * f + ((10 : Int) + j)).toNat (-1 : Int)) := EQR_set g14 (by omega) (by omega)
        have us : USE (fx_up (fx_up S1 56 0 (z6).toNat (2 : Int)) 50 0 (42 * f + ((10 : Int) + j)).toNat (-1 : Int)) := USE_out (b := -1) i7 i5 (by omega) (by omega) (by omega) (by omega) (by omega) (Or.inl (by omega))
        have ao : AON (fx_up (fx_up S1 56 0 (z6).toNat (2 : Int)) 50 0 (42 * f + ((10 : Int) + j)).toNat (-1 : Int)) := AON_out2 i6 (by omega) (by omega) (by omega) (by omega)
        have b0 : aN (fx_up (fx_up S1 56 0 (z6).toNat (2 : Int)) 50 0 (42 * f + ((10 : Int) + j)).toNat (-1 : Int)) f 10 < 0 := BLK_out2 (S := S1) (by omega) (by omega) (by omega) (by omega)
        refine And.intro (by decide) (And.intro (show -2147483648 ≤ j + (1 : Int) ∧ j + (1 : Int) < 2147483648 by omega) ?_)
        exact ih (j + (1 : Int)) (fx_up (fx_up S1 56 0 (z6).toNat (2 : Int)) 50 0 (42 * f + ((10 : Int) + j)).toNat (-1 : Int)) (fxfr_up (fxfr_up hf rfl) rfl) (by omega) (by omega) (by omega) g16 g17 g18 ao us g19 g20 (by omega)
theorem c_StubHouseModel_hold {l : Launch} {k : fxK} {S : fxS} {f : Int} (p0 : COL S) (p1 : WTM S) (p2 : INJ S) (p3 : AON S) (p4 : USE S) (p5 : REC S) (p6 : 0 ≤ f ∧ f < 60) (p7 : aN S f 0 = 2) (hk : ∀ (S' : fxS) , (fxfr [(50, 9999), (56, 9999)] S S' ∧ (aN S' f 0 = 2) ∧ (COL S') ∧ (WTM S') ∧ (INJ S') ∧ (AON S') ∧ (USE S') ∧ (REC S') ∧ (EQR f S S')) → k none S') : fC l 62 [.inr (.inr (49, 0)), .inl f] S k := by
  have n22 : EQR f S S := EQR_rfl
  refine fxe_62 (Nat.le_of_ble_eq_true rfl) (fxz_62 400 ?_)
  refine And.intro (by decide) ?_
  exact (z_StubHouseModel_hold p0 p1 p2 p3 p4 p5 p6 p7 hk (33 - (0 : Int)).toNat) (0 : Int) S fxfr_rfl (by omega) (by omega) (by omega) p0 p1 p2 p3 p4 p5 n22 (by omega)
theorem z_StubHouseModel_renew {l : Launch} {k : fxK} {S : fxS} {f : Int} {p : Int} (p0 : COL S) (p1 : WTM S) (p2 : INJ S) (p3 : AON S) (p4 : USE S) (p5 : REC S) (p6 : 0 ≤ f ∧ f < 60) (p7 : 0 ≤ p ∧ p < 32) (p8 : aN S f 0 = 2) (p9 : 1 ≤ fcn (S 56 0) 0 208) (p10 : p ≠ 0 ∨ 0 ≤ aN S f 10 ∨ aN S f 3 ≤ 0) (hk : ∀ (S' : fxS) , (fxfr [(50, 9999), (56, 9999), (57, 9999)] S S' ∧ (COL S') ∧ (WTM S') ∧ (INJ S') ∧ (AON S') ∧ (USE S') ∧ (REC S') ∧ (RNW f p S S')) → k none S') : ∀ m : Nat, (∀ (o b j : Int) (S1 : fxS), (fxfr [(50, 9999), (56, 9999), (57, 9999)] S S1) → (-1 ≤ o ∧ o ≤ 207 ∧ o = aN S1 f (10 + p)) → (0 ≤ b ∧ b < 208 ∧ S 56 0 (b).toNat = 0) → (0 ≤ j ∧ j ≤ 32) → (aN S1 f 0 = 2) → (p ≠ 0 ∨ 0 ≤ aN S1 f 10 ∨ aN S1 f 3 ≤ 0) → (COL S1) → (WTM S1) → (INJ S1) → (AON S1) → (USE S1) → (REC S1) → (EQN S S1) → (UP1 b S S1) → (NLB b S1) → 33 - j ≤ (m : Int) → fZ l 107 k 23 [some (.inr (.inr (49, 0))), some (.inl f), some (.inl p), some (.inl o), some (.inl b), some (.inl j)] [] S1) := by
  intro m
  induction m with
  | zero =>
    intro o b j S1 hf i0 i1 i2 i3 i4 i5 i6 i7 i8 i9 i10 i11 i12 i13 hmu
    exfalso
    omega
  | succ m ih =>
    intro o b j S1 hf i0 i1 i2 i3 i4 i5 i6 i7 i8 i9 i10 i11 i12 i13 hmu
    refine fxz_107 400 ?_
    refine And.intro (fun (h1 : ((32 : Int) ≤ j : Prop)) => ?_) (fun (h1 : (j < (32 : Int) : Prop)) => ?_)
    ·
      refine And.intro (fun (h2 : (o < (0 : Int) : Prop)) => ?_) (fun (h2 : ((0 : Int) ≤ o : Prop)) => ?_)
      ·
        refine And.intro (show -2147483648 ≤ ((10 : Int) + p) ∧ ((10 : Int) + p) < 2147483648 by omega) ?_
        refine c_set (n := f) (w := ((10 : Int) + p)) (v := b) (show 0 ≤ f ∧ f < 60 by omega) (show 0 ≤ ((10 : Int) + p) ∧ ((10 : Int) + p) < 42 by omega) (show -2147483648 ≤ b ∧ b < 2147483648 by omega) ?_
        have w3 : aN (fx_up S1 50 0 (42 * f + ((10 : Int) + p)).toNat b) f (0 : Int) = aN S1 f (0 : Int) := (aN_ne (S := S1) (by omega) (by omega) (by omega))
        have w4 : aN (fx_up S1 50 0 (42 * f + ((10 : Int) + p)).toNat b) f (3 : Int) = aN S1 f (3 : Int) := (aN_ne (S := S1) (by omega) (by omega) (by omega))
        have w5 : aN (fx_up S1 50 0 (42 * f + ((10 : Int) + p)).toNat b) f ((10 : Int) + p) = b := aN_eq
        have g6 : COL (fx_up S1 50 0 (42 * f + ((10 : Int) + p)).toNat b) := COL_set i5 (by omega) (by omega) (by omega)
        have g7 : WTM (fx_up S1 50 0 (42 * f + ((10 : Int) + p)).toNat b) := WTM_set i6 (by omega) (by omega)
        have g8 : REC (fx_up S1 50 0 (42 * f + ((10 : Int) + p)).toNat b) := REC_set i10 (by omega) (by omega)
        have g9 : UP1 b S (fx_up S1 50 0 (42 * f + ((10 : Int) + p)).toNat b) := fx_pup UP1_stab rfl i12
        have ij : INJ (fx_up S1 50 0 (42 * f + ((10 : Int) + p)).toNat b) := INJ_rnw i7 i13 (by omega) (by omega)
        have ao : AON (fx_up S1 50 0 (42 * f + ((10 : Int) + p)).toNat b) := AON_rnw i8 (by omega) (by omega) (by omega) (by omega)
        have us : USE (fx_up S1 50 0 (42 * f + ((10 : Int) + p)).toNat b) := USE_rnw (S := S1) i9 (i12.2 (by omega)) (by omega) (by omega)
        have rn : RNW f p S (fx_up S1 50 0 (42 * f + ((10 : Int) + p)).toNat b) := RNW_of1 i12 (by omega) (by omega) (by omega) (by omega) i11
        exact hk (fx_up S1 50 0 (42 * f + ((10 : Int) + p)).toNat b) ⟨(fxfr_up hf rfl), g6, g7, ij, ao, us, g8, rn⟩
      ·
        refine And.intro (show 0 ≤ o ∧ o < 208 by omega) ?_
        refine And.intro (show (0 : Int) ≤ (2 : Int) ∧ (2 : Int) ≤ (2 : Int) by omega) ?_
        have w10 : aN (fx_up S1 56 0 (o).toNat (2 : Int)) f (0 : Int) = aN S1 f (0 : Int) := (aN_o rfl)
        have w11 : aN (fx_up S1 56 0 (o).toNat (2 : Int)) f (3 : Int) = aN S1 f (3 : Int) := (aN_o rfl)
        have w12 : aN (fx_up S1 56 0 (o).toNat (2 : Int)) f (10 : Int) = aN S1 f (10 : Int) := (aN_o rfl)
        have w13 : aN (fx_up S1 56 0 (o).toNat (2 : Int)) f ((10 : Int) + p) = aN S1 f ((10 : Int) + p) := (aN_o rfl)
        have g14 : COL (fx_up S1 56 0 (o).toNat (2 : Int)) := fx_pup COL_stab rfl i5
        have g15 : WTM (fx_up S1 56 0 (o).toNat (2 : Int)) := fx_pup WTM_stab rfl i6
        have g16 : INJ (fx_up S1 56 0 (o).toNat (2 : Int)) := fx_pup INJ_stab rfl i7
        have g17 : AON (fx_up S1 56 0 (o).toNat (2 : Int)) := fx_pup AON_stab rfl i8
        have g18 : REC (fx_up S1 56 0 (o).toNat (2 : Int)) := fx_pup REC_stab rfl i10
        have g19 : EQN S (fx_up S1 56 0 (o).toNat (2 : Int)) := fx_pup EQN_stab rfl i11
        have g20 : NLB b (fx_up S1 56 0 (o).toNat (2 : Int)) := fx_pup NLB_stab rfl i13
        refine And.intro (show -2147483648 ≤ ((10 : Int) + p) ∧ ((10 : Int) + p) < 2147483648 by omega) ?_
        refine c_set (n := f) (w := ((10 : Int) + p)) (v := b) (show 0 ≤ f ∧ f < 60 by omega) (show 0 ≤ ((10 : Int) + p) ∧ ((10 : Int) + p) < 42 by omega) (show -2147483648 ≤ b ∧ b < 2147483648 by omega) ?_
        have w21 : aN (fx_up (fx_up S1 56 0 (o).toNat (2 : Int)) 50 0 (42 * f + ((10 : Int) + p)).toNat b) f (0 : Int) = aN S1 f (0 : Int) := (aN_ne (S := (fx_up S1 56 0 (o).toNat (2 : Int))) (by omega) (by omega) (by omega)).trans (aN_o rfl)
        have w22 : aN (fx_up (fx_up S1 56 0 (o).toNat (2 : Int)) 50 0 (42 * f + ((10 : Int) + p)).toNat b) f (3 : Int) = aN S1 f (3 : Int) := (aN_ne (S := (fx_up S1 56 0 (o).toNat (2 : Int))) (by omega) (by omega) (by omega)).trans (aN_o rfl)
        have w23 : aN (fx_up (fx_up S1 56 0 (o).toNat (2 : Int)) 50 0 (42 * f + ((10 : Int) + p)).toNat b) f ((10 : Int) + p) = b := aN_eq
        have g24 : COL (fx_up (fx_up S1 56 0 (o).toNat (2 : Int)) 50 0 (42 * f + ((10 : Int) + p)).toNat b) := COL_set g14 (by omega) (by omega) (by omega)
        have g25 : WTM (fx_up (fx_up S1 56 0 (o).toNat (2 : Int)) 50 0 (42 * f + ((10 : Int) + p)).toNat b) := WTM_set g15 (by omega) (by omega)
        have g26 : REC (fx_up (fx_up S1 56 0 (o).toNat (2 : Int)) 50 0 (42 * f + ((10 : Int) + p)).toNat b) := REC_set g18 (by omega) (by omega)
        have ij : INJ (fx_up (fx_up S1 56 0 (o).toNat (2 : Int)) 50 0 (42 * f + ((10 : Int) + p)).toNat b) := INJ_rnw2 i7 i13 (by omega) (by omega)
        have ao : AON (fx_up (fx_up S1 56 0 (o).toNat (2 : Int)) 50 0 (42 * f + ((10 : Int) + p)).toNat b) := AON_rnw2 i8 (by omega) (by omega) (by omega) (by omega)
        have us : USE (fx_up (fx_up S1 56 0 (o).toNat (2 : Int)) 50 0 (42 * f + ((10 : Int) + p)).toNat b) := USE_out (S := S1) (b := b) i9 i7 (by omega) (by omega) (by omega) (by omega) (by omega) (Or.inr ⟨by omega, NLB_ne (S := S1) (f := f) (p := p) i13 (by omega) (by omega) (by omega) (by omega) (by omega), i12.2 (by omega)⟩)
        have rn : RNW f p S (fx_up (fx_up S1 56 0 (o).toNat (2 : Int)) 50 0 (42 * f + ((10 : Int) + p)).toNat b) := RNW_of2 i12 (by omega) (by omega) (by omega) (by omega) i11 (USE_at (S := S1) (f := f) (p := p) i9 (by omega) (by omega) (by omega) (by omega) (by omega))
        exact hk (fx_up (fx_up S1 56 0 (o).toNat (2 : Int)) 50 0 (42 * f + ((10 : Int) + p)).toNat b) ⟨(fxfr_up (fxfr_up hf rfl) rfl), g24, g25, ij, ao, us, g26, rn⟩
    ·
      refine And.intro (show -2147483648 ≤ ((32 : Int) * b) ∧ ((32 : Int) * b) < 2147483648 by omega) ?_
      refine And.intro (show -2147483648 ≤ (((32 : Int) * b) + j) ∧ (((32 : Int) * b) + j) < 2147483648 by omega) ?_
      refine And.intro (fun (h27 : (o < (0 : Int) : Prop)) => ?_) (fun (h27 : ((0 : Int) ≤ o : Prop)) => ?_)
      ·
        refine And.intro (show 0 ≤ (((32 : Int) * b) + j) ∧ (((32 : Int) * b) + j) < 6656 by omega) ?_
        intro z28 z28a z28b z28c
        have w29 : aN (fx_up S1 57 0 ((((32 : Int) * b) + j)).toNat z28) f (0 : Int) = aN S1 f (0 : Int) := (aN_o rfl)
        have w30 : aN (fx_up S1 57 0 ((((32 : Int) * b) + j)).toNat z28) f (3 : Int) = aN S1 f (3 : Int) := (aN_o rfl)
        have w31 : aN (fx_up S1 57 0 ((((32 : Int) * b) + j)).toNat z28) f (10 : Int) = aN S1 f (10 : Int) := (aN_o rfl)
        have w32 : aN (fx_up S1 57 0 ((((32 : Int) * b) + j)).toNat z28) f ((10 : Int) + p) = aN S1 f ((10 : Int) + p) := (aN_o rfl)
        have g33 : COL (fx_up S1 57 0 ((((32 : Int) * b) + j)).toNat z28) := fx_pup COL_stab rfl i5
        have g34 : WTM (fx_up S1 57 0 ((((32 : Int) * b) + j)).toNat z28) := fx_pup WTM_stab rfl i6
        have g35 : INJ (fx_up S1 57 0 ((((32 : Int) * b) + j)).toNat z28) := fx_pup INJ_stab rfl i7
        have g36 : AON (fx_up S1 57 0 ((((32 : Int) * b) + j)).toNat z28) := fx_pup AON_stab rfl i8
        have g37 : USE (fx_up S1 57 0 ((((32 : Int) * b) + j)).toNat z28) := fx_pup USE_stab rfl i9
        have g38 : REC (fx_up S1 57 0 ((((32 : Int) * b) + j)).toNat z28) := fx_pup REC_stab rfl i10
        have g39 : EQN S (fx_up S1 57 0 ((((32 : Int) * b) + j)).toNat z28) := fx_pup EQN_stab rfl i11
        have g40 : UP1 b S (fx_up S1 57 0 ((((32 : Int) * b) + j)).toNat z28) := fx_pup UP1_stab rfl i12
        have g41 : NLB b (fx_up S1 57 0 ((((32 : Int) * b) + j)).toNat z28) := fx_pup NLB_stab rfl i13
        refine And.intro (by decide) (And.intro (show -2147483648 ≤ j + (1 : Int) ∧ j + (1 : Int) < 2147483648 by omega) ?_)
        exact ih o b (j + (1 : Int)) (fx_up S1 57 0 ((((32 : Int) * b) + j)).toNat z28) (fxfr_up hf rfl) (by omega) (by omega) (by omega) (by omega) (by omega) g33 g34 g35 g36 g37 g38 g39 g40 g41 (by omega)
      ·
        refine And.intro (show -2147483648 ≤ ((32 : Int) * o) ∧ ((32 : Int) * o) < 2147483648 by omega) ?_
        refine And.intro (show -2147483648 ≤ (((32 : Int) * o) + j) ∧ (((32 : Int) * o) + j) < 2147483648 by omega) ?_
        refine And.intro (show 0 ≤ (((32 : Int) * o) + j) ∧ (((32 : Int) * o) + j) < 6656 by omega) ?_
        intro z43 (z43a : (-128 : Int) ≤ z43) (z43b : z43 ≤ (127 : Int)) (z43c : z43 = S1 57 0 ((((32 : Int) * o) + j)).toNat)
        refine And.intro (show 0 ≤ (((32 : Int) * b) + j) ∧ (((32 : Int) * b) + j) < 6656 by omega) ?_
        intro z44 z44a z44b z44c
        have w45 : aN (fx_up S1 57 0 ((((32 : Int) * b) + j)).toNat z44) f (0 : Int) = aN S1 f (0 : Int) := (aN_o rfl)
        have w46 : aN (fx_up S1 57 0 ((((32 : Int) * b) + j)).toNat z44) f (3 : Int) = aN S1 f (3 : Int) := (aN_o rfl)
        have w47 : aN (fx_up S1 57 0 ((((32 : Int) * b) + j)).toNat z44) f (10 : Int) = aN S1 f (10 : Int) := (aN_o rfl)
        have w48 : aN (fx_up S1 57 0 ((((32 : Int) * b) + j)).toNat z44) f ((10 : Int) + p) = aN S1 f ((10 : Int) + p) := (aN_o rfl)
        have g49 : COL (fx_up S1 57 0 ((((32 : Int) * b) + j)).toNat z44) := fx_pup COL_stab rfl i5
        have g50 : WTM (fx_up S1 57 0 ((((32 : Int) * b) + j)).toNat z44) := fx_pup WTM_stab rfl i6
        have g51 : INJ (fx_up S1 57 0 ((((32 : Int) * b) + j)).toNat z44) := fx_pup INJ_stab rfl i7
        have g52 : AON (fx_up S1 57 0 ((((32 : Int) * b) + j)).toNat z44) := fx_pup AON_stab rfl i8
        have g53 : USE (fx_up S1 57 0 ((((32 : Int) * b) + j)).toNat z44) := fx_pup USE_stab rfl i9
        have g54 : REC (fx_up S1 57 0 ((((32 : Int) * b) + j)).toNat z44) := fx_pup REC_stab rfl i10
        have g55 : EQN S (fx_up S1 57 0 ((((32 : Int) * b) + j)).toNat z44) := fx_pup EQN_stab rfl i11
        have g56 : UP1 b S (fx_up S1 57 0 ((((32 : Int) * b) + j)).toNat z44) := fx_pup UP1_stab rfl i12
        have g57 : NLB b (fx_up S1 57 0 ((((32 : Int) * b) + j)).toNat z44) := fx_pup NLB_stab rfl i13
        refine And.intro (by decide) (And.intro (show -2147483648 ≤ j + (1 : Int) ∧ j + (1 : Int) < 2147483648 by omega) ?_)
        exact ih o b (j + (1 : Int)) (fx_up S1 57 0 ((((32 : Int) * b) + j)).toNat z44) (fxfr_up hf rfl) (by omega) (by omega) (by omega) (by omega) (by omega) g49 g50 g51 g52 g53 g54 g55 g56 g57 (by omega)
theorem c_StubHouseModel_renew {l : Launch} {k : fxK} {S : fxS} {f : Int} {p : Int} (p0 : COL S) (p1 : WTM S) (p2 : INJ S) (p3 : AON S) (p4 : USE S) (p5 : REC S) (p6 : 0 ≤ f ∧ f < 60) (p7 : 0 ≤ p ∧ p < 32) (p8 : aN S f 0 = 2) (p9 : 1 ≤ fcn (S 56 0) 0 208) (p10 : p ≠ 0 ∨ 0 ≤ aN S f 10 ∨ aN S f 3 ≤ 0) (hk : ∀ (S' : fxS) , (fxfr [(50, 9999), (56, 9999), (57, 9999)] S S' ∧ (COL S') ∧ (WTM S') ∧ (INJ S') ∧ (AON S') ∧ (USE S') ∧ (REC S') ∧ (RNW f p S S')) → k none S') : fC l 107 [.inr (.inr (49, 0)), .inl f, .inl p] S k := by
  have n59 : EQN S S := EQN_rfl
  refine fxe_107 (Nat.le_of_ble_eq_true rfl) (fxz_107 400 ?_)
  refine And.intro (show -2147483648 ≤ ((10 : Int) + p) ∧ ((10 : Int) + p) < 2147483648 by omega) ?_
  refine c_atb (n := f) (w := ((10 : Int) + p)) p0 (show 0 ≤ f ∧ f < 60 by omega) (show 10 ≤ ((10 : Int) + p) ∧ ((10 : Int) + p) < 42 by omega) (fun (z60 : Int) (q61 : z60 = aN S f ((10 : Int) + p) ∧ -1 ≤ z60 ∧ z60 ≤ 207) => ?_)
  refine And.intro (by decide) ?_
  refine c_give_0_208  p4 (fun (z62 : Int) (S63 : fxS) ⟨(f64 : fxfr [(56, 9999)] S S63), (q65 : -2 ≤ z62 ∧ z62 < 208 ∧ z62 ≠ -1 ∧ (0 ≤ z62 → 0 ≤ z62 ∧ S 56 0 (z62).toNat = 0) ∧ (z62 < 0 → fcn (S 56 0) 0 208 ≤ 0)), (g66 : USE S63), (g67 : UP1 z62 S S63)⟩ => ?_)
  have w68 : aN S63 f (0 : Int) = aN S f (0 : Int) := (aN_fr f64 rfl)
  have w69 : aN S63 f (3 : Int) = aN S f (3 : Int) := (aN_fr f64 rfl)
  have w70 : aN S63 f (10 : Int) = aN S f (10 : Int) := (aN_fr f64 rfl)
  have w71 : aN S63 f ((10 : Int) + p) = aN S f ((10 : Int) + p) := (aN_fr f64 rfl)
  have g72 : COL S63 := fx_pfr COL_stab f64 rfl p0
  have g73 : WTM S63 := fx_pfr WTM_stab f64 rfl p1
  have g74 : INJ S63 := fx_pfr INJ_stab f64 rfl p2
  have g75 : AON S63 := fx_pfr AON_stab f64 rfl p3
  have g76 : REC S63 := fx_pfr REC_stab f64 rfl p5
  have g77 : EQN S S63 := fx_pfr EQN_stab f64 rfl n59
  have nl : NLB z62 S63 := fx_pfr NLB_stab f64 rfl (NLB_of (S := S) p4 (by omega))
  refine And.intro (by decide) ?_
  refine And.intro (by decide) ?_
  exact (z_StubHouseModel_renew p0 p1 p2 p3 p4 p5 p6 p7 p8 p9 p10 hk (33 - (0 : Int)).toNat) z60 z62 (0 : Int) S63 (fxfr_tr fxfr_rfl f64 rfl) (by omega) (by omega) (by omega) (by omega) (by omega) g72 g73 g74 g75 g66 g76 g77 g67 nl (by omega)
theorem z_StubHouseModel_changed {l : Launch} {k : fxK} {S : fxS} {f : Int} (p0 : COL S) (p1 : WTM S) (p2 : INJ S) (p3 : AON S) (p4 : USE S) (p5 : REC S) (p6 : 0 ≤ f ∧ f < 60) (hk : ∀ (S' : fxS) , (fxfr [(49, 14), (50, 9999), (52, 9999)] S S' ∧ (COL S') ∧ (WTM S') ∧ (INJ S') ∧ (AON S') ∧ (USE S') ∧ (REC S')) → k none S') : ∀ m : Nat, (∀ (j : Int) (S1 : fxS), (fxfr [(49, 14), (50, 9999), (52, 9999)] S S1) → (0 ≤ j ∧ j ≤ 4) → (COL S1) → (WTM S1) → (INJ S1) → (AON S1) → (USE S1) → (REC S1) → 5 - j ≤ (m : Int) → fZ l 108 k 29 [some (.inr (.inr (49, 0))), some (.inl f), some (.inl j)] [] S1) := by
  intro m
  induction m with
  | zero =>
    intro j S1 hf i0 i1 i2 i3 i4 i5 i6 hmu
    exfalso
    omega
  | succ m ih =>
    intro j S1 hf i0 i1 i2 i3 i4 i5 i6 hmu
    refine fxz_108 400 ?_
    refine And.intro (fun (h1 : ((4 : Int) ≤ j : Prop)) => ?_) (fun (h1 : (j < (4 : Int) : Prop)) => ?_)
    ·
      intro z2 (z2a : (-2147483648 : Int) ≤ z2) (z2b : z2 ≤ (2147483647 : Int)) (z2c : z2 = S1 49 0 11)
      refine And.intro (show 0 ≤ f ∧ f < 60 by omega) ?_
      refine And.intro (show (-2147483648 : Int) ≤ z2 ∧ z2 ≤ (2147483647 : Int) by omega) ?_
      have g3 : COL (fx_up S1 52 0 (f).toNat z2) := fx_pup COL_stab rfl i1
      have g4 : WTM (fx_up S1 52 0 (f).toNat z2) := fx_pup WTM_stab rfl i2
      have g5 : INJ (fx_up S1 52 0 (f).toNat z2) := fx_pup INJ_stab rfl i3
      have g6 : AON (fx_up S1 52 0 (f).toNat z2) := fx_pup AON_stab rfl i4
      have g7 : USE (fx_up S1 52 0 (f).toNat z2) := fx_pup USE_stab rfl i5
      have g8 : REC (fx_up S1 52 0 (f).toNat z2) := fx_pup REC_stab rfl i6
      exact hk (fx_up S1 52 0 (f).toNat z2) ⟨(fxfr_up hf rfl), g3, g4, g5, g6, g7, g8⟩
    ·
      refine And.intro (show -2147483648 ≤ ((6 : Int) + j) ∧ ((6 : Int) + j) < 2147483648 by omega) ?_
      refine c_set (n := f) (w := ((6 : Int) + j)) (v := (0 : Int)) (show 0 ≤ f ∧ f < 60 by omega) (show 0 ≤ ((6 : Int) + j) ∧ ((6 : Int) + j) < 42 by omega) (show -2147483648 ≤ (0 : Int) ∧ (0 : Int) < 2147483648 by omega) ?_
      have g9 : COL (fx_up S1 50 0 (42 * f + ((6 : Int) + j)).toNat (0 : Int)) := COL_set i1 (by omega) (by omega) (by omega)
      have g10 : WTM (fx_up S1 50 0 (42 * f + ((6 : Int) + j)).toNat (0 : Int)) := WTM_set i2 (by omega) (by omega)
      have g11 : INJ (fx_up S1 50 0 (42 * f + ((6 : Int) + j)).toNat (0 : Int)) := INJ_set i3 (by omega) (by omega)
      have g12 : AON (fx_up S1 50 0 (42 * f + ((6 : Int) + j)).toNat (0 : Int)) := AON_set i4 (by omega) (by omega)
      have g13 : USE (fx_up S1 50 0 (42 * f + ((6 : Int) + j)).toNat (0 : Int)) := USE_set i5 (by omega) (by omega)
      have g14 : REC (fx_up S1 50 0 (42 * f + ((6 : Int) + j)).toNat (0 : Int)) := REC_set i6 (by omega) (by omega)
      refine And.intro (by decide) (And.intro (show -2147483648 ≤ j + (1 : Int) ∧ j + (1 : Int) < 2147483648 by omega) ?_)
      exact ih (j + (1 : Int)) (fx_up S1 50 0 (42 * f + ((6 : Int) + j)).toNat (0 : Int)) (fxfr_up hf rfl) (by omega) g9 g10 g11 g12 g13 g14 (by omega)
theorem c_StubHouseModel_changed {l : Launch} {k : fxK} {S : fxS} {f : Int} (p0 : COL S) (p1 : WTM S) (p2 : INJ S) (p3 : AON S) (p4 : USE S) (p5 : REC S) (p6 : 0 ≤ f ∧ f < 60) (hk : ∀ (S' : fxS) , (fxfr [(49, 14), (50, 9999), (52, 9999)] S S' ∧ (COL S') ∧ (WTM S') ∧ (INJ S') ∧ (AON S') ∧ (USE S') ∧ (REC S')) → k none S') : fC l 108 [.inr (.inr (49, 0)), .inl f] S k := by
  refine fxe_108 (Nat.le_of_ble_eq_true rfl) (fxz_108 400 ?_)
  intro z16 (z16a : (-2147483648 : Int) ≤ z16) (z16b : z16 ≤ (2147483647 : Int)) (z16c : z16 = S 49 0 14)
  refine c_set (n := f) (w := (4 : Int)) (v := z16) (show 0 ≤ f ∧ f < 60 by omega) (show 0 ≤ (4 : Int) ∧ (4 : Int) < 42 by omega) (show -2147483648 ≤ z16 ∧ z16 < 2147483648 by omega) ?_
  have g17 : COL (fx_up S 50 0 (42 * f + (4 : Int)).toNat z16) := COL_set p0 (by omega) (by omega) (by omega)
  have g18 : WTM (fx_up S 50 0 (42 * f + (4 : Int)).toNat z16) := WTM_set p1 (by omega) (by omega)
  have g19 : INJ (fx_up S 50 0 (42 * f + (4 : Int)).toNat z16) := INJ_set p2 (by omega) (by omega)
  have g20 : AON (fx_up S 50 0 (42 * f + (4 : Int)).toNat z16) := AON_set p3 (by omega) (by omega)
  have g21 : USE (fx_up S 50 0 (42 * f + (4 : Int)).toNat z16) := USE_set p4 (by omega) (by omega)
  have g22 : REC (fx_up S 50 0 (42 * f + (4 : Int)).toNat z16) := REC_set p5 (by omega) (by omega)
  intro z23 (z23a : (-2147483648 : Int) ≤ z23) (z23b : z23 ≤ (2147483647 : Int)) (z23c : z23 = S 49 0 14)
  intro z24 (z24a : -2147483648 ≤ z24) (z24b : z24 < 2147483648) (z24c : -2147483648 ≤ (z23 + (1 : Int)) ∧ (z23 + (1 : Int)) < 2147483648 → z24 = (z23 + (1 : Int)))
  refine And.intro (show (-2147483648 : Int) ≤ z24 ∧ z24 ≤ (2147483647 : Int) by omega) ?_
  have g25 : COL (fx_up (fx_up S 50 0 (42 * f + (4 : Int)).toNat z16) 49 0 14 z24) := fx_pup COL_stab rfl g17
  have g26 : WTM (fx_up (fx_up S 50 0 (42 * f + (4 : Int)).toNat z16) 49 0 14 z24) := fx_pup WTM_stab rfl g18
  have g27 : INJ (fx_up (fx_up S 50 0 (42 * f + (4 : Int)).toNat z16) 49 0 14 z24) := fx_pup INJ_stab rfl g19
  have g28 : AON (fx_up (fx_up S 50 0 (42 * f + (4 : Int)).toNat z16) 49 0 14 z24) := fx_pup AON_stab rfl g20
  have g29 : USE (fx_up (fx_up S 50 0 (42 * f + (4 : Int)).toNat z16) 49 0 14 z24) := fx_pup USE_stab rfl g21
  have g30 : REC (fx_up (fx_up S 50 0 (42 * f + (4 : Int)).toNat z16) 49 0 14 z24) := fx_pup REC_stab rfl g22
  refine c_set (n := f) (w := (5 : Int)) (v := (0 : Int)) (show 0 ≤ f ∧ f < 60 by omega) (show 0 ≤ (5 : Int) ∧ (5 : Int) < 42 by omega) (show -2147483648 ≤ (0 : Int) ∧ (0 : Int) < 2147483648 by omega) ?_
  have g31 : COL (fx_up (fx_up (fx_up S 50 0 (42 * f + (4 : Int)).toNat z16) 49 0 14 z24) 50 0 (42 * f + (5 : Int)).toNat (0 : Int)) := COL_set g25 (by omega) (by omega) (by omega)
  have g32 : WTM (fx_up (fx_up (fx_up S 50 0 (42 * f + (4 : Int)).toNat z16) 49 0 14 z24) 50 0 (42 * f + (5 : Int)).toNat (0 : Int)) := WTM_set g26 (by omega) (by omega)
  have g33 : INJ (fx_up (fx_up (fx_up S 50 0 (42 * f + (4 : Int)).toNat z16) 49 0 14 z24) 50 0 (42 * f + (5 : Int)).toNat (0 : Int)) := INJ_set g27 (by omega) (by omega)
  have g34 : AON (fx_up (fx_up (fx_up S 50 0 (42 * f + (4 : Int)).toNat z16) 49 0 14 z24) 50 0 (42 * f + (5 : Int)).toNat (0 : Int)) := AON_set g28 (by omega) (by omega)
  have g35 : USE (fx_up (fx_up (fx_up S 50 0 (42 * f + (4 : Int)).toNat z16) 49 0 14 z24) 50 0 (42 * f + (5 : Int)).toNat (0 : Int)) := USE_set g29 (by omega) (by omega)
  have g36 : REC (fx_up (fx_up (fx_up S 50 0 (42 * f + (4 : Int)).toNat z16) 49 0 14 z24) 50 0 (42 * f + (5 : Int)).toNat (0 : Int)) := REC_set g30 (by omega) (by omega)
  refine And.intro (by decide) ?_
  exact (z_StubHouseModel_changed p0 p1 p2 p3 p4 p5 p6 hk (5 - (0 : Int)).toNat) (0 : Int) (fx_up (fx_up (fx_up S 50 0 (42 * f + (4 : Int)).toNat z16) 49 0 14 z24) 50 0 (42 * f + (5 : Int)).toNat (0 : Int)) (fxfr_up (fxfr_up (fxfr_up fxfr_rfl rfl) rfl) rfl) (by omega) g31 g32 g33 g34 g35 g36 (by omega)
theorem z_StubHouseModel_empty {l : Launch} {k : fxK} {S : fxS}   (hk : ∀ (S' : fxS) , (fxfr [(49, 7), (50, 9999), (53, 9999), (56, 9999)] S S' ∧ (COL S') ∧ (WTM S') ∧ (INJ S') ∧ (AON S') ∧ (USE S') ∧ (SNP S')) → k none S') : ∀ m : Nat, (∀ (j : Int) (S1 : fxS), (fxfr [(49, 7), (50, 9999), (53, 9999), (56, 9999)] S S1) → (0 ≤ j ∧ j ≤ 2561) → (ZRJ j S1) → 10000 - j ≤ (m : Int) → fZ l 156 k 2 [some (.inr (.inr (49, 0))), some (.inl j)] [] S1) ∧ (∀ (j : Int) (S1 : fxS), (fxfr [(49, 7), (50, 9999), (53, 9999), (56, 9999)] S S1) → (0 ≤ j ∧ j ≤ 208) → (COL S1) → (WTM S1) → (INJ S1) → (AON S1) → (NOL S1) → 1000 - j ≤ (m : Int) → fZ l 156 k 38 [some (.inr (.inr (49, 0))), some (.inl j)] [] S1) := by
  intro m
  induction m with
  | zero =>
    refine ⟨?_, ?_⟩
    · intro j S1 hf i0 i1 hmu
      exfalso
      omega
    · intro j S1 hf i0 i1 i2 i3 i4 i5 hmu
      exfalso
      omega
  | succ m ih =>
    refine ⟨?_, ?_⟩
    · intro j S1 hf i0 i1 hmu
      refine fxz_156 400 ?_
      refine And.intro (fun (h1 : ((2561 : Int) ≤ j : Prop)) => ?_) (fun (h1 : (j < (2561 : Int) : Prop)) => ?_)
      ·
        refine And.intro (show 0 ≤ (0 : Int) ∧ (0 : Int) < 2561 by omega) ?_
        refine And.intro (show (-2147483648 : Int) ≤ (1 : Int) ∧ (1 : Int) ≤ (2147483647 : Int) by omega) ?_
        have w2 : (fx_up S1 50 0 0 (1 : Int)) 49 0 7 = S1 49 0 7 := rfl
        refine And.intro (show 0 ≤ (1 : Int) ∧ (1 : Int) < 2561 by omega) ?_
        refine And.intro (show (-2147483648 : Int) ≤ (-1 : Int) ∧ (-1 : Int) ≤ (2147483647 : Int) by omega) ?_
        have w3 : (fx_up (fx_up S1 50 0 0 (1 : Int)) 50 0 1 (-1 : Int)) 49 0 7 = (fx_up S1 50 0 0 (1 : Int)) 49 0 7 := rfl
        have gd : GOODf ((fx_up (fx_up S1 50 0 0 (1 : Int)) 50 0 1 (-1 : Int)) 50 0) := ZRJ_good (by assumption) (by omega)
        have h1 : COL (fx_up (fx_up S1 50 0 0 (1 : Int)) 50 0 1 (-1 : Int)) := gd.1
        have h2 : WTM (fx_up (fx_up S1 50 0 0 (1 : Int)) 50 0 1 (-1 : Int)) := gd.2.1
        have h3 : INJ (fx_up (fx_up S1 50 0 0 (1 : Int)) 50 0 1 (-1 : Int)) := gd.2.2.1
        have h4 : AON (fx_up (fx_up S1 50 0 0 (1 : Int)) 50 0 1 (-1 : Int)) := gd.2.2.2
        have h5 : NOL (fx_up (fx_up S1 50 0 0 (1 : Int)) 50 0 1 (-1 : Int)) := ZRJ_nol (by assumption) (by omega)
        refine And.intro (by decide) ?_
        exact ih.2 (0 : Int) (fx_up (fx_up S1 50 0 0 (1 : Int)) 50 0 1 (-1 : Int)) (fxfr_up (fxfr_up hf rfl) rfl) (by omega) h1 h2 h3 h4 h5 (by omega)
      ·
        refine And.intro (show 0 ≤ j ∧ j < 2561 by omega) ?_
        refine And.intro (show (-2147483648 : Int) ≤ (0 : Int) ∧ (0 : Int) ≤ (2147483647 : Int) by omega) ?_
        have w4 : (fx_up S1 50 0 (j).toNat (0 : Int)) 49 0 7 = S1 49 0 7 := rfl
        have zs : ZRJ (j + (1 : Int)) (fx_up S1 50 0 (j).toNat (0 : Int)) := ZRJ_step (by assumption) (by omega)
        refine And.intro (by decide) (And.intro (show -2147483648 ≤ j + (1 : Int) ∧ j + (1 : Int) < 2147483648 by omega) ?_)
        exact ih.1 (j + (1 : Int)) (fx_up S1 50 0 (j).toNat (0 : Int)) (fxfr_up hf rfl) (by omega) zs (by omega)
    · intro j S1 hf i0 i1 i2 i3 i4 i5 hmu
      refine fxz_156 400 ?_
      refine And.intro (fun (h6 : ((208 : Int) ≤ j : Prop)) => ?_) (fun (h6 : (j < (208 : Int) : Prop)) => ?_)
      ·
        refine And.intro (show (0 : Int) ≤ (0 : Int) ∧ (0 : Int) ≤ (200 : Int) by omega) ?_
        have w7 : (fx_up S1 49 0 7 (0 : Int)) 49 0 7 = (0 : Int) := fx_up_at _ _ _ _ _
        have g8 : COL (fx_up S1 49 0 7 (0 : Int)) := fx_pup COL_stab rfl i1
        have g9 : WTM (fx_up S1 49 0 7 (0 : Int)) := fx_pup WTM_stab rfl i2
        have g10 : INJ (fx_up S1 49 0 7 (0 : Int)) := fx_pup INJ_stab rfl i3
        have g11 : AON (fx_up S1 49 0 7 (0 : Int)) := fx_pup AON_stab rfl i4
        have g12 : NOL (fx_up S1 49 0 7 (0 : Int)) := fx_pup NOL_stab rfl i5
        have us : USE (fx_up S1 49 0 7 (0 : Int)) := USE_nol (by assumption)
        have sl : SNL (fx_up S1 49 0 7 (0 : Int)) := SNL_z
        refine c_StubHouseModel_copyOut  g8 g9 g10 g11 sl (show 0 ≤ (0 : Int) ∧ (0 : Int) ≤ 200 by omega) (fun (S13 : fxS) ⟨(f14 : fxfr [(53, 9999)] (fx_up S1 49 0 7 (0 : Int)) S13), (q15 : S13 49 0 7 = (0 : Int)), (g16 : SNP S13)⟩ => ?_)
        have w17 : S13 49 0 7 = (fx_up S1 49 0 7 (0 : Int)) 49 0 7 := f14 49 0 7 rfl
        have g18 : COL S13 := fx_pfr COL_stab f14 rfl g8
        have g19 : WTM S13 := fx_pfr WTM_stab f14 rfl g9
        have g20 : INJ S13 := fx_pfr INJ_stab f14 rfl g10
        have g21 : AON S13 := fx_pfr AON_stab f14 rfl g11
        have g22 : NOL S13 := fx_pfr NOL_stab f14 rfl g12
        have g23 : USE S13 := fx_pfr USE_stab f14 rfl us
        exact hk S13 ⟨(fxfr_tr (fxfr_up hf rfl) f14 rfl), g18, g19, g20, g21, g23, g16⟩
      ·
        refine And.intro (show 0 ≤ j ∧ j < 208 by omega) ?_
        refine And.intro (show (0 : Int) ≤ (0 : Int) ∧ (0 : Int) ≤ (2 : Int) by omega) ?_
        have w24 : (fx_up S1 56 0 (j).toNat (0 : Int)) 49 0 7 = S1 49 0 7 := rfl
        have g25 : COL (fx_up S1 56 0 (j).toNat (0 : Int)) := fx_pup COL_stab rfl i1
        have g26 : WTM (fx_up S1 56 0 (j).toNat (0 : Int)) := fx_pup WTM_stab rfl i2
        have g27 : INJ (fx_up S1 56 0 (j).toNat (0 : Int)) := fx_pup INJ_stab rfl i3
        have g28 : AON (fx_up S1 56 0 (j).toNat (0 : Int)) := fx_pup AON_stab rfl i4
        have g29 : NOL (fx_up S1 56 0 (j).toNat (0 : Int)) := fx_pup NOL_stab rfl i5
        refine And.intro (by decide) (And.intro (show -2147483648 ≤ j + (1 : Int) ∧ j + (1 : Int) < 2147483648 by omega) ?_)
        exact ih.2 (j + (1 : Int)) (fx_up S1 56 0 (j).toNat (0 : Int)) (fxfr_up hf rfl) (by omega) g25 g26 g27 g28 g29 (by omega)
theorem c_StubHouseModel_empty {l : Launch} {k : fxK} {S : fxS}   (hk : ∀ (S' : fxS) , (fxfr [(49, 7), (50, 9999), (53, 9999), (56, 9999)] S S' ∧ (COL S') ∧ (WTM S') ∧ (INJ S') ∧ (AON S') ∧ (USE S') ∧ (SNP S')) → k none S') : fC l 156 [.inr (.inr (49, 0))] S k := by
  refine fxe_156 (Nat.le_of_ble_eq_true rfl) (fxz_156 400 ?_)
  refine And.intro (by decide) ?_
  have z0 : ZRJ (0 : Int) S := ZRJ_0
  exact (z_StubHouseModel_empty  hk (10000 - (0 : Int)).toNat).1 (0 : Int) S fxfr_rfl (by omega) z0 (by omega)
theorem z_StubHouseModel_stubbed {l : Launch} {k : fxK} {S : fxS} {f : Int} (p0 : COL S) (p1 : WTM S) (p2 : REC S) (p3 : 0 ≤ f ∧ f < 60) (p4 : aN S f 0 = 2) (hk : ∀ (r : Int) (S' : fxS) , (fxfr [(49, 36), (75, 9999)] S S' ∧ (-5 ≤ r ∧ r ≤ 0 ∧ (r = 0 → aN S f 3 ≤ 0 ∨ 0 ≤ aN S f 10)) ∧ (REC S')) → k (some (.inl r)) S') : ∀ m : Nat, (∀ (d j : Int) (S1 : fxS), (fxfr [(49, 36), (75, 9999)] S S1) → (0 ≤ j ∧ j ≤ 60) → (-2147483648 ≤ d ∧ d < 2147483648) → (COL S1) → (WTM S1) → (REC S1) → (FIL d S1) → (NIR d j S1) → 61 - j ≤ (m : Int) → fZ l 104 k 31 [some (.inr (.inr (49, 0))), none, some (.inl d), some (.inl j)] [] S1) := by
  intro m
  induction m with
  | zero =>
    intro d j S1 hf i0 i1 i2 i3 i4 i5 i6 hmu
    exfalso
    omega
  | succ m ih =>
    intro d j S1 hf i0 i1 i2 i3 i4 i5 i6 hmu
    refine fxz_104 400 ?_
    intro z1 (z1a : (0 : Int) ≤ z1) (z1b : z1 ≤ (60 : Int)) (z1c : z1 = S1 49 0 36)
    refine And.intro (fun (h2 : (z1 ≤ j : Prop)) => ?_) (fun (h2 : (j < z1 : Prop)) => ?_)
    ·
      intro z3 (z3a : (0 : Int) ≤ z3) (z3b : z3 ≤ (60 : Int)) (z3c : z3 = S1 49 0 36)
      obtain rfl : z1 = z3 := by omega
      have rm := REC_room (d := d) (by assumption) (by assumption) (fun x hx => (by assumption : NIR d j S1) x (by omega)) (by omega)
      refine And.intro (show 0 ≤ z1 ∧ z1 < 60 by omega) ?_
      refine And.intro (show (-2147483648 : Int) ≤ d ∧ d ≤ (2147483647 : Int) by omega) ?_
      have w4 : (fx_up S1 75 0 (z1).toNat d) 49 0 36 = S1 49 0 36 := rfl
      have g5 : COL (fx_up S1 75 0 (z1).toNat d) := fx_pup COL_stab rfl i2
      have g6 : WTM (fx_up S1 75 0 (z1).toNat d) := fx_pup WTM_stab rfl i3
      have g7 : FIL d (fx_up S1 75 0 (z1).toNat d) := fx_pup FIL_stab rfl i5
      intro z8 (z8a : (0 : Int) ≤ z8) (z8b : z8 ≤ (60 : Int)) (z8c : z8 = S1 49 0 36)
      obtain rfl : z1 = z8 := by omega
      refine And.intro (show -2147483648 ≤ (z1 + (1 : Int)) ∧ (z1 + (1 : Int)) < 2147483648 by omega) ?_
      refine And.intro (show (0 : Int) ≤ (z1 + (1 : Int)) ∧ (z1 + (1 : Int)) ≤ (60 : Int) by omega) ?_
      have w9 : (fx_up (fx_up S1 75 0 (z1).toNat d) 49 0 36 (z1 + (1 : Int))) 49 0 36 = (z1 + (1 : Int)) := fx_up_at _ _ _ _ _
      have g10 : COL (fx_up (fx_up S1 75 0 (z1).toNat d) 49 0 36 (z1 + (1 : Int))) := fx_pup COL_stab rfl g5
      have g11 : WTM (fx_up (fx_up S1 75 0 (z1).toNat d) 49 0 36 (z1 + (1 : Int))) := fx_pup WTM_stab rfl g6
      have g12 : FIL d (fx_up (fx_up S1 75 0 (z1).toNat d) 49 0 36 (z1 + (1 : Int))) := fx_pup FIL_stab rfl g7
      have rc : REC (fx_up (fx_up S1 75 0 (z1).toNat d) 49 0 36 (z1 + (1 : Int))) := REC_add (by assumption) (by assumption) (fun x hx => (by assumption : NIR d j S1) x (by omega)) (by omega) (by omega)
      exact hk (-4 : Int) (fx_up (fx_up S1 75 0 (z1).toNat d) 49 0 36 (z1 + (1 : Int))) ⟨(fxfr_up (fxfr_up hf rfl) rfl), by omega, rc⟩
    ·
      refine And.intro (show 0 ≤ j ∧ j < 60 by omega) ?_
      intro z13 (z13a : (-2147483648 : Int) ≤ z13) (z13b : z13 ≤ (2147483647 : Int)) (z13c : z13 = S1 75 0 (j).toNat)
      refine And.intro (fun (h14 : (z13 ≠ d : Prop)) => ?_) (fun (h14 : (z13 = d : Prop)) => ?_)
      ·
        refine And.intro (by decide) (And.intro (show -2147483648 ≤ j + (1 : Int) ∧ j + (1 : Int) < 2147483648 by omega) ?_)
        have ni : NIR d (j + (1 : Int)) S1 := NIR_step i6 (by omega)
        exact ih d (j + (1 : Int)) S1 hf (by omega) (by omega) i2 i3 i4 i5 ni (by omega)
      ·
        exact hk (-4 : Int) S1 ⟨hf, by omega, i4⟩
theorem c_StubHouseModel_stubbed {l : Launch} {k : fxK} {S : fxS} {f : Int} (p0 : COL S) (p1 : WTM S) (p2 : REC S) (p3 : 0 ≤ f ∧ f < 60) (p4 : aN S f 0 = 2) (hk : ∀ (r : Int) (S' : fxS) , (fxfr [(49, 36), (75, 9999)] S S' ∧ (-5 ≤ r ∧ r ≤ 0 ∧ (r = 0 → aN S f 3 ≤ 0 ∨ 0 ≤ aN S f 10)) ∧ (REC S')) → k (some (.inl r)) S') : fC l 104 [.inr (.inr (49, 0)), .inl f] S k := by
  refine fxe_104 (Nat.le_of_ble_eq_true rfl) (fxz_104 400 ?_)
  refine c_StubHouseModel_isStub (n := f) p0 (show 0 ≤ f ∧ f < 60 by omega) (fun (z16 : Int) (q17 : 0 ≤ z16 ∧ z16 ≤ 1 ∧ (z16 = 1 → 0 < aN S f 3 ∧ aN S f 10 < 0) ∧ (z16 = 0 → aN S f 3 ≤ 0 ∨ 0 ≤ aN S f 10)) => ?_)
  refine And.intro (fun (h18 : (z16 ≠ (0 : Int) : Prop)) => ?_) (fun (h18 : (z16 = (0 : Int) : Prop)) => ?_)
  ·
    refine c_at5 (n := f) p0 (show 0 ≤ f ∧ f < 60 by omega) (fun (z19 : Int) (q20 : z19 = aN S f 5 ∧ 0 ≤ z19 ∧ z19 ≤ 2) => ?_)
    refine And.intro (fun (h21 : (z19 ≠ (0 : Int) : Prop)) => ?_) (fun (h21 : (z19 = (0 : Int) : Prop)) => ?_)
    ·
      refine c_at2 (n := f) p0 (show 0 ≤ f ∧ f < 60 by omega) (fun (z22 : Int) (q23 : z22 = aN S f 2 ∧ -2147483648 ≤ z22 ∧ z22 < 2147483648) => ?_)
      have fp : 1 ≤ f := FILE_pos (S := S) (by assumption) (by omega) (by omega)
      have fl : FIL z22 S := ⟨f, by omega, by omega, by omega⟩
      have n0 : NIR z22 (0 : Int) S := NIR_0
      refine And.intro (by decide) ?_
      refine And.intro (by decide) ?_
      exact (z_StubHouseModel_stubbed p0 p1 p2 p3 p4 hk (61 - (0 : Int)).toNat) z22 (0 : Int) S fxfr_rfl (by omega) (by omega) p0 p1 p2 fl n0 (by omega)
    ·
      exact hk (-5 : Int) S ⟨fxfr_rfl, by omega, p2⟩
  ·
    exact hk (0 : Int) S ⟨fxfr_rfl, by omega, p2⟩
theorem z_StubHouseModel_purge {l : Launch} {k : fxK} {S : fxS}  (p0 : COL S) (p1 : RECd S) (hk : ∀ (S' : fxS) , (fxfr [(49, 36), (75, 9999)] S S' ∧ (REC S')) → k none S') : ∀ m : Nat, (∀ (s j : Int) (S1 : fxS), (fxfr [(49, 36), (75, 9999)] S S1) → (0 ≤ s ∧ s ≤ j ∧ j ≤ 60) → (S1 49 0 36 = S 49 0 36) → (COL S1) → (PJ s j S S1) → 61 - j ≤ (m : Int) → fZ l 77 k 4 [some (.inr (.inr (49, 0))), some (.inl s), some (.inl j), none] [] S1) := by
  intro m
  induction m with
  | zero =>
    intro s j S1 hf i0 i1 i2 i3 hmu
    exfalso
    omega
  | succ m ih =>
    intro s j S1 hf i0 i1 i2 i3 hmu
    refine fxz_77 400 ?_
    intro z1 (z1a : (0 : Int) ≤ z1) (z1b : z1 ≤ (60 : Int)) (z1c : z1 = S1 49 0 36)
    refine And.intro (fun (h2 : (z1 ≤ j : Prop)) => ?_) (fun (h2 : (j < z1 : Prop)) => ?_)
    ·
      refine And.intro (show (0 : Int) ≤ s ∧ s ≤ (60 : Int) by omega) ?_
      have w3 : (fx_up S1 49 0 36 s) 49 0 36 = s := fx_up_at _ _ _ _ _
      have g4 : COL (fx_up S1 49 0 36 s) := fx_pup COL_stab rfl i2
      have g5 : PJ s j S (fx_up S1 49 0 36 s) := fx_pup PJ_stab rfl i3
      have rc : REC (fx_up S1 49 0 36 s) := PJ_end (by assumption)
      exact hk (fx_up S1 49 0 36 s) ⟨(fxfr_up hf rfl), rc⟩
    ·
      intro z6 (z6a : (0 : Int) ≤ z6) (z6b : z6 ≤ (1 : Int)) (z6c : z6 = S1 49 0 15)
      refine And.intro (fun (h7 : (z6 = (0 : Int) : Prop)) => ?_) (fun (h7 : (z6 ≠ (0 : Int) : Prop)) => ?_)
      ·
        refine And.intro (show 0 ≤ j ∧ j < 60 by omega) ?_
        intro z8 (z8a : (-2147483648 : Int) ≤ z8) (z8b : z8 ≤ (2147483647 : Int)) (z8c : z8 = S1 75 0 (j).toNat)
        refine c_StubHouseModel_fileOf (d := z8) i2 (show -2147483648 ≤ z8 ∧ z8 < 2147483648 by omega) (fun (z9 : Int) (q10 : -2 ≤ z9 ∧ z9 < 60 ∧ z9 ≠ -1 ∧ z9 ≠ 0 ∧ (0 ≤ z9 → aN S1 z9 0 = 2 ∧ aN S1 z9 2 = z8) ∧ FOF z8 z9 S1) => ?_)
        have fo : 0 ≤ z9 → FIL (S1 75 0 (j).toNat) S1 := fun h => by have e := FOF_fil q10.2.2.2.2.2 h; rwa [show z8 = S1 75 0 (j).toNat by omega] at e
        refine And.intro (by decide) ?_
        refine And.intro (fun (h11 : (z9 < (0 : Int) : Prop)) => ?_) (fun (h11 : ((0 : Int) ≤ z9 : Prop)) => ?_)
        ·
          refine And.intro (by decide) (And.intro (show -2147483648 ≤ j + (1 : Int) ∧ j + (1 : Int) < 2147483648 by omega) ?_)
          have ps : PJ s (j + (1 : Int)) S S1 := by first | assumption | exact PJ_skip (by assumption)
          exact ih s (j + (1 : Int)) S1 hf (by omega) (by omega) i2 ps (by omega)
        ·
          refine c_StubHouseModel_isStub (n := z9) i2 (show 0 ≤ z9 ∧ z9 < 60 by omega) (fun (z13 : Int) (q14 : 0 ≤ z13 ∧ z13 ≤ 1 ∧ (z13 = 1 → 0 < aN S1 z9 3 ∧ aN S1 z9 10 < 0) ∧ (z13 = 0 → aN S1 z9 3 ≤ 0 ∨ 0 ≤ aN S1 z9 10)) => ?_)
          refine And.intro (fun (h15 : (z13 = (0 : Int) : Prop)) => ?_) (fun (h15 : (z13 ≠ (0 : Int) : Prop)) => ?_)
          ·
            refine And.intro (by decide) (And.intro (show -2147483648 ≤ j + (1 : Int) ∧ j + (1 : Int) < 2147483648 by omega) ?_)
            have ps : PJ s (j + (1 : Int)) S S1 := by first | assumption | exact PJ_skip (by assumption)
            exact ih s (j + (1 : Int)) S1 hf (by omega) (by omega) i2 ps (by omega)
          ·
            refine c_at5 (n := z9) i2 (show 0 ≤ z9 ∧ z9 < 60 by omega) (fun (z17 : Int) (q18 : z17 = aN S1 z9 5 ∧ 0 ≤ z17 ∧ z17 ≤ 2) => ?_)
            refine And.intro (fun (h19 : (z17 ≤ (0 : Int) : Prop)) => ?_) (fun (h19 : ((0 : Int) < z17 : Prop)) => ?_)
            ·
              refine And.intro (by decide) (And.intro (show -2147483648 ≤ j + (1 : Int) ∧ j + (1 : Int) < 2147483648 by omega) ?_)
              have ps : PJ s (j + (1 : Int)) S S1 := by first | assumption | exact PJ_skip (by assumption)
              exact ih s (j + (1 : Int)) S1 hf (by omega) (by omega) i2 ps (by omega)
            ·
              refine And.intro (show 0 ≤ j ∧ j < 60 by omega) ?_
              intro z21 (z21a : (-2147483648 : Int) ≤ z21) (z21b : z21 ≤ (2147483647 : Int)) (z21c : z21 = S1 75 0 (j).toNat)
              refine And.intro (show 0 ≤ s ∧ s < 60 by omega) ?_
              refine And.intro (show (-2147483648 : Int) ≤ z21 ∧ z21 ≤ (2147483647 : Int) by omega) ?_
              have w22 : (fx_up S1 75 0 (s).toNat z21) 49 0 36 = S1 49 0 36 := rfl
              have g23 : COL (fx_up S1 75 0 (s).toNat z21) := fx_pup COL_stab rfl i2
              have pk : PJ (s + (1 : Int)) (j + (1 : Int)) S (fx_up S1 75 0 (s).toNat z21) := PJ_keep (by assumption) (by assumption) (by omega) (by omega) (by omega) (fo (by omega))
              refine And.intro (by decide) (And.intro (show -2147483648 ≤ s + (1 : Int) ∧ s + (1 : Int) < 2147483648 by omega) ?_)
              refine And.intro (by decide) (And.intro (show -2147483648 ≤ j + (1 : Int) ∧ j + (1 : Int) < 2147483648 by omega) ?_)
              have ps : PJ (s + (1 : Int)) (j + (1 : Int)) S (fx_up S1 75 0 (s).toNat z21) := by first | assumption | exact PJ_skip (by assumption)
              exact ih (s + (1 : Int)) (j + (1 : Int)) (fx_up S1 75 0 (s).toNat z21) (fxfr_up hf rfl) (by omega) (by omega) g23 ps (by omega)
      ·
        refine And.intro (by decide) ?_
        refine And.intro (fun _ => ?_) (fun h => absurd h (by decide))
        refine And.intro (by decide) (And.intro (show -2147483648 ≤ j + (1 : Int) ∧ j + (1 : Int) < 2147483648 by omega) ?_)
        have ps : PJ s (j + (1 : Int)) S S1 := by first | assumption | exact PJ_skip (by assumption)
        exact ih s (j + (1 : Int)) S1 hf (by omega) (by omega) i2 ps (by omega)
theorem c_StubHouseModel_purge {l : Launch} {k : fxK} {S : fxS}  (p0 : COL S) (p1 : RECd S) (hk : ∀ (S' : fxS) , (fxfr [(49, 36), (75, 9999)] S S' ∧ (REC S')) → k none S') : fC l 77 [.inr (.inr (49, 0))] S k := by
  refine fxe_77 (Nat.le_of_ble_eq_true rfl) (fxz_77 400 ?_)
  refine And.intro (by decide) ?_
  refine And.intro (by decide) ?_
  have pj : PJ (0 : Int) (0 : Int) S S := PJ_0
  exact (z_StubHouseModel_purge p0 p1 hk (61 - (0 : Int)).toNat) (0 : Int) (0 : Int) S fxfr_rfl (by omega) (by omega) p0 pj (by omega)
