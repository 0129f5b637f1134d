/-! contracts: drives, migrator of the class, as far as tapes need not be known -/
theorem c_beginMounting38 {l : Launch} {k : fxK} {S : fxS} {t : Int} (p0 : 0 ≤ t ∧ t ≤ 5) (hk : ∀ (S' : fxS) , (fxfr [(38, 0), (38, 1), (38, 2), (38, 3), (38, 4)] S S') → k none S') : fC l 209 [.inr (.inr (38, 0)), .inl t] S k := by
  refine fxe_209 (Nat.le_of_ble_eq_true rfl) (fxz_209 400 ?_)
  refine And.intro (show (-1 : Int) ≤ t ∧ t ≤ (5 : Int) by omega) ?_
  refine And.intro (show (0 : Int) ≤ (0 : Int) ∧ (0 : Int) ≤ (7100 : Int) by omega) ?_
  refine c_begin38 (w := (1 : Int)) (t := (3 : Int)) (p := (0 : Int)) (show 0 ≤ (1 : Int) ∧ (1 : Int) ≤ 5 by omega) (show 0 ≤ (0 : Int) ∧ (0 : Int) ≤ 7100 by omega) (show -2147483648 ≤ (3 : Int) ∧ (3 : Int) < 2147483648 by omega) (fun (S1 : fxS) (f2 : fxfr [(38, 2), (38, 3), (38, 4)] (fx_up (fx_up S 38 0 0 t) 38 0 1 (0 : Int)) S1) => ?_)
  exact hk S1 (fxfr_tr (fxfr_up (fxfr_up fxfr_rfl rfl) rfl) f2 rfl)
theorem c_beginMounting40 {l : Launch} {k : fxK} {S : fxS} {t : Int} (p0 : 0 ≤ t ∧ t ≤ 5) (hk : ∀ (S' : fxS) , (fxfr [(40, 0), (40, 1), (40, 2), (40, 3), (40, 4)] S S' ∧ (S' 40 0 2 = 1)) → k none S') : fC l 209 [.inr (.inr (40, 0)), .inl t] S k := by
  refine fxe_209 (Nat.le_of_ble_eq_true rfl) (fxz_209 400 ?_)
  refine And.intro (show (-1 : Int) ≤ t ∧ t ≤ (5 : Int) by omega) ?_
  have w1 : (fx_up S 40 0 0 t) 40 0 0 = t := fx_up_at _ _ _ _ _
  have w2 : (fx_up S 40 0 0 t) 40 0 2 = S 40 0 2 := if_neg (fun q => absurd q.2.2 (by decide))
  have w3 : (fx_up S 40 0 0 t) 40 0 13 = S 40 0 13 := if_neg (fun q => absurd q.2.2 (by decide))
  have w4 : (fx_up S 40 0 0 t) 40 0 14 = S 40 0 14 := if_neg (fun q => absurd q.2.2 (by decide))
  refine And.intro (show (0 : Int) ≤ (0 : Int) ∧ (0 : Int) ≤ (7100 : Int) by omega) ?_
  have w5 : (fx_up (fx_up S 40 0 0 t) 40 0 1 (0 : Int)) 40 0 0 = (fx_up S 40 0 0 t) 40 0 0 := if_neg (fun q => absurd q.2.2 (by decide))
  have w6 : (fx_up (fx_up S 40 0 0 t) 40 0 1 (0 : Int)) 40 0 2 = (fx_up S 40 0 0 t) 40 0 2 := if_neg (fun q => absurd q.2.2 (by decide))
  have w7 : (fx_up (fx_up S 40 0 0 t) 40 0 1 (0 : Int)) 40 0 13 = (fx_up S 40 0 0 t) 40 0 13 := if_neg (fun q => absurd q.2.2 (by decide))
  have w8 : (fx_up (fx_up S 40 0 0 t) 40 0 1 (0 : Int)) 40 0 14 = (fx_up S 40 0 0 t) 40 0 14 := if_neg (fun q => absurd q.2.2 (by decide))
  refine c_begin40 (w := (1 : Int)) (t := (3 : Int)) (p := (0 : Int)) (show 0 ≤ (1 : Int) ∧ (1 : Int) ≤ 5 by omega) (show 0 ≤ (0 : Int) ∧ (0 : Int) ≤ 7100 by omega) (show -2147483648 ≤ (3 : Int) ∧ (3 : Int) < 2147483648 by omega) (fun (S9 : fxS) ⟨(f10 : fxfr [(40, 2), (40, 3), (40, 4)] (fx_up (fx_up S 40 0 0 t) 40 0 1 (0 : Int)) S9), (q11 : S9 40 0 2 = (1 : Int))⟩ => ?_)
  have w12 : S9 40 0 0 = (fx_up (fx_up S 40 0 0 t) 40 0 1 (0 : Int)) 40 0 0 := f10 40 0 0 rfl
  have w13 : S9 40 0 13 = (fx_up (fx_up S 40 0 0 t) 40 0 1 (0 : Int)) 40 0 13 := f10 40 0 13 rfl
  have w14 : S9 40 0 14 = (fx_up (fx_up S 40 0 0 t) 40 0 1 (0 : Int)) 40 0 14 := f10 40 0 14 rfl
  exact hk S9 ⟨(fxfr_tr (fxfr_up (fxfr_up fxfr_rfl rfl) rfl) f10 rfl), by omega⟩
theorem c_beginUnmounting38 {l : Launch} {k : fxK} {S : fxS}   (hk : ∀ (S' : fxS) , (fxfr [(38, 2), (38, 3), (38, 4)] S S') → k none S') : fC l 208 [.inr (.inr (38, 0))] S k := by
  refine fxe_208 (Nat.le_of_ble_eq_true rfl) (fxz_208 400 ?_)
  refine c_begin38 (w := (2 : Int)) (t := (2 : Int)) (p := (0 : Int)) (show 0 ≤ (2 : Int) ∧ (2 : Int) ≤ 5 by omega) (show 0 ≤ (0 : Int) ∧ (0 : Int) ≤ 7100 by omega) (show -2147483648 ≤ (2 : Int) ∧ (2 : Int) < 2147483648 by omega) (fun (S1 : fxS) (f2 : fxfr [(38, 2), (38, 3), (38, 4)] S S1) => ?_)
  exact hk S1 (fxfr_tr fxfr_rfl f2 rfl)
theorem c_beginUnmounting40 {l : Launch} {k : fxK} {S : fxS}   (hk : ∀ (S' : fxS) , (fxfr [(40, 2), (40, 3), (40, 4)] S S' ∧ (S' 40 0 2 = 2)) → k none S') : fC l 208 [.inr (.inr (40, 0))] S k := by
  refine fxe_208 (Nat.le_of_ble_eq_true rfl) (fxz_208 400 ?_)
  refine c_begin40 (w := (2 : Int)) (t := (2 : Int)) (p := (0 : Int)) (show 0 ≤ (2 : Int) ∧ (2 : Int) ≤ 5 by omega) (show 0 ≤ (0 : Int) ∧ (0 : Int) ≤ 7100 by omega) (show -2147483648 ≤ (2 : Int) ∧ (2 : Int) < 2147483648 by omega) (fun (S1 : fxS) ⟨(f2 : fxfr [(40, 2), (40, 3), (40, 4)] S S1), (q3 : S1 40 0 2 = (2 : Int))⟩ => ?_)
  have w4 : S1 40 0 0 = S 40 0 0 := f2 40 0 0 rfl
  have w5 : S1 40 0 13 = S 40 0 13 := f2 40 0 13 rfl
  have w6 : S1 40 0 14 = S 40 0 14 := f2 40 0 14 rfl
  exact hk S1 ⟨(fxfr_tr fxfr_rfl f2 rfl), by omega⟩
theorem c_beginWinding38 {l : Launch} {k : fxK} {S : fxS} {p : Int} (p0 : 0 ≤ p ∧ p ≤ 7100) (hk : ∀ (S' : fxS) , (fxfr [(38, 2), (38, 3), (38, 4)] S S') → k none S') : fC l 193 [.inr (.inr (38, 0)), .inl p] S k := by
  refine fxe_193 (Nat.le_of_ble_eq_true rfl) (fxz_193 400 ?_)
  intro z1 (z1a : (0 : Int) ≤ z1) (z1b : z1 ≤ (7100 : Int)) (z1c : z1 = S 38 0 1)
  refine And.intro (show -2147483648 ≤ (p - z1) ∧ (p - z1) < 2147483648 by omega) ?_
  intro z2 z2a z2b z2c
  refine And.intro (show -2147483648 ≤ (z2 + (255 : Int)) ∧ (z2 + (255 : Int)) < 2147483648 by omega) ?_
  refine And.intro (show 0 ≤ (z2 + (255 : Int)) ∧ 0 < (256 : Int) by omega) ?_
  refine c_begin38 (w := (3 : Int)) (t := ((z2 + (255 : Int)) / (256 : Int))) (p := p) (show 0 ≤ (3 : Int) ∧ (3 : Int) ≤ 5 by omega) (show 0 ≤ p ∧ p ≤ 7100 by omega) (show -2147483648 ≤ ((z2 + (255 : Int)) / (256 : Int)) ∧ ((z2 + (255 : Int)) / (256 : Int)) < 2147483648 by omega) (fun (S3 : fxS) (f4 : fxfr [(38, 2), (38, 3), (38, 4)] S S3) => ?_)
  exact hk S3 (fxfr_tr fxfr_rfl f4 rfl)
theorem c_beginWinding40 {l : Launch} {k : fxK} {S : fxS} {p : Int} (p0 : 0 ≤ p ∧ p ≤ 7100) (hk : ∀ (S' : fxS) , (fxfr [(40, 2), (40, 3), (40, 4)] S S' ∧ (S' 40 0 2 = 3)) → k none S') : fC l 193 [.inr (.inr (40, 0)), .inl p] S k := by
  refine fxe_193 (Nat.le_of_ble_eq_true rfl) (fxz_193 400 ?_)
  intro z1 (z1a : (0 : Int) ≤ z1) (z1b : z1 ≤ (7100 : Int)) (z1c : z1 = S 40 0 1)
  refine And.intro (show -2147483648 ≤ (p - z1) ∧ (p - z1) < 2147483648 by omega) ?_
  intro z2 z2a z2b z2c
  refine And.intro (show -2147483648 ≤ (z2 + (255 : Int)) ∧ (z2 + (255 : Int)) < 2147483648 by omega) ?_
  refine And.intro (show 0 ≤ (z2 + (255 : Int)) ∧ 0 < (256 : Int) by omega) ?_
  refine c_begin40 (w := (3 : Int)) (t := ((z2 + (255 : Int)) / (256 : Int))) (p := p) (show 0 ≤ (3 : Int) ∧ (3 : Int) ≤ 5 by omega) (show 0 ≤ p ∧ p ≤ 7100 by omega) (show -2147483648 ≤ ((z2 + (255 : Int)) / (256 : Int)) ∧ ((z2 + (255 : Int)) / (256 : Int)) < 2147483648 by omega) (fun (S3 : fxS) ⟨(f4 : fxfr [(40, 2), (40, 3), (40, 4)] S S3), (q5 : S3 40 0 2 = (3 : Int))⟩ => ?_)
  have w6 : S3 40 0 0 = S 40 0 0 := f4 40 0 0 rfl
  have w7 : S3 40 0 13 = S 40 0 13 := f4 40 0 13 rfl
  have w8 : S3 40 0 14 = S 40 0 14 := f4 40 0 14 rfl
  exact hk S3 ⟨(fxfr_tr fxfr_rfl f4 rfl), by omega⟩
theorem c_spend38 {l : Launch} {k : fxK} {S : fxS}   (hk : ∀ (r : Int) (S' : fxS) , (fxfr [(38, 0), (38, 1), (38, 2), (38, 3)] S S' ∧ (r = 0 ∨ r = 1)) → k (some (.inl r)) S') : fC l 212 [.inr (.inr (38, 0))] S k := by
  refine fxe_212 (Nat.le_of_ble_eq_true rfl) (fxz_212 400 ?_)
  intro z1 (z1a : (0 : Int) ≤ z1) (z1b : z1 ≤ (5 : Int)) (z1c : z1 = S 38 0 2)
  refine And.intro (fun (h2 : (z1 ≠ (0 : Int) : Prop)) => ?_) (fun (h2 : (z1 = (0 : Int) : Prop)) => ?_)
  ·
    intro z3 (z3a : (-2147483648 : Int) ≤ z3) (z3b : z3 ≤ (2147483647 : Int)) (z3c : z3 = S 38 0 3)
    intro z4 (z4a : -2147483648 ≤ z4) (z4b : z4 < 2147483648) (z4c : -2147483648 ≤ (z3 - (1 : Int)) ∧ (z3 - (1 : Int)) < 2147483648 → z4 = (z3 - (1 : Int)))
    refine And.intro (show (-2147483648 : Int) ≤ z4 ∧ z4 ≤ (2147483647 : Int) by omega) ?_
    intro z5 (z5a : (-2147483648 : Int) ≤ z5) (z5b : z5 ≤ (2147483647 : Int)) (z5c : z5 = (fx_up S 38 0 3 z4) 38 0 3)
    refine And.intro (fun (h6 : (z5 ≤ (0 : Int) : Prop)) => ?_) (fun (h6 : ((0 : Int) < z5 : Prop)) => ?_)
    ·
      intro z7 (z7a : (0 : Int) ≤ z7) (z7b : z7 ≤ (5 : Int)) (z7c : z7 = (fx_up S 38 0 3 z4) 38 0 2)
      refine And.intro (by decide) ?_
      refine And.intro (show (-2147483648 : Int) ≤ (0 : Int) ∧ (0 : Int) ≤ (2147483647 : Int) by omega) ?_
      refine And.intro (show (0 : Int) ≤ (0 : Int) ∧ (0 : Int) ≤ (5 : Int) by omega) ?_
      intro z8 (z8a : (0 : Int) ≤ z8) (z8b : z8 ≤ (7100 : Int)) (z8c : z8 = (fx_up (fx_up (fx_up S 38 0 3 z4) 38 0 3 (0 : Int)) 38 0 2 (0 : Int)) 38 0 4)
      refine And.intro (show (0 : Int) ≤ z8 ∧ z8 ≤ (7100 : Int) by omega) ?_
      refine And.intro (fun (h9 : (z7 ≠ (2 : Int) : Prop)) => ?_) (fun (h9 : (z7 = (2 : Int) : Prop)) => ?_)
      ·
        refine And.intro (fun (h10 : (z7 = (4 : Int) : Prop)) => ?_) (fun (h10 : (z7 ≠ (4 : Int) : Prop)) => ?_)
        ·
          refine And.intro (show 0 ≤ (1 : Int) ∧ (1 : Int) ≤ 1 by omega) ?_
          exact hk (1 : Int) (fx_up (fx_up (fx_up (fx_up S 38 0 3 z4) 38 0 3 (0 : Int)) 38 0 2 (0 : Int)) 38 0 1 z8) ⟨(fxfr_up (fxfr_up (fxfr_up (fxfr_up fxfr_rfl rfl) rfl) rfl) rfl), by omega⟩
        ·
          refine And.intro (fun (h11 : (z7 ≠ (5 : Int) : Prop)) => ?_) (fun (h11 : (z7 = (5 : Int) : Prop)) => ?_)
          ·
            refine And.intro (show 0 ≤ (0 : Int) ∧ (0 : Int) ≤ 1 by omega) ?_
            exact hk (0 : Int) (fx_up (fx_up (fx_up (fx_up S 38 0 3 z4) 38 0 3 (0 : Int)) 38 0 2 (0 : Int)) 38 0 1 z8) ⟨(fxfr_up (fxfr_up (fxfr_up (fxfr_up fxfr_rfl rfl) rfl) rfl) rfl), by omega⟩
          ·
            refine And.intro (show 0 ≤ (1 : Int) ∧ (1 : Int) ≤ 1 by omega) ?_
            exact hk (1 : Int) (fx_up (fx_up (fx_up (fx_up S 38 0 3 z4) 38 0 3 (0 : Int)) 38 0 2 (0 : Int)) 38 0 1 z8) ⟨(fxfr_up (fxfr_up (fxfr_up (fxfr_up fxfr_rfl rfl) rfl) rfl) rfl), by omega⟩
      ·
        refine And.intro (show (-1 : Int) ≤ (-1 : Int) ∧ (-1 : Int) ≤ (5 : Int) by omega) ?_
        refine And.intro (fun (h12 : (z7 = (4 : Int) : Prop)) => ?_) (fun (h12 : (z7 ≠ (4 : Int) : Prop)) => ?_)
        ·
          refine And.intro (show 0 ≤ (1 : Int) ∧ (1 : Int) ≤ 1 by omega) ?_
          exact hk (1 : Int) (fx_up (fx_up (fx_up (fx_up (fx_up S 38 0 3 z4) 38 0 3 (0 : Int)) 38 0 2 (0 : Int)) 38 0 1 z8) 38 0 0 (-1 : Int)) ⟨(fxfr_up (fxfr_up (fxfr_up (fxfr_up (fxfr_up fxfr_rfl rfl) rfl) rfl) rfl) rfl), by omega⟩
        ·
          refine And.intro (fun (h13 : (z7 ≠ (5 : Int) : Prop)) => ?_) (fun (h13 : (z7 = (5 : Int) : Prop)) => ?_)
          ·
            refine And.intro (show 0 ≤ (0 : Int) ∧ (0 : Int) ≤ 1 by omega) ?_
            exact hk (0 : Int) (fx_up (fx_up (fx_up (fx_up (fx_up S 38 0 3 z4) 38 0 3 (0 : Int)) 38 0 2 (0 : Int)) 38 0 1 z8) 38 0 0 (-1 : Int)) ⟨(fxfr_up (fxfr_up (fxfr_up (fxfr_up (fxfr_up fxfr_rfl rfl) rfl) rfl) rfl) rfl), by omega⟩
          ·
            refine And.intro (show 0 ≤ (1 : Int) ∧ (1 : Int) ≤ 1 by omega) ?_
            exact hk (1 : Int) (fx_up (fx_up (fx_up (fx_up (fx_up S 38 0 3 z4) 38 0 3 (0 : Int)) 38 0 2 (0 : Int)) 38 0 1 z8) 38 0 0 (-1 : Int)) ⟨(fxfr_up (fxfr_up (fxfr_up (fxfr_up (fxfr_up fxfr_rfl rfl) rfl) rfl) rfl) rfl), by omega⟩
    ·
      refine And.intro (show 0 ≤ (0 : Int) ∧ (0 : Int) ≤ 1 by omega) ?_
      exact hk (0 : Int) (fx_up S 38 0 3 z4) ⟨(fxfr_up fxfr_rfl rfl), by omega⟩
  ·
    refine And.intro (show 0 ≤ (0 : Int) ∧ (0 : Int) ≤ 1 by omega) ?_
    exact hk (0 : Int) S ⟨fxfr_rfl, by omega⟩
theorem c_spend40 {l : Launch} {k : fxK} {S : fxS}  (p0 : ((S 40 0 2 = 4 ∨ S 40 0 2 = 5) → 0 ≤ S 40 0 0 ∧ (S 40 0 13 = 2 → 0 ≤ S 40 0 14))) (hk : ∀ (r : Int) (S' : fxS) , (fxfr [(40, 0), (40, 1), (40, 2), (40, 3)] S S' ∧ (0 ≤ r ∧ r ≤ 1 ∧ ((S' 40 0 2 = 4 ∨ S' 40 0 2 = 5) → 0 ≤ S' 40 0 0 ∧ (S' 40 0 13 = 2 → 0 ≤ S' 40 0 14)) ∧ (r = 1 → 0 ≤ S' 40 0 0 ∧ (S' 40 0 13 = 2 → 0 ≤ S' 40 0 14)))) → k (some (.inl r)) S') : fC l 212 [.inr (.inr (40, 0))] S k := by
  refine fxe_212 (Nat.le_of_ble_eq_true rfl) (fxz_212 400 ?_)
  intro z1 (z1a : (0 : Int) ≤ z1) (z1b : z1 ≤ (5 : Int)) (z1c : z1 = S 40 0 2)
  refine And.intro (fun (h2 : (z1 ≠ (0 : Int) : Prop)) => ?_) (fun (h2 : (z1 = (0 : Int) : Prop)) => ?_)
  ·
    intro z3 (z3a : (-2147483648 : Int) ≤ z3) (z3b : z3 ≤ (2147483647 : Int)) (z3c : z3 = S 40 0 3)
    intro z4 (z4a : -2147483648 ≤ z4) (z4b : z4 < 2147483648) (z4c : -2147483648 ≤ (z3 - (1 : Int)) ∧ (z3 - (1 : Int)) < 2147483648 → z4 = (z3 - (1 : Int)))
    refine And.intro (show (-2147483648 : Int) ≤ z4 ∧ z4 ≤ (2147483647 : Int) by omega) ?_
    have w5 : (fx_up S 40 0 3 z4) 40 0 0 = S 40 0 0 := if_neg (fun q => absurd q.2.2 (by decide))
    have w6 : (fx_up S 40 0 3 z4) 40 0 2 = S 40 0 2 := if_neg (fun q => absurd q.2.2 (by decide))
    have w7 : (fx_up S 40 0 3 z4) 40 0 13 = S 40 0 13 := if_neg (fun q => absurd q.2.2 (by decide))
    have w8 : (fx_up S 40 0 3 z4) 40 0 14 = S 40 0 14 := if_neg (fun q => absurd q.2.2 (by decide))
    intro z9 (z9a : (-2147483648 : Int) ≤ z9) (z9b : z9 ≤ (2147483647 : Int)) (z9c : z9 = (fx_up S 40 0 3 z4) 40 0 3)
    refine And.intro (fun (h10 : (z9 ≤ (0 : Int) : Prop)) => ?_) (fun (h10 : ((0 : Int) < z9 : Prop)) => ?_)
    ·
      intro z11 (z11a : (0 : Int) ≤ z11) (z11b : z11 ≤ (5 : Int)) (z11c : z11 = (fx_up S 40 0 3 z4) 40 0 2)
      refine And.intro (by decide) ?_
      refine And.intro (show (-2147483648 : Int) ≤ (0 : Int) ∧ (0 : Int) ≤ (2147483647 : Int) by omega) ?_
      have w12 : (fx_up (fx_up S 40 0 3 z4) 40 0 3 (0 : Int)) 40 0 0 = (fx_up S 40 0 3 z4) 40 0 0 := if_neg (fun q => absurd q.2.2 (by decide))
      have w13 : (fx_up (fx_up S 40 0 3 z4) 40 0 3 (0 : Int)) 40 0 2 = (fx_up S 40 0 3 z4) 40 0 2 := if_neg (fun q => absurd q.2.2 (by decide))
      have w14 : (fx_up (fx_up S 40 0 3 z4) 40 0 3 (0 : Int)) 40 0 13 = (fx_up S 40 0 3 z4) 40 0 13 := if_neg (fun q => absurd q.2.2 (by decide))
      have w15 : (fx_up (fx_up S 40 0 3 z4) 40 0 3 (0 : Int)) 40 0 14 = (fx_up S 40 0 3 z4) 40 0 14 := if_neg (fun q => absurd q.2.2 (by decide))
      refine And.intro (show (0 : Int) ≤ (0 : Int) ∧ (0 : Int) ≤ (5 : Int) by omega) ?_
      have w16 : (fx_up (fx_up (fx_up S 40 0 3 z4) 40 0 3 (0 : Int)) 40 0 2 (0 : Int)) 40 0 0 = (fx_up (fx_up S 40 0 3 z4) 40 0 3 (0 : Int)) 40 0 0 := if_neg (fun q => absurd q.2.2 (by decide))
      have w17 : (fx_up (fx_up (fx_up S 40 0 3 z4) 40 0 3 (0 : Int)) 40 0 2 (0 : Int)) 40 0 2 = (0 : Int) := fx_up_at _ _ _ _ _
      have w18 : (fx_up (fx_up (fx_up S 40 0 3 z4) 40 0 3 (0 : Int)) 40 0 2 (0 : Int)) 40 0 13 = (fx_up (fx_up S 40 0 3 z4) 40 0 3 (0 : Int)) 40 0 13 := if_neg (fun q => absurd q.2.2 (by decide))
      have w19 : (fx_up (fx_up (fx_up S 40 0 3 z4) 40 0 3 (0 : Int)) 40 0 2 (0 : Int)) 40 0 14 = (fx_up (fx_up S 40 0 3 z4) 40 0 3 (0 : Int)) 40 0 14 := if_neg (fun q => absurd q.2.2 (by decide))
      intro z20 (z20a : (0 : Int) ≤ z20) (z20b : z20 ≤ (7100 : Int)) (z20c : z20 = (fx_up (fx_up (fx_up S 40 0 3 z4) 40 0 3 (0 : Int)) 40 0 2 (0 : Int)) 40 0 4)
      refine And.intro (show (0 : Int) ≤ z20 ∧ z20 ≤ (7100 : Int) by omega) ?_
      have w21 : (fx_up (fx_up (fx_up (fx_up S 40 0 3 z4) 40 0 3 (0 : Int)) 40 0 2 (0 : Int)) 40 0 1 z20) 40 0 0 = (fx_up (fx_up (fx_up S 40 0 3 z4) 40 0 3 (0 : Int)) 40 0 2 (0 : Int)) 40 0 0 := if_neg (fun q => absurd q.2.2 (by decide))
      have w22 : (fx_up (fx_up (fx_up (fx_up S 40 0 3 z4) 40 0 3 (0 : Int)) 40 0 2 (0 : Int)) 40 0 1 z20) 40 0 2 = (fx_up (fx_up (fx_up S 40 0 3 z4) 40 0 3 (0 : Int)) 40 0 2 (0 : Int)) 40 0 2 := if_neg (fun q => absurd q.2.2 (by decide))
      have w23 : (fx_up (fx_up (fx_up (fx_up S 40 0 3 z4) 40 0 3 (0 : Int)) 40 0 2 (0 : Int)) 40 0 1 z20) 40 0 13 = (fx_up (fx_up (fx_up S 40 0 3 z4) 40 0 3 (0 : Int)) 40 0 2 (0 : Int)) 40 0 13 := if_neg (fun q => absurd q.2.2 (by decide))
      have w24 : (fx_up (fx_up (fx_up (fx_up S 40 0 3 z4) 40 0 3 (0 : Int)) 40 0 2 (0 : Int)) 40 0 1 z20) 40 0 14 = (fx_up (fx_up (fx_up S 40 0 3 z4) 40 0 3 (0 : Int)) 40 0 2 (0 : Int)) 40 0 14 := if_neg (fun q => absurd q.2.2 (by decide))
      refine And.intro (fun (h25 : (z11 ≠ (2 : Int) : Prop)) => ?_) (fun (h25 : (z11 = (2 : Int) : Prop)) => ?_)
      ·
        refine And.intro (fun (h26 : (z11 = (4 : Int) : Prop)) => ?_) (fun (h26 : (z11 ≠ (4 : Int) : Prop)) => ?_)
        ·
          refine And.intro (show 0 ≤ (1 : Int) ∧ (1 : Int) ≤ 1 by omega) ?_
          exact hk (1 : Int) (fx_up (fx_up (fx_up (fx_up S 40 0 3 z4) 40 0 3 (0 : Int)) 40 0 2 (0 : Int)) 40 0 1 z20) ⟨(fxfr_up (fxfr_up (fxfr_up (fxfr_up fxfr_rfl rfl) rfl) rfl) rfl), by omega⟩
        ·
          refine And.intro (fun (h27 : (z11 ≠ (5 : Int) : Prop)) => ?_) (fun (h27 : (z11 = (5 : Int) : Prop)) => ?_)
          ·
            refine And.intro (show 0 ≤ (0 : Int) ∧ (0 : Int) ≤ 1 by omega) ?_
            exact hk (0 : Int) (fx_up (fx_up (fx_up (fx_up S 40 0 3 z4) 40 0 3 (0 : Int)) 40 0 2 (0 : Int)) 40 0 1 z20) ⟨(fxfr_up (fxfr_up (fxfr_up (fxfr_up fxfr_rfl rfl) rfl) rfl) rfl), by omega⟩
          ·
            refine And.intro (show 0 ≤ (1 : Int) ∧ (1 : Int) ≤ 1 by omega) ?_
            exact hk (1 : Int) (fx_up (fx_up (fx_up (fx_up S 40 0 3 z4) 40 0 3 (0 : Int)) 40 0 2 (0 : Int)) 40 0 1 z20) ⟨(fxfr_up (fxfr_up (fxfr_up (fxfr_up fxfr_rfl rfl) rfl) rfl) rfl), by omega⟩
      ·
        refine And.intro (show (-1 : Int) ≤ (-1 : Int) ∧ (-1 : Int) ≤ (5 : Int) by omega) ?_
        have w28 : (fx_up (fx_up (fx_up (fx_up (fx_up S 40 0 3 z4) 40 0 3 (0 : Int)) 40 0 2 (0 : Int)) 40 0 1 z20) 40 0 0 (-1 : Int)) 40 0 0 = (-1 : Int) := fx_up_at _ _ _ _ _
        have w29 : (fx_up (fx_up (fx_up (fx_up (fx_up S 40 0 3 z4) 40 0 3 (0 : Int)) 40 0 2 (0 : Int)) 40 0 1 z20) 40 0 0 (-1 : Int)) 40 0 2 = (fx_up (fx_up (fx_up (fx_up S 40 0 3 z4) 40 0 3 (0 : Int)) 40 0 2 (0 : Int)) 40 0 1 z20) 40 0 2 := if_neg (fun q => absurd q.2.2 (by decide))
        have w30 : (fx_up (fx_up (fx_up (fx_up (fx_up S 40 0 3 z4) 40 0 3 (0 : Int)) 40 0 2 (0 : Int)) 40 0 1 z20) 40 0 0 (-1 : Int)) 40 0 13 = (fx_up (fx_up (fx_up (fx_up S 40 0 3 z4) 40 0 3 (0 : Int)) 40 0 2 (0 : Int)) 40 0 1 z20) 40 0 13 := if_neg (fun q => absurd q.2.2 (by decide))
        have w31 : (fx_up (fx_up (fx_up (fx_up (fx_up S 40 0 3 z4) 40 0 3 (0 : Int)) 40 0 2 (0 : Int)) 40 0 1 z20) 40 0 0 (-1 : Int)) 40 0 14 = (fx_up (fx_up (fx_up (fx_up S 40 0 3 z4) 40 0 3 (0 : Int)) 40 0 2 (0 : Int)) 40 0 1 z20) 40 0 14 := if_neg (fun q => absurd q.2.2 (by decide))
        refine And.intro (fun (h32 : (z11 = (4 : Int) : Prop)) => ?_) (fun (h32 : (z11 ≠ (4 : Int) : Prop)) => ?_)
        ·
          refine And.intro (show 0 ≤ (1 : Int) ∧ (1 : Int) ≤ 1 by omega) ?_
          exact hk (1 : Int) (fx_up (fx_up (fx_up (fx_up (fx_up S 40 0 3 z4) 40 0 3 (0 : Int)) 40 0 2 (0 : Int)) 40 0 1 z20) 40 0 0 (-1 : Int)) ⟨(fxfr_up (fxfr_up (fxfr_up (fxfr_up (fxfr_up fxfr_rfl rfl) rfl) rfl) rfl) rfl), by omega⟩
        ·
          refine And.intro (fun (h33 : (z11 ≠ (5 : Int) : Prop)) => ?_) (fun (h33 : (z11 = (5 : Int) : Prop)) => ?_)
          ·
            refine And.intro (show 0 ≤ (0 : Int) ∧ (0 : Int) ≤ 1 by omega) ?_
            exact hk (0 : Int) (fx_up (fx_up (fx_up (fx_up (fx_up S 40 0 3 z4) 40 0 3 (0 : Int)) 40 0 2 (0 : Int)) 40 0 1 z20) 40 0 0 (-1 : Int)) ⟨(fxfr_up (fxfr_up (fxfr_up (fxfr_up (fxfr_up fxfr_rfl rfl) rfl) rfl) rfl) rfl), by omega⟩
          ·
            refine And.intro (show 0 ≤ (1 : Int) ∧ (1 : Int) ≤ 1 by omega) ?_
            exact hk (1 : Int) (fx_up (fx_up (fx_up (fx_up (fx_up S 40 0 3 z4) 40 0 3 (0 : Int)) 40 0 2 (0 : Int)) 40 0 1 z20) 40 0 0 (-1 : Int)) ⟨(fxfr_up (fxfr_up (fxfr_up (fxfr_up (fxfr_up fxfr_rfl rfl) rfl) rfl) rfl) rfl), by omega⟩
    ·
      refine And.intro (show 0 ≤ (0 : Int) ∧ (0 : Int) ≤ 1 by omega) ?_
      exact hk (0 : Int) (fx_up S 40 0 3 z4) ⟨(fxfr_up fxfr_rfl rfl), by omega⟩
  ·
    refine And.intro (show 0 ≤ (0 : Int) ∧ (0 : Int) ≤ 1 by omega) ?_
    exact hk (0 : Int) S ⟨fxfr_rfl, by omega⟩
theorem c_Reader_beginReclaim {l : Launch} {k : fxK} {S : fxS} {t : Int} (p0 : 0 ≤ t ∧ t ≤ 5) (hk : ∀ (S' : fxS) , (fxfr [(38, 12), (38, 13), (38, 15)] S S') → k none S') : fC l 291 [.inr (.inr (38, 0)), .inl t] S k := by
  refine fxe_291 (Nat.le_of_ble_eq_true rfl) (fxz_291 400 ?_)
  refine And.intro (show (-1 : Int) ≤ t ∧ t ≤ (5 : Int) by omega) ?_
  refine And.intro (show (0 : Int) ≤ (8 : Int) ∧ (8 : Int) ≤ (7100 : Int) by omega) ?_
  refine And.intro (show (0 : Int) ≤ (0 : Int) ∧ (0 : Int) ≤ (1089 : Int) by omega) ?_
  exact hk (fx_up (fx_up (fx_up S 38 0 12 t) 38 0 13 (8 : Int)) 38 0 15 (0 : Int)) (fxfr_up (fxfr_up (fxfr_up fxfr_rfl rfl) rfl) rfl)
theorem c_Reader_counts {l : Launch} {k : fxK} {S : fxS} {i : Nat}  (hk : ∀ (r : Int) , (0 ≤ r ∧ r ≤ 1 ∧ (r = 1 → 1 ≤ S 4 i 7)) → k (some (.inl r)) S) : fC l 190 [.inr (.inr (38, 0)), .inr (.inr (4, i))] S k := by
  refine fxe_190 (Nat.le_of_ble_eq_true rfl) (fxz_190 400 ?_)
  intro z1 (z1a : (0 : Int) ≤ z1) (z1b : z1 ≤ (2 : Int)) (z1c : z1 = S 4 i 7)
  refine And.intro (fun (h2 : (z1 ≤ (0 : Int) : Prop)) => ?_) (fun (h2 : ((0 : Int) < z1 : Prop)) => ?_)
  ·
    refine And.intro (show 0 ≤ (0 : Int) ∧ (0 : Int) ≤ 1 by omega) ?_
    exact hk (0 : Int) (by omega)
  ·
    refine c_Node_blocks (i := i)  (fun (z3 : Int) (q4 : 0 ≤ z3 ∧ z3 ≤ 32 ∧ S 4 i 4 ≤ 32 * z3 ∧ 32 * z3 < S 4 i 4 + 32) => ?_)
    refine c_Stores_hasRoomFor (n := z3) (show -2147483648 ≤ z3 ∧ z3 < 2147483648 by omega) (fun (z5 : Int) (q6 : z5 = 0 ∨ z5 = 1) => ?_)
    refine And.intro (fun (h7 : (z5 = (0 : Int) : Prop)) => ?_) (fun (h7 : (z5 ≠ (0 : Int) : Prop)) => ?_)
    ·
      refine And.intro (show 0 ≤ (0 : Int) ∧ (0 : Int) ≤ 1 by omega) ?_
      exact hk (0 : Int) (by omega)
    ·
      refine And.intro (show 0 ≤ (1 : Int) ∧ (1 : Int) ≤ 1 by omega) ?_
      exact hk (1 : Int) (by omega)
theorem z_Reader_firstRecall {l : Launch} {k : fxK} {S : fxS}   (hk : ∀ (r : Int) , (-1 ≤ r ∧ r ≤ 5) → k (some (.inl r)) S) : ∀ m : Nat, (∀ (j : Int), (0 ≤ j ∧ j ≤ 60) → 61 - j ≤ (m : Int) → fZ l 191 k 2 [some (.inr (.inr (38, 0))), some (.inl j), none] [] S) := by
  intro m
  induction m with
  | zero =>
    intro j  i0 hmu
    exfalso
    omega
  | succ m ih =>
    intro j  i0 hmu
    refine fxz_191 400 ?_
    intro z1 (z1a : (0 : Int) ≤ z1) (z1b : z1 ≤ (60 : Int)) (z1c : z1 = S 24 0 4)
    refine And.intro (fun (h2 : (z1 ≤ j : Prop)) => ?_) (fun (h2 : (j < z1 : Prop)) => ?_)
    ·
      exact hk (-1 : Int) (by omega)
    ·
      refine And.intro (show 0 ≤ j ∧ j < 60 by omega) ?_
      intro z3 (z3a : (0 : Int) ≤ z3) (z3b : z3 ≤ (59 : Int)) (z3c : z3 = S 25 0 (j).toNat)
      refine And.intro (show 0 ≤ z3 ∧ z3 < 60 by omega) ?_
      refine And.intro (by decide) ?_
      refine c_Reader_counts (i := (z3).toNat)  (fun (z4 : Int) (q5 : 0 ≤ z4 ∧ z4 ≤ 1 ∧ (z4 = 1 → 1 ≤ S 4 (z3).toNat 7)) => ?_)
      refine And.intro (fun (h6 : (z4 = (0 : Int) : Prop)) => ?_) (fun (h6 : (z4 ≠ (0 : Int) : Prop)) => ?_)
      ·
        refine And.intro (by decide) (And.intro (show -2147483648 ≤ j + (1 : Int) ∧ j + (1 : Int) < 2147483648 by omega) ?_)
        exact ih (j + (1 : Int))  (by omega) (by omega)
      ·
        refine And.intro (show 0 ≤ (0 : Int) ∧ (0 : Int) < 2 by omega) ?_
        intro z8 (z8a : (0 : Int) ≤ z8) (z8b : z8 ≤ (5 : Int)) (z8c : z8 = S 5 (z3).toNat ((0 : Int)).toNat)
        exact hk z8 (by omega)
theorem c_Reader_firstRecall {l : Launch} {k : fxK} {S : fxS}   (hk : ∀ (r : Int) , (-1 ≤ r ∧ r ≤ 5) → k (some (.inl r)) S) : fC l 191 [.inr (.inr (38, 0))] S k := by
  refine fxe_191 (Nat.le_of_ble_eq_true rfl) (fxz_191 400 ?_)
  refine And.intro (by decide) ?_
  exact (z_Reader_firstRecall  hk (61 - (0 : Int)).toNat) (0 : Int)  (by omega) (by omega)
theorem z_Reader_nearestRecall {l : Launch} {k : fxK} {S : fxS}   (hk : ∀ (r : Int) , (-1 ≤ r ∧ r < 60) → k (some (.inl r)) S) : ∀ m : Nat, (∀ (b w j : Int), (-1 ≤ b ∧ b < 60) → (0 ≤ w ∧ w ≤ 20000) → (0 ≤ j ∧ j ≤ 60) → 61 - j ≤ (m : Int) → fZ l 192 k 6 [some (.inr (.inr (38, 0))), some (.inl b), some (.inl w), some (.inl j), none, none, none, none] [] S) := by
  intro m
  induction m with
  | zero =>
    intro b w j  i0 i1 i2 hmu
    exfalso
    omega
  | succ m ih =>
    intro b w j  i0 i1 i2 hmu
    refine fxz_192 400 ?_
    intro z1 (z1a : (0 : Int) ≤ z1) (z1b : z1 ≤ (60 : Int)) (z1c : z1 = S 24 0 4)
    refine And.intro (fun (h2 : (z1 ≤ j : Prop)) => ?_) (fun (h2 : (j < z1 : Prop)) => ?_)
    ·
      exact hk b (by omega)
    ·
      refine And.intro (show 0 ≤ j ∧ j < 60 by omega) ?_
      intro z3 (z3a : (0 : Int) ≤ z3) (z3b : z3 ≤ (59 : Int)) (z3c : z3 = S 25 0 (j).toNat)
      refine And.intro (by decide) ?_
      refine And.intro (show 0 ≤ z3 ∧ z3 < 60 by omega) ?_
      refine And.intro (by decide) ?_
      refine c_Reader_counts (i := (z3).toNat)  (fun (z4 : Int) (q5 : 0 ≤ z4 ∧ z4 ≤ 1 ∧ (z4 = 1 → 1 ≤ S 4 (z3).toNat 7)) => ?_)
      refine And.intro (fun (h6 : (z4 = (0 : Int) : Prop)) => ?_) (fun (h6 : (z4 ≠ (0 : Int) : Prop)) => ?_)
      ·
        refine And.intro (by decide) (And.intro (show -2147483648 ≤ j + (1 : Int) ∧ j + (1 : Int) < 2147483648 by omega) ?_)
        exact ih b w (j + (1 : Int))  (by omega) (by omega) (by omega) (by omega)
      ·
        refine And.intro (show 0 ≤ (0 : Int) ∧ (0 : Int) < 2 by omega) ?_
        intro z8 (z8a : (0 : Int) ≤ z8) (z8b : z8 ≤ (5 : Int)) (z8c : z8 = S 5 (z3).toNat ((0 : Int)).toNat)
        intro z9 (z9a : (-1 : Int) ≤ z9) (z9b : z9 ≤ (5 : Int)) (z9c : z9 = S 38 0 0)
        refine And.intro (fun (h10 : (z8 = z9 : Prop)) => ?_) (fun (h10 : (z8 ≠ z9 : Prop)) => ?_)
        ·
          refine And.intro (show 0 ≤ (0 : Int) ∧ (0 : Int) < 2 by omega) ?_
          intro z11 (z11a : (0 : Int) ≤ z11) (z11b : z11 ≤ (6000 : Int)) (z11c : z11 = S 6 (z3).toNat ((0 : Int)).toNat)
          refine And.intro (by decide) ?_
          intro z12 (z12a : (0 : Int) ≤ z12) (z12b : z12 ≤ (7100 : Int)) (z12c : z12 = S 38 0 1)
          refine And.intro (fun (h13 : (z11 < z12 : Prop)) => ?_) (fun (h13 : (z12 ≤ z11 : Prop)) => ?_)
          ·
            refine And.intro (show -2147483648 ≤ (z11 + (12000 : Int)) ∧ (z11 + (12000 : Int)) < 2147483648 by omega) ?_
            refine And.intro (by decide) ?_
            refine And.intro (fun (h14 : (b < (0 : Int) : Prop)) => ?_) (fun (h14 : ((0 : Int) ≤ b : Prop)) => ?_)
            ·
              refine And.intro (by decide) ?_
              refine And.intro (by decide) ?_
              refine And.intro (by decide) (And.intro (show -2147483648 ≤ j + (1 : Int) ∧ j + (1 : Int) < 2147483648 by omega) ?_)
              exact ih z3 (z11 + (12000 : Int)) (j + (1 : Int))  (by omega) (by omega) (by omega) (by omega)
            ·
              refine And.intro (fun (h16 : (w ≤ (z11 + (12000 : Int)) : Prop)) => ?_) (fun (h16 : ((z11 + (12000 : Int)) < w : Prop)) => ?_)
              ·
                refine And.intro (by decide) (And.intro (show -2147483648 ≤ j + (1 : Int) ∧ j + (1 : Int) < 2147483648 by omega) ?_)
                exact ih b w (j + (1 : Int))  (by omega) (by omega) (by omega) (by omega)
              ·
                refine And.intro (by decide) ?_
                refine And.intro (by decide) ?_
                refine And.intro (by decide) (And.intro (show -2147483648 ≤ j + (1 : Int) ∧ j + (1 : Int) < 2147483648 by omega) ?_)
                exact ih z3 (z11 + (12000 : Int)) (j + (1 : Int))  (by omega) (by omega) (by omega) (by omega)
          ·
            refine And.intro (by decide) ?_
            refine And.intro (fun (h19 : (b < (0 : Int) : Prop)) => ?_) (fun (h19 : ((0 : Int) ≤ b : Prop)) => ?_)
            ·
              refine And.intro (by decide) ?_
              refine And.intro (by decide) ?_
              refine And.intro (by decide) (And.intro (show -2147483648 ≤ j + (1 : Int) ∧ j + (1 : Int) < 2147483648 by omega) ?_)
              exact ih z3 z11 (j + (1 : Int))  (by omega) (by omega) (by omega) (by omega)
            ·
              refine And.intro (fun (h21 : (w ≤ z11 : Prop)) => ?_) (fun (h21 : (z11 < w : Prop)) => ?_)
              ·
                refine And.intro (by decide) (And.intro (show -2147483648 ≤ j + (1 : Int) ∧ j + (1 : Int) < 2147483648 by omega) ?_)
                exact ih b w (j + (1 : Int))  (by omega) (by omega) (by omega) (by omega)
              ·
                refine And.intro (by decide) ?_
                refine And.intro (by decide) ?_
                refine And.intro (by decide) (And.intro (show -2147483648 ≤ j + (1 : Int) ∧ j + (1 : Int) < 2147483648 by omega) ?_)
                exact ih z3 z11 (j + (1 : Int))  (by omega) (by omega) (by omega) (by omega)
        ·
          refine And.intro (by decide) (And.intro (show -2147483648 ≤ j + (1 : Int) ∧ j + (1 : Int) < 2147483648 by omega) ?_)
          exact ih b w (j + (1 : Int))  (by omega) (by omega) (by omega) (by omega)
theorem c_Reader_nearestRecall {l : Launch} {k : fxK} {S : fxS}   (hk : ∀ (r : Int) , (-1 ≤ r ∧ r < 60) → k (some (.inl r)) S) : fC l 192 [.inr (.inr (38, 0))] S k := by
  refine fxe_192 (Nat.le_of_ble_eq_true rfl) (fxz_192 400 ?_)
  refine And.intro (by decide) ?_
  refine And.intro (by decide) ?_
  refine And.intro (by decide) ?_
  exact (z_Reader_nearestRecall  hk (61 - (0 : Int)).toNat) (-1 : Int) (0 : Int) (0 : Int)  (by omega) (by omega) (by omega) (by omega)
theorem c_Reader_beginReading {l : Launch} {k : fxK} {S : fxS} {p : Int} {z : Int} (p0 : 0 ≤ p ∧ p ≤ 6000) (p1 : 0 ≤ z ∧ z ≤ 1024) (hk : ∀ (S' : fxS) , (fxfr [(38, 2), (38, 3), (38, 4), (38, 10)] S S') → k none S') : fC l 194 [.inr (.inr (38, 0)), .inl p, .inl z] S k := by
  refine fxe_194 (Nat.le_of_ble_eq_true rfl) (fxz_194 400 ?_)
  refine And.intro (show (0 : Int) ≤ p ∧ p ≤ (6000 : Int) by omega) ?_
  refine And.intro (show -2147483648 ≤ (z + (63 : Int)) ∧ (z + (63 : Int)) < 2147483648 by omega) ?_
  refine And.intro (show 0 ≤ (z + (63 : Int)) ∧ 0 < (64 : Int) by omega) ?_
  refine And.intro (show -2147483648 ≤ ((1 : Int) + ((z + (63 : Int)) / (64 : Int))) ∧ ((1 : Int) + ((z + (63 : Int)) / (64 : Int))) < 2147483648 by omega) ?_
  refine And.intro (show -2147483648 ≤ (p + (25 : Int)) ∧ (p + (25 : Int)) < 2147483648 by omega) ?_
  refine And.intro (show -2147483648 ≤ ((p + (25 : Int)) + z) ∧ ((p + (25 : Int)) + z) < 2147483648 by omega) ?_
  refine c_begin38 (w := (4 : Int)) (t := ((1 : Int) + ((z + (63 : Int)) / (64 : Int)))) (p := ((p + (25 : Int)) + z)) (show 0 ≤ (4 : Int) ∧ (4 : Int) ≤ 5 by omega) (show 0 ≤ ((p + (25 : Int)) + z) ∧ ((p + (25 : Int)) + z) ≤ 7100 by omega) (show -2147483648 ≤ ((1 : Int) + ((z + (63 : Int)) / (64 : Int))) ∧ ((1 : Int) + ((z + (63 : Int)) / (64 : Int))) < 2147483648 by omega) (fun (S1 : fxS) (f2 : fxfr [(38, 2), (38, 3), (38, 4)] (fx_up S 38 0 10 p) S1) => ?_)
  exact hk S1 (fxfr_tr (fxfr_up fxfr_rfl rfl) f2 rfl)
theorem c_Reader_goOnRecalling {l : Launch} {k : fxK} {S : fxS} {n : Int} (p0 : 0 ≤ n ∧ n < 60) (hk : ∀ (S' : fxS) , (fxfr [(38, 2), (38, 3), (38, 4), (38, 8), (38, 9), (38, 10)] S S') → k none S') : fC l 195 [.inr (.inr (38, 0)), .inl n] S k := by
  refine fxe_195 (Nat.le_of_ble_eq_true rfl) (fxz_195 400 ?_)
  refine And.intro (show 0 ≤ n ∧ n < 60 by omega) ?_
  refine And.intro (by decide) ?_
  refine And.intro (show 0 ≤ (0 : Int) ∧ (0 : Int) < 2 by omega) ?_
  intro z1 (z1a : (0 : Int) ≤ z1) (z1b : z1 ≤ (6000 : Int)) (z1c : z1 = S 6 (n).toNat ((0 : Int)).toNat)
  refine And.intro (by decide) ?_
  intro z2 (z2a : (0 : Int) ≤ z2) (z2b : z2 ≤ (7100 : Int)) (z2c : z2 = S 38 0 1)
  refine And.intro (fun (h3 : (z2 = z1 : Prop)) => ?_) (fun (h3 : (z2 ≠ z1 : Prop)) => ?_)
  ·
    refine And.intro (show (-1 : Int) ≤ n ∧ n ≤ (59 : Int) by omega) ?_
    intro z4 (z4a : (-2147483648 : Int) ≤ z4) (z4b : z4 ≤ (2147483647 : Int)) (z4c : z4 = (fx_up S 38 0 8 n) 4 (n).toNat 3)
    refine And.intro (show (-2147483648 : Int) ≤ z4 ∧ z4 ≤ (2147483647 : Int) by omega) ?_
    intro z5 (z5a : (0 : Int) ≤ z5) (z5b : z5 ≤ (1024 : Int)) (z5c : z5 = (fx_up (fx_up S 38 0 8 n) 38 0 9 z4) 4 (n).toNat 4)
    refine c_Reader_beginReading (p := z1) (z := z5) (show 0 ≤ z1 ∧ z1 ≤ 6000 by omega) (show 0 ≤ z5 ∧ z5 ≤ 1024 by omega) (fun (S6 : fxS) (f7 : fxfr [(38, 2), (38, 3), (38, 4), (38, 10)] (fx_up (fx_up S 38 0 8 n) 38 0 9 z4) S6) => ?_)
    exact hk S6 (fxfr_tr (fxfr_up (fxfr_up fxfr_rfl rfl) rfl) f7 rfl)
  ·
    refine c_beginWinding38 (p := z1) (show 0 ≤ z1 ∧ z1 ≤ 7100 by omega) (fun (S8 : fxS) (f9 : fxfr [(38, 2), (38, 3), (38, 4)] S S8) => ?_)
    exact hk S8 (fxfr_tr fxfr_rfl f9 rfl)
theorem c_Reader_changeTape {l : Launch} {k : fxK} {S : fxS} {t : Int} {w : Int} (p0 : -1 ≤ t ∧ t ≤ 5) (p1 : -2147483648 ≤ w ∧ w < 2147483648) (hk : ∀ (S' : fxS) , (fxfr [(38, 0), (38, 1), (38, 2), (38, 3), (38, 4), (38, 7)] S S') → k none S') : fC l 210 [.inr (.inr (38, 0)), .inl t, .inl w] S k := by
  refine fxe_210 (Nat.le_of_ble_eq_true rfl) (fxz_210 400 ?_)
  refine And.intro (fun (h1 : ((0 : Int) ≤ t : Prop)) => ?_) (fun (h1 : (t < (0 : Int) : Prop)) => ?_)
  ·
    intro z2 (z2a : (-1 : Int) ≤ z2) (z2b : z2 ≤ (5 : Int)) (z2c : z2 = S 38 0 0)
    refine And.intro (fun (h3 : (z2 < (0 : Int) : Prop)) => ?_) (fun (h3 : ((0 : Int) ≤ z2 : Prop)) => ?_)
    ·
      refine And.intro (fun (h4 : (t ≠ w : Prop)) => ?_) (fun (h4 : (t = w : Prop)) => ?_)
      ·
        refine c_beginMounting38 (t := t) (show 0 ≤ t ∧ t ≤ 5 by omega) (fun (S5 : fxS) (f6 : fxfr [(38, 0), (38, 1), (38, 2), (38, 3), (38, 4)] S S5) => ?_)
        exact hk S5 (fxfr_tr fxfr_rfl f6 rfl)
      ·
        refine And.intro (show (-1 : Int) ≤ t ∧ t ≤ (5 : Int) by omega) ?_
        exact hk (fx_up S 38 0 7 t) (fxfr_up fxfr_rfl rfl)
    ·
      refine c_beginUnmounting38   (fun (S7 : fxS) (f8 : fxfr [(38, 2), (38, 3), (38, 4)] S S7) => ?_)
      exact hk S7 (fxfr_tr fxfr_rfl f8 rfl)
  ·
    intro z9 (z9a : (-1 : Int) ≤ z9) (z9b : z9 ≤ (5 : Int)) (z9c : z9 = S 38 0 0)
    refine And.intro (fun (h10 : (z9 < (0 : Int) : Prop)) => ?_) (fun (h10 : ((0 : Int) ≤ z9 : Prop)) => ?_)
    ·
      exact hk S fxfr_rfl
    ·
      intro z11 (z11a : (-1 : Int) ≤ z11) (z11b : z11 ≤ (5 : Int)) (z11c : z11 = S 38 0 0)
      intro z12 (z12a : (-1 : Int) ≤ z12) (z12b : z12 ≤ (5 : Int)) (z12c : z12 = S 38 0 12)
      refine And.intro (fun (h13 : (z11 = z12 : Prop)) => ?_) (fun (h13 : (z11 ≠ z12 : Prop)) => ?_)
      ·
        exact hk S fxfr_rfl
      ·
        refine c_beginUnmounting38   (fun (S14 : fxS) (f15 : fxfr [(38, 2), (38, 3), (38, 4)] S S14) => ?_)
        exact hk S14 (fxfr_tr fxfr_rfl f15 rfl)
theorem c_Writer_isWriting {l : Launch} {k : fxK} {S : fxS} {d : Int} (p0 : -2147483648 ≤ d ∧ d < 2147483648) (hk : ∀ (r : Int) , (r = 0 ∨ r = 1) → k (some (.inl r)) S) : fC l 50 [.inr (.inr (40, 0)), .inl d] S k := by
  refine fxe_50 (Nat.le_of_ble_eq_true rfl) (fxz_50 400 ?_)
  intro z1 (z1a : (0 : Int) ≤ z1) (z1b : z1 ≤ (5 : Int)) (z1c : z1 = S 40 0 2)
  refine And.intro (fun (h2 : (z1 ≠ (5 : Int) : Prop)) => ?_) (fun (h2 : (z1 = (5 : Int) : Prop)) => ?_)
  ·
    refine And.intro (show 0 ≤ (0 : Int) ∧ (0 : Int) ≤ 1 by omega) ?_
    exact hk (0 : Int) (by omega)
  ·
    intro z3 (z3a : (-2147483648 : Int) ≤ z3) (z3b : z3 ≤ (2147483647 : Int)) (z3c : z3 = S 40 0 15)
    refine And.intro (fun (h4 : (z3 ≠ d : Prop)) => ?_) (fun (h4 : (z3 = d : Prop)) => ?_)
    ·
      refine And.intro (show 0 ≤ (0 : Int) ∧ (0 : Int) ≤ 1 by omega) ?_
      exact hk (0 : Int) (by omega)
    ·
      refine And.intro (show 0 ≤ (1 : Int) ∧ (1 : Int) ≤ 1 by omega) ?_
      exact hk (1 : Int) (by omega)
theorem z_Writer_isQueued {l : Launch} {k : fxK} {S : fxS} {n : Int} (p0 : 0 ≤ n ∧ n < 60) (hk : ∀ (r : Int) , (r = 0 ∨ r = 1) → k (some (.inl r)) S) : ∀ m : Nat, (∀ (j : Int), (0 ≤ j ∧ j ≤ 20) → 21 - j ≤ (m : Int) → fZ l 250 k 2 [some (.inr (.inr (40, 0))), some (.inl n), some (.inl j)] [] S) := by
  intro m
  induction m with
  | zero =>
    intro j  i0 hmu
    exfalso
    omega
  | succ m ih =>
    intro j  i0 hmu
    refine fxz_250 400 ?_
    intro z1 (z1a : (0 : Int) ≤ z1) (z1b : z1 ≤ (20 : Int)) (z1c : z1 = S 40 0 10)
    refine And.intro (fun (h2 : (z1 ≤ j : Prop)) => ?_) (fun (h2 : (j < z1 : Prop)) => ?_)
    ·
      refine And.intro (show 0 ≤ (0 : Int) ∧ (0 : Int) ≤ 1 by omega) ?_
      exact hk (0 : Int) (by omega)
    ·
      refine And.intro (show 0 ≤ j ∧ j < 20 by omega) ?_
      intro z3 (z3a : (0 : Int) ≤ z3) (z3b : z3 ≤ (59 : Int)) (z3c : z3 = S 41 0 (j).toNat)
      refine And.intro (fun (h4 : (z3 ≠ n : Prop)) => ?_) (fun (h4 : (z3 = n : Prop)) => ?_)
      ·
        refine And.intro (by decide) (And.intro (show -2147483648 ≤ j + (1 : Int) ∧ j + (1 : Int) < 2147483648 by omega) ?_)
        exact ih (j + (1 : Int))  (by omega) (by omega)
      ·
        refine And.intro (show 0 ≤ j ∧ j < 20 by omega) ?_
        intro z6 (z6a : (-2147483648 : Int) ≤ z6) (z6b : z6 ≤ (2147483647 : Int)) (z6c : z6 = S 42 0 (j).toNat)
        refine And.intro (show 0 ≤ n ∧ n < 60 by omega) ?_
        intro z7 (z7a : (-2147483648 : Int) ≤ z7) (z7b : z7 ≤ (2147483647 : Int)) (z7c : z7 = S 4 (n).toNat 3)
        refine And.intro (fun (h8 : (z6 ≠ z7 : Prop)) => ?_) (fun (h8 : (z6 = z7 : Prop)) => ?_)
        ·
          refine And.intro (by decide) (And.intro (show -2147483648 ≤ j + (1 : Int) ∧ j + (1 : Int) < 2147483648 by omega) ?_)
          exact ih (j + (1 : Int))  (by omega) (by omega)
        ·
          refine And.intro (show 0 ≤ (1 : Int) ∧ (1 : Int) ≤ 1 by omega) ?_
          exact hk (1 : Int) (by omega)
theorem c_Writer_isQueued {l : Launch} {k : fxK} {S : fxS} {n : Int} (p0 : 0 ≤ n ∧ n < 60) (hk : ∀ (r : Int) , (r = 0 ∨ r = 1) → k (some (.inl r)) S) : fC l 250 [.inr (.inr (40, 0)), .inl n] S k := by
  refine fxe_250 (Nat.le_of_ble_eq_true rfl) (fxz_250 400 ?_)
  refine And.intro (by decide) ?_
  exact (z_Writer_isQueued p0 hk (21 - (0 : Int)).toNat) (0 : Int)  (by omega) (by omega)
theorem c_Writer_enqueue {l : Launch} {k : fxK} {S : fxS} {n : Int} (p0 : 0 ≤ n ∧ n < 60) (hk : ∀ (S' : fxS) , (fxfr [(40, 10), (41, 9999), (42, 9999)] S S') → k none S') : fC l 251 [.inr (.inr (40, 0)), .inl n] S k := by
  refine fxe_251 (Nat.le_of_ble_eq_true rfl) (fxz_251 400 ?_)
  intro z1 (z1a : (0 : Int) ≤ z1) (z1b : z1 ≤ (20 : Int)) (z1c : z1 = S 40 0 10)
  refine And.intro (fun (h2 : (z1 < (20 : Int) : Prop)) => ?_) (fun (h2 : ((20 : Int) ≤ z1 : Prop)) => ?_)
  ·
    intro z3 (z3a : (0 : Int) ≤ z3) (z3b : z3 ≤ (20 : Int)) (z3c : z3 = S 40 0 10)
    refine And.intro (show 0 ≤ z3 ∧ z3 < 20 by omega) ?_
    refine And.intro (show (0 : Int) ≤ n ∧ n ≤ (59 : Int) by omega) ?_
    have w4 : (fx_up S 41 0 (z3).toNat n) 40 0 10 = S 40 0 10 := rfl
    intro z5 (z5a : (0 : Int) ≤ z5) (z5b : z5 ≤ (20 : Int)) (z5c : z5 = (fx_up S 41 0 (z3).toNat n) 40 0 10)
    refine And.intro (show 0 ≤ n ∧ n < 60 by omega) ?_
    intro z6 (z6a : (-2147483648 : Int) ≤ z6) (z6b : z6 ≤ (2147483647 : Int)) (z6c : z6 = (fx_up S 41 0 (z3).toNat n) 4 (n).toNat 3)
    refine And.intro (show 0 ≤ z5 ∧ z5 < 20 by omega) ?_
    refine And.intro (show (-2147483648 : Int) ≤ z6 ∧ z6 ≤ (2147483647 : Int) by omega) ?_
    have w7 : (fx_up (fx_up S 41 0 (z3).toNat n) 42 0 (z5).toNat z6) 40 0 10 = (fx_up S 41 0 (z3).toNat n) 40 0 10 := rfl
    intro z8 (z8a : (0 : Int) ≤ z8) (z8b : z8 ≤ (20 : Int)) (z8c : z8 = (fx_up (fx_up S 41 0 (z3).toNat n) 42 0 (z5).toNat z6) 40 0 10)
    refine And.intro (show -2147483648 ≤ (z8 + (1 : Int)) ∧ (z8 + (1 : Int)) < 2147483648 by omega) ?_
    refine And.intro (show (0 : Int) ≤ (z8 + (1 : Int)) ∧ (z8 + (1 : Int)) ≤ (20 : Int) by omega) ?_
    have w9 : (fx_up (fx_up (fx_up S 41 0 (z3).toNat n) 42 0 (z5).toNat z6) 40 0 10 (z8 + (1 : Int))) 40 0 10 = (z8 + (1 : Int)) := fx_up_at _ _ _ _ _
    exact hk (fx_up (fx_up (fx_up S 41 0 (z3).toNat n) 42 0 (z5).toNat z6) 40 0 10 (z8 + (1 : Int))) (fxfr_up (fxfr_up (fxfr_up fxfr_rfl rfl) rfl) rfl)
  ·
    exact hk S fxfr_rfl
theorem z_Writer_dropFinished {l : Launch} {k : fxK} {S : fxS}   (hk : ∀ (S' : fxS) , (fxfr [(40, 10), (41, 9999), (42, 9999)] S S') → k none S') : ∀ m : Nat, (∀ (q j : Int) (S1 : fxS), (fxfr [(40, 10), (41, 9999), (42, 9999)] S S1) → (0 ≤ q ∧ q ≤ j) → (0 ≤ j ∧ j ≤ 20) → 21 - j ≤ (m : Int) → fZ l 218 k 4 [some (.inr (.inr (40, 0))), some (.inl q), some (.inl j), none, none] [] S1) := by
  intro m
  induction m with
  | zero =>
    intro q j S1 hf i0 i1 hmu
    exfalso
    omega
  | succ m ih =>
    intro q j S1 hf i0 i1 hmu
    refine fxz_218 400 ?_
    intro z1 (z1a : (0 : Int) ≤ z1) (z1b : z1 ≤ (20 : Int)) (z1c : z1 = S1 40 0 10)
    refine And.intro (fun (h2 : (z1 ≤ j : Prop)) => ?_) (fun (h2 : (j < z1 : Prop)) => ?_)
    ·
      refine And.intro (show (0 : Int) ≤ q ∧ q ≤ (20 : Int) by omega) ?_
      exact hk (fx_up S1 40 0 10 q) (fxfr_up hf rfl)
    ·
      refine And.intro (show 0 ≤ j ∧ j < 20 by omega) ?_
      intro z3 (z3a : (0 : Int) ≤ z3) (z3b : z3 ≤ (59 : Int)) (z3c : z3 = S1 41 0 (j).toNat)
      refine And.intro (show 0 ≤ z3 ∧ z3 < 60 by omega) ?_
      refine And.intro (by decide) ?_
      intro z4 (z4a : (0 : Int) ≤ z4) (z4b : z4 ≤ (2 : Int)) (z4c : z4 = S1 4 (z3).toNat 0)
      refine And.intro (fun (h5 : (z4 ≠ (2 : Int) : Prop)) => ?_) (fun (h5 : (z4 = (2 : Int) : Prop)) => ?_)
      ·
        refine And.intro (by decide) ?_
        refine And.intro (fun _ => ?_) (fun h => absurd h (by decide))
        refine And.intro (by decide) (And.intro (show -2147483648 ≤ j + (1 : Int) ∧ j + (1 : Int) < 2147483648 by omega) ?_)
        exact ih q (j + (1 : Int)) S1 hf (by omega) (by omega) (by omega)
      ·
        intro z7 (z7a : (-2147483648 : Int) ≤ z7) (z7b : z7 ≤ (2147483647 : Int)) (z7c : z7 = S1 4 (z3).toNat 3)
        refine And.intro (show 0 ≤ j ∧ j < 20 by omega) ?_
        intro z8 (z8a : (-2147483648 : Int) ≤ z8) (z8b : z8 ≤ (2147483647 : Int)) (z8c : z8 = S1 42 0 (j).toNat)
        refine And.intro (fun (h9 : (z7 ≠ z8 : Prop)) => ?_) (fun (h9 : (z7 = z8 : Prop)) => ?_)
        ·
          refine And.intro (by decide) ?_
          refine And.intro (fun _ => ?_) (fun h => absurd h (by decide))
          refine And.intro (by decide) (And.intro (show -2147483648 ≤ j + (1 : Int) ∧ j + (1 : Int) < 2147483648 by omega) ?_)
          exact ih q (j + (1 : Int)) S1 hf (by omega) (by omega) (by omega)
        ·
          refine And.intro (by decide) ?_
          refine And.intro (fun h => absurd h (by decide)) (fun _ => ?_)
          intro z11 (z11a : (0 : Int) ≤ z11) (z11b : z11 ≤ (1024 : Int)) (z11c : z11 = S1 4 (z3).toNat 4)
          refine And.intro (fun (h12 : (z11 ≤ (0 : Int) : Prop)) => ?_) (fun (h12 : ((0 : Int) < z11 : Prop)) => ?_)
          ·
            refine And.intro (by decide) (And.intro (show -2147483648 ≤ j + (1 : Int) ∧ j + (1 : Int) < 2147483648 by omega) ?_)
            exact ih q (j + (1 : Int)) S1 hf (by omega) (by omega) (by omega)
          ·
            refine c_Node_isStub (i := (z3).toNat)  (fun (z14 : Int) (q15 : z14 = 0 ∨ z14 = 1) => ?_)
            refine And.intro (fun (h16 : (z14 ≠ (0 : Int) : Prop)) => ?_) (fun (h16 : (z14 = (0 : Int) : Prop)) => ?_)
            ·
              refine And.intro (by decide) (And.intro (show -2147483648 ≤ j + (1 : Int) ∧ j + (1 : Int) < 2147483648 by omega) ?_)
              exact ih q (j + (1 : Int)) S1 hf (by omega) (by omega) (by omega)
            ·
              refine c_Tree_hasItsCopies (j := (z3).toNat)  (fun (z18 : Int) (q19 : z18 = 0 ∨ z18 = 1) => ?_)
              refine And.intro (fun (h20 : (z18 ≠ (0 : Int) : Prop)) => ?_) (fun (h20 : (z18 = (0 : Int) : Prop)) => ?_)
              ·
                refine And.intro (by decide) (And.intro (show -2147483648 ≤ j + (1 : Int) ∧ j + (1 : Int) < 2147483648 by omega) ?_)
                exact ih q (j + (1 : Int)) S1 hf (by omega) (by omega) (by omega)
              ·
                refine And.intro (show 0 ≤ j ∧ j < 20 by omega) ?_
                intro z22 (z22a : (0 : Int) ≤ z22) (z22b : z22 ≤ (59 : Int)) (z22c : z22 = S1 41 0 (j).toNat)
                refine And.intro (show 0 ≤ q ∧ q < 20 by omega) ?_
                refine And.intro (show (0 : Int) ≤ z22 ∧ z22 ≤ (59 : Int) by omega) ?_
                refine And.intro (show 0 ≤ j ∧ j < 20 by omega) ?_
                intro z23 (z23a : (-2147483648 : Int) ≤ z23) (z23b : z23 ≤ (2147483647 : Int)) (z23c : z23 = (fx_up S1 41 0 (q).toNat z22) 42 0 (j).toNat)
                refine And.intro (show 0 ≤ q ∧ q < 20 by omega) ?_
                refine And.intro (show (-2147483648 : Int) ≤ z23 ∧ z23 ≤ (2147483647 : Int) by omega) ?_
                refine And.intro (by decide) (And.intro (show -2147483648 ≤ q + (1 : Int) ∧ q + (1 : Int) < 2147483648 by omega) ?_)
                refine And.intro (by decide) (And.intro (show -2147483648 ≤ j + (1 : Int) ∧ j + (1 : Int) < 2147483648 by omega) ?_)
                exact ih (q + (1 : Int)) (j + (1 : Int)) (fx_up (fx_up S1 41 0 (q).toNat z22) 42 0 (q).toNat z23) (fxfr_up (fxfr_up hf rfl) rfl) (by omega) (by omega) (by omega)
theorem c_Writer_dropFinished {l : Launch} {k : fxK} {S : fxS}   (hk : ∀ (S' : fxS) , (fxfr [(40, 10), (41, 9999), (42, 9999)] S S') → k none S') : fC l 218 [.inr (.inr (40, 0))] S k := by
  refine fxe_218 (Nat.le_of_ble_eq_true rfl) (fxz_218 400 ?_)
  refine And.intro (by decide) ?_
  refine And.intro (by decide) ?_
  exact (z_Writer_dropFinished  hk (21 - (0 : Int)).toNat) (0 : Int) (0 : Int) S fxfr_rfl (by omega) (by omega) (by omega)
theorem c_Writer_willDo {l : Launch} {k : fxK} {S : fxS} {t : Int} {e : Int} {n : Int} (p0 : 0 ≤ t ∧ t ≤ 5) (p1 : 0 ≤ e ∧ e ≤ 3000) (p2 : -1 ≤ n ∧ n < 60) (hk : ∀ (r : Int) , (r = 0 ∨ r = 1) → k (some (.inl r)) S) : fC l 221 [.inr (.inr (40, 0)), .inl t, .inl e, .inl n] S k := by
  refine fxe_221 (Nat.le_of_ble_eq_true rfl) (fxz_221 400 ?_)
  intro z1 (z1a : (-1 : Int) ≤ z1) (z1b : z1 ≤ (5 : Int)) (z1c : z1 = S 38 0 0)
  refine And.intro (fun (h2 : (t = z1 : Prop)) => ?_) (fun (h2 : (t ≠ z1 : Prop)) => ?_)
  ·
    refine And.intro (show 0 ≤ (0 : Int) ∧ (0 : Int) ≤ 1 by omega) ?_
    exact hk (0 : Int) (by omega)
  ·
    intro z3 (z3a : (-1 : Int) ≤ z3) (z3b : z3 ≤ (5 : Int)) (z3c : z3 = S 38 0 12)
    refine And.intro (fun (h4 : (t ≠ z3 : Prop)) => ?_) (fun (h4 : (t = z3 : Prop)) => ?_)
    ·
      refine And.intro (fun (h5 : (n < (0 : Int) : Prop)) => ?_) (fun (h5 : ((0 : Int) ≤ n : Prop)) => ?_)
      ·
        refine And.intro (show 0 ≤ t ∧ t < 6 by omega) ?_
        intro z6 (z6a : (0 : Int) ≤ z6) (z6b : z6 ≤ (6000 : Int)) (z6c : z6 = S 32 (t).toNat 1)
        refine And.intro (fun (h7 : (z6 ≠ (0 : Int) : Prop)) => ?_) (fun (h7 : (z6 = (0 : Int) : Prop)) => ?_)
        ·
          refine And.intro (by decide) ?_
          refine And.intro (show 0 ≤ t ∧ t < 6 by omega) ?_
          intro z8 (z8a : (0 : Int) ≤ z8) (z8b : z8 ≤ (6000 : Int)) (z8c : z8 = S 32 (t).toNat 1)
          refine And.intro (show -2147483648 ≤ (z8 + (0 : Int)) ∧ (z8 + (0 : Int)) < 2147483648 by omega) ?_
          refine And.intro (show -2147483648 ≤ ((z8 + (0 : Int)) + e) ∧ ((z8 + (0 : Int)) + e) < 2147483648 by omega) ?_
          refine And.intro (fun (h9 : ((6000 : Int) < ((z8 + (0 : Int)) + e) : Prop)) => ?_) (fun (h9 : (((z8 + (0 : Int)) + e) ≤ (6000 : Int) : Prop)) => ?_)
          ·
            refine And.intro (show 0 ≤ (0 : Int) ∧ (0 : Int) ≤ 1 by omega) ?_
            exact hk (0 : Int) (by omega)
          ·
            refine And.intro (show 0 ≤ (1 : Int) ∧ (1 : Int) ≤ 1 by omega) ?_
            exact hk (1 : Int) (by omega)
        ·
          refine And.intro (by decide) ?_
          refine And.intro (show 0 ≤ t ∧ t < 6 by omega) ?_
          intro z10 (z10a : (0 : Int) ≤ z10) (z10b : z10 ≤ (6000 : Int)) (z10c : z10 = S 32 (t).toNat 1)
          refine And.intro (show -2147483648 ≤ (z10 + (8 : Int)) ∧ (z10 + (8 : Int)) < 2147483648 by omega) ?_
          refine And.intro (show -2147483648 ≤ ((z10 + (8 : Int)) + e) ∧ ((z10 + (8 : Int)) + e) < 2147483648 by omega) ?_
          refine And.intro (fun (h11 : ((6000 : Int) < ((z10 + (8 : Int)) + e) : Prop)) => ?_) (fun (h11 : (((z10 + (8 : Int)) + e) ≤ (6000 : Int) : Prop)) => ?_)
          ·
            refine And.intro (show 0 ≤ (0 : Int) ∧ (0 : Int) ≤ 1 by omega) ?_
            exact hk (0 : Int) (by omega)
          ·
            refine And.intro (show 0 ≤ (1 : Int) ∧ (1 : Int) ≤ 1 by omega) ?_
            exact hk (1 : Int) (by omega)
      ·
        refine And.intro (show 0 ≤ n ∧ n < 60 by omega) ?_
        refine c_Node_hasCopyOn (i := (n).toNat) (t := t) (show -2147483648 ≤ t ∧ t < 2147483648 by omega) (fun (z12 : Int) (q13 : z12 = 0 ∨ z12 = 1) => ?_)
        refine And.intro (fun (h14 : (z12 = (0 : Int) : Prop)) => ?_) (fun (h14 : (z12 ≠ (0 : Int) : Prop)) => ?_)
        ·
          refine And.intro (show 0 ≤ t ∧ t < 6 by omega) ?_
          intro z15 (z15a : (0 : Int) ≤ z15) (z15b : z15 ≤ (6000 : Int)) (z15c : z15 = S 32 (t).toNat 1)
          refine And.intro (fun (h16 : (z15 ≠ (0 : Int) : Prop)) => ?_) (fun (h16 : (z15 = (0 : Int) : Prop)) => ?_)
          ·
            refine And.intro (by decide) ?_
            refine And.intro (show 0 ≤ t ∧ t < 6 by omega) ?_
            intro z17 (z17a : (0 : Int) ≤ z17) (z17b : z17 ≤ (6000 : Int)) (z17c : z17 = S 32 (t).toNat 1)
            refine And.intro (show -2147483648 ≤ (z17 + (0 : Int)) ∧ (z17 + (0 : Int)) < 2147483648 by omega) ?_
            refine And.intro (show -2147483648 ≤ ((z17 + (0 : Int)) + e) ∧ ((z17 + (0 : Int)) + e) < 2147483648 by omega) ?_
            refine And.intro (fun (h18 : ((6000 : Int) < ((z17 + (0 : Int)) + e) : Prop)) => ?_) (fun (h18 : (((z17 + (0 : Int)) + e) ≤ (6000 : Int) : Prop)) => ?_)
            ·
              refine And.intro (show 0 ≤ (0 : Int) ∧ (0 : Int) ≤ 1 by omega) ?_
              exact hk (0 : Int) (by omega)
            ·
              refine And.intro (show 0 ≤ (1 : Int) ∧ (1 : Int) ≤ 1 by omega) ?_
              exact hk (1 : Int) (by omega)
          ·
            refine And.intro (by decide) ?_
            refine And.intro (show 0 ≤ t ∧ t < 6 by omega) ?_
            intro z19 (z19a : (0 : Int) ≤ z19) (z19b : z19 ≤ (6000 : Int)) (z19c : z19 = S 32 (t).toNat 1)
            refine And.intro (show -2147483648 ≤ (z19 + (8 : Int)) ∧ (z19 + (8 : Int)) < 2147483648 by omega) ?_
            refine And.intro (show -2147483648 ≤ ((z19 + (8 : Int)) + e) ∧ ((z19 + (8 : Int)) + e) < 2147483648 by omega) ?_
            refine And.intro (fun (h20 : ((6000 : Int) < ((z19 + (8 : Int)) + e) : Prop)) => ?_) (fun (h20 : (((z19 + (8 : Int)) + e) ≤ (6000 : Int) : Prop)) => ?_)
            ·
              refine And.intro (show 0 ≤ (0 : Int) ∧ (0 : Int) ≤ 1 by omega) ?_
              exact hk (0 : Int) (by omega)
            ·
              refine And.intro (show 0 ≤ (1 : Int) ∧ (1 : Int) ≤ 1 by omega) ?_
              exact hk (1 : Int) (by omega)
        ·
          refine And.intro (show 0 ≤ (0 : Int) ∧ (0 : Int) ≤ 1 by omega) ?_
          exact hk (0 : Int) (by omega)
    ·
      refine And.intro (show 0 ≤ (0 : Int) ∧ (0 : Int) ≤ 1 by omega) ?_
      exact hk (0 : Int) (by omega)
theorem z_Writer_targetFor {l : Launch} {k : fxK} {S : fxS} {e : Int} {n : Int} (p0 : 0 ≤ e ∧ e ≤ 3000) (p1 : -1 ≤ n ∧ n < 60) (hk : ∀ (r : Int) , (-1 ≤ r ∧ r ≤ 5) → k (some (.inl r)) S) : ∀ m : Nat, (∀ (j : Int), (0 ≤ j ∧ j ≤ 6) → 7 - j ≤ (m : Int) → fZ l 222 k 27 [some (.inr (.inr (40, 0))), some (.inl e), some (.inl n), some (.inl j)] [] S) := by
  intro m
  induction m with
  | zero =>
    intro j  i0 hmu
    exfalso
    omega
  | succ m ih =>
    intro j  i0 hmu
    refine fxz_222 400 ?_
    refine And.intro (fun (h1 : ((6 : Int) ≤ j : Prop)) => ?_) (fun (h1 : (j < (6 : Int) : Prop)) => ?_)
    ·
      exact hk (-1 : Int) (by omega)
    ·
      refine c_Writer_willDo (t := j) (e := e) (n := n) (show 0 ≤ j ∧ j ≤ 5 by omega) (show 0 ≤ e ∧ e ≤ 3000 by omega) (show -1 ≤ n ∧ n < 60 by omega) (fun (z2 : Int) (q3 : z2 = 0 ∨ z2 = 1) => ?_)
      refine And.intro (fun (h4 : (z2 = (0 : Int) : Prop)) => ?_) (fun (h4 : (z2 ≠ (0 : Int) : Prop)) => ?_)
      ·
        refine And.intro (by decide) (And.intro (show -2147483648 ≤ j + (1 : Int) ∧ j + (1 : Int) < 2147483648 by omega) ?_)
        exact ih (j + (1 : Int))  (by omega) (by omega)
      ·
        exact hk j (by omega)
theorem c_Writer_targetFor {l : Launch} {k : fxK} {S : fxS} {e : Int} {n : Int} (p0 : 0 ≤ e ∧ e ≤ 3000) (p1 : -1 ≤ n ∧ n < 60) (hk : ∀ (r : Int) , (-1 ≤ r ∧ r ≤ 5) → k (some (.inl r)) S) : fC l 222 [.inr (.inr (40, 0)), .inl e, .inl n] S k := by
  refine fxe_222 (Nat.le_of_ble_eq_true rfl) (fxz_222 400 ?_)
  intro z6 (z6a : (-1 : Int) ≤ z6) (z6b : z6 ≤ (5 : Int)) (z6c : z6 = S 40 0 0)
  refine And.intro (fun (h7 : (z6 < (0 : Int) : Prop)) => ?_) (fun (h7 : ((0 : Int) ≤ z6 : Prop)) => ?_)
  ·
    refine And.intro (by decide) ?_
    exact (z_Writer_targetFor p0 p1 hk (7 - (0 : Int)).toNat) (0 : Int)  (by omega) (by omega)
  ·
    intro z8 (z8a : (-1 : Int) ≤ z8) (z8b : z8 ≤ (5 : Int)) (z8c : z8 = S 40 0 0)
    refine c_Writer_willDo (t := z8) (e := e) (n := n) (show 0 ≤ z8 ∧ z8 ≤ 5 by omega) (show 0 ≤ e ∧ e ≤ 3000 by omega) (show -1 ≤ n ∧ n < 60 by omega) (fun (z9 : Int) (q10 : z9 = 0 ∨ z9 = 1) => ?_)
    refine And.intro (fun (h11 : (z9 = (0 : Int) : Prop)) => ?_) (fun (h11 : (z9 ≠ (0 : Int) : Prop)) => ?_)
    ·
      refine And.intro (by decide) ?_
      exact (z_Writer_targetFor p0 p1 hk (7 - (0 : Int)).toNat) (0 : Int)  (by omega) (by omega)
    ·
      intro z12 (z12a : (-1 : Int) ≤ z12) (z12b : z12 ≤ (5 : Int)) (z12c : z12 = S 40 0 0)
      exact hk z12 (by omega)
theorem c_Writer_isAtEndOf {l : Launch} {k : fxK} {S : fxS} {t : Int} (p0 : 0 ≤ t ∧ t ≤ 5) (p1 : ((S 40 0 2 = 4 ∨ S 40 0 2 = 5) → 0 ≤ S 40 0 0 ∧ (S 40 0 13 = 2 → 0 ≤ S 40 0 14))) (hk : ∀ (r : Int) (S' : fxS) , (fxfr [(40, 0), (40, 1), (40, 2), (40, 3), (40, 4)] S S' ∧ (0 ≤ r ∧ r ≤ 1 ∧ (r = 1 → S' 40 0 0 = t) ∧ ((S' 40 0 2 = 4 ∨ S' 40 0 2 = 5) → 0 ≤ S' 40 0 0 ∧ (S' 40 0 13 = 2 → 0 ≤ S' 40 0 14)))) → k (some (.inl r)) S') : fC l 223 [.inr (.inr (40, 0)), .inl t] S k := by
  refine fxe_223 (Nat.le_of_ble_eq_true rfl) (fxz_223 400 ?_)
  intro z1 (z1a : (-1 : Int) ≤ z1) (z1b : z1 ≤ (5 : Int)) (z1c : z1 = S 40 0 0)
  refine And.intro (fun (h2 : (z1 = t : Prop)) => ?_) (fun (h2 : (z1 ≠ t : Prop)) => ?_)
  ·
    refine And.intro (show 0 ≤ t ∧ t < 6 by omega) ?_
    intro z3 (z3a : (0 : Int) ≤ z3) (z3b : z3 ≤ (6000 : Int)) (z3c : z3 = S 32 (t).toNat 1)
    refine And.intro (by decide) ?_
    intro z4 (z4a : (0 : Int) ≤ z4) (z4b : z4 ≤ (7100 : Int)) (z4c : z4 = S 40 0 1)
    refine And.intro (fun (h5 : (z4 ≠ z3 : Prop)) => ?_) (fun (h5 : (z4 = z3 : Prop)) => ?_)
    ·
      refine c_beginWinding40 (p := z3) (show 0 ≤ z3 ∧ z3 ≤ 7100 by omega) (fun (S6 : fxS) ⟨(f7 : fxfr [(40, 2), (40, 3), (40, 4)] S S6), (q8 : S6 40 0 2 = 3)⟩ => ?_)
      have w9 : S6 40 0 0 = S 40 0 0 := f7 40 0 0 rfl
      have w10 : S6 40 0 13 = S 40 0 13 := f7 40 0 13 rfl
      have w11 : S6 40 0 14 = S 40 0 14 := f7 40 0 14 rfl
      refine And.intro (show 0 ≤ (0 : Int) ∧ (0 : Int) ≤ 1 by omega) ?_
      exact hk (0 : Int) S6 ⟨(fxfr_tr fxfr_rfl f7 rfl), by omega⟩
    ·
      refine And.intro (show 0 ≤ (1 : Int) ∧ (1 : Int) ≤ 1 by omega) ?_
      exact hk (1 : Int) S ⟨fxfr_rfl, by omega⟩
  ·
    intro z12 (z12a : (-1 : Int) ≤ z12) (z12b : z12 ≤ (5 : Int)) (z12c : z12 = S 40 0 0)
    refine And.intro (fun (h13 : (z12 < (0 : Int) : Prop)) => ?_) (fun (h13 : ((0 : Int) ≤ z12 : Prop)) => ?_)
    ·
      refine c_beginMounting40 (t := t) (show 0 ≤ t ∧ t ≤ 5 by omega) (fun (S14 : fxS) ⟨(f15 : fxfr [(40, 0), (40, 1), (40, 2), (40, 3), (40, 4)] S S14), (q16 : S14 40 0 2 = 1)⟩ => ?_)
      have w17 : S14 40 0 13 = S 40 0 13 := f15 40 0 13 rfl
      have w18 : S14 40 0 14 = S 40 0 14 := f15 40 0 14 rfl
      refine And.intro (show 0 ≤ (0 : Int) ∧ (0 : Int) ≤ 1 by omega) ?_
      exact hk (0 : Int) S14 ⟨(fxfr_tr fxfr_rfl f15 rfl), by omega⟩
    ·
      refine c_beginUnmounting40   (fun (S19 : fxS) ⟨(f20 : fxfr [(40, 2), (40, 3), (40, 4)] S S19), (q21 : S19 40 0 2 = 2)⟩ => ?_)
      have w22 : S19 40 0 0 = S 40 0 0 := f20 40 0 0 rfl
      have w23 : S19 40 0 13 = S 40 0 13 := f20 40 0 13 rfl
      have w24 : S19 40 0 14 = S 40 0 14 := f20 40 0 14 rfl
      refine And.intro (show 0 ≤ (0 : Int) ∧ (0 : Int) ≤ 1 by omega) ?_
      exact hk (0 : Int) S19 ⟨(fxfr_tr fxfr_rfl f20 rfl), by omega⟩
theorem z_putNumber43 {l : Launch} {k : fxK} {S : fxS} {p : Int} {c : Int} {x : Int} (p0 : 0 ≤ p) (p1 : 0 ≤ c ∧ c ≤ 8 ∧ p + c ≤ 1089) (hk : ∀ (r : Int) (S' : fxS) , (fxfr [(43, 9999)] S S' ∧ (r = p + c)) → k (some (.inl r)) S') : ∀ m : Nat, (∀ (j : Int) (S1 : fxS), (fxfr [(43, 9999)] S S1) → (0 ≤ j ∧ j ≤ c) → 9 - j ≤ (m : Int) → fZ l 224 k 3 [some (.inr (.inr (43, 0))), some (.inl p), some (.inl c), some (.inr (.inl x)), none, some (.inl j)] [] S1) := by
  intro m
  induction m with
  | zero =>
    intro j S1 hf i0 hmu
    exfalso
    omega
  | succ m ih =>
    intro j S1 hf i0 hmu
    refine fxz_224 400 ?_
    refine And.intro (fun (h1 : (c ≤ j : Prop)) => ?_) (fun (h1 : (j < c : Prop)) => ?_)
    ·
      refine And.intro (show -2147483648 ≤ (p + c) ∧ (p + c) < 2147483648 by omega) ?_
      exact hk (p + c) S1 ⟨hf, by omega⟩
    ·
      refine And.intro (show -2147483648 ≤ (p + j) ∧ (p + j) < 2147483648 by omega) ?_
      refine And.intro (show -2147483648 ≤ ((8 : Int) * j) ∧ ((8 : Int) * j) < 2147483648 by omega) ?_
      intro z2
      intro z3 z3a z3b
      intro z4 z4a z4b
      refine And.intro (show 0 ≤ (p + j) ∧ (p + j) < 1089 by omega) ?_
      intro z5 z5a z5b z5c
      refine And.intro (by decide) (And.intro (show -2147483648 ≤ j + (1 : Int) ∧ j + (1 : Int) < 2147483648 by omega) ?_)
      exact ih (j + (1 : Int)) (fx_up S1 43 0 ((p + j)).toNat z5) (fxfr_up hf rfl) (by omega) (by omega)
theorem c_putNumber43 {l : Launch} {k : fxK} {S : fxS} {p : Int} {c : Int} {x : Int} (p0 : 0 ≤ p) (p1 : 0 ≤ c ∧ c ≤ 8 ∧ p + c ≤ 1089) (hk : ∀ (r : Int) (S' : fxS) , (fxfr [(43, 9999)] S S' ∧ (r = p + c)) → k (some (.inl r)) S') : fC l 224 [.inr (.inr (43, 0)), .inl p, .inl c, .inr (.inl x)] S k := by
  refine fxe_224 (Nat.le_of_ble_eq_true rfl) (fxz_224 400 ?_)
  refine And.intro (by decide) ?_
  exact (z_putNumber43 p0 p1 hk (9 - (0 : Int)).toNat) (0 : Int) S fxfr_rfl (by omega) (by omega)
theorem z_putNumber33 {l : Launch} {k : fxK} {S : fxS} {i : Nat} {p : Int} {c : Int} {x : Int} (p0 : 0 ≤ p) (p1 : 0 ≤ c ∧ c ≤ 8 ∧ p + c ≤ 6000) (hk : ∀ (r : Int) (S' : fxS) , (fxfr [(33, 9999)] S S' ∧ (r = p + c) ∧ (fxix i S S')) → k (some (.inl r)) S') : ∀ m : Nat, (∀ (j : Int) (S1 : fxS), (fxfr [(33, 9999)] S S1) → (0 ≤ j ∧ j ≤ c) → (fxix i S S1) → 9 - j ≤ (m : Int) → fZ l 224 k 3 [some (.inr (.inr (33, i))), some (.inl p), some (.inl c), some (.inr (.inl x)), none, some (.inl j)] [] S1) := by
  intro m
  induction m with
  | zero =>
    intro j S1 hf i0 i1 hmu
    exfalso
    omega
  | succ m ih =>
    intro j S1 hf i0 i1 hmu
    refine fxz_224 400 ?_
    refine And.intro (fun (h1 : (c ≤ j : Prop)) => ?_) (fun (h1 : (j < c : Prop)) => ?_)
    ·
      refine And.intro (show -2147483648 ≤ (p + c) ∧ (p + c) < 2147483648 by omega) ?_
      exact hk (p + c) S1 ⟨hf, by omega, by assumption⟩
    ·
      refine And.intro (show -2147483648 ≤ (p + j) ∧ (p + j) < 2147483648 by omega) ?_
      refine And.intro (show -2147483648 ≤ ((8 : Int) * j) ∧ ((8 : Int) * j) < 2147483648 by omega) ?_
      intro z2
      intro z3 z3a z3b
      intro z4 z4a z4b
      refine And.intro (show 0 ≤ (p + j) ∧ (p + j) < 6000 by omega) ?_
      intro z5 z5a z5b z5c
      have g6 : fxix i S (fx_up S1 33 i ((p + j)).toNat z5) := fxix_up (by assumption)
      refine And.intro (by decide) (And.intro (show -2147483648 ≤ j + (1 : Int) ∧ j + (1 : Int) < 2147483648 by omega) ?_)
      exact ih (j + (1 : Int)) (fx_up S1 33 i ((p + j)).toNat z5) (fxfr_up hf rfl) (by omega) (by assumption) (by omega)
theorem c_putNumber33 {l : Launch} {k : fxK} {S : fxS} {i : Nat} {p : Int} {c : Int} {x : Int} (p0 : 0 ≤ p) (p1 : 0 ≤ c ∧ c ≤ 8 ∧ p + c ≤ 6000) (hk : ∀ (r : Int) (S' : fxS) , (fxfr [(33, 9999)] S S' ∧ (r = p + c) ∧ (fxix i S S')) → k (some (.inl r)) S') : fC l 224 [.inr (.inr (33, i)), .inl p, .inl c, .inr (.inl x)] S k := by
  have ix0 : fxix i S S := fxix_rfl
  refine fxe_224 (Nat.le_of_ble_eq_true rfl) (fxz_224 400 ?_)
  refine And.intro (by decide) ?_
  exact (z_putNumber33 p0 p1 hk (9 - (0 : Int)).toNat) (0 : Int) S fxfr_rfl (by omega) (by assumption) (by omega)
theorem c_Writer_putHead {l : Launch} {k : fxK} {S : fxS} {s : Int} {d : Int} {v : Int} {e : Int} (p0 : -2147483648 ≤ s ∧ s < 2147483648) (p1 : -2147483648 ≤ d ∧ d < 2147483648) (p2 : -2147483648 ≤ v ∧ v < 2147483648) (p3 : -2147483648 ≤ e ∧ e < 2147483648) (hk : ∀ (r : Int) (S' : fxS) , (fxfr [(26, 2), (43, 9999)] S S' ∧ (r = 15)) → k (some (.inl r)) S') : fC l 225 [.inr (.inr (40, 0)), .inl s, .inl d, .inl v, .inl e] S k := by
  refine fxe_225 (Nat.le_of_ble_eq_true rfl) (fxz_225 400 ?_)
  refine And.intro (show 0 ≤ (0 : Int) ∧ (0 : Int) < 1089 by omega) ?_
  intro z1 z1a z1b z1c
  intro z2 z2a z2b
  refine And.intro (show 0 ≤ (1 : Int) ∧ (1 : Int) < 1089 by omega) ?_
  intro z3 z3a z3b z3c
  refine c_putNumber43 (p := (2 : Int)) (c := (4 : Int)) (x := d) (show 0 ≤ (2 : Int) by omega) (show 0 ≤ (4 : Int) ∧ (4 : Int) ≤ 8 ∧ (2 : Int) + (4 : Int) ≤ 1089 by omega) (fun (z4 : Int) (S5 : fxS) ⟨(f6 : fxfr [(43, 9999)] (fx_up (fx_up S 43 0 ((0 : Int)).toNat z1) 43 0 ((1 : Int)).toNat z3) S5), (q7 : z4 = (2 : Int) + (4 : Int))⟩ => ?_)
  refine c_putNumber43 (p := (6 : Int)) (c := (4 : Int)) (x := v) (show 0 ≤ (6 : Int) by omega) (show 0 ≤ (4 : Int) ∧ (4 : Int) ≤ 8 ∧ (6 : Int) + (4 : Int) ≤ 1089 by omega) (fun (z8 : Int) (S9 : fxS) ⟨(f10 : fxfr [(43, 9999)] S5 S9), (q11 : z8 = (6 : Int) + (4 : Int))⟩ => ?_)
  intro z12 (z12a : (-2147483648 : Int) ≤ z12) (z12b : z12 ≤ (2147483647 : Int)) (z12c : z12 = S9 26 0 2)
  refine c_putNumber43 (p := (10 : Int)) (c := (4 : Int)) (x := z12) (show 0 ≤ (10 : Int) by omega) (show 0 ≤ (4 : Int) ∧ (4 : Int) ≤ 8 ∧ (10 : Int) + (4 : Int) ≤ 1089 by omega) (fun (z13 : Int) (S14 : fxS) ⟨(f15 : fxfr [(43, 9999)] S9 S14), (q16 : z13 = (10 : Int) + (4 : Int))⟩ => ?_)
  intro z17 (z17a : (-2147483648 : Int) ≤ z17) (z17b : z17 ≤ (2147483647 : Int)) (z17c : z17 = S14 26 0 2)
  intro z18 (z18a : -2147483648 ≤ z18) (z18b : z18 < 2147483648) (z18c : -2147483648 ≤ (z17 + (1 : Int)) ∧ (z17 + (1 : Int)) < 2147483648 → z18 = (z17 + (1 : Int)))
  refine And.intro (show (-2147483648 : Int) ≤ z18 ∧ z18 ≤ (2147483647 : Int) by omega) ?_
  intro z19 z19a z19b
  refine And.intro (show 0 ≤ (14 : Int) ∧ (14 : Int) < 1089 by omega) ?_
  intro z20 z20a z20b z20c
  exact hk (15 : Int) (fx_up (fx_up S14 26 0 2 z18) 43 0 ((14 : Int)).toNat z20) ⟨(fxfr_up (fxfr_up (fxfr_tr (fxfr_tr (fxfr_tr (fxfr_up (fxfr_up fxfr_rfl rfl) rfl) f6 rfl) f10 rfl) f15 rfl) rfl) rfl), by omega⟩
theorem c_Writer_putCheck {l : Launch} {k : fxK} {S : fxS} {f : Int} {a : Int} (p0 : 0 ≤ f ∧ f ≤ 1089) (p1 : 0 ≤ a ∧ a + 4 ≤ 1089) (hk : ∀ (r : Int) (S' : fxS) , (fxfr [(43, 9999)] S S' ∧ (r = a + 4)) → k (some (.inl r)) S') : fC l 226 [.inr (.inr (40, 0)), .inl f, .inl a] S k := by
  refine fxe_226 (Nat.le_of_ble_eq_true rfl) (fxz_226 400 ?_)
  refine c_checkOf43 (f := f) (e := a) (show 0 ≤ f ∧ f ≤ 1089 by omega) (show a ≤ 1089 by omega) (fun (z1 : Int) (q2 : -2147483648 ≤ z1 ∧ z1 < 2147483648) => ?_)
  refine c_putNumber43 (p := a) (c := (4 : Int)) (x := z1) (show 0 ≤ a by omega) (show 0 ≤ (4 : Int) ∧ (4 : Int) ≤ 8 ∧ a + (4 : Int) ≤ 1089 by omega) (fun (z3 : Int) (S4 : fxS) ⟨(f5 : fxfr [(43, 9999)] S S4), (q6 : z3 = a + (4 : Int))⟩ => ?_)
  exact hk z3 S4 ⟨(fxfr_tr fxfr_rfl f5 rfl), by omega⟩
theorem c_Writer_beginWriting {l : Launch} {k : fxK} {S : fxS} {w : Int} {n : Int} {d : Int} (p0 : 0 ≤ w ∧ w ≤ 2) (p1 : -1 ≤ n ∧ n < 60 ∧ (w = 2 → 0 ≤ n)) (p2 : 0 ≤ S 40 0 0) (p3 : -2147483648 ≤ d ∧ d < 2147483648) (hk : ∀ (S' : fxS) , (fxfr [(40, 2), (40, 3), (40, 4), (40, 13), (40, 14), (40, 15)] S S' ∧ (((S' 40 0 2 = 4 ∨ S' 40 0 2 = 5) → 0 ≤ S' 40 0 0 ∧ (S' 40 0 13 = 2 → 0 ≤ S' 40 0 14)))) → k none S') : fC l 227 [.inr (.inr (40, 0)), .inl w, .inl n, .inl d] S k := by
  refine fxe_227 (Nat.le_of_ble_eq_true rfl) (fxz_227 400 ?_)
  refine And.intro (show (0 : Int) ≤ w ∧ w ≤ (2 : Int) by omega) ?_
  have w1 : (fx_up S 40 0 13 w) 40 0 0 = S 40 0 0 := if_neg (fun q => absurd q.2.2 (by decide))
  have w2 : (fx_up S 40 0 13 w) 40 0 2 = S 40 0 2 := if_neg (fun q => absurd q.2.2 (by decide))
  have w3 : (fx_up S 40 0 13 w) 40 0 13 = w := fx_up_at _ _ _ _ _
  have w4 : (fx_up S 40 0 13 w) 40 0 14 = S 40 0 14 := if_neg (fun q => absurd q.2.2 (by decide))
  refine And.intro (show (-1 : Int) ≤ n ∧ n ≤ (59 : Int) by omega) ?_
  have w5 : (fx_up (fx_up S 40 0 13 w) 40 0 14 n) 40 0 0 = (fx_up S 40 0 13 w) 40 0 0 := if_neg (fun q => absurd q.2.2 (by decide))
  have w6 : (fx_up (fx_up S 40 0 13 w) 40 0 14 n) 40 0 2 = (fx_up S 40 0 13 w) 40 0 2 := if_neg (fun q => absurd q.2.2 (by decide))
  have w7 : (fx_up (fx_up S 40 0 13 w) 40 0 14 n) 40 0 13 = (fx_up S 40 0 13 w) 40 0 13 := if_neg (fun q => absurd q.2.2 (by decide))
  have w8 : (fx_up (fx_up S 40 0 13 w) 40 0 14 n) 40 0 14 = n := fx_up_at _ _ _ _ _
  refine And.intro (show (-2147483648 : Int) ≤ d ∧ d ≤ (2147483647 : Int) by omega) ?_
  have w9 : (fx_up (fx_up (fx_up S 40 0 13 w) 40 0 14 n) 40 0 15 d) 40 0 0 = (fx_up (fx_up S 40 0 13 w) 40 0 14 n) 40 0 0 := if_neg (fun q => absurd q.2.2 (by decide))
  have w10 : (fx_up (fx_up (fx_up S 40 0 13 w) 40 0 14 n) 40 0 15 d) 40 0 2 = (fx_up (fx_up S 40 0 13 w) 40 0 14 n) 40 0 2 := if_neg (fun q => absurd q.2.2 (by decide))
  have w11 : (fx_up (fx_up (fx_up S 40 0 13 w) 40 0 14 n) 40 0 15 d) 40 0 13 = (fx_up (fx_up S 40 0 13 w) 40 0 14 n) 40 0 13 := if_neg (fun q => absurd q.2.2 (by decide))
  have w12 : (fx_up (fx_up (fx_up S 40 0 13 w) 40 0 14 n) 40 0 15 d) 40 0 14 = (fx_up (fx_up S 40 0 13 w) 40 0 14 n) 40 0 14 := if_neg (fun q => absurd q.2.2 (by decide))
  intro z13 (z13a : (-1 : Int) ≤ z13) (z13b : z13 ≤ (5 : Int)) (z13c : z13 = (fx_up (fx_up (fx_up S 40 0 13 w) 40 0 14 n) 40 0 15 d) 40 0 0)
  refine And.intro (show 0 ≤ z13 ∧ z13 < 6 by omega) ?_
  intro z14 (z14a : (0 : Int) ≤ z14) (z14b : z14 ≤ (6000 : Int)) (z14c : z14 = (fx_up (fx_up (fx_up S 40 0 13 w) 40 0 14 n) 40 0 15 d) 32 (z13).toNat 1)
  refine And.intro (by decide) ?_
  intro z15 (z15a : (0 : Int) ≤ z15) (z15b : z15 ≤ (1089 : Int)) (z15c : z15 = (fx_up (fx_up (fx_up S 40 0 13 w) 40 0 14 n) 40 0 15 d) 40 0 12)
  refine And.intro (fun (h16 : (z14 ≠ (0 : Int) : Prop)) => ?_) (fun (h16 : (z14 = (0 : Int) : Prop)) => ?_)
  ·
    refine And.intro (show -2147483648 ≤ (z15 + (0 : Int)) ∧ (z15 + (0 : Int)) < 2147483648 by omega) ?_
    refine And.intro (by decide) ?_
    refine And.intro (show -2147483648 ≤ ((z15 + (0 : Int)) + (63 : Int)) ∧ ((z15 + (0 : Int)) + (63 : Int)) < 2147483648 by omega) ?_
    refine And.intro (show 0 ≤ ((z15 + (0 : Int)) + (63 : Int)) ∧ 0 < (64 : Int) by omega) ?_
    refine And.intro (show -2147483648 ≤ (z14 + (z15 + (0 : Int))) ∧ (z14 + (z15 + (0 : Int))) < 2147483648 by omega) ?_
    refine c_begin40 (w := (5 : Int)) (t := (((z15 + (0 : Int)) + (63 : Int)) / (64 : Int))) (p := (z14 + (z15 + (0 : Int)))) (show 0 ≤ (5 : Int) ∧ (5 : Int) ≤ 5 by omega) (show 0 ≤ (z14 + (z15 + (0 : Int))) ∧ (z14 + (z15 + (0 : Int))) ≤ 7100 by omega) (show -2147483648 ≤ (((z15 + (0 : Int)) + (63 : Int)) / (64 : Int)) ∧ (((z15 + (0 : Int)) + (63 : Int)) / (64 : Int)) < 2147483648 by omega) (fun (S17 : fxS) ⟨(f18 : fxfr [(40, 2), (40, 3), (40, 4)] (fx_up (fx_up (fx_up S 40 0 13 w) 40 0 14 n) 40 0 15 d) S17), (q19 : S17 40 0 2 = (5 : Int))⟩ => ?_)
    have w20 : S17 40 0 0 = (fx_up (fx_up (fx_up S 40 0 13 w) 40 0 14 n) 40 0 15 d) 40 0 0 := f18 40 0 0 rfl
    have w21 : S17 40 0 13 = (fx_up (fx_up (fx_up S 40 0 13 w) 40 0 14 n) 40 0 15 d) 40 0 13 := f18 40 0 13 rfl
    have w22 : S17 40 0 14 = (fx_up (fx_up (fx_up S 40 0 13 w) 40 0 14 n) 40 0 15 d) 40 0 14 := f18 40 0 14 rfl
    exact hk S17 ⟨(fxfr_tr (fxfr_up (fxfr_up (fxfr_up fxfr_rfl rfl) rfl) rfl) f18 rfl), by omega⟩
  ·
    refine And.intro (show -2147483648 ≤ (z15 + (8 : Int)) ∧ (z15 + (8 : Int)) < 2147483648 by omega) ?_
    refine And.intro (by decide) ?_
    refine And.intro (show -2147483648 ≤ ((z15 + (8 : Int)) + (63 : Int)) ∧ ((z15 + (8 : Int)) + (63 : Int)) < 2147483648 by omega) ?_
    refine And.intro (show 0 ≤ ((z15 + (8 : Int)) + (63 : Int)) ∧ 0 < (64 : Int) by omega) ?_
    refine And.intro (show -2147483648 ≤ (z14 + (z15 + (8 : Int))) ∧ (z14 + (z15 + (8 : Int))) < 2147483648 by omega) ?_
    refine c_begin40 (w := (5 : Int)) (t := (((z15 + (8 : Int)) + (63 : Int)) / (64 : Int))) (p := (z14 + (z15 + (8 : Int)))) (show 0 ≤ (5 : Int) ∧ (5 : Int) ≤ 5 by omega) (show 0 ≤ (z14 + (z15 + (8 : Int))) ∧ (z14 + (z15 + (8 : Int))) ≤ 7100 by omega) (show -2147483648 ≤ (((z15 + (8 : Int)) + (63 : Int)) / (64 : Int)) ∧ (((z15 + (8 : Int)) + (63 : Int)) / (64 : Int)) < 2147483648 by omega) (fun (S23 : fxS) ⟨(f24 : fxfr [(40, 2), (40, 3), (40, 4)] (fx_up (fx_up (fx_up S 40 0 13 w) 40 0 14 n) 40 0 15 d) S23), (q25 : S23 40 0 2 = (5 : Int))⟩ => ?_)
    have w26 : S23 40 0 0 = (fx_up (fx_up (fx_up S 40 0 13 w) 40 0 14 n) 40 0 15 d) 40 0 0 := f24 40 0 0 rfl
    have w27 : S23 40 0 13 = (fx_up (fx_up (fx_up S 40 0 13 w) 40 0 14 n) 40 0 15 d) 40 0 13 := f24 40 0 13 rfl
    have w28 : S23 40 0 14 = (fx_up (fx_up (fx_up S 40 0 13 w) 40 0 14 n) 40 0 15 d) 40 0 14 := f24 40 0 14 rfl
    exact hk S23 ⟨(fxfr_tr (fxfr_up (fxfr_up (fxfr_up fxfr_rfl rfl) rfl) rfl) f24 rfl), by omega⟩
theorem c_Writer_beginDelete {l : Launch} {k : fxK} {S : fxS} {d : Int} (p0 : 0 ≤ S 40 0 0) (p1 : -2147483648 ≤ d ∧ d < 2147483648) (hk : ∀ (S' : fxS) , (fxfr [(26, 2), (40, 2), (40, 3), (40, 4), (40, 12), (40, 13), (40, 14), (40, 15), (43, 9999)] S S' ∧ (((S' 40 0 2 = 4 ∨ S' 40 0 2 = 5) → 0 ≤ S' 40 0 0 ∧ (S' 40 0 13 = 2 → 0 ≤ S' 40 0 14)))) → k none S') : fC l 228 [.inr (.inr (40, 0)), .inl d] S k := by
  refine fxe_228 (Nat.le_of_ble_eq_true rfl) (fxz_228 400 ?_)
  refine c_Writer_putHead (s := (2 : Int)) (d := d) (v := (1 : Int)) (e := (0 : Int)) (show -2147483648 ≤ (2 : Int) ∧ (2 : Int) < 2147483648 by omega) (show -2147483648 ≤ d ∧ d < 2147483648 by omega) (show -2147483648 ≤ (1 : Int) ∧ (1 : Int) < 2147483648 by omega) (show -2147483648 ≤ (0 : Int) ∧ (0 : Int) < 2147483648 by omega) (fun (z1 : Int) (S2 : fxS) ⟨(f3 : fxfr [(26, 2), (43, 9999)] S S2), (q4 : z1 = 15)⟩ => ?_)
  have w5 : S2 40 0 0 = S 40 0 0 := f3 40 0 0 rfl
  have w6 : S2 40 0 2 = S 40 0 2 := f3 40 0 2 rfl
  have w7 : S2 40 0 13 = S 40 0 13 := f3 40 0 13 rfl
  have w8 : S2 40 0 14 = S 40 0 14 := f3 40 0 14 rfl
  refine And.intro (by decide) ?_
  refine c_putNumber43 (p := z1) (c := (2 : Int)) (x := (0 : Int)) (show 0 ≤ z1 by omega) (show 0 ≤ (2 : Int) ∧ (2 : Int) ≤ 8 ∧ z1 + (2 : Int) ≤ 1089 by omega) (fun (z9 : Int) (S10 : fxS) ⟨(f11 : fxfr [(43, 9999)] S2 S10), (q12 : z9 = z1 + (2 : Int))⟩ => ?_)
  have w13 : S10 40 0 0 = S2 40 0 0 := f11 40 0 0 rfl
  have w14 : S10 40 0 2 = S2 40 0 2 := f11 40 0 2 rfl
  have w15 : S10 40 0 13 = S2 40 0 13 := f11 40 0 13 rfl
  have w16 : S10 40 0 14 = S2 40 0 14 := f11 40 0 14 rfl
  refine And.intro (by decide) ?_
  refine c_Writer_putCheck (f := (0 : Int)) (a := z9) (show 0 ≤ (0 : Int) ∧ (0 : Int) ≤ 1089 by omega) (show 0 ≤ z9 ∧ z9 + 4 ≤ 1089 by omega) (fun (z17 : Int) (S18 : fxS) ⟨(f19 : fxfr [(43, 9999)] S10 S18), (q20 : z17 = z9 + 4)⟩ => ?_)
  have w21 : S18 40 0 0 = S10 40 0 0 := f19 40 0 0 rfl
  have w22 : S18 40 0 2 = S10 40 0 2 := f19 40 0 2 rfl
  have w23 : S18 40 0 13 = S10 40 0 13 := f19 40 0 13 rfl
  have w24 : S18 40 0 14 = S10 40 0 14 := f19 40 0 14 rfl
  refine And.intro (show (0 : Int) ≤ z17 ∧ z17 ≤ (1089 : Int) by omega) ?_
  have w25 : (fx_up S18 40 0 12 z17) 40 0 0 = S18 40 0 0 := if_neg (fun q => absurd q.2.2 (by decide))
  have w26 : (fx_up S18 40 0 12 z17) 40 0 2 = S18 40 0 2 := if_neg (fun q => absurd q.2.2 (by decide))
  have w27 : (fx_up S18 40 0 12 z17) 40 0 13 = S18 40 0 13 := if_neg (fun q => absurd q.2.2 (by decide))
  have w28 : (fx_up S18 40 0 12 z17) 40 0 14 = S18 40 0 14 := if_neg (fun q => absurd q.2.2 (by decide))
  refine c_Writer_beginWriting (w := (0 : Int)) (n := (-1 : Int)) (d := d) (show 0 ≤ (0 : Int) ∧ (0 : Int) ≤ 2 by omega) (show -1 ≤ (-1 : Int) ∧ (-1 : Int) < 60 ∧ ((0 : Int) = 2 → 0 ≤ (-1 : Int)) by omega) (show 0 ≤ (fx_up S18 40 0 12 z17) 40 0 0 by omega) (show -2147483648 ≤ d ∧ d < 2147483648 by omega) (fun (S29 : fxS) ⟨(f30 : fxfr [(40, 2), (40, 3), (40, 4), (40, 13), (40, 14), (40, 15)] (fx_up S18 40 0 12 z17) S29), (q31 : ((S29 40 0 2 = 4 ∨ S29 40 0 2 = 5) → 0 ≤ S29 40 0 0 ∧ (S29 40 0 13 = 2 → 0 ≤ S29 40 0 14)))⟩ => ?_)
  have w32 : S29 40 0 0 = (fx_up S18 40 0 12 z17) 40 0 0 := f30 40 0 0 rfl
  exact hk S29 ⟨(fxfr_tr (fxfr_up (fxfr_tr (fxfr_tr (fxfr_tr fxfr_rfl f3 rfl) f11 rfl) f19 rfl) rfl) f30 rfl), by omega⟩
theorem c_Writer_goForDelete {l : Launch} {k : fxK} {S : fxS}  (p0 : ((S 40 0 2 = 4 ∨ S 40 0 2 = 5) → 0 ≤ S 40 0 0 ∧ (S 40 0 13 = 2 → 0 ≤ S 40 0 14))) (hk : ∀ (r : Int) (S' : fxS) , (fxfr [(26, 2), (40, 0), (40, 1), (40, 2), (40, 3), (40, 4), (40, 12), (40, 13), (40, 14), (40, 15), (43, 9999)] S S' ∧ (0 ≤ r ∧ r ≤ 1 ∧ ((S' 40 0 2 = 4 ∨ S' 40 0 2 = 5) → 0 ≤ S' 40 0 0 ∧ (S' 40 0 13 = 2 → 0 ≤ S' 40 0 14)))) → k (some (.inl r)) S') : fC l 229 [.inr (.inr (40, 0))] S k := by
  refine fxe_229 (Nat.le_of_ble_eq_true rfl) (fxz_229 400 ?_)
  refine c_Log_firstKeptDelete   (fun (z1 : Int) (q2 : -2147483648 ≤ z1 ∧ z1 < 2147483648) => ?_)
  refine And.intro (by decide) ?_
  refine And.intro (fun (h3 : (z1 ≠ (0 : Int) : Prop)) => ?_) (fun (h3 : (z1 = (0 : Int) : Prop)) => ?_)
  ·
    refine c_Writer_targetFor (e := (21 : Int)) (n := (-1 : Int)) (show 0 ≤ (21 : Int) ∧ (21 : Int) ≤ 3000 by omega) (show -1 ≤ (-1 : Int) ∧ (-1 : Int) < 60 by omega) (fun (z4 : Int) (q5 : -1 ≤ z4 ∧ z4 ≤ 5) => ?_)
    refine And.intro (by decide) ?_
    refine And.intro (fun (h6 : ((0 : Int) ≤ z4 : Prop)) => ?_) (fun (h6 : (z4 < (0 : Int) : Prop)) => ?_)
    ·
      refine c_Writer_isAtEndOf (t := z4) (show 0 ≤ z4 ∧ z4 ≤ 5 by omega) (show ((S 40 0 2 = 4 ∨ S 40 0 2 = 5) → 0 ≤ S 40 0 0 ∧ (S 40 0 13 = 2 → 0 ≤ S 40 0 14)) by omega) (fun (z7 : Int) (S8 : fxS) ⟨(f9 : fxfr [(40, 0), (40, 1), (40, 2), (40, 3), (40, 4)] S S8), (q10 : 0 ≤ z7 ∧ z7 ≤ 1 ∧ (z7 = 1 → S8 40 0 0 = z4) ∧ ((S8 40 0 2 = 4 ∨ S8 40 0 2 = 5) → 0 ≤ S8 40 0 0 ∧ (S8 40 0 13 = 2 → 0 ≤ S8 40 0 14)))⟩ => ?_)
      have w11 : S8 40 0 13 = S 40 0 13 := f9 40 0 13 rfl
      have w12 : S8 40 0 14 = S 40 0 14 := f9 40 0 14 rfl
      refine And.intro (fun (h13 : (z7 = (0 : Int) : Prop)) => ?_) (fun (h13 : (z7 ≠ (0 : Int) : Prop)) => ?_)
      ·
        refine And.intro (show 0 ≤ (1 : Int) ∧ (1 : Int) ≤ 1 by omega) ?_
        exact hk (1 : Int) S8 ⟨(fxfr_tr fxfr_rfl f9 rfl), by omega⟩
      ·
        refine c_Writer_beginDelete (d := z1) (show 0 ≤ S8 40 0 0 by omega) (show -2147483648 ≤ z1 ∧ z1 < 2147483648 by omega) (fun (S14 : fxS) ⟨(f15 : fxfr [(26, 2), (40, 2), (40, 3), (40, 4), (40, 12), (40, 13), (40, 14), (40, 15), (43, 9999)] S8 S14), (q16 : ((S14 40 0 2 = 4 ∨ S14 40 0 2 = 5) → 0 ≤ S14 40 0 0 ∧ (S14 40 0 13 = 2 → 0 ≤ S14 40 0 14)))⟩ => ?_)
        have w17 : S14 40 0 0 = S8 40 0 0 := f15 40 0 0 rfl
        refine And.intro (show 0 ≤ (1 : Int) ∧ (1 : Int) ≤ 1 by omega) ?_
        exact hk (1 : Int) S14 ⟨(fxfr_tr (fxfr_tr fxfr_rfl f9 rfl) f15 rfl), by omega⟩
    ·
      refine And.intro (show 0 ≤ (0 : Int) ∧ (0 : Int) ≤ 1 by omega) ?_
      exact hk (0 : Int) S ⟨fxfr_rfl, by omega⟩
  ·
    refine And.intro (show 0 ≤ (0 : Int) ∧ (0 : Int) ≤ 1 by omega) ?_
    exact hk (0 : Int) S ⟨fxfr_rfl, by omega⟩
theorem c_Writer_beginParcel {l : Launch} {k : fxK} {S : fxS}  (p0 : 0 ≤ S 40 0 0) (hk : ∀ (S' : fxS) , (fxfr [(40, 2), (40, 3), (40, 4), (40, 12), (40, 13), (40, 14), (40, 15), (43, 9999)] S S' ∧ (((S' 40 0 2 = 4 ∨ S' 40 0 2 = 5) → 0 ≤ S' 40 0 0 ∧ (S' 40 0 13 = 2 → 0 ≤ S' 40 0 14)))) → k none S') : fC l 231 [.inr (.inr (40, 0))] S k := by
  refine fxe_231 (Nat.le_of_ble_eq_true rfl) (fxz_231 400 ?_)
  intro z1 (z1a : (0 : Int) ≤ z1) (z1b : z1 ≤ (1089 : Int)) (z1c : z1 = S 38 0 15)
  refine And.intro (show (0 : Int) ≤ z1 ∧ z1 ≤ (1089 : Int) by omega) ?_
  have w2 : (fx_up S 40 0 12 z1) 40 0 0 = S 40 0 0 := if_neg (fun q => absurd q.2.2 (by decide))
  have w3 : (fx_up S 40 0 12 z1) 40 0 2 = S 40 0 2 := if_neg (fun q => absurd q.2.2 (by decide))
  have w4 : (fx_up S 40 0 12 z1) 40 0 13 = S 40 0 13 := if_neg (fun q => absurd q.2.2 (by decide))
  have w5 : (fx_up S 40 0 12 z1) 40 0 14 = S 40 0 14 := if_neg (fun q => absurd q.2.2 (by decide))
  have w6 : (fx_up S 40 0 12 z1) 38 0 15 = S 38 0 15 := rfl
  intro z7 (z7a : (0 : Int) ≤ z7) (z7b : z7 ≤ (1089 : Int)) (z7c : z7 = (fx_up S 40 0 12 z1) 40 0 12)
  refine And.intro (show ((-128 : Int) ≤ (-128 : Int) ∧ (127 : Int) ≤ (127 : Int) : Prop) by omega) (And.intro (show (0 ≤ (0 : Int) ∧ 0 ≤ (0 : Int)) ∧ (0 ≤ z7 ∧ (0 : Int) + z7 ≤ (1089 : Int) ∧ (0 : Int) + z7 ≤ (1089 : Int)) by omega) ?_)
  have w8 : (fx_cpy (fx_up S 40 0 12 z1) 43 0 (0 : Int) z7 39 0 (0 : Int)) 40 0 0 = (fx_up S 40 0 12 z1) 40 0 0 := rfl
  have w9 : (fx_cpy (fx_up S 40 0 12 z1) 43 0 (0 : Int) z7 39 0 (0 : Int)) 40 0 2 = (fx_up S 40 0 12 z1) 40 0 2 := rfl
  have w10 : (fx_cpy (fx_up S 40 0 12 z1) 43 0 (0 : Int) z7 39 0 (0 : Int)) 40 0 13 = (fx_up S 40 0 12 z1) 40 0 13 := rfl
  have w11 : (fx_cpy (fx_up S 40 0 12 z1) 43 0 (0 : Int) z7 39 0 (0 : Int)) 40 0 14 = (fx_up S 40 0 12 z1) 40 0 14 := rfl
  have w12 : (fx_cpy (fx_up S 40 0 12 z1) 43 0 (0 : Int) z7 39 0 (0 : Int)) 38 0 15 = (fx_up S 40 0 12 z1) 38 0 15 := rfl
  refine c_numberAt43 (p := (2 : Int)) (c := (4 : Int)) (show 0 ≤ (2 : Int) by omega) (show 0 ≤ (4 : Int) ∧ (4 : Int) ≤ 8 ∧ (2 : Int) + (4 : Int) ≤ 1089 by omega) (fun (z13 : Int) (q14 : -2147483648 ≤ z13 ∧ z13 < 2147483648) => ?_)
  refine c_Writer_beginWriting (w := (1 : Int)) (n := (-1 : Int)) (d := z13) (show 0 ≤ (1 : Int) ∧ (1 : Int) ≤ 2 by omega) (show -1 ≤ (-1 : Int) ∧ (-1 : Int) < 60 ∧ ((1 : Int) = 2 → 0 ≤ (-1 : Int)) by omega) (show 0 ≤ (fx_cpy (fx_up S 40 0 12 z1) 43 0 (0 : Int) z7 39 0 (0 : Int)) 40 0 0 by omega) (show -2147483648 ≤ z13 ∧ z13 < 2147483648 by omega) (fun (S15 : fxS) ⟨(f16 : fxfr [(40, 2), (40, 3), (40, 4), (40, 13), (40, 14), (40, 15)] (fx_cpy (fx_up S 40 0 12 z1) 43 0 (0 : Int) z7 39 0 (0 : Int)) S15), (q17 : ((S15 40 0 2 = 4 ∨ S15 40 0 2 = 5) → 0 ≤ S15 40 0 0 ∧ (S15 40 0 13 = 2 → 0 ≤ S15 40 0 14)))⟩ => ?_)
  have w18 : S15 40 0 0 = (fx_cpy (fx_up S 40 0 12 z1) 43 0 (0 : Int) z7 39 0 (0 : Int)) 40 0 0 := f16 40 0 0 rfl
  have w19 : S15 38 0 15 = (fx_cpy (fx_up S 40 0 12 z1) 43 0 (0 : Int) z7 39 0 (0 : Int)) 38 0 15 := f16 38 0 15 rfl
  exact hk S15 ⟨(fxfr_tr (fxfr_cpy (fxfr_up fxfr_rfl rfl) (fun _ => rfl)) f16 rfl), by omega⟩
theorem c_Writer_goForParcel {l : Launch} {k : fxK} {S : fxS}  (p0 : ((S 40 0 2 = 4 ∨ S 40 0 2 = 5) → 0 ≤ S 40 0 0 ∧ (S 40 0 13 = 2 → 0 ≤ S 40 0 14))) (hk : ∀ (r : Int) (S' : fxS) , (fxfr [(40, 0), (40, 1), (40, 2), (40, 3), (40, 4), (40, 12), (40, 13), (40, 14), (40, 15), (43, 9999)] S S' ∧ (0 ≤ r ∧ r ≤ 1 ∧ ((S' 40 0 2 = 4 ∨ S' 40 0 2 = 5) → 0 ≤ S' 40 0 0 ∧ (S' 40 0 13 = 2 → 0 ≤ S' 40 0 14)))) → k (some (.inl r)) S') : fC l 232 [.inr (.inr (40, 0))] S k := by
  refine fxe_232 (Nat.le_of_ble_eq_true rfl) (fxz_232 400 ?_)
  intro z1 (z1a : (0 : Int) ≤ z1) (z1b : z1 ≤ (1089 : Int)) (z1c : z1 = S 38 0 15)
  refine And.intro (fun (h2 : (z1 ≠ (0 : Int) : Prop)) => ?_) (fun (h2 : (z1 = (0 : Int) : Prop)) => ?_)
  ·
    intro z3 (z3a : (-1 : Int) ≤ z3) (z3b : z3 ≤ (5 : Int)) (z3c : z3 = S 38 0 12)
    intro z4 (z4a : (0 : Int) ≤ z4) (z4b : z4 ≤ (6000 : Int)) (z4c : z4 = S 38 0 16)
    refine c_Tree_ownerOf (t := z3) (p := z4) (show -2147483648 ≤ z3 ∧ z3 < 2147483648 by omega) (show -2147483648 ≤ z4 ∧ z4 < 2147483648 by omega) (fun (z5 : Int) (q6 : -1 ≤ z5 ∧ z5 < 60 ∧ z5 ≠ 0) => ?_)
    refine And.intro (by decide) ?_
    intro z7 (z7a : (0 : Int) ≤ z7) (z7b : z7 ≤ (1089 : Int)) (z7c : z7 = S 38 0 15)
    refine c_Writer_targetFor (e := z7) (n := z5) (show 0 ≤ z7 ∧ z7 ≤ 3000 by omega) (show -1 ≤ z5 ∧ z5 < 60 by omega) (fun (z8 : Int) (q9 : -1 ≤ z8 ∧ z8 ≤ 5) => ?_)
    refine And.intro (by decide) ?_
    refine And.intro (fun (h10 : ((0 : Int) ≤ z8 : Prop)) => ?_) (fun (h10 : (z8 < (0 : Int) : Prop)) => ?_)
    ·
      refine c_Writer_isAtEndOf (t := z8) (show 0 ≤ z8 ∧ z8 ≤ 5 by omega) (show ((S 40 0 2 = 4 ∨ S 40 0 2 = 5) → 0 ≤ S 40 0 0 ∧ (S 40 0 13 = 2 → 0 ≤ S 40 0 14)) by omega) (fun (z11 : Int) (S12 : fxS) ⟨(f13 : fxfr [(40, 0), (40, 1), (40, 2), (40, 3), (40, 4)] S S12), (q14 : 0 ≤ z11 ∧ z11 ≤ 1 ∧ (z11 = 1 → S12 40 0 0 = z8) ∧ ((S12 40 0 2 = 4 ∨ S12 40 0 2 = 5) → 0 ≤ S12 40 0 0 ∧ (S12 40 0 13 = 2 → 0 ≤ S12 40 0 14)))⟩ => ?_)
      have w15 : S12 40 0 13 = S 40 0 13 := f13 40 0 13 rfl
      have w16 : S12 40 0 14 = S 40 0 14 := f13 40 0 14 rfl
      refine And.intro (fun (h17 : (z11 = (0 : Int) : Prop)) => ?_) (fun (h17 : (z11 ≠ (0 : Int) : Prop)) => ?_)
      ·
        refine And.intro (show 0 ≤ (1 : Int) ∧ (1 : Int) ≤ 1 by omega) ?_
        exact hk (1 : Int) S12 ⟨(fxfr_tr fxfr_rfl f13 rfl), by omega⟩
      ·
        refine c_Writer_beginParcel  (show 0 ≤ S12 40 0 0 by omega) (fun (S18 : fxS) ⟨(f19 : fxfr [(40, 2), (40, 3), (40, 4), (40, 12), (40, 13), (40, 14), (40, 15), (43, 9999)] S12 S18), (q20 : ((S18 40 0 2 = 4 ∨ S18 40 0 2 = 5) → 0 ≤ S18 40 0 0 ∧ (S18 40 0 13 = 2 → 0 ≤ S18 40 0 14)))⟩ => ?_)
        have w21 : S18 40 0 0 = S12 40 0 0 := f19 40 0 0 rfl
        refine And.intro (show 0 ≤ (1 : Int) ∧ (1 : Int) ≤ 1 by omega) ?_
        exact hk (1 : Int) S18 ⟨(fxfr_tr (fxfr_tr fxfr_rfl f13 rfl) f19 rfl), by omega⟩
    ·
      refine And.intro (show 0 ≤ (0 : Int) ∧ (0 : Int) ≤ 1 by omega) ?_
      exact hk (0 : Int) S ⟨fxfr_rfl, by omega⟩
  ·
    refine And.intro (show 0 ≤ (0 : Int) ∧ (0 : Int) ≤ 1 by omega) ?_
    exact hk (0 : Int) S ⟨fxfr_rfl, by omega⟩
theorem z_Migrator_rankFiles {l : Launch} {k : fxK} {S : fxS} {s : Int} (p0 : -2147483648 ≤ s ∧ s < 2147483648) (hk : ∀ (S' : fxS) , (fxfr [(44, 10), (47, 9999), (48, 9999)] S S') → k none S') : ∀ m : Nat, (∀ (n : Int) (S1 : fxS), (fxfr [(44, 10), (47, 9999), (48, 9999)] S S1) → (1 ≤ n ∧ n ≤ 60) → (0 ≤ S1 44 0 10 ∧ S1 44 0 10 < n) → (61 - n) * 100 + 99 ≤ (m : Int) → fZ l 246 k 7 [some (.inr (.inr (44, 0))), some (.inl s), some (.inl n), none, none, none] [] S1) ∧ (∀ (n q a : Int) (S1 : fxS), (fxfr [(44, 10), (47, 9999), (48, 9999)] S S1) → (1 ≤ n ∧ n < 60) → (0 ≤ S1 44 0 10 ∧ S1 44 0 10 < n) → (-2147483648 ≤ q ∧ q < 2147483648) → (0 ≤ a ∧ a ≤ 58) → (61 - n) * 100 + a ≤ (m : Int) → fZ l 246 k 79 [some (.inr (.inr (44, 0))), some (.inl s), some (.inl n), none, some (.inl q), some (.inl a)] [] S1) := by
  intro m
  induction m with
  | zero =>
    refine ⟨?_, ?_⟩
    · intro n S1 hf i0 i1 hmu
      exfalso
      omega
    · intro n q a S1 hf i0 i1 i2 i3 hmu
      exfalso
      omega
  | succ m ih =>
    refine ⟨?_, ?_⟩
    · intro n S1 hf i0 i1 hmu
      refine fxz_246 400 ?_
      refine And.intro (fun (h1 : ((60 : Int) ≤ n : Prop)) => ?_) (fun (h1 : (n < (60 : Int) : Prop)) => ?_)
      ·
        exact hk S1 hf
      ·
        refine And.intro (show 0 ≤ n ∧ n < 60 by omega) ?_
        refine And.intro (by decide) ?_
        intro z2 (z2a : (0 : Int) ≤ z2) (z2b : z2 ≤ (2 : Int)) (z2c : z2 = S1 4 (n).toNat 0)
        refine And.intro (fun (h3 : (z2 ≠ (2 : Int) : Prop)) => ?_) (fun (h3 : (z2 = (2 : Int) : Prop)) => ?_)
        ·
          refine And.intro (by decide) (And.intro (show -2147483648 ≤ n + (1 : Int) ∧ n + (1 : Int) < 2147483648 by omega) ?_)
          exact ih.1 (n + (1 : Int)) S1 hf (by omega) (by omega) (by omega)
        ·
          refine And.intro (fun (h5 : (s ≠ (0 : Int) : Prop)) => ?_) (fun (h5 : (s = (0 : Int) : Prop)) => ?_)
          ·
            intro z6 (z6a : (-2147483648 : Int) ≤ z6) (z6b : z6 ≤ (2147483647 : Int)) (z6c : z6 = S1 4 (n).toNat 12)
            refine And.intro (fun (h7 : (z6 ≠ (0 : Int) : Prop)) => ?_) (fun (h7 : (z6 = (0 : Int) : Prop)) => ?_)
            ·
              intro z8 (z8a : (-2147483648 : Int) ≤ z8) (z8b : z8 ≤ (2147483647 : Int)) (z8c : z8 = S1 2 0 1)
              intro z9 (z9a : (-2147483648 : Int) ≤ z9) (z9b : z9 ≤ (2147483647 : Int)) (z9c : z9 = S1 4 (n).toNat 6)
              intro z10 (z10a : -2147483648 ≤ z10) (z10b : z10 < 2147483648) (z10c : -2147483648 ≤ (z8 - z9) ∧ (z8 - z9) < 2147483648 → z10 = (z8 - z9))
              refine c_Node_blocks (i := (n).toNat)  (fun (z11 : Int) (q12 : 0 ≤ z11 ∧ z11 ≤ 32 ∧ S1 4 (n).toNat 4 ≤ 32 * z11 ∧ 32 * z11 < S1 4 (n).toNat 4 + 32) => ?_)
              refine And.intro (show -2147483648 ≤ ((4 : Int) * z11) ∧ ((4 : Int) * z11) < 2147483648 by omega) ?_
              intro z13 (z13a : -2147483648 ≤ z13) (z13b : z13 < 2147483648) (z13c : -2147483648 ≤ (z10 + ((4 : Int) * z11)) ∧ (z10 + ((4 : Int) * z11)) < 2147483648 → z13 = (z10 + ((4 : Int) * z11)))
              refine And.intro (by decide) ?_
              intro z14 (z14a : (0 : Int) ≤ z14) (z14b : z14 ≤ (59 : Int)) (z14c : z14 = S1 44 0 10)
              refine And.intro (by decide) ?_
              exact ih.2 n z13 z14 S1 hf (by omega) (by omega) (by omega) (by omega) (by omega)
            ·
              refine And.intro (by decide) (And.intro (show -2147483648 ≤ n + (1 : Int) ∧ n + (1 : Int) < 2147483648 by omega) ?_)
              exact ih.1 (n + (1 : Int)) S1 hf (by omega) (by omega) (by omega)
          ·
            intro z16 (z16a : (-2147483648 : Int) ≤ z16) (z16b : z16 ≤ (2147483647 : Int)) (z16c : z16 = S1 4 (n).toNat 11)
            refine And.intro (fun (h17 : (z16 ≠ (0 : Int) : Prop)) => ?_) (fun (h17 : (z16 = (0 : Int) : Prop)) => ?_)
            ·
              intro z18 (z18a : (-2147483648 : Int) ≤ z18) (z18b : z18 ≤ (2147483647 : Int)) (z18c : z18 = S1 2 0 1)
              intro z19 (z19a : (-2147483648 : Int) ≤ z19) (z19b : z19 ≤ (2147483647 : Int)) (z19c : z19 = S1 4 (n).toNat 6)
              intro z20 (z20a : -2147483648 ≤ z20) (z20b : z20 < 2147483648) (z20c : -2147483648 ≤ (z18 - z19) ∧ (z18 - z19) < 2147483648 → z20 = (z18 - z19))
              refine c_Node_blocks (i := (n).toNat)  (fun (z21 : Int) (q22 : 0 ≤ z21 ∧ z21 ≤ 32 ∧ S1 4 (n).toNat 4 ≤ 32 * z21 ∧ 32 * z21 < S1 4 (n).toNat 4 + 32) => ?_)
              refine And.intro (show -2147483648 ≤ ((4 : Int) * z21) ∧ ((4 : Int) * z21) < 2147483648 by omega) ?_
              intro z23 (z23a : -2147483648 ≤ z23) (z23b : z23 < 2147483648) (z23c : -2147483648 ≤ (z20 + ((4 : Int) * z21)) ∧ (z20 + ((4 : Int) * z21)) < 2147483648 → z23 = (z20 + ((4 : Int) * z21)))
              refine And.intro (by decide) ?_
              intro z24 (z24a : (0 : Int) ≤ z24) (z24b : z24 ≤ (59 : Int)) (z24c : z24 = S1 44 0 10)
              refine And.intro (by decide) ?_
              exact ih.2 n z23 z24 S1 hf (by omega) (by omega) (by omega) (by omega) (by omega)
            ·
              refine And.intro (by decide) (And.intro (show -2147483648 ≤ n + (1 : Int) ∧ n + (1 : Int) < 2147483648 by omega) ?_)
              exact ih.1 (n + (1 : Int)) S1 hf (by omega) (by omega) (by omega)
    · intro n q a S1 hf i0 i1 i2 i3 hmu
      refine fxz_246 400 ?_
      refine And.intro (fun (h26 : (a ≤ (0 : Int) : Prop)) => ?_) (fun (h26 : ((0 : Int) < a : Prop)) => ?_)
      ·
        refine And.intro (show 0 ≤ a ∧ a < 60 by omega) ?_
        refine And.intro (show (0 : Int) ≤ n ∧ n ≤ (59 : Int) by omega) ?_
        have w27 : (fx_up S1 47 0 (a).toNat n) 44 0 10 = S1 44 0 10 := rfl
        refine And.intro (show 0 ≤ a ∧ a < 60 by omega) ?_
        refine And.intro (show (-2147483648 : Int) ≤ q ∧ q ≤ (2147483647 : Int) by omega) ?_
        have w28 : (fx_up (fx_up S1 47 0 (a).toNat n) 48 0 (a).toNat q) 44 0 10 = (fx_up S1 47 0 (a).toNat n) 44 0 10 := rfl
        intro z29 (z29a : (0 : Int) ≤ z29) (z29b : z29 ≤ (59 : Int)) (z29c : z29 = (fx_up (fx_up S1 47 0 (a).toNat n) 48 0 (a).toNat q) 44 0 10)
        refine And.intro (show -2147483648 ≤ (z29 + (1 : Int)) ∧ (z29 + (1 : Int)) < 2147483648 by omega) ?_
        refine And.intro (show (0 : Int) ≤ (z29 + (1 : Int)) ∧ (z29 + (1 : Int)) ≤ (59 : Int) by omega) ?_
        have w30 : (fx_up (fx_up (fx_up S1 47 0 (a).toNat n) 48 0 (a).toNat q) 44 0 10 (z29 + (1 : Int))) 44 0 10 = (z29 + (1 : Int)) := fx_up_at _ _ _ _ _
        refine And.intro (by decide) (And.intro (show -2147483648 ≤ n + (1 : Int) ∧ n + (1 : Int) < 2147483648 by omega) ?_)
        exact ih.1 (n + (1 : Int)) (fx_up (fx_up (fx_up S1 47 0 (a).toNat n) 48 0 (a).toNat q) 44 0 10 (z29 + (1 : Int))) (fxfr_up (fxfr_up (fxfr_up hf rfl) rfl) rfl) (by omega) (by omega) (by omega)
      ·
        refine And.intro (show -2147483648 ≤ (a - (1 : Int)) ∧ (a - (1 : Int)) < 2147483648 by omega) ?_
        refine And.intro (show 0 ≤ (a - (1 : Int)) ∧ (a - (1 : Int)) < 60 by omega) ?_
        intro z32 (z32a : (-2147483648 : Int) ≤ z32) (z32b : z32 ≤ (2147483647 : Int)) (z32c : z32 = S1 48 0 ((a - (1 : Int))).toNat)
        refine And.intro (fun (h33 : (q ≤ z32 : Prop)) => ?_) (fun (h33 : (z32 < q : Prop)) => ?_)
        ·
          refine And.intro (show 0 ≤ a ∧ a < 60 by omega) ?_
          refine And.intro (show (0 : Int) ≤ n ∧ n ≤ (59 : Int) by omega) ?_
          have w34 : (fx_up S1 47 0 (a).toNat n) 44 0 10 = S1 44 0 10 := rfl
          refine And.intro (show 0 ≤ a ∧ a < 60 by omega) ?_
          refine And.intro (show (-2147483648 : Int) ≤ q ∧ q ≤ (2147483647 : Int) by omega) ?_
          have w35 : (fx_up (fx_up S1 47 0 (a).toNat n) 48 0 (a).toNat q) 44 0 10 = (fx_up S1 47 0 (a).toNat n) 44 0 10 := rfl
          intro z36 (z36a : (0 : Int) ≤ z36) (z36b : z36 ≤ (59 : Int)) (z36c : z36 = (fx_up (fx_up S1 47 0 (a).toNat n) 48 0 (a).toNat q) 44 0 10)
          refine And.intro (show -2147483648 ≤ (z36 + (1 : Int)) ∧ (z36 + (1 : Int)) < 2147483648 by omega) ?_
          refine And.intro (show (0 : Int) ≤ (z36 + (1 : Int)) ∧ (z36 + (1 : Int)) ≤ (59 : Int) by omega) ?_
          have w37 : (fx_up (fx_up (fx_up S1 47 0 (a).toNat n) 48 0 (a).toNat q) 44 0 10 (z36 + (1 : Int))) 44 0 10 = (z36 + (1 : Int)) := fx_up_at _ _ _ _ _
          refine And.intro (by decide) (And.intro (show -2147483648 ≤ n + (1 : Int) ∧ n + (1 : Int) < 2147483648 by omega) ?_)
          exact ih.1 (n + (1 : Int)) (fx_up (fx_up (fx_up S1 47 0 (a).toNat n) 48 0 (a).toNat q) 44 0 10 (z36 + (1 : Int))) (fxfr_up (fxfr_up (fxfr_up hf rfl) rfl) rfl) (by omega) (by omega) (by omega)
        ·
          refine And.intro (show -2147483648 ≤ (a - (1 : Int)) ∧ (a - (1 : Int)) < 2147483648 by omega) ?_
          refine And.intro (show 0 ≤ (a - (1 : Int)) ∧ (a - (1 : Int)) < 60 by omega) ?_
          intro z39 (z39a : (0 : Int) ≤ z39) (z39b : z39 ≤ (59 : Int)) (z39c : z39 = S1 47 0 ((a - (1 : Int))).toNat)
          refine And.intro (show 0 ≤ a ∧ a < 60 by omega) ?_
          refine And.intro (show (0 : Int) ≤ z39 ∧ z39 ≤ (59 : Int) by omega) ?_
          have w40 : (fx_up S1 47 0 (a).toNat z39) 44 0 10 = S1 44 0 10 := rfl
          refine And.intro (show -2147483648 ≤ (a - (1 : Int)) ∧ (a - (1 : Int)) < 2147483648 by omega) ?_
          refine And.intro (show 0 ≤ (a - (1 : Int)) ∧ (a - (1 : Int)) < 60 by omega) ?_
          intro z41 (z41a : (-2147483648 : Int) ≤ z41) (z41b : z41 ≤ (2147483647 : Int)) (z41c : z41 = (fx_up S1 47 0 (a).toNat z39) 48 0 ((a - (1 : Int))).toNat)
          refine And.intro (show 0 ≤ a ∧ a < 60 by omega) ?_
          refine And.intro (show (-2147483648 : Int) ≤ z41 ∧ z41 ≤ (2147483647 : Int) by omega) ?_
          have w42 : (fx_up (fx_up S1 47 0 (a).toNat z39) 48 0 (a).toNat z41) 44 0 10 = (fx_up S1 47 0 (a).toNat z39) 44 0 10 := rfl
          refine And.intro (by decide) (And.intro (show -2147483648 ≤ a + (-1 : Int) ∧ a + (-1 : Int) < 2147483648 by omega) ?_)
          exact ih.2 n q (a + (-1 : Int)) (fx_up (fx_up S1 47 0 (a).toNat z39) 48 0 (a).toNat z41) (fxfr_up (fxfr_up hf rfl) rfl) (by omega) (by omega) (by omega) (by omega) (by omega)
theorem c_Migrator_rankFiles {l : Launch} {k : fxK} {S : fxS} {s : Int} (p0 : -2147483648 ≤ s ∧ s < 2147483648) (hk : ∀ (S' : fxS) , (fxfr [(44, 10), (47, 9999), (48, 9999)] S S') → k none S') : fC l 246 [.inr (.inr (44, 0)), .inl s] S k := by
  refine fxe_246 (Nat.le_of_ble_eq_true rfl) (fxz_246 400 ?_)
  refine And.intro (show (0 : Int) ≤ (0 : Int) ∧ (0 : Int) ≤ (59 : Int) by omega) ?_
  have w44 : (fx_up S 44 0 10 (0 : Int)) 44 0 10 = (0 : Int) := fx_up_at _ _ _ _ _
  refine And.intro (by decide) ?_
  exact (z_Migrator_rankFiles p0 hk ((61 - (1 : Int)) * 100 + 99).toNat).1 (1 : Int) (fx_up S 44 0 10 (0 : Int)) (fxfr_up fxfr_rfl rfl) (by omega) (by omega) (by omega)
theorem z_Migrator_releaseFirst {l : Launch} {k : fxK} {S : fxS}  (p0 : TreeL S) (hk : ∀ (r : Int) (S' : fxS) , (fxfr [(4, 11), (4, 12), (7, 9999), (8, 4), (10, 9999), (11, 9999), (12, 9999), (13, 6), (13, 7), (13, 10), (15, 9999), (16, 9999), (17, 9999), (18, 9999), (19, 9999), (20, 0), (20, 1), (20, 3), (20, 4), (20, 5), (20, 6), (20, 7), (20, 11), (20, 12), (21, 9999), (22, 9999), (23, 9999)] S S' ∧ (r = 0 ∨ r = 1) ∧ (TreeL S')) → k (some (.inl r)) S') : ∀ m : Nat, (∀ (j : Int) (S1 : fxS), (fxfr [(4, 11), (4, 12), (7, 9999), (8, 4), (10, 9999), (11, 9999), (12, 9999), (13, 6), (13, 7), (13, 10), (15, 9999), (16, 9999), (17, 9999), (18, 9999), (19, 9999), (20, 0), (20, 1), (20, 3), (20, 4), (20, 5), (20, 6), (20, 7), (20, 11), (20, 12), (21, 9999), (22, 9999), (23, 9999)] S S1) → (0 ≤ j ∧ j ≤ 59) → (TreeL S1) → 60 - j ≤ (m : Int) → fZ l 249 k 2 [some (.inr (.inr (44, 0))), some (.inl j)] [] S1) := by
  intro m
  induction m with
  | zero =>
    intro j S1 hf i0 i1 hmu
    exfalso
    omega
  | succ m ih =>
    intro j S1 hf i0 i1 hmu
    refine fxz_249 400 ?_
    intro z1 (z1a : (0 : Int) ≤ z1) (z1b : z1 ≤ (59 : Int)) (z1c : z1 = S1 44 0 10)
    refine And.intro (fun (h2 : (z1 ≤ j : Prop)) => ?_) (fun (h2 : (j < z1 : Prop)) => ?_)
    ·
      refine And.intro (show 0 ≤ (0 : Int) ∧ (0 : Int) ≤ 1 by omega) ?_
      exact hk (0 : Int) S1 ⟨hf, by omega, i1⟩
    ·
      refine And.intro (show 0 ≤ j ∧ j < 60 by omega) ?_
      intro z3 (z3a : (0 : Int) ≤ z3) (z3b : z3 ≤ (59 : Int)) (z3c : z3 = S1 47 0 (j).toNat)
      refine And.intro (show 0 ≤ z3 ∧ z3 < 60 by omega) ?_
      refine c_Tree_hasItsCopies (j := (z3).toNat)  (fun (z4 : Int) (q5 : z4 = 0 ∨ z4 = 1) => ?_)
      refine And.intro (fun (h6 : (z4 = (0 : Int) : Prop)) => ?_) (fun (h6 : (z4 ≠ (0 : Int) : Prop)) => ?_)
      ·
        refine And.intro (by decide) (And.intro (show -2147483648 ≤ j + (1 : Int) ∧ j + (1 : Int) < 2147483648 by omega) ?_)
        exact ih (j + (1 : Int)) S1 hf (by omega) i1 (by omega)
      ·
        refine And.intro (show 0 ≤ j ∧ j < 60 by omega) ?_
        intro z8 (z8a : (0 : Int) ≤ z8) (z8b : z8 ≤ (59 : Int)) (z8c : z8 = S1 47 0 (j).toNat)
        refine c_Changes_release (n := z8) (show 0 ≤ z8 ∧ z8 < 60 by omega) i1 (fun (S9 : fxS) ⟨(f10 : fxfr [(4, 11), (4, 12), (7, 9999), (8, 4), (10, 9999), (11, 9999), (12, 9999), (13, 6), (13, 7), (13, 10), (15, 9999), (16, 9999), (17, 9999), (18, 9999), (19, 9999), (20, 0), (20, 1), (20, 3), (20, 4), (20, 5), (20, 6), (20, 7), (20, 11), (20, 12), (21, 9999), (22, 9999), (23, 9999)] S1 S9), (g11 : TreeL S9)⟩ => ?_)
        refine And.intro (show 0 ≤ (1 : Int) ∧ (1 : Int) ≤ 1 by omega) ?_
        exact hk (1 : Int) S9 ⟨(fxfr_tr hf f10 rfl), by omega, g11⟩
theorem c_Migrator_releaseFirst {l : Launch} {k : fxK} {S : fxS}  (p0 : TreeL S) (hk : ∀ (r : Int) (S' : fxS) , (fxfr [(4, 11), (4, 12), (7, 9999), (8, 4), (10, 9999), (11, 9999), (12, 9999), (13, 6), (13, 7), (13, 10), (15, 9999), (16, 9999), (17, 9999), (18, 9999), (19, 9999), (20, 0), (20, 1), (20, 3), (20, 4), (20, 5), (20, 6), (20, 7), (20, 11), (20, 12), (21, 9999), (22, 9999), (23, 9999)] S S' ∧ (r = 0 ∨ r = 1) ∧ (TreeL S')) → k (some (.inl r)) S') : fC l 249 [.inr (.inr (44, 0))] S k := by
  refine fxe_249 (Nat.le_of_ble_eq_true rfl) (fxz_249 400 ?_)
  refine And.intro (by decide) ?_
  exact (z_Migrator_releaseFirst p0 hk (60 - (0 : Int)).toNat) (0 : Int) S fxfr_rfl (by omega) p0 (by omega)
theorem z_Migrator_queueFirst {l : Launch} {k : fxK} {S : fxS}   (hk : ∀ (S' : fxS) , (fxfr [(40, 10), (41, 9999), (42, 9999)] S S') → k none S') : ∀ m : Nat, (∀ (e j : Int) (S1 : fxS), (fxfr [(40, 10), (41, 9999), (42, 9999)] S S1) → (-2147483648 ≤ e ∧ e < 2147483648) → (0 ≤ j ∧ j ≤ 59) → 60 - j ≤ (m : Int) → fZ l 252 k 19 [some (.inr (.inr (44, 0))), some (.inl e), some (.inl j)] [] S1) := by
  intro m
  induction m with
  | zero =>
    intro e j S1 hf i0 i1 hmu
    exfalso
    omega
  | succ m ih =>
    intro e j S1 hf i0 i1 hmu
    refine fxz_252 400 ?_
    intro z1 (z1a : (0 : Int) ≤ z1) (z1b : z1 ≤ (59 : Int)) (z1c : z1 = S1 44 0 10)
    refine And.intro (fun (h2 : (z1 ≤ j : Prop)) => ?_) (fun (h2 : (j < z1 : Prop)) => ?_)
    ·
      exact hk S1 hf
    ·
      refine And.intro (fun (h3 : (e ≤ (0 : Int) : Prop)) => ?_) (fun (h3 : ((0 : Int) < e : Prop)) => ?_)
      ·
        exact hk S1 hf
      ·
        refine And.intro (show 0 ≤ j ∧ j < 60 by omega) ?_
        intro z4 (z4a : (0 : Int) ≤ z4) (z4b : z4 ≤ (59 : Int)) (z4c : z4 = S1 47 0 (j).toNat)
        refine c_Writer_isQueued (n := z4) (show 0 ≤ z4 ∧ z4 < 60 by omega) (fun (z5 : Int) (q6 : z5 = 0 ∨ z5 = 1) => ?_)
        refine And.intro (fun (h7 : (z5 ≠ (0 : Int) : Prop)) => ?_) (fun (h7 : (z5 = (0 : Int) : Prop)) => ?_)
        ·
          refine And.intro (show 0 ≤ j ∧ j < 60 by omega) ?_
          intro z8 (z8a : (0 : Int) ≤ z8) (z8b : z8 ≤ (59 : Int)) (z8c : z8 = S1 47 0 (j).toNat)
          refine And.intro (show 0 ≤ z8 ∧ z8 < 60 by omega) ?_
          intro z9 (z9a : (-2147483648 : Int) ≤ z9) (z9b : z9 ≤ (2147483647 : Int)) (z9c : z9 = S1 4 (z8).toNat 12)
          intro z10 (z10a : -2147483648 ≤ z10) (z10b : z10 < 2147483648) (z10c : -2147483648 ≤ (e - z9) ∧ (e - z9) < 2147483648 → z10 = (e - z9))
          refine And.intro (by decide) ?_
          refine And.intro (by decide) (And.intro (show -2147483648 ≤ j + (1 : Int) ∧ j + (1 : Int) < 2147483648 by omega) ?_)
          exact ih z10 (j + (1 : Int)) S1 hf (by omega) (by omega) (by omega)
        ·
          refine And.intro (show 0 ≤ j ∧ j < 60 by omega) ?_
          intro z12 (z12a : (0 : Int) ≤ z12) (z12b : z12 ≤ (59 : Int)) (z12c : z12 = S1 47 0 (j).toNat)
          refine c_Writer_enqueue (n := z12) (show 0 ≤ z12 ∧ z12 < 60 by omega) (fun (S13 : fxS) (f14 : fxfr [(40, 10), (41, 9999), (42, 9999)] S1 S13) => ?_)
          exact hk S13 (fxfr_tr hf f14 rfl)
theorem c_Migrator_queueFirst {l : Launch} {k : fxK} {S : fxS}   (hk : ∀ (S' : fxS) , (fxfr [(40, 10), (41, 9999), (42, 9999)] S S') → k none S') : fC l 252 [.inr (.inr (44, 0))] S k := by
  refine fxe_252 (Nat.le_of_ble_eq_true rfl) (fxz_252 400 ?_)
  refine And.intro (show 0 ≤ (1 : Int) ∧ (1 : Int) < 2 by omega) ?_
  intro z15 (z15a : (-2147483648 : Int) ≤ z15) (z15b : z15 ≤ (2147483647 : Int)) (z15c : z15 = S 12 0 ((1 : Int)).toNat)
  refine And.intro (show 0 ≤ (1 : Int) ∧ (1 : Int) < 2 by omega) ?_
  intro z16 (z16a : (0 : Int) ≤ z16) (z16b : z16 ≤ (160 : Int)) (z16c : z16 = S 46 0 ((1 : Int)).toNat)
  intro z17 (z17a : -2147483648 ≤ z17) (z17b : z17 < 2147483648) (z17c : -2147483648 ≤ (z15 - z16) ∧ (z15 - z16) < 2147483648 → z17 = (z15 - z16))
  refine And.intro (by decide) ?_
  refine And.intro (by decide) ?_
  exact (z_Migrator_queueFirst  hk (60 - (0 : Int)).toNat) z17 (0 : Int) S fxfr_rfl (by omega) (by omega) (by omega)
theorem c_Migrator_work {l : Launch} {k : fxK} {S : fxS}  (p0 : TreeL S) (hk : ∀ (S' : fxS) , (fxfr [(4, 11), (4, 12), (7, 9999), (8, 4), (9, 9999), (10, 9999), (11, 9999), (12, 9999), (13, 6), (13, 7), (13, 10), (15, 9999), (16, 9999), (17, 9999), (18, 9999), (19, 9999), (20, 0), (20, 1), (20, 3), (20, 4), (20, 5), (20, 6), (20, 7), (20, 11), (20, 12), (21, 9999), (22, 9999), (23, 9999), (40, 10), (41, 9999), (42, 9999), (44, 6), (44, 7), (44, 10), (47, 9999), (48, 9999)] S S' ∧ (TreeL S')) → k none S') : fC l 253 [.inr (.inr (44, 0))] S k := by
  refine fxe_253 (Nat.le_of_ble_eq_true rfl) (fxz_253 400 ?_)
  intro z1 (z1a : (0 : Int) ≤ z1) (z1b : z1 ≤ (1 : Int)) (z1c : z1 = S 44 0 6)
  refine c_Migrator_modeOf (s := (0 : Int)) (q := z1) (show 0 ≤ (0 : Int) ∧ (0 : Int) ≤ 1 by omega) (show 0 ≤ z1 ∧ z1 ≤ 1 by omega) (fun (z2 : Int) (q3 : z2 = 0 ∨ z2 = 1) => ?_)
  refine And.intro (show (0 : Int) ≤ z2 ∧ z2 ≤ (1 : Int) by omega) ?_
  have g4 : TreeL (fx_up S 44 0 6 z2) := fx_pup TreeL_stab rfl p0
  intro z5 (z5a : (0 : Int) ≤ z5) (z5b : z5 ≤ (1 : Int)) (z5c : z5 = (fx_up S 44 0 6 z2) 44 0 7)
  refine c_Migrator_modeOf (s := (1 : Int)) (q := z5) (show 0 ≤ (1 : Int) ∧ (1 : Int) ≤ 1 by omega) (show 0 ≤ z5 ∧ z5 ≤ 1 by omega) (fun (z6 : Int) (q7 : z6 = 0 ∨ z6 = 1) => ?_)
  refine And.intro (show (0 : Int) ≤ z6 ∧ z6 ≤ (1 : Int) by omega) ?_
  have g8 : TreeL (fx_up (fx_up S 44 0 6 z2) 44 0 7 z6) := fx_pup TreeL_stab rfl g4
  intro z9 (z9a : (0 : Int) ≤ z9) (z9b : z9 ≤ (1 : Int)) (z9c : z9 = (fx_up (fx_up S 44 0 6 z2) 44 0 7 z6) 44 0 6)
  refine And.intro (fun (h10 : (z9 = (0 : Int) : Prop)) => ?_) (fun (h10 : (z9 ≠ (0 : Int) : Prop)) => ?_)
  ·
    intro z11 (z11a : (0 : Int) ≤ z11) (z11b : z11 ≤ (1 : Int)) (z11c : z11 = (fx_up (fx_up S 44 0 6 z2) 44 0 7 z6) 44 0 7)
    refine And.intro (fun (h12 : (z11 = (0 : Int) : Prop)) => ?_) (fun (h12 : (z11 ≠ (0 : Int) : Prop)) => ?_)
    ·
      exact hk (fx_up (fx_up S 44 0 6 z2) 44 0 7 z6) ⟨(fxfr_up (fxfr_up fxfr_rfl rfl) rfl), g8⟩
    ·
      refine c_Migrator_rankFiles (s := (1 : Int)) (show -2147483648 ≤ (1 : Int) ∧ (1 : Int) < 2147483648 by omega) (fun (S13 : fxS) (f14 : fxfr [(44, 10), (47, 9999), (48, 9999)] (fx_up (fx_up S 44 0 6 z2) 44 0 7 z6) S13) => ?_)
      have g15 : TreeL S13 := fx_pfr TreeL_stab f14 rfl g8
      refine c_Migrator_releaseFirst  g15 (fun (z16 : Int) (S17 : fxS) ⟨(f18 : fxfr [(4, 11), (4, 12), (7, 9999), (8, 4), (10, 9999), (11, 9999), (12, 9999), (13, 6), (13, 7), (13, 10), (15, 9999), (16, 9999), (17, 9999), (18, 9999), (19, 9999), (20, 0), (20, 1), (20, 3), (20, 4), (20, 5), (20, 6), (20, 7), (20, 11), (20, 12), (21, 9999), (22, 9999), (23, 9999)] S13 S17), (q19 : z16 = 0 ∨ z16 = 1), (g20 : TreeL S17)⟩ => ?_)
      refine And.intro (fun (h21 : (z16 ≠ (0 : Int) : Prop)) => ?_) (fun (h21 : (z16 = (0 : Int) : Prop)) => ?_)
      ·
        exact hk S17 ⟨(fxfr_tr (fxfr_tr (fxfr_up (fxfr_up fxfr_rfl rfl) rfl) f14 rfl) f18 rfl), g20⟩
      ·
        refine c_Migrator_queueFirst   (fun (S22 : fxS) (f23 : fxfr [(40, 10), (41, 9999), (42, 9999)] S17 S22) => ?_)
        have g24 : TreeL S22 := fx_pfr TreeL_stab f23 rfl g20
        exact hk S22 ⟨(fxfr_tr (fxfr_tr (fxfr_tr (fxfr_up (fxfr_up fxfr_rfl rfl) rfl) f14 rfl) f18 rfl) f23 rfl), g24⟩
  ·
    refine And.intro (show 0 ≤ (1 : Int) ∧ (1 : Int) < 2 by omega) ?_
    intro z25 (z25a : (-2147483648 : Int) ≤ z25) (z25b : z25 ≤ (2147483647 : Int)) (z25c : z25 = (fx_up (fx_up S 44 0 6 z2) 44 0 7 z6) 11 0 ((1 : Int)).toNat)
    refine And.intro (fun (h26 : (z25 ≤ (0 : Int) : Prop)) => ?_) (fun (h26 : ((0 : Int) < z25 : Prop)) => ?_)
    ·
      intro z27 (z27a : (0 : Int) ≤ z27) (z27b : z27 ≤ (1 : Int)) (z27c : z27 = (fx_up (fx_up S 44 0 6 z2) 44 0 7 z6) 44 0 7)
      refine And.intro (fun (h28 : (z27 = (0 : Int) : Prop)) => ?_) (fun (h28 : (z27 ≠ (0 : Int) : Prop)) => ?_)
      ·
        exact hk (fx_up (fx_up S 44 0 6 z2) 44 0 7 z6) ⟨(fxfr_up (fxfr_up fxfr_rfl rfl) rfl), g8⟩
      ·
        refine c_Migrator_rankFiles (s := (1 : Int)) (show -2147483648 ≤ (1 : Int) ∧ (1 : Int) < 2147483648 by omega) (fun (S29 : fxS) (f30 : fxfr [(44, 10), (47, 9999), (48, 9999)] (fx_up (fx_up S 44 0 6 z2) 44 0 7 z6) S29) => ?_)
        have g31 : TreeL S29 := fx_pfr TreeL_stab f30 rfl g8
        refine c_Migrator_releaseFirst  g31 (fun (z32 : Int) (S33 : fxS) ⟨(f34 : fxfr [(4, 11), (4, 12), (7, 9999), (8, 4), (10, 9999), (11, 9999), (12, 9999), (13, 6), (13, 7), (13, 10), (15, 9999), (16, 9999), (17, 9999), (18, 9999), (19, 9999), (20, 0), (20, 1), (20, 3), (20, 4), (20, 5), (20, 6), (20, 7), (20, 11), (20, 12), (21, 9999), (22, 9999), (23, 9999)] S29 S33), (q35 : z32 = 0 ∨ z32 = 1), (g36 : TreeL S33)⟩ => ?_)
        refine And.intro (fun (h37 : (z32 ≠ (0 : Int) : Prop)) => ?_) (fun (h37 : (z32 = (0 : Int) : Prop)) => ?_)
        ·
          exact hk S33 ⟨(fxfr_tr (fxfr_tr (fxfr_up (fxfr_up fxfr_rfl rfl) rfl) f30 rfl) f34 rfl), g36⟩
        ·
          refine c_Migrator_queueFirst   (fun (S38 : fxS) (f39 : fxfr [(40, 10), (41, 9999), (42, 9999)] S33 S38) => ?_)
          have g40 : TreeL S38 := fx_pfr TreeL_stab f39 rfl g36
          exact hk S38 ⟨(fxfr_tr (fxfr_tr (fxfr_tr (fxfr_up (fxfr_up fxfr_rfl rfl) rfl) f30 rfl) f34 rfl) f39 rfl), g40⟩
    ·
      refine c_Migrator_rankFiles (s := (0 : Int)) (show -2147483648 ≤ (0 : Int) ∧ (0 : Int) < 2147483648 by omega) (fun (S41 : fxS) (f42 : fxfr [(44, 10), (47, 9999), (48, 9999)] (fx_up (fx_up S 44 0 6 z2) 44 0 7 z6) S41) => ?_)
      have g43 : TreeL S41 := fx_pfr TreeL_stab f42 rfl g8
      intro z44 (z44a : (0 : Int) ≤ z44) (z44b : z44 ≤ (59 : Int)) (z44c : z44 = S41 44 0 10)
      refine And.intro (fun (h45 : (z44 ≤ (0 : Int) : Prop)) => ?_) (fun (h45 : ((0 : Int) < z44 : Prop)) => ?_)
      ·
        exact hk S41 ⟨(fxfr_tr (fxfr_up (fxfr_up fxfr_rfl rfl) rfl) f42 rfl), g43⟩
      ·
        refine And.intro (show 0 ≤ (0 : Int) ∧ (0 : Int) < 60 by omega) ?_
        intro z46 (z46a : (0 : Int) ≤ z46) (z46b : z46 ≤ (59 : Int)) (z46c : z46 = S41 47 0 ((0 : Int)).toNat)
        refine c_Changes_sink (n := z46) (show 0 ≤ z46 ∧ z46 < 60 by omega) g43 (fun (S47 : fxS) ⟨(f48 : fxfr [(4, 11), (4, 12), (7, 9999), (8, 4), (9, 9999), (10, 9999), (11, 9999), (12, 9999), (13, 6), (13, 7), (13, 10), (15, 9999), (16, 9999), (17, 9999), (18, 9999), (19, 9999), (20, 0), (20, 1), (20, 3), (20, 4), (20, 5), (20, 6), (20, 7), (20, 11), (20, 12), (21, 9999), (22, 9999), (23, 9999)] S41 S47), (g49 : TreeL S47)⟩ => ?_)
        exact hk S47 ⟨(fxfr_tr (fxfr_tr (fxfr_up (fxfr_up fxfr_rfl rfl) rfl) f42 rfl) f48 rfl), g49⟩
