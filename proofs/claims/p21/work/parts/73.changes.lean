/-! contracts: changes of the class -/
theorem c_Log_undo {l : Launch} {k : fxK} {S : fxS} {n : Int} (p0 : 0 ≤ n ∧ n < 200) (hk : ∀ (S' : fxS) , (fxfr [(4, 0), (4, 1), (4, 3), (4, 4), (4, 5), (4, 6), (4, 7), (4, 11), (4, 12), (5, 9999), (6, 9999), (7, 9999), (13, 10), (18, 9999), (19, 9999)] S S' ∧ (UND (n).toNat S S')) → k none S') : fC l 137 [.inr (.inr (13, 0)), .inl n] S k := by
  refine fxe_137 (Nat.le_of_ble_eq_true rfl) (fxz_137 400 ?_)
  refine And.intro (show 0 ≤ n ∧ n < 200 by omega) ?_
  intro z1 (z1a : (-1 : Int) ≤ z1) (z1b : z1 ≤ (59 : Int)) (z1c : z1 = S 15 0 (n).toNat)
  refine And.intro (fun (h2 : (z1 < (0 : Int) : Prop)) => ?_) (fun (h2 : ((0 : Int) ≤ z1 : Prop)) => ?_)
  ·
    have uo : UND (n).toNat S S := by first | assumption | exact UND_none (by omega)
    refine And.intro (show 0 ≤ n ∧ n < 200 by omega) ?_
    intro z3 (z3a : (-2147483648 : Int) ≤ z3) (z3b : z3 ≤ (2147483647 : Int)) (z3c : z3 = S 17 0 (n).toNat)
    refine And.intro (fun (h4 : (z3 ≤ (0 : Int) : Prop)) => ?_) (fun (h4 : ((0 : Int) < z3 : Prop)) => ?_)
    ·
      refine And.intro (show 0 ≤ n ∧ n < 200 by omega) ?_
      intro z5 (z5a : (-2147483648 : Int) ≤ z5) (z5b : z5 ≤ (2147483647 : Int)) (z5c : z5 = S 17 0 (n).toNat)
      refine And.intro (fun (h6 : ((0 : Int) ≤ z5 : Prop)) => ?_) (fun (h6 : (z5 < (0 : Int) : Prop)) => ?_)
      ·
        exact hk S ⟨fxfr_rfl, uo⟩
      ·
        refine And.intro (show 0 ≤ n ∧ n < 200 by omega) ?_
        intro z7 (z7a : (-2147483648 : Int) ≤ z7) (z7b : z7 ≤ (2147483647 : Int)) (z7c : z7 = S 17 0 (n).toNat)
        intro z8 z8a z8b z8c
        refine c_Log_noteDelete (d := z8) (show -2147483648 ≤ z8 ∧ z8 < 2147483648 by omega) (fun (S9 : fxS) (f10 : fxfr [(13, 10), (18, 9999), (19, 9999)] S S9) => ?_)
        have g11 : UND (n).toNat S S9 := fx_pfr UND_stab f10 rfl uo
        exact hk S9 ⟨(fxfr_tr fxfr_rfl f10 rfl), g11⟩
    ·
      refine And.intro (show 0 ≤ n ∧ n < 200 by omega) ?_
      intro z12 (z12a : (-2147483648 : Int) ≤ z12) (z12b : z12 ≤ (2147483647 : Int)) (z12c : z12 = S 17 0 (n).toNat)
      refine c_Log_forgetDelete (d := z12) (show -2147483648 ≤ z12 ∧ z12 < 2147483648 by omega) (fun (S13 : fxS) (f14 : fxfr [(13, 10), (18, 9999), (19, 9999)] S S13) => ?_)
      have g15 : UND (n).toNat S S13 := fx_pfr UND_stab f14 rfl uo
      refine And.intro (show 0 ≤ n ∧ n < 200 by omega) ?_
      intro z16 (z16a : (-2147483648 : Int) ≤ z16) (z16b : z16 ≤ (2147483647 : Int)) (z16c : z16 = S13 17 0 (n).toNat)
      refine And.intro (fun (h17 : ((0 : Int) ≤ z16 : Prop)) => ?_) (fun (h17 : (z16 < (0 : Int) : Prop)) => ?_)
      ·
        exact hk S13 ⟨(fxfr_tr fxfr_rfl f14 rfl), g15⟩
      ·
        refine And.intro (show 0 ≤ n ∧ n < 200 by omega) ?_
        intro z18 (z18a : (-2147483648 : Int) ≤ z18) (z18b : z18 ≤ (2147483647 : Int)) (z18c : z18 = S13 17 0 (n).toNat)
        intro z19 z19a z19b z19c
        refine c_Log_noteDelete (d := z19) (show -2147483648 ≤ z19 ∧ z19 < 2147483648 by omega) (fun (S20 : fxS) (f21 : fxfr [(13, 10), (18, 9999), (19, 9999)] S13 S20) => ?_)
        have g22 : UND (n).toNat S S20 := fx_pfr UND_stab f21 rfl g15
        exact hk S20 ⟨(fxfr_tr (fxfr_tr fxfr_rfl f14 rfl) f21 rfl), g22⟩
  ·
    refine And.intro (show 0 ≤ n ∧ n < 200 by omega) ?_
    intro z23 (z23a : (-1 : Int) ≤ z23) (z23b : z23 ≤ (59 : Int)) (z23c : z23 = S 15 0 (n).toNat)
    refine And.intro (show 0 ≤ z23 ∧ z23 < 60 by omega) ?_
    refine And.intro (show 0 ≤ n ∧ n < 200 by omega) ?_
    refine c_Node_become4 (i := (z23).toNat) (j := (n).toNat)  (fun (S24 : fxS) ⟨(f25 : fxfr [(4, 0), (4, 1), (4, 3), (4, 4), (4, 5), (4, 6), (4, 7), (4, 11), (4, 12), (5, 9999), (6, 9999), (7, 9999)] S S24), (q26 : S24 4 (z23).toNat 0 = S 20 (n).toNat 0 ∧ S24 4 (z23).toNat 1 = S 20 (n).toNat 1), (g27 : N4 (z23).toNat S S24)⟩ => ?_)
    have un : UND (n).toNat S S24 := UND_n4 (by assumption) q26 (by assumption) (by omega)
    have uo : UND (n).toNat S S24 := by first | assumption | exact UND_none (by omega)
    refine And.intro (show 0 ≤ n ∧ n < 200 by omega) ?_
    intro z28 (z28a : (-2147483648 : Int) ≤ z28) (z28b : z28 ≤ (2147483647 : Int)) (z28c : z28 = S24 17 0 (n).toNat)
    refine And.intro (fun (h29 : (z28 ≤ (0 : Int) : Prop)) => ?_) (fun (h29 : ((0 : Int) < z28 : Prop)) => ?_)
    ·
      refine And.intro (show 0 ≤ n ∧ n < 200 by omega) ?_
      intro z30 (z30a : (-2147483648 : Int) ≤ z30) (z30b : z30 ≤ (2147483647 : Int)) (z30c : z30 = S24 17 0 (n).toNat)
      refine And.intro (fun (h31 : ((0 : Int) ≤ z30 : Prop)) => ?_) (fun (h31 : (z30 < (0 : Int) : Prop)) => ?_)
      ·
        exact hk S24 ⟨(fxfr_tr fxfr_rfl f25 rfl), uo⟩
      ·
        refine And.intro (show 0 ≤ n ∧ n < 200 by omega) ?_
        intro z32 (z32a : (-2147483648 : Int) ≤ z32) (z32b : z32 ≤ (2147483647 : Int)) (z32c : z32 = S24 17 0 (n).toNat)
        intro z33 z33a z33b z33c
        refine c_Log_noteDelete (d := z33) (show -2147483648 ≤ z33 ∧ z33 < 2147483648 by omega) (fun (S34 : fxS) (f35 : fxfr [(13, 10), (18, 9999), (19, 9999)] S24 S34) => ?_)
        have g36 : UND (n).toNat S S34 := fx_pfr UND_stab f35 rfl uo
        exact hk S34 ⟨(fxfr_tr (fxfr_tr fxfr_rfl f25 rfl) f35 rfl), g36⟩
    ·
      refine And.intro (show 0 ≤ n ∧ n < 200 by omega) ?_
      intro z37 (z37a : (-2147483648 : Int) ≤ z37) (z37b : z37 ≤ (2147483647 : Int)) (z37c : z37 = S24 17 0 (n).toNat)
      refine c_Log_forgetDelete (d := z37) (show -2147483648 ≤ z37 ∧ z37 < 2147483648 by omega) (fun (S38 : fxS) (f39 : fxfr [(13, 10), (18, 9999), (19, 9999)] S24 S38) => ?_)
      have g40 : UND (n).toNat S S38 := fx_pfr UND_stab f39 rfl uo
      refine And.intro (show 0 ≤ n ∧ n < 200 by omega) ?_
      intro z41 (z41a : (-2147483648 : Int) ≤ z41) (z41b : z41 ≤ (2147483647 : Int)) (z41c : z41 = S38 17 0 (n).toNat)
      refine And.intro (fun (h42 : ((0 : Int) ≤ z41 : Prop)) => ?_) (fun (h42 : (z41 < (0 : Int) : Prop)) => ?_)
      ·
        exact hk S38 ⟨(fxfr_tr (fxfr_tr fxfr_rfl f25 rfl) f39 rfl), g40⟩
      ·
        refine And.intro (show 0 ≤ n ∧ n < 200 by omega) ?_
        intro z43 (z43a : (-2147483648 : Int) ≤ z43) (z43b : z43 ≤ (2147483647 : Int)) (z43c : z43 = S38 17 0 (n).toNat)
        intro z44 z44a z44b z44c
        refine c_Log_noteDelete (d := z44) (show -2147483648 ≤ z44 ∧ z44 < 2147483648 by omega) (fun (S45 : fxS) (f46 : fxfr [(13, 10), (18, 9999), (19, 9999)] S38 S45) => ?_)
        have g47 : UND (n).toNat S S45 := fx_pfr UND_stab f46 rfl g40
        exact hk S45 ⟨(fxfr_tr (fxfr_tr (fxfr_tr fxfr_rfl f25 rfl) f39 rfl) f46 rfl), g47⟩
theorem z_Log_claimHomes {l : Launch} {k : fxK} {S : fxS}   (hk : ∀ (S' : fxS) , (fxfr [(8, 4), (10, 9999), (11, 9999), (12, 9999)] S S') → k none S') : ∀ m : Nat, (∀ (j : Int) (S1 : fxS), (fxfr [(8, 4), (10, 9999), (11, 9999), (12, 9999)] S S1) → (1 ≤ j ∧ j ≤ 60) → (61 - j) * 100 + 99 ≤ (m : Int) → fZ l 139 k 9 [some (.inr (.inr (13, 0))), some (.inl j), none] [] S1) ∧ (∀ (j b : Int) (S1 : fxS), (fxfr [(8, 4), (10, 9999), (11, 9999), (12, 9999)] S S1) → (1 ≤ j ∧ j < 60) → (0 ≤ b ∧ b ≤ 32) → (61 - j) * 100 + 50 - b ≤ (m : Int) → fZ l 139 k 17 [some (.inr (.inr (13, 0))), some (.inl j), some (.inl b)] [] S1) := by
  intro m
  induction m with
  | zero =>
    refine ⟨?_, ?_⟩
    · intro j S1 hf i0 hmu
      exfalso
      omega
    · intro j b S1 hf i0 i1 hmu
      exfalso
      omega
  | succ m ih =>
    refine ⟨?_, ?_⟩
    · intro j S1 hf i0 hmu
      refine fxz_139 400 ?_
      refine And.intro (fun (h1 : ((60 : Int) ≤ j : Prop)) => ?_) (fun (h1 : (j < (60 : Int) : Prop)) => ?_)
      ·
        exact hk S1 hf
      ·
        refine And.intro (by decide) ?_
        exact ih.2 j (0 : Int) S1 hf (by omega) (by omega) (by omega)
    · intro j b S1 hf i0 i1 hmu
      refine fxz_139 400 ?_
      refine And.intro (fun (h2 : ((32 : Int) ≤ b : Prop)) => ?_) (fun (h2 : (b < (32 : Int) : Prop)) => ?_)
      ·
        refine And.intro (by decide) (And.intro (show -2147483648 ≤ j + (1 : Int) ∧ j + (1 : Int) < 2147483648 by omega) ?_)
        exact ih.1 (j + (1 : Int)) S1 hf (by omega) (by omega)
      ·
        refine And.intro (show 0 ≤ j ∧ j < 60 by omega) ?_
        refine And.intro (show 0 ≤ b ∧ b < 32 by omega) ?_
        intro z4 (z4a : (-1 : Int) ≤ z4) (z4b : z4 ≤ (207 : Int)) (z4c : z4 = S1 7 (j).toNat (b).toNat)
        refine c_Stores_claim (b := z4) (show -2147483648 ≤ z4 ∧ z4 < 2147483648 by omega) (fun (S5 : fxS) (f6 : fxfr [(10, 9999), (11, 9999), (12, 9999)] S1 S5) => ?_)
        refine And.intro (by decide) (And.intro (show -2147483648 ≤ b + (1 : Int) ∧ b + (1 : Int) < 2147483648 by omega) ?_)
        exact ih.2 j (b + (1 : Int)) S5 (fxfr_tr hf f6 rfl) (by omega) (by omega) (by omega)
theorem c_Log_claimHomes {l : Launch} {k : fxK} {S : fxS}   (hk : ∀ (S' : fxS) , (fxfr [(8, 4), (10, 9999), (11, 9999), (12, 9999)] S S') → k none S') : fC l 139 [.inr (.inr (13, 0))] S k := by
  refine fxe_139 (Nat.le_of_ble_eq_true rfl) (fxz_139 400 ?_)
  refine c_Stores_freeAll   (fun (S8 : fxS) (f9 : fxfr [(8, 4), (10, 9999), (11, 9999), (12, 9999)] S S8) => ?_)
  refine And.intro (by decide) ?_
  exact (z_Log_claimHomes  hk ((61 - (1 : Int)) * 100 + 99).toNat).1 (1 : Int) S8 (fxfr_tr fxfr_rfl f9 rfl) (by omega) (by omega)
theorem z_Log_undoBehind {l : Launch} {k : fxK} {S : fxS} {n : Int} (p0 : TreeL S) (p1 : -2147483648 ≤ n ∧ n < 2147483648) (hk : ∀ (r : Int) (S' : fxS) , (fxfr [(4, 0), (4, 1), (4, 3), (4, 4), (4, 5), (4, 6), (4, 7), (4, 11), (4, 12), (5, 9999), (6, 9999), (7, 9999), (8, 4), (10, 9999), (11, 9999), (12, 9999), (13, 6), (13, 7), (13, 10), (18, 9999), (19, 9999)] S S' ∧ (-2147483648 ≤ r ∧ r < 2147483648) ∧ (TreeL S')) → k (some (.inl r)) S') : ∀ m : Nat, (∀ (t e : Int) (S1 : fxS), (fxfr [(4, 0), (4, 1), (4, 3), (4, 4), (4, 5), (4, 6), (4, 7), (4, 11), (4, 12), (5, 9999), (6, 9999), (7, 9999), (8, 4), (10, 9999), (11, 9999), (12, 9999), (13, 6), (13, 7), (13, 10), (18, 9999), (19, 9999)] S S1) → (0 ≤ t ∧ t ≤ 200) → (-2147483648 ≤ e ∧ e < 2147483648) → (TreeL S1) → 1000 - t ≤ (m : Int) → fZ l 141 k 4 [some (.inr (.inr (13, 0))), none, some (.inl t), some (.inl e), none] [] S1) ∧ (∀ (t j : Int) (S1 : fxS), (fxfr [(4, 0), (4, 1), (4, 3), (4, 4), (4, 5), (4, 6), (4, 7), (4, 11), (4, 12), (5, 9999), (6, 9999), (7, 9999), (8, 4), (10, 9999), (11, 9999), (12, 9999), (13, 6), (13, 7), (13, 10), (18, 9999), (19, 9999)] S S1) → (0 ≤ t ∧ t ≤ 200) → (-1 ≤ j ∧ j < 200) → (TLJ j S1) → j + 2 ≤ (m : Int) → fZ l 141 k 45 [some (.inr (.inr (13, 0))), none, some (.inl t), none, some (.inl j)] [] S1) := by
  intro m
  induction m with
  | zero =>
    refine ⟨?_, ?_⟩
    · intro t e S1 hf i0 i1 i2 hmu
      exfalso
      omega
    · intro t j S1 hf i0 i1 i2 hmu
      exfalso
      omega
  | succ m ih =>
    refine ⟨?_, ?_⟩
    · intro t e S1 hf i0 i1 i2 hmu
      refine fxz_141 400 ?_
      intro z1 (z1a : (0 : Int) ≤ z1) (z1b : z1 ≤ (200 : Int)) (z1c : z1 = S1 13 0 6)
      refine And.intro (fun (h2 : (z1 ≤ t : Prop)) => ?_) (fun (h2 : (t < z1 : Prop)) => ?_)
      ·
        intro z3 (z3a : (0 : Int) ≤ z3) (z3b : z3 ≤ (200 : Int)) (z3c : z3 = S1 13 0 6)
        refine And.intro (show -2147483648 ≤ (z3 - (1 : Int)) ∧ (z3 - (1 : Int)) < 2147483648 by omega) ?_
        have tj : TLJ (z3 - (1 : Int)) S1 := TLJ_0 (by assumption) (by omega)
        refine And.intro (by decide) ?_
        exact ih.2 t (z3 - (1 : Int)) S1 hf (by omega) (by omega) tj (by omega)
      ·
        refine And.intro (show 0 ≤ t ∧ t < 200 by omega) ?_
        intro z4 (z4a : (-2147483648 : Int) ≤ z4) (z4b : z4 ≤ (2147483647 : Int)) (z4c : z4 = S1 16 0 (t).toNat)
        refine And.intro (fun (h5 : (e < z4 : Prop)) => ?_) (fun (h5 : (z4 ≤ e : Prop)) => ?_)
        ·
          intro z6 (z6a : (0 : Int) ≤ z6) (z6b : z6 ≤ (200 : Int)) (z6c : z6 = S1 13 0 6)
          refine And.intro (show -2147483648 ≤ (z6 - (1 : Int)) ∧ (z6 - (1 : Int)) < 2147483648 by omega) ?_
          have tj : TLJ (z6 - (1 : Int)) S1 := TLJ_0 (by assumption) (by omega)
          refine And.intro (by decide) ?_
          exact ih.2 t (z6 - (1 : Int)) S1 hf (by omega) (by omega) tj (by omega)
        ·
          refine And.intro (show 0 ≤ t ∧ t < 200 by omega) ?_
          intro z7 (z7a : (-2147483648 : Int) ≤ z7) (z7b : z7 ≤ (2147483647 : Int)) (z7c : z7 = S1 16 0 (t).toNat)
          intro z8 (z8a : -2147483648 ≤ z8) (z8b : z8 < 2147483648) (z8c : -2147483648 ≤ (e - z7) ∧ (e - z7) < 2147483648 → z8 = (e - z7))
          refine And.intro (by decide) ?_
          refine And.intro (by decide) (And.intro (show -2147483648 ≤ t + (1 : Int) ∧ t + (1 : Int) < 2147483648 by omega) ?_)
          exact ih.1 (t + (1 : Int)) z8 S1 hf (by omega) (by omega) i2 (by omega)
    · intro t j S1 hf i0 i1 i2 hmu
      refine fxz_141 400 ?_
      refine And.intro (fun (h10 : (j < t : Prop)) => ?_) (fun (h10 : (t ≤ j : Prop)) => ?_)
      ·
        have wt : WTS S1 := TLJ_wt (j := j) (by assumption)
        refine c_Log_keepAll  wt (fun (z11 : Int) (S12 : fxS) ⟨(f13 : fxfr [(8, 4), (10, 9999), (11, 9999), (13, 6), (13, 7), (19, 9999)] S1 S12), (q14 : -2147483648 ≤ z11 ∧ z11 < 2147483648 ∧ (S12 13 0 6 = 0)), (g15 : TreeL S12)⟩ => ?_)
        have g16 : TLJ j S12 := fx_pfr TLJ_stab f13 rfl i2
        have g17 : WTS S12 := fx_pfr WTS_stab f13 rfl wt
        refine c_Log_claimHomes   (fun (S18 : fxS) (f19 : fxfr [(8, 4), (10, 9999), (11, 9999), (12, 9999)] S12 S18) => ?_)
        have g20 : TLJ j S18 := fx_pfr TLJ_stab f19 rfl g16
        have g21 : WTS S18 := fx_pfr WTS_stab f19 rfl g17
        have g22 : TreeL S18 := fx_pfr TreeL_stab f19 rfl g15
        refine c_Tree_touchAll   (fun (S23 : fxS) (f24 : fxfr [(4, 6)] S18 S23) => ?_)
        have g25 : TLJ j S23 := fx_pfr TLJ_stab f24 rfl g20
        have g26 : WTS S23 := fx_pfr WTS_stab f24 rfl g21
        have g27 : TreeL S23 := fx_pfr TreeL_stab f24 rfl g22
        exact hk t S23 ⟨(fxfr_tr (fxfr_tr (fxfr_tr hf f13 rfl) f19 rfl) f24 rfl), by omega, g27⟩
      ·
        refine c_Log_undo (n := j) (show 0 ≤ j ∧ j < 200 by omega) (fun (S28 : fxS) ⟨(f29 : fxfr [(4, 0), (4, 1), (4, 3), (4, 4), (4, 5), (4, 6), (4, 7), (4, 11), (4, 12), (5, 9999), (6, 9999), (7, 9999), (13, 10), (18, 9999), (19, 9999)] S1 S28), (g30 : UND (j).toNat S1 S28)⟩ => ?_)
        have tk : TLJ (j + (-1 : Int)) S28 := TLJ_step (by assumption) (by omega) (by assumption) f29 rfl
        refine And.intro (by decide) (And.intro (show -2147483648 ≤ j + (-1 : Int) ∧ j + (-1 : Int) < 2147483648 by omega) ?_)
        exact ih.2 t (j + (-1 : Int)) S28 (fxfr_tr hf f29 rfl) (by omega) (by omega) tk (by omega)
theorem c_Log_undoBehind {l : Launch} {k : fxK} {S : fxS} {n : Int} (p0 : TreeL S) (p1 : -2147483648 ≤ n ∧ n < 2147483648) (hk : ∀ (r : Int) (S' : fxS) , (fxfr [(4, 0), (4, 1), (4, 3), (4, 4), (4, 5), (4, 6), (4, 7), (4, 11), (4, 12), (5, 9999), (6, 9999), (7, 9999), (8, 4), (10, 9999), (11, 9999), (12, 9999), (13, 6), (13, 7), (13, 10), (18, 9999), (19, 9999)] S S' ∧ (-2147483648 ≤ r ∧ r < 2147483648) ∧ (TreeL S')) → k (some (.inl r)) S') : fC l 141 [.inr (.inr (13, 0)), .inl n] S k := by
  refine fxe_141 (Nat.le_of_ble_eq_true rfl) (fxz_141 400 ?_)
  refine And.intro (by decide) ?_
  refine And.intro (by decide) ?_
  exact (z_Log_undoBehind p0 p1 hk (1000 - (0 : Int)).toNat).1 (0 : Int) n S fxfr_rfl (by omega) (by omega) p0 (by omega)
theorem c_Log_clear {l : Launch} {k : fxK} {S : fxS}   (hk : ∀ (S' : fxS) , (fxfr [(13, 6), (13, 7), (13, 10)] S S' ∧ (S' 13 0 6 = 0)) → k none S') : fC l 153 [.inr (.inr (13, 0))] S k := by
  refine fxe_153 (Nat.le_of_ble_eq_true rfl) (fxz_153 400 ?_)
  refine And.intro (show (0 : Int) ≤ (0 : Int) ∧ (0 : Int) ≤ (200 : Int) by omega) ?_
  have w1 : (fx_up S 13 0 6 (0 : Int)) 13 0 6 = (0 : Int) := fx_up_at _ _ _ _ _
  refine And.intro (show (-2147483648 : Int) ≤ (0 : Int) ∧ (0 : Int) ≤ (2147483647 : Int) by omega) ?_
  have w2 : (fx_up (fx_up S 13 0 6 (0 : Int)) 13 0 7 (0 : Int)) 13 0 6 = (fx_up S 13 0 6 (0 : Int)) 13 0 6 := if_neg (fun q => absurd q.2.2 (by decide))
  refine And.intro (show (0 : Int) ≤ (0 : Int) ∧ (0 : Int) ≤ (40 : Int) by omega) ?_
  have w3 : (fx_up (fx_up (fx_up S 13 0 6 (0 : Int)) 13 0 7 (0 : Int)) 13 0 10 (0 : Int)) 13 0 6 = (fx_up (fx_up S 13 0 6 (0 : Int)) 13 0 7 (0 : Int)) 13 0 6 := if_neg (fun q => absurd q.2.2 (by decide))
  exact hk (fx_up (fx_up (fx_up S 13 0 6 (0 : Int)) 13 0 7 (0 : Int)) 13 0 10 (0 : Int)) ⟨(fxfr_up (fxfr_up (fxfr_up fxfr_rfl rfl) rfl) rfl), by omega⟩
theorem z_Log_firstKeptDelete {l : Launch} {k : fxK} {S : fxS}   (hk : ∀ (r : Int) , (-2147483648 ≤ r ∧ r < 2147483648) → k (some (.inl r)) S) : ∀ m : Nat, (∀ (j : Int), (0 ≤ j ∧ j ≤ 40) → 41 - j ≤ (m : Int) → fZ l 219 k 2 [some (.inr (.inr (13, 0))), some (.inl j)] [] S) := by
  intro m
  induction m with
  | zero =>
    intro j  i0 hmu
    exfalso
    omega
  | succ m ih =>
    intro j  i0 hmu
    refine fxz_219 400 ?_
    intro z1 (z1a : (0 : Int) ≤ z1) (z1b : z1 ≤ (40 : Int)) (z1c : z1 = S 13 0 10)
    refine And.intro (fun (h2 : (z1 ≤ j : Prop)) => ?_) (fun (h2 : (j < z1 : Prop)) => ?_)
    ·
      exact hk (0 : Int) (by omega)
    ·
      refine And.intro (show 0 ≤ j ∧ j < 40 by omega) ?_
      intro z3 (z3a : (0 : Int) ≤ z3) (z3b : z3 ≤ (1 : Int)) (z3c : z3 = S 19 0 (j).toNat)
      refine And.intro (fun (h4 : (z3 = (0 : Int) : Prop)) => ?_) (fun (h4 : (z3 ≠ (0 : Int) : Prop)) => ?_)
      ·
        refine And.intro (by decide) (And.intro (show -2147483648 ≤ j + (1 : Int) ∧ j + (1 : Int) < 2147483648 by omega) ?_)
        exact ih (j + (1 : Int))  (by omega) (by omega)
      ·
        refine And.intro (show 0 ≤ j ∧ j < 40 by omega) ?_
        intro z6 (z6a : (-2147483648 : Int) ≤ z6) (z6b : z6 ≤ (2147483647 : Int)) (z6c : z6 = S 18 0 (j).toNat)
        exact hk z6 (by omega)
theorem c_Log_firstKeptDelete {l : Launch} {k : fxK} {S : fxS}   (hk : ∀ (r : Int) , (-2147483648 ≤ r ∧ r < 2147483648) → k (some (.inl r)) S) : fC l 219 [.inr (.inr (13, 0))] S k := by
  refine fxe_219 (Nat.le_of_ble_eq_true rfl) (fxz_219 400 ?_)
  refine And.intro (by decide) ?_
  exact (z_Log_firstKeptDelete  hk (41 - (0 : Int)).toNat) (0 : Int)  (by omega) (by omega)
theorem z_Changes_recallPlace {l : Launch} {k : fxK} {S : fxS} {n : Int} (p0 : -2147483648 ≤ n ∧ n < 2147483648) (hk : ∀ (r : Int) , (-1 ≤ r ∧ r < 60 ∧ (0 ≤ r → r < S 24 0 4)) → k (some (.inl r)) S) : ∀ m : Nat, (∀ (j : Int), (0 ≤ j ∧ j ≤ 60) → 61 - j ≤ (m : Int) → fZ l 57 k 2 [some (.inr (.inr (24, 0))), some (.inl n), some (.inl j)] [] S) := by
  intro m
  induction m with
  | zero =>
    intro j  i0 hmu
    exfalso
    omega
  | succ m ih =>
    intro j  i0 hmu
    refine fxz_57 400 ?_
    intro z1 (z1a : (0 : Int) ≤ z1) (z1b : z1 ≤ (60 : Int)) (z1c : z1 = S 24 0 4)
    refine And.intro (fun (h2 : (z1 ≤ j : Prop)) => ?_) (fun (h2 : (j < z1 : Prop)) => ?_)
    ·
      exact hk (-1 : Int) (by omega)
    ·
      refine And.intro (show 0 ≤ j ∧ j < 60 by omega) ?_
      intro z3 (z3a : (0 : Int) ≤ z3) (z3b : z3 ≤ (59 : Int)) (z3c : z3 = S 25 0 (j).toNat)
      refine And.intro (fun (h4 : (z3 ≠ n : Prop)) => ?_) (fun (h4 : (z3 = n : Prop)) => ?_)
      ·
        refine And.intro (by decide) (And.intro (show -2147483648 ≤ j + (1 : Int) ∧ j + (1 : Int) < 2147483648 by omega) ?_)
        exact ih (j + (1 : Int))  (by omega) (by omega)
      ·
        exact hk j (by omega)
theorem c_Changes_recallPlace {l : Launch} {k : fxK} {S : fxS} {n : Int} (p0 : -2147483648 ≤ n ∧ n < 2147483648) (hk : ∀ (r : Int) , (-1 ≤ r ∧ r < 60 ∧ (0 ≤ r → r < S 24 0 4)) → k (some (.inl r)) S) : fC l 57 [.inr (.inr (24, 0)), .inl n] S k := by
  refine fxe_57 (Nat.le_of_ble_eq_true rfl) (fxz_57 400 ?_)
  refine And.intro (by decide) ?_
  exact (z_Changes_recallPlace p0 hk (61 - (0 : Int)).toNat) (0 : Int)  (by omega) (by omega)
theorem c_Changes_isRecalled {l : Launch} {k : fxK} {S : fxS} {n : Int} (p0 : -2147483648 ≤ n ∧ n < 2147483648) (hk : ∀ (r : Int) , (r = 0 ∨ r = 1) → k (some (.inl r)) S) : fC l 90 [.inr (.inr (24, 0)), .inl n] S k := by
  refine fxe_90 (Nat.le_of_ble_eq_true rfl) (fxz_90 400 ?_)
  refine c_Changes_recallPlace (n := n) (show -2147483648 ≤ n ∧ n < 2147483648 by omega) (fun (z1 : Int) (q2 : -1 ≤ z1 ∧ z1 < 60 ∧ (0 ≤ z1 → z1 < S 24 0 4)) => ?_)
  refine And.intro (fun (h3 : (z1 < (0 : Int) : Prop)) => ?_) (fun (h3 : ((0 : Int) ≤ z1 : Prop)) => ?_)
  ·
    refine And.intro (show 0 ≤ (0 : Int) ∧ (0 : Int) ≤ 1 by omega) ?_
    exact hk (0 : Int) (by omega)
  ·
    refine And.intro (show 0 ≤ (1 : Int) ∧ (1 : Int) ≤ 1 by omega) ?_
    exact hk (1 : Int) (by omega)
theorem c_Changes_askRecall {l : Launch} {k : fxK} {S : fxS} {n : Int} (p0 : 0 ≤ n ∧ n < 60) (hk : ∀ (S' : fxS) , (fxfr [(24, 4), (25, 9999)] S S') → k none S') : fC l 91 [.inr (.inr (24, 0)), .inl n] S k := by
  refine fxe_91 (Nat.le_of_ble_eq_true rfl) (fxz_91 400 ?_)
  refine c_Changes_isRecalled (n := n) (show -2147483648 ≤ n ∧ n < 2147483648 by omega) (fun (z1 : Int) (q2 : z1 = 0 ∨ z1 = 1) => ?_)
  refine And.intro (fun (h3 : (z1 ≠ (0 : Int) : Prop)) => ?_) (fun (h3 : (z1 = (0 : Int) : Prop)) => ?_)
  ·
    exact hk S fxfr_rfl
  ·
    intro z4 (z4a : (0 : Int) ≤ z4) (z4b : z4 ≤ (60 : Int)) (z4c : z4 = S 24 0 4)
    refine And.intro (fun (h5 : (z4 < (60 : Int) : Prop)) => ?_) (fun (h5 : ((60 : Int) ≤ z4 : Prop)) => ?_)
    ·
      intro z6 (z6a : (0 : Int) ≤ z6) (z6b : z6 ≤ (60 : Int)) (z6c : z6 = S 24 0 4)
      refine And.intro (show 0 ≤ z6 ∧ z6 < 60 by omega) ?_
      refine And.intro (show (0 : Int) ≤ n ∧ n ≤ (59 : Int) by omega) ?_
      have w7 : (fx_up S 25 0 (z6).toNat n) 24 0 4 = S 24 0 4 := rfl
      intro z8 (z8a : (0 : Int) ≤ z8) (z8b : z8 ≤ (60 : Int)) (z8c : z8 = (fx_up S 25 0 (z6).toNat n) 24 0 4)
      refine And.intro (show -2147483648 ≤ (z8 + (1 : Int)) ∧ (z8 + (1 : Int)) < 2147483648 by omega) ?_
      refine And.intro (show (0 : Int) ≤ (z8 + (1 : Int)) ∧ (z8 + (1 : Int)) ≤ (60 : Int) by omega) ?_
      have w9 : (fx_up (fx_up S 25 0 (z6).toNat n) 24 0 4 (z8 + (1 : Int))) 24 0 4 = (z8 + (1 : Int)) := fx_up_at _ _ _ _ _
      exact hk (fx_up (fx_up S 25 0 (z6).toNat n) 24 0 4 (z8 + (1 : Int))) (fxfr_up (fxfr_up fxfr_rfl rfl) rfl)
    ·
      exact hk S fxfr_rfl
theorem z_Changes_forgetRecall {l : Launch} {k : fxK} {S : fxS} {n : Int} (p0 : -2147483648 ≤ n ∧ n < 2147483648) (hk : ∀ (S' : fxS) , (fxfr [(24, 4), (25, 9999)] S S') → k none S') : ∀ m : Nat, (∀ (j : Int) (S1 : fxS), (fxfr [(24, 4), (25, 9999)] S S1) → (0 ≤ j ∧ j < 60) → (1 ≤ S1 24 0 4) → 61 - j ≤ (m : Int) → fZ l 58 k 13 [some (.inr (.inr (24, 0))), none, none, some (.inl j)] [] S1) := by
  intro m
  induction m with
  | zero =>
    intro j S1 hf i0 i1 hmu
    exfalso
    omega
  | succ m ih =>
    intro j S1 hf i0 i1 hmu
    refine fxz_58 400 ?_
    refine And.intro (show -2147483648 ≤ (j + (1 : Int)) ∧ (j + (1 : Int)) < 2147483648 by omega) ?_
    intro z1 (z1a : (0 : Int) ≤ z1) (z1b : z1 ≤ (60 : Int)) (z1c : z1 = S1 24 0 4)
    refine And.intro (fun (h2 : (z1 ≤ (j + (1 : Int)) : Prop)) => ?_) (fun (h2 : ((j + (1 : Int)) < z1 : Prop)) => ?_)
    ·
      intro z3 (z3a : (0 : Int) ≤ z3) (z3b : z3 ≤ (60 : Int)) (z3c : z3 = S1 24 0 4)
      refine And.intro (show -2147483648 ≤ (z3 - (1 : Int)) ∧ (z3 - (1 : Int)) < 2147483648 by omega) ?_
      refine And.intro (show (0 : Int) ≤ (z3 - (1 : Int)) ∧ (z3 - (1 : Int)) ≤ (60 : Int) by omega) ?_
      have w4 : (fx_up S1 24 0 4 (z3 - (1 : Int))) 24 0 4 = (z3 - (1 : Int)) := fx_up_at _ _ _ _ _
      exact hk (fx_up S1 24 0 4 (z3 - (1 : Int))) (fxfr_up hf rfl)
    ·
      refine And.intro (show -2147483648 ≤ (j + (1 : Int)) ∧ (j + (1 : Int)) < 2147483648 by omega) ?_
      refine And.intro (show 0 ≤ (j + (1 : Int)) ∧ (j + (1 : Int)) < 60 by omega) ?_
      intro z5 (z5a : (0 : Int) ≤ z5) (z5b : z5 ≤ (59 : Int)) (z5c : z5 = S1 25 0 ((j + (1 : Int))).toNat)
      refine And.intro (show 0 ≤ j ∧ j < 60 by omega) ?_
      refine And.intro (show (0 : Int) ≤ z5 ∧ z5 ≤ (59 : Int) by omega) ?_
      have w6 : (fx_up S1 25 0 (j).toNat z5) 24 0 4 = S1 24 0 4 := rfl
      refine And.intro (by decide) (And.intro (show -2147483648 ≤ j + (1 : Int) ∧ j + (1 : Int) < 2147483648 by omega) ?_)
      exact ih (j + (1 : Int)) (fx_up S1 25 0 (j).toNat z5) (fxfr_up hf rfl) (by omega) (by omega) (by omega)
theorem c_Changes_forgetRecall {l : Launch} {k : fxK} {S : fxS} {n : Int} (p0 : -2147483648 ≤ n ∧ n < 2147483648) (hk : ∀ (S' : fxS) , (fxfr [(24, 4), (25, 9999)] S S') → k none S') : fC l 58 [.inr (.inr (24, 0)), .inl n] S k := by
  refine fxe_58 (Nat.le_of_ble_eq_true rfl) (fxz_58 400 ?_)
  refine c_Changes_recallPlace (n := n) (show -2147483648 ≤ n ∧ n < 2147483648 by omega) (fun (z8 : Int) (q9 : -1 ≤ z8 ∧ z8 < 60 ∧ (0 ≤ z8 → z8 < S 24 0 4)) => ?_)
  refine And.intro (by decide) ?_
  refine And.intro (fun (h10 : ((0 : Int) ≤ z8 : Prop)) => ?_) (fun (h10 : (z8 < (0 : Int) : Prop)) => ?_)
  ·
    refine And.intro (by decide) ?_
    exact (z_Changes_forgetRecall p0 hk (61 - z8).toNat) z8 S fxfr_rfl (by omega) (by omega) (by omega)
  ·
    exact hk S fxfr_rfl
theorem z_Changes_holdFrom {l : Launch} {k : fxK} {S : fxS} {i : Nat} {q : Int} (p0 : 0 ≤ q ∧ q ≤ 32) (hk : ∀ (S' : fxS) , (fxfr [(4, 11), (4, 12), (7, 9999), (8, 4), (10, 9999), (12, 9999)] S S') → k none S') : ∀ m : Nat, (∀ (j : Int) (S1 : fxS), (fxfr [(4, 11), (4, 12), (7, 9999), (8, 4), (10, 9999), (12, 9999)] S S1) → (0 ≤ j ∧ j ≤ 32) → 33 - j ≤ (m : Int) → fZ l 56 k 2 [some (.inr (.inr (24, 0))), some (.inr (.inr (4, i))), none, some (.inl j)] [] S1) := by
  intro m
  induction m with
  | zero =>
    intro j S1 hf i0 hmu
    exfalso
    omega
  | succ m ih =>
    intro j S1 hf i0 hmu
    refine fxz_56 400 ?_
    refine And.intro (fun (h1 : ((32 : Int) ≤ j : Prop)) => ?_) (fun (h1 : (j < (32 : Int) : Prop)) => ?_)
    ·
      exact hk S1 hf
    ·
      refine And.intro (show 0 ≤ j ∧ j < 32 by omega) ?_
      intro z2 (z2a : (-1 : Int) ≤ z2) (z2b : z2 ≤ (207 : Int)) (z2c : z2 = S1 7 i (j).toNat)
      refine c_Stores_hold (b := z2) (show -2147483648 ≤ z2 ∧ z2 < 2147483648 by omega) (fun (S3 : fxS) (f4 : fxfr [(8, 4), (10, 9999), (12, 9999)] S1 S3) => ?_)
      refine c_Node_setHome (i := i) (j := j) (b := (-1 : Int)) (show 0 ≤ j ∧ j < 32 by omega) (show -1 ≤ (-1 : Int) ∧ (-1 : Int) ≤ 207 by omega) (fun (S5 : fxS) (f6 : fxfr [(4, 11), (4, 12), (7, 9999)] S3 S5) => ?_)
      refine And.intro (by decide) (And.intro (show -2147483648 ≤ j + (1 : Int) ∧ j + (1 : Int) < 2147483648 by omega) ?_)
      exact ih (j + (1 : Int)) S5 (fxfr_tr (fxfr_tr hf f4 rfl) f6 rfl) (by omega) (by omega)
theorem c_Changes_holdFrom {l : Launch} {k : fxK} {S : fxS} {i : Nat} {q : Int} (p0 : 0 ≤ q ∧ q ≤ 32) (hk : ∀ (S' : fxS) , (fxfr [(4, 11), (4, 12), (7, 9999), (8, 4), (10, 9999), (12, 9999)] S S') → k none S') : fC l 56 [.inr (.inr (24, 0)), .inr (.inr (4, i)), .inl q] S k := by
  refine fxe_56 (Nat.le_of_ble_eq_true rfl) (fxz_56 400 ?_)
  refine And.intro (by decide) ?_
  exact (z_Changes_holdFrom p0 hk (33 - q).toNat) q S fxfr_rfl (by omega) (by omega)
theorem c_Changes_erase {l : Launch} {k : fxK} {S : fxS} {n : Int} {q : Int} (p0 : 1 ≤ n ∧ n < 60) (p1 : 0 ≤ q ∧ q ≤ 1) (p2 : NoC n S) (p3 : TreeL S) (hk : ∀ (S' : fxS) , (fxfr [(4, 0), (4, 1), (4, 3), (4, 4), (4, 5), (4, 6), (4, 7), (4, 11), (4, 12), (7, 9999), (8, 4), (10, 9999), (11, 9999), (12, 9999), (13, 6), (13, 7), (13, 10), (15, 9999), (16, 9999), (17, 9999), (18, 9999), (19, 9999), (20, 0), (20, 1), (20, 3), (20, 4), (20, 5), (20, 6), (20, 7), (20, 11), (20, 12), (21, 9999), (22, 9999), (23, 9999), (24, 4), (25, 9999)] S S' ∧ (TreeL S')) → k none S') : fC l 59 [.inr (.inr (24, 0)), .inl n, .inl q] S k := by
  have n1 : NS S S := NS_rfl
  refine fxe_59 (Nat.le_of_ble_eq_true rfl) (fxz_59 400 ?_)
  refine And.intro (show 0 ≤ n ∧ n < 60 by omega) ?_
  refine And.intro (by decide) ?_
  refine And.intro (fun (h2 : (q = (0 : Int) : Prop)) => ?_) (fun (h2 : (q ≠ (0 : Int) : Prop)) => ?_)
  ·
    refine And.intro (by decide) ?_
    refine And.intro (fun _ => ?_) (fun h => absurd h (by decide))
    refine c_Log_add (n := n) (e := (6 : Int)) (d := (0 : Int)) (show 0 ≤ n ∧ n < 60 by omega) p3 (show -2147483648 ≤ (6 : Int) ∧ (6 : Int) < 2147483648 by omega) (show -2147483648 ≤ (0 : Int) ∧ (0 : Int) < 2147483648 by omega) (fun (S3 : fxS) ⟨(f4 : fxfr [(8, 4), (10, 9999), (11, 9999), (13, 6), (13, 7), (13, 10), (15, 9999), (16, 9999), (17, 9999), (18, 9999), (19, 9999), (20, 0), (20, 1), (20, 3), (20, 4), (20, 5), (20, 6), (20, 7), (20, 11), (20, 12), (21, 9999), (22, 9999), (23, 9999)] S S3), (g5 : TreeO n S3)⟩ => ?_)
    have g6 : NS S S3 := fx_pfr NS_stab f4 rfl n1
    refine c_Changes_holdFrom (i := (n).toNat) (q := (0 : Int)) (show 0 ≤ (0 : Int) ∧ (0 : Int) ≤ 32 by omega) (fun (S7 : fxS) (f8 : fxfr [(4, 11), (4, 12), (7, 9999), (8, 4), (10, 9999), (12, 9999)] S3 S7) => ?_)
    have g9 : NS S S7 := fx_pfr NS_stab f8 rfl g6
    have g10 : TreeO n S7 := fx_pfr TreeO_stab f8 rfl g5
    refine c_Changes_forgetRecall (n := n) (show -2147483648 ≤ n ∧ n < 2147483648 by omega) (fun (S11 : fxS) (f12 : fxfr [(24, 4), (25, 9999)] S7 S11) => ?_)
    have g13 : NS S S11 := fx_pfr NS_stab f12 rfl g9
    have g14 : TreeO n S11 := fx_pfr TreeO_stab f12 rfl g10
    refine c_Node_clear (i := (n).toNat)  (fun (S15 : fxS) ⟨(f16 : fxfr [(4, 0), (4, 1), (4, 3), (4, 4), (4, 5), (4, 6), (4, 7), (4, 11), (4, 12), (7, 9999)] S11 S15), (q17 : S15 4 (n).toNat 0 = 0 ∧ S15 4 (n).toNat 1 = 0), (g18 : N4 (n).toNat S11 S15)⟩ => ?_)
    have g19 : TreeO n S15 := TreeO_n4 g18 f16 rfl g14
    have tl : TreeL S15 := Tree_del (S := S) (S1 := S11) (by assumption) (by assumption) (by assumption) q17 (by assumption) (by omega) (by assumption)
    exact hk S15 ⟨(fxfr_tr (fxfr_tr (fxfr_tr (fxfr_tr fxfr_rfl f4 rfl) f8 rfl) f12 rfl) f16 rfl), tl⟩
  ·
    intro z20 (z20a : (0 : Int) ≤ z20) (z20b : z20 ≤ (40 : Int)) (z20c : z20 = S 13 0 10)
    refine And.intro (fun (h21 : ((40 : Int) ≤ z20 : Prop)) => ?_) (fun (h21 : (z20 < (40 : Int) : Prop)) => ?_)
    ·
      refine And.intro (by decide) ?_
      refine And.intro (fun _ => ?_) (fun h => absurd h (by decide))
      refine c_Log_add (n := n) (e := (6 : Int)) (d := (0 : Int)) (show 0 ≤ n ∧ n < 60 by omega) p3 (show -2147483648 ≤ (6 : Int) ∧ (6 : Int) < 2147483648 by omega) (show -2147483648 ≤ (0 : Int) ∧ (0 : Int) < 2147483648 by omega) (fun (S22 : fxS) ⟨(f23 : fxfr [(8, 4), (10, 9999), (11, 9999), (13, 6), (13, 7), (13, 10), (15, 9999), (16, 9999), (17, 9999), (18, 9999), (19, 9999), (20, 0), (20, 1), (20, 3), (20, 4), (20, 5), (20, 6), (20, 7), (20, 11), (20, 12), (21, 9999), (22, 9999), (23, 9999)] S S22), (g24 : TreeO n S22)⟩ => ?_)
      have g25 : NS S S22 := fx_pfr NS_stab f23 rfl n1
      refine c_Changes_holdFrom (i := (n).toNat) (q := (0 : Int)) (show 0 ≤ (0 : Int) ∧ (0 : Int) ≤ 32 by omega) (fun (S26 : fxS) (f27 : fxfr [(4, 11), (4, 12), (7, 9999), (8, 4), (10, 9999), (12, 9999)] S22 S26) => ?_)
      have g28 : NS S S26 := fx_pfr NS_stab f27 rfl g25
      have g29 : TreeO n S26 := fx_pfr TreeO_stab f27 rfl g24
      refine c_Changes_forgetRecall (n := n) (show -2147483648 ≤ n ∧ n < 2147483648 by omega) (fun (S30 : fxS) (f31 : fxfr [(24, 4), (25, 9999)] S26 S30) => ?_)
      have g32 : NS S S30 := fx_pfr NS_stab f31 rfl g28
      have g33 : TreeO n S30 := fx_pfr TreeO_stab f31 rfl g29
      refine c_Node_clear (i := (n).toNat)  (fun (S34 : fxS) ⟨(f35 : fxfr [(4, 0), (4, 1), (4, 3), (4, 4), (4, 5), (4, 6), (4, 7), (4, 11), (4, 12), (7, 9999)] S30 S34), (q36 : S34 4 (n).toNat 0 = 0 ∧ S34 4 (n).toNat 1 = 0), (g37 : N4 (n).toNat S30 S34)⟩ => ?_)
      have g38 : TreeO n S34 := TreeO_n4 g37 f35 rfl g33
      have tl : TreeL S34 := Tree_del (S := S) (S1 := S30) (by assumption) (by assumption) (by assumption) q36 (by assumption) (by omega) (by assumption)
      exact hk S34 ⟨(fxfr_tr (fxfr_tr (fxfr_tr (fxfr_tr fxfr_rfl f23 rfl) f27 rfl) f31 rfl) f35 rfl), tl⟩
    ·
      refine And.intro (by decide) ?_
      refine And.intro (fun h => absurd h (by decide)) (fun _ => ?_)
      intro z39 (z39a : (-2147483648 : Int) ≤ z39) (z39b : z39 ≤ (2147483647 : Int)) (z39c : z39 = S 4 (n).toNat 3)
      refine c_Log_add (n := n) (e := (6 : Int)) (d := z39) (show 0 ≤ n ∧ n < 60 by omega) p3 (show -2147483648 ≤ (6 : Int) ∧ (6 : Int) < 2147483648 by omega) (show -2147483648 ≤ z39 ∧ z39 < 2147483648 by omega) (fun (S40 : fxS) ⟨(f41 : fxfr [(8, 4), (10, 9999), (11, 9999), (13, 6), (13, 7), (13, 10), (15, 9999), (16, 9999), (17, 9999), (18, 9999), (19, 9999), (20, 0), (20, 1), (20, 3), (20, 4), (20, 5), (20, 6), (20, 7), (20, 11), (20, 12), (21, 9999), (22, 9999), (23, 9999)] S S40), (g42 : TreeO n S40)⟩ => ?_)
      have g43 : NS S S40 := fx_pfr NS_stab f41 rfl n1
      refine c_Changes_holdFrom (i := (n).toNat) (q := (0 : Int)) (show 0 ≤ (0 : Int) ∧ (0 : Int) ≤ 32 by omega) (fun (S44 : fxS) (f45 : fxfr [(4, 11), (4, 12), (7, 9999), (8, 4), (10, 9999), (12, 9999)] S40 S44) => ?_)
      have g46 : NS S S44 := fx_pfr NS_stab f45 rfl g43
      have g47 : TreeO n S44 := fx_pfr TreeO_stab f45 rfl g42
      refine c_Changes_forgetRecall (n := n) (show -2147483648 ≤ n ∧ n < 2147483648 by omega) (fun (S48 : fxS) (f49 : fxfr [(24, 4), (25, 9999)] S44 S48) => ?_)
      have g50 : NS S S48 := fx_pfr NS_stab f49 rfl g46
      have g51 : TreeO n S48 := fx_pfr TreeO_stab f49 rfl g47
      refine c_Node_clear (i := (n).toNat)  (fun (S52 : fxS) ⟨(f53 : fxfr [(4, 0), (4, 1), (4, 3), (4, 4), (4, 5), (4, 6), (4, 7), (4, 11), (4, 12), (7, 9999)] S48 S52), (q54 : S52 4 (n).toNat 0 = 0 ∧ S52 4 (n).toNat 1 = 0), (g55 : N4 (n).toNat S48 S52)⟩ => ?_)
      have g56 : TreeO n S52 := TreeO_n4 g55 f53 rfl g51
      have tl : TreeL S52 := Tree_del (S := S) (S1 := S48) (by assumption) (by assumption) (by assumption) q54 (by assumption) (by omega) (by assumption)
      exact hk S52 ⟨(fxfr_tr (fxfr_tr (fxfr_tr (fxfr_tr fxfr_rfl f41 rfl) f45 rfl) f49 rfl) f53 rfl), tl⟩
theorem c_Changes_rename {l : Launch} {k : fxK} {S : fxS} {n : Int} {o : Int} {x : Int} (p0 : 1 ≤ n ∧ n < 60) (p1 : 0 ≤ o ∧ o < 60) (p2 : MvO n o S) (p3 : TreeL S) (hk : ∀ (S' : fxS) , (fxfr [(4, 1), (8, 4), (10, 9999), (11, 9999), (13, 6), (13, 7), (13, 10), (15, 9999), (16, 9999), (17, 9999), (18, 9999), (19, 9999), (20, 0), (20, 1), (20, 3), (20, 4), (20, 5), (20, 6), (20, 7), (20, 11), (20, 12), (21, 9999), (22, 9999), (23, 9999)] S S' ∧ (TreeL S')) → k none S') : fC l 81 [.inr (.inr (24, 0)), .inl n, .inl o, .inr (.inl x)] S k := by
  have n1 : NS S S := NS_rfl
  refine fxe_81 (Nat.le_of_ble_eq_true rfl) (fxz_81 400 ?_)
  refine c_Log_add (n := n) (e := (16 : Int)) (d := (0 : Int)) (show 0 ≤ n ∧ n < 60 by omega) p3 (show -2147483648 ≤ (16 : Int) ∧ (16 : Int) < 2147483648 by omega) (show -2147483648 ≤ (0 : Int) ∧ (0 : Int) < 2147483648 by omega) (fun (S2 : fxS) ⟨(f3 : fxfr [(8, 4), (10, 9999), (11, 9999), (13, 6), (13, 7), (13, 10), (15, 9999), (16, 9999), (17, 9999), (18, 9999), (19, 9999), (20, 0), (20, 1), (20, 3), (20, 4), (20, 5), (20, 6), (20, 7), (20, 11), (20, 12), (21, 9999), (22, 9999), (23, 9999)] S S2), (g4 : TreeO n S2)⟩ => ?_)
  have g5 : NS S S2 := fx_pfr NS_stab f3 rfl n1
  refine And.intro (show 0 ≤ n ∧ n < 60 by omega) ?_
  refine And.intro (show (0 : Int) ≤ o ∧ o ≤ (59 : Int) by omega) ?_
  have g6 : TreeO n (fx_up S2 4 (n).toNat 1 o) := TreeO_up g4
  have tl : TreeL (fx_up S2 4 (n).toNat 1 o) := Tree_move (S := S) (by assumption) (by assumption) (by assumption) (by omega) (by omega) (by assumption)
  refine And.intro (show 0 ≤ n ∧ n < 60 by omega) ?_
  exact hk (fx_up S2 4 (n).toNat 1 o) ⟨(fxfr_up (fxfr_tr fxfr_rfl f3 rfl) rfl), tl⟩
theorem c_Changes_lengthWith {l : Launch} {k : fxK} {S : fxS} {n : Int} (p0 : 0 ≤ n ∧ n ≤ 1024) (hk : ∀ (r : Int) , (0 ≤ r ∧ r ≤ 200) → k (some (.inl r)) S) : fC l 93 [.inl n] S k := by
  refine fxe_93 (Nat.le_of_ble_eq_true rfl) (fxz_93 400 ?_)
  refine And.intro (show -2147483648 ≤ (n + (32 : Int)) ∧ (n + (32 : Int)) < 2147483648 by omega) ?_
  refine And.intro (show -2147483648 ≤ ((n + (32 : Int)) - (1 : Int)) ∧ ((n + (32 : Int)) - (1 : Int)) < 2147483648 by omega) ?_
  refine And.intro (show 0 ≤ ((n + (32 : Int)) - (1 : Int)) ∧ 0 < (32 : Int) by omega) ?_
  refine And.intro (show -2147483648 ≤ ((4 : Int) * (((n + (32 : Int)) - (1 : Int)) / (32 : Int))) ∧ ((4 : Int) * (((n + (32 : Int)) - (1 : Int)) / (32 : Int))) < 2147483648 by omega) ?_
  refine And.intro (show -2147483648 ≤ ((8 : Int) + ((4 : Int) * (((n + (32 : Int)) - (1 : Int)) / (32 : Int)))) ∧ ((8 : Int) + ((4 : Int) * (((n + (32 : Int)) - (1 : Int)) / (32 : Int)))) < 2147483648 by omega) ?_
  exact hk ((8 : Int) + ((4 : Int) * (((n + (32 : Int)) - (1 : Int)) / (32 : Int)))) (by omega)
theorem c_Changes_rehouse {l : Launch} {k : fxK} {S : fxS} {i : Nat} {j : Int} {n : Int} (p0 : 0 ≤ j ∧ j < 32) (p1 : n ≤ 32) (hk : ∀ (S' : fxS) , (fxfr [(4, 11), (4, 12), (7, 9999), (8, 4), (9, 9999), (10, 9999), (11, 9999), (12, 9999)] S S') → k none S') : fC l 99 [.inr (.inr (24, 0)), .inr (.inr (4, i)), .inl j, .inl n] S k := by
  refine fxe_99 (Nat.le_of_ble_eq_true rfl) (fxz_99 400 ?_)
  refine And.intro (show 0 ≤ j ∧ j < 32 by omega) ?_
  intro z1 (z1a : (-1 : Int) ≤ z1) (z1b : z1 ≤ (207 : Int)) (z1c : z1 = S 7 i (j).toNat)
  refine And.intro (by decide) ?_
  refine c_Stores_giveAny   (fun (z2 : Int) (S3 : fxS) ⟨(f4 : fxfr [(10, 9999), (11, 9999), (12, 9999)] S S3), (q5 : -1 ≤ z2 ∧ z2 ≤ 207)⟩ => ?_)
  refine And.intro (by decide) ?_
  refine c_Stores_putBlock (o := z1) (b := z2) (n := n) (show -1 ≤ z1 ∧ z1 ≤ 207 by omega) (show n ≤ 32 by omega) (show -2147483648 ≤ z2 ∧ z2 < 2147483648 by omega) (fun (S6 : fxS) (f7 : fxfr [(9, 9999)] S3 S6) => ?_)
  refine c_Stores_hold (b := z1) (show -2147483648 ≤ z1 ∧ z1 < 2147483648 by omega) (fun (S8 : fxS) (f9 : fxfr [(8, 4), (10, 9999), (12, 9999)] S6 S8) => ?_)
  refine c_Node_setHome (i := i) (j := j) (b := z2) (show 0 ≤ j ∧ j < 32 by omega) (show -1 ≤ z2 ∧ z2 ≤ 207 by omega) (fun (S10 : fxS) (f11 : fxfr [(4, 11), (4, 12), (7, 9999)] S8 S10) => ?_)
  exact hk S10 (fxfr_tr (fxfr_tr (fxfr_tr (fxfr_tr fxfr_rfl f4 rfl) f7 rfl) f9 rfl) f11 rfl)
theorem c_Changes_renew {l : Launch} {k : fxK} {S : fxS} {i : Nat}  (hk : ∀ (S' : fxS) , (fxfr [(2, 3), (4, 5), (4, 6), (4, 7)] S S') → k none S') : fC l 100 [.inr (.inr (24, 0)), .inr (.inr (4, i))] S k := by
  refine fxe_100 (Nat.le_of_ble_eq_true rfl) (fxz_100 400 ?_)
  intro z1 (z1a : (-2147483648 : Int) ≤ z1) (z1b : z1 ≤ (2147483647 : Int)) (z1c : z1 = S 2 0 3)
  intro z2 (z2a : -2147483648 ≤ z2) (z2b : z2 < 2147483648) (z2c : -2147483648 ≤ (z1 + (1 : Int)) ∧ (z1 + (1 : Int)) < 2147483648 → z2 = (z1 + (1 : Int)))
  refine And.intro (show (-2147483648 : Int) ≤ z2 ∧ z2 ≤ (2147483647 : Int) by omega) ?_
  refine And.intro (show (-2147483648 : Int) ≤ z1 ∧ z1 ≤ (2147483647 : Int) by omega) ?_
  refine And.intro (show (0 : Int) ≤ (0 : Int) ∧ (0 : Int) ≤ (2 : Int) by omega) ?_
  intro z3 (z3a : (-2147483648 : Int) ≤ z3) (z3b : z3 ≤ (2147483647 : Int)) (z3c : z3 = (fx_up (fx_up (fx_up S 2 0 3 z2) 4 i 5 z1) 4 i 7 (0 : Int)) 2 0 1)
  refine And.intro (show (-2147483648 : Int) ≤ z3 ∧ z3 ≤ (2147483647 : Int) by omega) ?_
  exact hk (fx_up (fx_up (fx_up (fx_up S 2 0 3 z2) 4 i 5 z1) 4 i 7 (0 : Int)) 4 i 6 z3) (fxfr_up (fxfr_up (fxfr_up (fxfr_up fxfr_rfl rfl) rfl) rfl) rfl)
theorem z_Changes_overwrite {l : Launch} {k : fxK} {S : fxS} {n : Int} {p : Int} {e : Int} (p0 : 0 ≤ n ∧ n < 60) (p1 : 0 ≤ p ∧ p ≤ 1024) (p2 : 1 ≤ e ∧ e ≤ 256) (p3 : p + e ≤ 1024) (p4 : TreeL S) (hk : ∀ (S' : fxS) , (fxfr [(2, 3), (4, 4), (4, 5), (4, 6), (4, 7), (4, 11), (4, 12), (7, 9999), (8, 4), (9, 9999), (10, 9999), (11, 9999), (12, 9999), (13, 6), (13, 7), (13, 10), (15, 9999), (16, 9999), (17, 9999), (18, 9999), (19, 9999), (20, 0), (20, 1), (20, 3), (20, 4), (20, 5), (20, 6), (20, 7), (20, 11), (20, 12), (21, 9999), (22, 9999), (23, 9999)] S S' ∧ (TreeL S')) → k none S') : ∀ m : Nat, (∀ (d b : Int) (S1 : fxS), (fxfr [(2, 3), (4, 4), (4, 5), (4, 6), (4, 7), (4, 11), (4, 12), (7, 9999), (8, 4), (9, 9999), (10, 9999), (11, 9999), (12, 9999), (13, 6), (13, 7), (13, 10), (15, 9999), (16, 9999), (17, 9999), (18, 9999), (19, 9999), (20, 0), (20, 1), (20, 3), (20, 4), (20, 5), (20, 6), (20, 7), (20, 11), (20, 12), (21, 9999), (22, 9999), (23, 9999)] S S1) → (0 ≤ p ∧ p < d ∧ d ≤ 1024 ∧ d ≤ p + 256) → (0 ≤ b ∧ b ≤ 32 ∧ p < 32 * b + 32) → (TreeO n S1) → (NS S S1) → 33 - b ≤ (m : Int) → fZ l 101 k 56 [some (.inr (.inr (24, 0))), none, some (.inl p), some (.inr (.inr (1, 0))), none, some (.inr (.inr (4, (n).toNat))), some (.inl d), none, some (.inl b), none, none] [] S1) := by
  intro m
  induction m with
  | zero =>
    intro d b S1 hf i0 i1 i2 i3 hmu
    exfalso
    omega
  | succ m ih =>
    intro d b S1 hf i0 i1 i2 i3 hmu
    refine fxz_101 400 ?_
    refine And.intro (show -2147483648 ≤ (b * (32 : Int)) ∧ (b * (32 : Int)) < 2147483648 by omega) ?_
    refine And.intro (fun (h1 : (d ≤ (b * (32 : Int)) : Prop)) => ?_) (fun (h1 : ((b * (32 : Int)) < d : Prop)) => ?_)
    ·
      refine c_Changes_renew (i := (n).toNat)  (fun (S2 : fxS) (f3 : fxfr [(2, 3), (4, 5), (4, 6), (4, 7)] S1 S2) => ?_)
      have g4 : TreeO n S2 := fx_pfr TreeO_stab f3 rfl i2
      have g5 : NS S S2 := fx_pfr NS_stab f3 rfl i3
      exact hk S2 ⟨(fxfr_tr hf f3 rfl), by first | assumption | exact Tree_keep (by assumption) (by assumption) (by assumption) | exact LCt_of (by omega)⟩
    ·
      refine And.intro (fun (h6 : ((32 : Int) ≤ b : Prop)) => ?_) (fun (h6 : (b < (32 : Int) : Prop)) => ?_)
      ·
        refine c_Changes_renew (i := (n).toNat)  (fun (S7 : fxS) (f8 : fxfr [(2, 3), (4, 5), (4, 6), (4, 7)] S1 S7) => ?_)
        have g9 : TreeO n S7 := fx_pfr TreeO_stab f8 rfl i2
        have g10 : NS S S7 := fx_pfr NS_stab f8 rfl i3
        exact hk S7 ⟨(fxfr_tr hf f8 rfl), by first | assumption | exact Tree_keep (by assumption) (by assumption) (by assumption) | exact LCt_of (by omega)⟩
      ·
        refine c_Changes_rehouse (i := (n).toNat) (j := b) (n := (32 : Int)) (show 0 ≤ b ∧ b < 32 by omega) (show (32 : Int) ≤ 32 by omega) (fun (S11 : fxS) (f12 : fxfr [(4, 11), (4, 12), (7, 9999), (8, 4), (9, 9999), (10, 9999), (11, 9999), (12, 9999)] S1 S11) => ?_)
        have g13 : TreeO n S11 := fx_pfr TreeO_stab f12 rfl i2
        have g14 : NS S S11 := fx_pfr NS_stab f12 rfl i3
        refine And.intro (show -2147483648 ≤ (b * (32 : Int)) ∧ (b * (32 : Int)) < 2147483648 by omega) ?_
        intro z15 (z15a : p ≤ z15) (z15b : (b * (32 : Int)) ≤ z15) (z15c : z15 = p ∨ z15 = (b * (32 : Int)))
        refine And.intro (by decide) ?_
        refine And.intro (show -2147483648 ≤ (b + (1 : Int)) ∧ (b + (1 : Int)) < 2147483648 by omega) ?_
        refine And.intro (show -2147483648 ≤ ((b + (1 : Int)) * (32 : Int)) ∧ ((b + (1 : Int)) * (32 : Int)) < 2147483648 by omega) ?_
        intro z16 (z16a : z16 ≤ d) (z16b : z16 ≤ ((b + (1 : Int)) * (32 : Int))) (z16c : z16 = d ∨ z16 = ((b + (1 : Int)) * (32 : Int)))
        refine And.intro (by decide) ?_
        refine And.intro (show -2147483648 ≤ (z15 - p) ∧ (z15 - p) < 2147483648 by omega) ?_
        refine And.intro (show 0 ≤ b ∧ b < 32 by omega) ?_
        intro z17 (z17a : (-1 : Int) ≤ z17) (z17b : z17 ≤ (207 : Int)) (z17c : z17 = S11 7 (n).toNat (b).toNat)
        refine And.intro (show -2147483648 ≤ (b * (32 : Int)) ∧ (b * (32 : Int)) < 2147483648 by omega) ?_
        refine And.intro (show -2147483648 ≤ (z15 - (b * (32 : Int))) ∧ (z15 - (b * (32 : Int))) < 2147483648 by omega) ?_
        refine And.intro (show -2147483648 ≤ (z16 - z15) ∧ (z16 - z15) < 2147483648 by omega) ?_
        refine c_put1 (f := (z15 - p)) (b := z17) (a := (z15 - (b * (32 : Int)))) (n := (z16 - z15)) (show (z16 - z15) ≤ 0 ∨ (0 ≤ (z15 - p) ∧ (z15 - p) + (z16 - z15) ≤ 256 ∧ 0 ≤ (z15 - (b * (32 : Int))) ∧ (z15 - (b * (32 : Int))) + (z16 - z15) ≤ 32) by omega) (show -2147483648 ≤ z17 ∧ z17 < 2147483648 by omega) (fun (S18 : fxS) (f19 : fxfr [(9, 9999)] S11 S18) => ?_)
        have g20 : TreeO n S18 := fx_pfr TreeO_stab f19 rfl g13
        have g21 : NS S S18 := fx_pfr NS_stab f19 rfl g14
        refine And.intro (by decide) (And.intro (show -2147483648 ≤ b + (1 : Int) ∧ b + (1 : Int) < 2147483648 by omega) ?_)
        exact ih d (b + (1 : Int)) S18 (fxfr_tr (fxfr_tr hf f12 rfl) f19 rfl) (by omega) (by omega) g20 g21 (by omega)
theorem c_Changes_overwrite {l : Launch} {k : fxK} {S : fxS} {n : Int} {p : Int} {e : Int} (p0 : 0 ≤ n ∧ n < 60) (p1 : 0 ≤ p ∧ p ≤ 1024) (p2 : 1 ≤ e ∧ e ≤ 256) (p3 : p + e ≤ 1024) (p4 : TreeL S) (hk : ∀ (S' : fxS) , (fxfr [(2, 3), (4, 4), (4, 5), (4, 6), (4, 7), (4, 11), (4, 12), (7, 9999), (8, 4), (9, 9999), (10, 9999), (11, 9999), (12, 9999), (13, 6), (13, 7), (13, 10), (15, 9999), (16, 9999), (17, 9999), (18, 9999), (19, 9999), (20, 0), (20, 1), (20, 3), (20, 4), (20, 5), (20, 6), (20, 7), (20, 11), (20, 12), (21, 9999), (22, 9999), (23, 9999)] S S' ∧ (TreeL S')) → k none S') : fC l 101 [.inr (.inr (24, 0)), .inl n, .inl p, .inr (.inr (1, 0)), .inl e] S k := by
  have n23 : NS S S := NS_rfl
  refine fxe_101 (Nat.le_of_ble_eq_true rfl) (fxz_101 400 ?_)
  refine And.intro (show 0 ≤ n ∧ n < 60 by omega) ?_
  refine And.intro (by decide) ?_
  refine And.intro (show -2147483648 ≤ (p + e) ∧ (p + e) < 2147483648 by omega) ?_
  refine And.intro (by decide) ?_
  intro z24 (z24a : (0 : Int) ≤ z24) (z24b : z24 ≤ (1024 : Int)) (z24c : z24 = S 4 (n).toNat 4)
  intro z25 (z25a : z24 ≤ z25) (z25b : (p + e) ≤ z25) (z25c : z25 = z24 ∨ z25 = (p + e))
  refine And.intro (by decide) ?_
  refine c_Changes_lengthWith (n := z25) (show 0 ≤ z25 ∧ z25 ≤ 1024 by omega) (fun (z26 : Int) (q27 : 0 ≤ z26 ∧ z26 ≤ 200) => ?_)
  refine c_Log_add (n := n) (e := z26) (d := (0 : Int)) (show 0 ≤ n ∧ n < 60 by omega) p4 (show -2147483648 ≤ z26 ∧ z26 < 2147483648 by omega) (show -2147483648 ≤ (0 : Int) ∧ (0 : Int) < 2147483648 by omega) (fun (S28 : fxS) ⟨(f29 : fxfr [(8, 4), (10, 9999), (11, 9999), (13, 6), (13, 7), (13, 10), (15, 9999), (16, 9999), (17, 9999), (18, 9999), (19, 9999), (20, 0), (20, 1), (20, 3), (20, 4), (20, 5), (20, 6), (20, 7), (20, 11), (20, 12), (21, 9999), (22, 9999), (23, 9999)] S S28), (g30 : TreeO n S28)⟩ => ?_)
  have g31 : NS S S28 := fx_pfr NS_stab f29 rfl n23
  refine And.intro (show (0 : Int) ≤ z25 ∧ z25 ≤ (1024 : Int) by omega) ?_
  have g32 : NS S (fx_up S28 4 (n).toNat 4 z25) := fx_pup NS_stab rfl g31
  have g33 : TreeO n (fx_up S28 4 (n).toNat 4 z25) := fx_pup TreeO_stab rfl g30
  refine And.intro (show 0 ≤ p ∧ 0 < (32 : Int) by omega) ?_
  refine And.intro (by decide) ?_
  exact (z_Changes_overwrite p0 p1 p2 p3 p4 hk (33 - (p / (32 : Int))).toNat) (p + e) (p / (32 : Int)) (fx_up S28 4 (n).toNat 4 z25) (fxfr_up (fxfr_tr fxfr_rfl f29 rfl) rfl) (by omega) (by omega) g33 g32 (by omega)
theorem c_Changes_shorten {l : Launch} {k : fxK} {S : fxS} {n : Int} {z : Int} (p0 : 0 ≤ n ∧ n < 60) (p1 : 0 ≤ z ∧ z ≤ 1024) (p2 : TreeL S) (hk : ∀ (S' : fxS) , (fxfr [(2, 3), (4, 4), (4, 5), (4, 6), (4, 7), (4, 11), (4, 12), (7, 9999), (8, 4), (9, 9999), (10, 9999), (11, 9999), (12, 9999), (13, 6), (13, 7), (13, 10), (15, 9999), (16, 9999), (17, 9999), (18, 9999), (19, 9999), (20, 0), (20, 1), (20, 3), (20, 4), (20, 5), (20, 6), (20, 7), (20, 11), (20, 12), (21, 9999), (22, 9999), (23, 9999), (24, 4), (25, 9999)] S S' ∧ (TreeL S')) → k none S') : fC l 112 [.inr (.inr (24, 0)), .inl n, .inl z] S k := by
  have n1 : NS S S := NS_rfl
  refine fxe_112 (Nat.le_of_ble_eq_true rfl) (fxz_112 400 ?_)
  refine And.intro (show 0 ≤ n ∧ n < 60 by omega) ?_
  refine And.intro (by decide) ?_
  refine c_Changes_lengthWith (n := z) (show 0 ≤ z ∧ z ≤ 1024 by omega) (fun (z2 : Int) (q3 : 0 ≤ z2 ∧ z2 ≤ 200) => ?_)
  refine c_Log_add (n := n) (e := z2) (d := (0 : Int)) (show 0 ≤ n ∧ n < 60 by omega) p2 (show -2147483648 ≤ z2 ∧ z2 < 2147483648 by omega) (show -2147483648 ≤ (0 : Int) ∧ (0 : Int) < 2147483648 by omega) (fun (S4 : fxS) ⟨(f5 : fxfr [(8, 4), (10, 9999), (11, 9999), (13, 6), (13, 7), (13, 10), (15, 9999), (16, 9999), (17, 9999), (18, 9999), (19, 9999), (20, 0), (20, 1), (20, 3), (20, 4), (20, 5), (20, 6), (20, 7), (20, 11), (20, 12), (21, 9999), (22, 9999), (23, 9999)] S S4), (g6 : TreeO n S4)⟩ => ?_)
  have w7 : S4 4 (n).toNat 4 = S 4 (n).toNat 4 := f5 4 (n).toNat 4 rfl
  have g8 : NS S S4 := fx_pfr NS_stab f5 rfl n1
  refine And.intro (show 0 ≤ z ∧ 0 < (32 : Int) by omega) ?_
  refine And.intro (by decide) ?_
  intro z9 (z9a : (0 : Int) ≤ z9) (z9b : z9 ≤ (1024 : Int)) (z9c : z9 = S4 4 (n).toNat 4)
  refine And.intro (fun (h10 : (z9 ≤ z : Prop)) => ?_) (fun (h10 : (z < z9 : Prop)) => ?_)
  ·
    refine And.intro (show (0 : Int) ≤ z ∧ z ≤ (1024 : Int) by omega) ?_
    have w11 : (fx_up S4 4 (n).toNat 4 z) 4 (n).toNat 4 = z := fx_up_at _ _ _ _ _
    have g12 : NS S (fx_up S4 4 (n).toNat 4 z) := fx_pup NS_stab rfl g8
    have g13 : TreeO n (fx_up S4 4 (n).toNat 4 z) := fx_pup TreeO_stab rfl g6
    refine c_Node_blocks (i := (n).toNat)  (fun (z14 : Int) (q15 : 0 ≤ z14 ∧ z14 ≤ 32 ∧ (fx_up S4 4 (n).toNat 4 z) 4 (n).toNat 4 ≤ 32 * z14 ∧ 32 * z14 < (fx_up S4 4 (n).toNat 4 z) 4 (n).toNat 4 + 32) => ?_)
    refine c_Changes_holdFrom (i := (n).toNat) (q := z14) (show 0 ≤ z14 ∧ z14 ≤ 32 by omega) (fun (S16 : fxS) (f17 : fxfr [(4, 11), (4, 12), (7, 9999), (8, 4), (10, 9999), (12, 9999)] (fx_up S4 4 (n).toNat 4 z) S16) => ?_)
    have w18 : S16 4 (n).toNat 4 = (fx_up S4 4 (n).toNat 4 z) 4 (n).toNat 4 := f17 4 (n).toNat 4 rfl
    have g19 : NS S S16 := fx_pfr NS_stab f17 rfl g12
    have g20 : TreeO n S16 := fx_pfr TreeO_stab f17 rfl g13
    refine c_Changes_renew (i := (n).toNat)  (fun (S21 : fxS) (f22 : fxfr [(2, 3), (4, 5), (4, 6), (4, 7)] S16 S21) => ?_)
    have w23 : S21 4 (n).toNat 4 = S16 4 (n).toNat 4 := f22 4 (n).toNat 4 rfl
    have g24 : NS S S21 := fx_pfr NS_stab f22 rfl g19
    have g25 : TreeO n S21 := fx_pfr TreeO_stab f22 rfl g20
    refine And.intro (fun (h26 : (z ≠ (0 : Int) : Prop)) => ?_) (fun (h26 : (z = (0 : Int) : Prop)) => ?_)
    ·
      exact hk S21 ⟨(fxfr_tr (fxfr_tr (fxfr_up (fxfr_tr fxfr_rfl f5 rfl) rfl) f17 rfl) f22 rfl), by first | assumption | exact Tree_keep (by assumption) (by assumption) (by assumption) | exact LCt_of (by omega)⟩
    ·
      refine c_Changes_forgetRecall (n := n) (show -2147483648 ≤ n ∧ n < 2147483648 by omega) (fun (S27 : fxS) (f28 : fxfr [(24, 4), (25, 9999)] S21 S27) => ?_)
      have w29 : S27 4 (n).toNat 4 = S21 4 (n).toNat 4 := f28 4 (n).toNat 4 rfl
      have g30 : NS S S27 := fx_pfr NS_stab f28 rfl g24
      have g31 : TreeO n S27 := fx_pfr TreeO_stab f28 rfl g25
      exact hk S27 ⟨(fxfr_tr (fxfr_tr (fxfr_tr (fxfr_up (fxfr_tr fxfr_rfl f5 rfl) rfl) f17 rfl) f22 rfl) f28 rfl), by first | assumption | exact Tree_keep (by assumption) (by assumption) (by assumption) | exact LCt_of (by omega)⟩
  ·
    refine And.intro (fun (h32 : ((z % (32 : Int)) = (0 : Int) : Prop)) => ?_) (fun (h32 : ((z % (32 : Int)) ≠ (0 : Int) : Prop)) => ?_)
    ·
      refine And.intro (show (0 : Int) ≤ z ∧ z ≤ (1024 : Int) by omega) ?_
      have w33 : (fx_up S4 4 (n).toNat 4 z) 4 (n).toNat 4 = z := fx_up_at _ _ _ _ _
      have g34 : NS S (fx_up S4 4 (n).toNat 4 z) := fx_pup NS_stab rfl g8
      have g35 : TreeO n (fx_up S4 4 (n).toNat 4 z) := fx_pup TreeO_stab rfl g6
      refine c_Node_blocks (i := (n).toNat)  (fun (z36 : Int) (q37 : 0 ≤ z36 ∧ z36 ≤ 32 ∧ (fx_up S4 4 (n).toNat 4 z) 4 (n).toNat 4 ≤ 32 * z36 ∧ 32 * z36 < (fx_up S4 4 (n).toNat 4 z) 4 (n).toNat 4 + 32) => ?_)
      refine c_Changes_holdFrom (i := (n).toNat) (q := z36) (show 0 ≤ z36 ∧ z36 ≤ 32 by omega) (fun (S38 : fxS) (f39 : fxfr [(4, 11), (4, 12), (7, 9999), (8, 4), (10, 9999), (12, 9999)] (fx_up S4 4 (n).toNat 4 z) S38) => ?_)
      have w40 : S38 4 (n).toNat 4 = (fx_up S4 4 (n).toNat 4 z) 4 (n).toNat 4 := f39 4 (n).toNat 4 rfl
      have g41 : NS S S38 := fx_pfr NS_stab f39 rfl g34
      have g42 : TreeO n S38 := fx_pfr TreeO_stab f39 rfl g35
      refine c_Changes_renew (i := (n).toNat)  (fun (S43 : fxS) (f44 : fxfr [(2, 3), (4, 5), (4, 6), (4, 7)] S38 S43) => ?_)
      have w45 : S43 4 (n).toNat 4 = S38 4 (n).toNat 4 := f44 4 (n).toNat 4 rfl
      have g46 : NS S S43 := fx_pfr NS_stab f44 rfl g41
      have g47 : TreeO n S43 := fx_pfr TreeO_stab f44 rfl g42
      refine And.intro (fun (h48 : (z ≠ (0 : Int) : Prop)) => ?_) (fun (h48 : (z = (0 : Int) : Prop)) => ?_)
      ·
        exact hk S43 ⟨(fxfr_tr (fxfr_tr (fxfr_up (fxfr_tr fxfr_rfl f5 rfl) rfl) f39 rfl) f44 rfl), by first | assumption | exact Tree_keep (by assumption) (by assumption) (by assumption) | exact LCt_of (by omega)⟩
      ·
        refine c_Changes_forgetRecall (n := n) (show -2147483648 ≤ n ∧ n < 2147483648 by omega) (fun (S49 : fxS) (f50 : fxfr [(24, 4), (25, 9999)] S43 S49) => ?_)
        have w51 : S49 4 (n).toNat 4 = S43 4 (n).toNat 4 := f50 4 (n).toNat 4 rfl
        have g52 : NS S S49 := fx_pfr NS_stab f50 rfl g46
        have g53 : TreeO n S49 := fx_pfr TreeO_stab f50 rfl g47
        exact hk S49 ⟨(fxfr_tr (fxfr_tr (fxfr_tr (fxfr_up (fxfr_tr fxfr_rfl f5 rfl) rfl) f39 rfl) f44 rfl) f50 rfl), by first | assumption | exact Tree_keep (by assumption) (by assumption) (by assumption) | exact LCt_of (by omega)⟩
    ·
      refine And.intro (show 0 ≤ z ∧ 0 < (32 : Int) by omega) ?_
      refine c_Changes_rehouse (i := (n).toNat) (j := (z / (32 : Int))) (n := (z % (32 : Int))) (show 0 ≤ (z / (32 : Int)) ∧ (z / (32 : Int)) < 32 by omega) (show (z % (32 : Int)) ≤ 32 by omega) (fun (S54 : fxS) (f55 : fxfr [(4, 11), (4, 12), (7, 9999), (8, 4), (9, 9999), (10, 9999), (11, 9999), (12, 9999)] S4 S54) => ?_)
      have w56 : S54 4 (n).toNat 4 = S4 4 (n).toNat 4 := f55 4 (n).toNat 4 rfl
      have g57 : NS S S54 := fx_pfr NS_stab f55 rfl g8
      have g58 : TreeO n S54 := fx_pfr TreeO_stab f55 rfl g6
      refine And.intro (show (0 : Int) ≤ z ∧ z ≤ (1024 : Int) by omega) ?_
      have w59 : (fx_up S54 4 (n).toNat 4 z) 4 (n).toNat 4 = z := fx_up_at _ _ _ _ _
      have g60 : NS S (fx_up S54 4 (n).toNat 4 z) := fx_pup NS_stab rfl g57
      have g61 : TreeO n (fx_up S54 4 (n).toNat 4 z) := fx_pup TreeO_stab rfl g58
      refine c_Node_blocks (i := (n).toNat)  (fun (z62 : Int) (q63 : 0 ≤ z62 ∧ z62 ≤ 32 ∧ (fx_up S54 4 (n).toNat 4 z) 4 (n).toNat 4 ≤ 32 * z62 ∧ 32 * z62 < (fx_up S54 4 (n).toNat 4 z) 4 (n).toNat 4 + 32) => ?_)
      refine c_Changes_holdFrom (i := (n).toNat) (q := z62) (show 0 ≤ z62 ∧ z62 ≤ 32 by omega) (fun (S64 : fxS) (f65 : fxfr [(4, 11), (4, 12), (7, 9999), (8, 4), (10, 9999), (12, 9999)] (fx_up S54 4 (n).toNat 4 z) S64) => ?_)
      have w66 : S64 4 (n).toNat 4 = (fx_up S54 4 (n).toNat 4 z) 4 (n).toNat 4 := f65 4 (n).toNat 4 rfl
      have g67 : NS S S64 := fx_pfr NS_stab f65 rfl g60
      have g68 : TreeO n S64 := fx_pfr TreeO_stab f65 rfl g61
      refine c_Changes_renew (i := (n).toNat)  (fun (S69 : fxS) (f70 : fxfr [(2, 3), (4, 5), (4, 6), (4, 7)] S64 S69) => ?_)
      have w71 : S69 4 (n).toNat 4 = S64 4 (n).toNat 4 := f70 4 (n).toNat 4 rfl
      have g72 : NS S S69 := fx_pfr NS_stab f70 rfl g67
      have g73 : TreeO n S69 := fx_pfr TreeO_stab f70 rfl g68
      refine And.intro (fun (h74 : (z ≠ (0 : Int) : Prop)) => ?_) (fun (h74 : (z = (0 : Int) : Prop)) => ?_)
      ·
        exact hk S69 ⟨(fxfr_tr (fxfr_tr (fxfr_up (fxfr_tr (fxfr_tr fxfr_rfl f5 rfl) f55 rfl) rfl) f65 rfl) f70 rfl), by first | assumption | exact Tree_keep (by assumption) (by assumption) (by assumption) | exact LCt_of (by omega)⟩
      ·
        refine c_Changes_forgetRecall (n := n) (show -2147483648 ≤ n ∧ n < 2147483648 by omega) (fun (S75 : fxS) (f76 : fxfr [(24, 4), (25, 9999)] S69 S75) => ?_)
        have w77 : S75 4 (n).toNat 4 = S69 4 (n).toNat 4 := f76 4 (n).toNat 4 rfl
        have g78 : NS S S75 := fx_pfr NS_stab f76 rfl g72
        have g79 : TreeO n S75 := fx_pfr TreeO_stab f76 rfl g73
        exact hk S75 ⟨(fxfr_tr (fxfr_tr (fxfr_tr (fxfr_up (fxfr_tr (fxfr_tr fxfr_rfl f5 rfl) f55 rfl) rfl) f65 rfl) f70 rfl) f76 rfl), by first | assumption | exact Tree_keep (by assumption) (by assumption) (by assumption) | exact LCt_of (by omega)⟩
theorem z_Changes_sink {l : Launch} {k : fxK} {S : fxS} {n : Int} (p0 : 0 ≤ n ∧ n < 60) (p1 : TreeL S) (hk : ∀ (S' : fxS) , (fxfr [(4, 11), (4, 12), (7, 9999), (8, 4), (9, 9999), (10, 9999), (11, 9999), (12, 9999), (13, 6), (13, 7), (13, 10), (15, 9999), (16, 9999), (17, 9999), (18, 9999), (19, 9999), (20, 0), (20, 1), (20, 3), (20, 4), (20, 5), (20, 6), (20, 7), (20, 11), (20, 12), (21, 9999), (22, 9999), (23, 9999)] S S' ∧ (TreeL S')) → k none S') : ∀ m : Nat, (∀ (b : Int) (S1 : fxS), (fxfr [(4, 11), (4, 12), (7, 9999), (8, 4), (9, 9999), (10, 9999), (11, 9999), (12, 9999), (13, 6), (13, 7), (13, 10), (15, 9999), (16, 9999), (17, 9999), (18, 9999), (19, 9999), (20, 0), (20, 1), (20, 3), (20, 4), (20, 5), (20, 6), (20, 7), (20, 11), (20, 12), (21, 9999), (22, 9999), (23, 9999)] S S1) → (0 ≤ b ∧ b ≤ 32) → (TreeL S1) → (NS S S1) → 33 - b ≤ (m : Int) → fZ l 247 k 12 [some (.inr (.inr (24, 0))), some (.inl n), some (.inr (.inr (4, (n).toNat))), some (.inl b), none, none] [] S1) := by
  intro m
  induction m with
  | zero =>
    intro b S1 hf i0 i1 i2 hmu
    exfalso
    omega
  | succ m ih =>
    intro b S1 hf i0 i1 i2 hmu
    refine fxz_247 400 ?_
    refine And.intro (fun (h1 : ((32 : Int) ≤ b : Prop)) => ?_) (fun (h1 : (b < (32 : Int) : Prop)) => ?_)
    ·
      exact hk S1 ⟨hf, i1⟩
    ·
      refine And.intro (show 0 ≤ b ∧ b < 32 by omega) ?_
      intro z2 (z2a : (-1 : Int) ≤ z2) (z2b : z2 ≤ (207 : Int)) (z2c : z2 = S1 7 (n).toNat (b).toNat)
      refine And.intro (by decide) ?_
      refine And.intro (fun (h3 : (z2 < (0 : Int) : Prop)) => ?_) (fun (h3 : ((0 : Int) ≤ z2 : Prop)) => ?_)
      ·
        refine And.intro (by decide) (And.intro (show -2147483648 ≤ b + (1 : Int) ∧ b + (1 : Int) < 2147483648 by omega) ?_)
        exact ih (b + (1 : Int)) S1 hf (by omega) i1 i2 (by omega)
      ·
        refine And.intro (fun (h5 : ((48 : Int) ≤ z2 : Prop)) => ?_) (fun (h5 : (z2 < (48 : Int) : Prop)) => ?_)
        ·
          refine And.intro (by decide) (And.intro (show -2147483648 ≤ b + (1 : Int) ∧ b + (1 : Int) < 2147483648 by omega) ?_)
          exact ih (b + (1 : Int)) S1 hf (by omega) i1 i2 (by omega)
        ·
          refine c_Log_add (n := n) (e := (8 : Int)) (d := (0 : Int)) (show 0 ≤ n ∧ n < 60 by omega) i1 (show -2147483648 ≤ (8 : Int) ∧ (8 : Int) < 2147483648 by omega) (show -2147483648 ≤ (0 : Int) ∧ (0 : Int) < 2147483648 by omega) (fun (S7 : fxS) ⟨(f8 : fxfr [(8, 4), (10, 9999), (11, 9999), (13, 6), (13, 7), (13, 10), (15, 9999), (16, 9999), (17, 9999), (18, 9999), (19, 9999), (20, 0), (20, 1), (20, 3), (20, 4), (20, 5), (20, 6), (20, 7), (20, 11), (20, 12), (21, 9999), (22, 9999), (23, 9999)] S1 S7), (g9 : TreeO n S7)⟩ => ?_)
          have g10 : NS S S7 := fx_pfr NS_stab f8 rfl i2
          refine c_Stores_giveOf (s := (1 : Int)) (show -2147483648 ≤ (1 : Int) ∧ (1 : Int) < 2147483648 by omega) (fun (z11 : Int) (S12 : fxS) ⟨(f13 : fxfr [(10, 9999), (11, 9999), (12, 9999)] S7 S12), (q14 : -1 ≤ z11 ∧ z11 ≤ 207)⟩ => ?_)
          have g15 : NS S S12 := fx_pfr NS_stab f13 rfl g10
          have g16 : TreeO n S12 := fx_pfr TreeO_stab f13 rfl g9
          refine And.intro (by decide) ?_
          refine c_Stores_putBlock (o := z2) (b := z11) (n := (32 : Int)) (show -1 ≤ z2 ∧ z2 ≤ 207 by omega) (show (32 : Int) ≤ 32 by omega) (show -2147483648 ≤ z11 ∧ z11 < 2147483648 by omega) (fun (S17 : fxS) (f18 : fxfr [(9, 9999)] S12 S17) => ?_)
          have g19 : NS S S17 := fx_pfr NS_stab f18 rfl g15
          have g20 : TreeO n S17 := fx_pfr TreeO_stab f18 rfl g16
          refine c_Stores_hold (b := z2) (show -2147483648 ≤ z2 ∧ z2 < 2147483648 by omega) (fun (S21 : fxS) (f22 : fxfr [(8, 4), (10, 9999), (12, 9999)] S17 S21) => ?_)
          have g23 : NS S S21 := fx_pfr NS_stab f22 rfl g19
          have g24 : TreeO n S21 := fx_pfr TreeO_stab f22 rfl g20
          refine c_Node_setHome (i := (n).toNat) (j := b) (b := z11) (show 0 ≤ b ∧ b < 32 by omega) (show -1 ≤ z11 ∧ z11 ≤ 207 by omega) (fun (S25 : fxS) (f26 : fxfr [(4, 11), (4, 12), (7, 9999)] S21 S25) => ?_)
          have g27 : NS S S25 := fx_pfr NS_stab f26 rfl g23
          have g28 : TreeO n S25 := fx_pfr TreeO_stab f26 rfl g24
          exact hk S25 ⟨(fxfr_tr (fxfr_tr (fxfr_tr (fxfr_tr (fxfr_tr hf f8 rfl) f13 rfl) f18 rfl) f22 rfl) f26 rfl), by first | assumption | exact Tree_keep (by assumption) (by assumption) (by assumption) | exact LCt_of (by omega)⟩
theorem c_Changes_sink {l : Launch} {k : fxK} {S : fxS} {n : Int} (p0 : 0 ≤ n ∧ n < 60) (p1 : TreeL S) (hk : ∀ (S' : fxS) , (fxfr [(4, 11), (4, 12), (7, 9999), (8, 4), (9, 9999), (10, 9999), (11, 9999), (12, 9999), (13, 6), (13, 7), (13, 10), (15, 9999), (16, 9999), (17, 9999), (18, 9999), (19, 9999), (20, 0), (20, 1), (20, 3), (20, 4), (20, 5), (20, 6), (20, 7), (20, 11), (20, 12), (21, 9999), (22, 9999), (23, 9999)] S S' ∧ (TreeL S')) → k none S') : fC l 247 [.inr (.inr (24, 0)), .inl n] S k := by
  have n29 : NS S S := NS_rfl
  refine fxe_247 (Nat.le_of_ble_eq_true rfl) (fxz_247 400 ?_)
  refine And.intro (show 0 ≤ n ∧ n < 60 by omega) ?_
  refine And.intro (by decide) ?_
  refine And.intro (by decide) ?_
  exact (z_Changes_sink p0 p1 hk (33 - (0 : Int)).toNat) (0 : Int) S fxfr_rfl (by omega) p1 n29 (by omega)
theorem c_Changes_release {l : Launch} {k : fxK} {S : fxS} {n : Int} (p0 : 0 ≤ n ∧ n < 60) (p1 : TreeL S) (hk : ∀ (S' : fxS) , (fxfr [(4, 11), (4, 12), (7, 9999), (8, 4), (10, 9999), (11, 9999), (12, 9999), (13, 6), (13, 7), (13, 10), (15, 9999), (16, 9999), (17, 9999), (18, 9999), (19, 9999), (20, 0), (20, 1), (20, 3), (20, 4), (20, 5), (20, 6), (20, 7), (20, 11), (20, 12), (21, 9999), (22, 9999), (23, 9999)] S S' ∧ (TreeL S')) → k none S') : fC l 248 [.inr (.inr (24, 0)), .inl n] S k := by
  have n1 : NS S S := NS_rfl
  refine fxe_248 (Nat.le_of_ble_eq_true rfl) (fxz_248 400 ?_)
  refine c_Log_add (n := n) (e := (6 : Int)) (d := (0 : Int)) (show 0 ≤ n ∧ n < 60 by omega) p1 (show -2147483648 ≤ (6 : Int) ∧ (6 : Int) < 2147483648 by omega) (show -2147483648 ≤ (0 : Int) ∧ (0 : Int) < 2147483648 by omega) (fun (S2 : fxS) ⟨(f3 : fxfr [(8, 4), (10, 9999), (11, 9999), (13, 6), (13, 7), (13, 10), (15, 9999), (16, 9999), (17, 9999), (18, 9999), (19, 9999), (20, 0), (20, 1), (20, 3), (20, 4), (20, 5), (20, 6), (20, 7), (20, 11), (20, 12), (21, 9999), (22, 9999), (23, 9999)] S S2), (g4 : TreeO n S2)⟩ => ?_)
  have g5 : NS S S2 := fx_pfr NS_stab f3 rfl n1
  refine And.intro (show 0 ≤ n ∧ n < 60 by omega) ?_
  refine c_Changes_holdFrom (i := (n).toNat) (q := (0 : Int)) (show 0 ≤ (0 : Int) ∧ (0 : Int) ≤ 32 by omega) (fun (S6 : fxS) (f7 : fxfr [(4, 11), (4, 12), (7, 9999), (8, 4), (10, 9999), (12, 9999)] S2 S6) => ?_)
  have g8 : NS S S6 := fx_pfr NS_stab f7 rfl g5
  have g9 : TreeO n S6 := fx_pfr TreeO_stab f7 rfl g4
  exact hk S6 ⟨(fxfr_tr (fxfr_tr fxfr_rfl f3 rfl) f7 rfl), by first | assumption | exact Tree_keep (by assumption) (by assumption) (by assumption) | exact LCt_of (by omega)⟩
theorem c_Changes_noteCopy {l : Launch} {k : fxK} {S : fxS} {n : Int} {t : Int} {p : Int} (p0 : 0 ≤ n ∧ n < 60) (p1 : 0 ≤ t ∧ t ≤ 5) (p2 : 0 ≤ p ∧ p ≤ 6000) (p3 : TreeL S) (hk : ∀ (S' : fxS) , (fxfr [(4, 7), (5, 9999), (6, 9999), (8, 4), (10, 9999), (11, 9999), (13, 6), (13, 7), (13, 10), (15, 9999), (16, 9999), (17, 9999), (18, 9999), (19, 9999), (20, 0), (20, 1), (20, 3), (20, 4), (20, 5), (20, 6), (20, 7), (20, 11), (20, 12), (21, 9999), (22, 9999), (23, 9999)] S S' ∧ (TreeL S')) → k none S') : fC l 242 [.inr (.inr (24, 0)), .inl n, .inl t, .inl p] S k := by
  have n1 : NS S S := NS_rfl
  refine fxe_242 (Nat.le_of_ble_eq_true rfl) (fxz_242 400 ?_)
  refine c_Log_add (n := n) (e := (12 : Int)) (d := (0 : Int)) (show 0 ≤ n ∧ n < 60 by omega) p3 (show -2147483648 ≤ (12 : Int) ∧ (12 : Int) < 2147483648 by omega) (show -2147483648 ≤ (0 : Int) ∧ (0 : Int) < 2147483648 by omega) (fun (S2 : fxS) ⟨(f3 : fxfr [(8, 4), (10, 9999), (11, 9999), (13, 6), (13, 7), (13, 10), (15, 9999), (16, 9999), (17, 9999), (18, 9999), (19, 9999), (20, 0), (20, 1), (20, 3), (20, 4), (20, 5), (20, 6), (20, 7), (20, 11), (20, 12), (21, 9999), (22, 9999), (23, 9999)] S S2), (g4 : TreeO n S2)⟩ => ?_)
  have g5 : NS S S2 := fx_pfr NS_stab f3 rfl n1
  refine And.intro (show 0 ≤ n ∧ n < 60 by omega) ?_
  refine c_Node_addCopy (i := (n).toNat) (t := t) (p := p) (show 0 ≤ t ∧ t ≤ 5 by omega) (show 0 ≤ p ∧ p ≤ 6000 by omega) (fun (S6 : fxS) (f7 : fxfr [(4, 7), (5, 9999), (6, 9999)] S2 S6) => ?_)
  have g8 : NS S S6 := fx_pfr NS_stab f7 rfl g5
  have g9 : TreeO n S6 := fx_pfr TreeO_stab f7 rfl g4
  exact hk S6 ⟨(fxfr_tr (fxfr_tr fxfr_rfl f3 rfl) f7 rfl), by first | assumption | exact Tree_keep (by assumption) (by assumption) (by assumption) | exact LCt_of (by omega)⟩
theorem c_Changes_putCopy {l : Launch} {k : fxK} {S : fxS} {n : Int} {q : Int} {t : Int} {p : Int} (p0 : 0 ≤ n ∧ n < 60) (p1 : 0 ≤ t ∧ t ≤ 5) (p2 : 0 ≤ p ∧ p ≤ 6000) (p3 : TreeL S) (p4 : -2147483648 ≤ q ∧ q < 2147483648) (hk : ∀ (S' : fxS) , (fxfr [(5, 9999), (6, 9999), (8, 4), (10, 9999), (11, 9999), (13, 6), (13, 7), (13, 10), (15, 9999), (16, 9999), (17, 9999), (18, 9999), (19, 9999), (20, 0), (20, 1), (20, 3), (20, 4), (20, 5), (20, 6), (20, 7), (20, 11), (20, 12), (21, 9999), (22, 9999), (23, 9999)] S S' ∧ (TreeL S')) → k none S') : fC l 240 [.inr (.inr (24, 0)), .inl n, .inl q, .inl t, .inl p] S k := by
  have n1 : NS S S := NS_rfl
  refine fxe_240 (Nat.le_of_ble_eq_true rfl) (fxz_240 400 ?_)
  refine And.intro (fun (h2 : (q < (0 : Int) : Prop)) => ?_) (fun (h2 : ((0 : Int) ≤ q : Prop)) => ?_)
  ·
    exact hk S ⟨fxfr_rfl, p3⟩
  ·
    refine And.intro (fun (h3 : (q < (2 : Int) : Prop)) => ?_) (fun (h3 : ((2 : Int) ≤ q : Prop)) => ?_)
    ·
      refine c_Log_add (n := n) (e := (12 : Int)) (d := (0 : Int)) (show 0 ≤ n ∧ n < 60 by omega) p3 (show -2147483648 ≤ (12 : Int) ∧ (12 : Int) < 2147483648 by omega) (show -2147483648 ≤ (0 : Int) ∧ (0 : Int) < 2147483648 by omega) (fun (S4 : fxS) ⟨(f5 : fxfr [(8, 4), (10, 9999), (11, 9999), (13, 6), (13, 7), (13, 10), (15, 9999), (16, 9999), (17, 9999), (18, 9999), (19, 9999), (20, 0), (20, 1), (20, 3), (20, 4), (20, 5), (20, 6), (20, 7), (20, 11), (20, 12), (21, 9999), (22, 9999), (23, 9999)] S S4), (g6 : TreeO n S4)⟩ => ?_)
      have g7 : NS S S4 := fx_pfr NS_stab f5 rfl n1
      refine And.intro (show 0 ≤ n ∧ n < 60 by omega) ?_
      refine And.intro (show 0 ≤ q ∧ q < 2 by omega) ?_
      refine And.intro (show (0 : Int) ≤ t ∧ t ≤ (5 : Int) by omega) ?_
      have g8 : NS S (fx_up S4 5 (n).toNat (q).toNat t) := fx_pup NS_stab rfl g7
      have g9 : TreeO n (fx_up S4 5 (n).toNat (q).toNat t) := fx_pup TreeO_stab rfl g6
      refine And.intro (show 0 ≤ n ∧ n < 60 by omega) ?_
      refine And.intro (show 0 ≤ q ∧ q < 2 by omega) ?_
      refine And.intro (show (0 : Int) ≤ p ∧ p ≤ (6000 : Int) by omega) ?_
      have g10 : NS S (fx_up (fx_up S4 5 (n).toNat (q).toNat t) 6 (n).toNat (q).toNat p) := fx_pup NS_stab rfl g8
      have g11 : TreeO n (fx_up (fx_up S4 5 (n).toNat (q).toNat t) 6 (n).toNat (q).toNat p) := fx_pup TreeO_stab rfl g9
      exact hk (fx_up (fx_up S4 5 (n).toNat (q).toNat t) 6 (n).toNat (q).toNat p) ⟨(fxfr_up (fxfr_up (fxfr_tr fxfr_rfl f5 rfl) rfl) rfl), by first | assumption | exact Tree_keep (by assumption) (by assumption) (by assumption) | exact LCt_of (by omega)⟩
    ·
      exact hk S ⟨fxfr_rfl, p3⟩
theorem c_Changes_dropCopy {l : Launch} {k : fxK} {S : fxS} {n : Int} {q : Int} (p0 : 0 ≤ n ∧ n < 60) (p1 : TreeL S) (p2 : -2147483648 ≤ q ∧ q < 2147483648) (hk : ∀ (S' : fxS) , (fxfr [(4, 7), (5, 9999), (6, 9999), (8, 4), (10, 9999), (11, 9999), (13, 6), (13, 7), (13, 10), (15, 9999), (16, 9999), (17, 9999), (18, 9999), (19, 9999), (20, 0), (20, 1), (20, 3), (20, 4), (20, 5), (20, 6), (20, 7), (20, 11), (20, 12), (21, 9999), (22, 9999), (23, 9999), (24, 4), (25, 9999)] S S' ∧ (TreeL S')) → k none S') : fC l 205 [.inr (.inr (24, 0)), .inl n, .inl q] S k := by
  have n1 : NS S S := NS_rfl
  refine fxe_205 (Nat.le_of_ble_eq_true rfl) (fxz_205 400 ?_)
  refine c_Log_add (n := n) (e := (12 : Int)) (d := (0 : Int)) (show 0 ≤ n ∧ n < 60 by omega) p1 (show -2147483648 ≤ (12 : Int) ∧ (12 : Int) < 2147483648 by omega) (show -2147483648 ≤ (0 : Int) ∧ (0 : Int) < 2147483648 by omega) (fun (S2 : fxS) ⟨(f3 : fxfr [(8, 4), (10, 9999), (11, 9999), (13, 6), (13, 7), (13, 10), (15, 9999), (16, 9999), (17, 9999), (18, 9999), (19, 9999), (20, 0), (20, 1), (20, 3), (20, 4), (20, 5), (20, 6), (20, 7), (20, 11), (20, 12), (21, 9999), (22, 9999), (23, 9999)] S S2), (g4 : TreeO n S2)⟩ => ?_)
  have g5 : NS S S2 := fx_pfr NS_stab f3 rfl n1
  refine And.intro (show 0 ≤ n ∧ n < 60 by omega) ?_
  refine c_Node_takeCopy (i := (n).toNat) (j := q) (show -2147483648 ≤ q ∧ q < 2147483648 by omega) (fun (S6 : fxS) (f7 : fxfr [(4, 7), (5, 9999), (6, 9999)] S2 S6) => ?_)
  have g8 : NS S S6 := fx_pfr NS_stab f7 rfl g5
  have g9 : TreeO n S6 := fx_pfr TreeO_stab f7 rfl g4
  refine And.intro (show 0 ≤ n ∧ n < 60 by omega) ?_
  intro z10 (z10a : (0 : Int) ≤ z10) (z10b : z10 ≤ (2 : Int)) (z10c : z10 = S6 4 (n).toNat 7)
  refine And.intro (fun (h11 : (z10 ≠ (0 : Int) : Prop)) => ?_) (fun (h11 : (z10 = (0 : Int) : Prop)) => ?_)
  ·
    exact hk S6 ⟨(fxfr_tr (fxfr_tr fxfr_rfl f3 rfl) f7 rfl), by first | assumption | exact Tree_keep (by assumption) (by assumption) (by assumption) | exact LCt_of (by omega)⟩
  ·
    refine c_Changes_forgetRecall (n := n) (show -2147483648 ≤ n ∧ n < 2147483648 by omega) (fun (S12 : fxS) (f13 : fxfr [(24, 4), (25, 9999)] S6 S12) => ?_)
    have g14 : NS S S12 := fx_pfr NS_stab f13 rfl g8
    have g15 : TreeO n S12 := fx_pfr TreeO_stab f13 rfl g9
    exact hk S12 ⟨(fxfr_tr (fxfr_tr (fxfr_tr fxfr_rfl f3 rfl) f7 rfl) f13 rfl), by first | assumption | exact Tree_keep (by assumption) (by assumption) (by assumption) | exact LCt_of (by omega)⟩
theorem z_Changes_dropCopiesOn {l : Launch} {k : fxK} {S : fxS} {t : Int} (p0 : TreeL S) (p1 : -2147483648 ≤ t ∧ t < 2147483648) (hk : ∀ (S' : fxS) , (fxfr [(4, 7), (5, 9999), (6, 9999), (8, 4), (10, 9999), (11, 9999), (13, 6), (13, 7), (13, 10), (15, 9999), (16, 9999), (17, 9999), (18, 9999), (19, 9999), (20, 0), (20, 1), (20, 3), (20, 4), (20, 5), (20, 6), (20, 7), (20, 11), (20, 12), (21, 9999), (22, 9999), (23, 9999), (24, 4), (25, 9999)] S S' ∧ (TreeL S')) → k none S') : ∀ m : Nat, (∀ (j : Int) (S1 : fxS), (fxfr [(4, 7), (5, 9999), (6, 9999), (8, 4), (10, 9999), (11, 9999), (13, 6), (13, 7), (13, 10), (15, 9999), (16, 9999), (17, 9999), (18, 9999), (19, 9999), (20, 0), (20, 1), (20, 3), (20, 4), (20, 5), (20, 6), (20, 7), (20, 11), (20, 12), (21, 9999), (22, 9999), (23, 9999), (24, 4), (25, 9999)] S S1) → (1 ≤ j ∧ j ≤ 60) → (TreeL S1) → (61 - j) * 10 + 9 ≤ (m : Int) → fZ l 206 k 2 [some (.inr (.inr (24, 0))), some (.inl t), some (.inl j), none, none] [] S1) ∧ (∀ (j b : Int) (S1 : fxS), (fxfr [(4, 7), (5, 9999), (6, 9999), (8, 4), (10, 9999), (11, 9999), (13, 6), (13, 7), (13, 10), (15, 9999), (16, 9999), (17, 9999), (18, 9999), (19, 9999), (20, 0), (20, 1), (20, 3), (20, 4), (20, 5), (20, 6), (20, 7), (20, 11), (20, 12), (21, 9999), (22, 9999), (23, 9999), (24, 4), (25, 9999)] S S1) → (1 ≤ j ∧ j < 60) → (-1 ≤ b ∧ b ≤ 1) → (TreeL S1) → (61 - j) * 10 + b + 1 ≤ (m : Int) → fZ l 206 k 10 [some (.inr (.inr (24, 0))), some (.inl t), some (.inl j), some (.inl b), none] [] S1) := by
  intro m
  induction m with
  | zero =>
    refine ⟨?_, ?_⟩
    · intro j S1 hf i0 i1 hmu
      exfalso
      omega
    · intro j b S1 hf i0 i1 i2 hmu
      exfalso
      omega
  | succ m ih =>
    refine ⟨?_, ?_⟩
    · intro j S1 hf i0 i1 hmu
      refine fxz_206 400 ?_
      refine And.intro (fun (h1 : ((60 : Int) ≤ j : Prop)) => ?_) (fun (h1 : (j < (60 : Int) : Prop)) => ?_)
      ·
        exact hk S1 ⟨hf, i1⟩
      ·
        refine And.intro (by decide) ?_
        exact ih.2 j (1 : Int) S1 hf (by omega) (by omega) i1 (by omega)
    · intro j b S1 hf i0 i1 i2 hmu
      refine fxz_206 400 ?_
      refine And.intro (fun (h2 : (b < (0 : Int) : Prop)) => ?_) (fun (h2 : ((0 : Int) ≤ b : Prop)) => ?_)
      ·
        refine And.intro (by decide) (And.intro (show -2147483648 ≤ j + (1 : Int) ∧ j + (1 : Int) < 2147483648 by omega) ?_)
        exact ih.1 (j + (1 : Int)) S1 hf (by omega) i2 (by omega)
      ·
        refine And.intro (show 0 ≤ j ∧ j < 60 by omega) ?_
        refine And.intro (by decide) ?_
        intro z4 (z4a : (0 : Int) ≤ z4) (z4b : z4 ≤ (2 : Int)) (z4c : z4 = S1 4 (j).toNat 7)
        refine And.intro (fun (h5 : (z4 ≤ b : Prop)) => ?_) (fun (h5 : (b < z4 : Prop)) => ?_)
        ·
          refine And.intro (by decide) (And.intro (show -2147483648 ≤ b + (-1 : Int) ∧ b + (-1 : Int) < 2147483648 by omega) ?_)
          exact ih.2 j (b + (-1 : Int)) S1 hf (by omega) (by omega) i2 (by omega)
        ·
          refine And.intro (show 0 ≤ b ∧ b < 2 by omega) ?_
          intro z7 (z7a : (0 : Int) ≤ z7) (z7b : z7 ≤ (5 : Int)) (z7c : z7 = S1 5 (j).toNat (b).toNat)
          refine And.intro (fun (h8 : (z7 ≠ t : Prop)) => ?_) (fun (h8 : (z7 = t : Prop)) => ?_)
          ·
            refine And.intro (by decide) (And.intro (show -2147483648 ≤ b + (-1 : Int) ∧ b + (-1 : Int) < 2147483648 by omega) ?_)
            exact ih.2 j (b + (-1 : Int)) S1 hf (by omega) (by omega) i2 (by omega)
          ·
            refine c_Changes_dropCopy (n := j) (q := b) (show 0 ≤ j ∧ j < 60 by omega) i2 (show -2147483648 ≤ b ∧ b < 2147483648 by omega) (fun (S10 : fxS) ⟨(f11 : fxfr [(4, 7), (5, 9999), (6, 9999), (8, 4), (10, 9999), (11, 9999), (13, 6), (13, 7), (13, 10), (15, 9999), (16, 9999), (17, 9999), (18, 9999), (19, 9999), (20, 0), (20, 1), (20, 3), (20, 4), (20, 5), (20, 6), (20, 7), (20, 11), (20, 12), (21, 9999), (22, 9999), (23, 9999), (24, 4), (25, 9999)] S1 S10), (g12 : TreeL S10)⟩ => ?_)
            refine And.intro (by decide) (And.intro (show -2147483648 ≤ b + (-1 : Int) ∧ b + (-1 : Int) < 2147483648 by omega) ?_)
            exact ih.2 j (b + (-1 : Int)) S10 (fxfr_tr hf f11 rfl) (by omega) (by omega) g12 (by omega)
theorem c_Changes_dropCopiesOn {l : Launch} {k : fxK} {S : fxS} {t : Int} (p0 : TreeL S) (p1 : -2147483648 ≤ t ∧ t < 2147483648) (hk : ∀ (S' : fxS) , (fxfr [(4, 7), (5, 9999), (6, 9999), (8, 4), (10, 9999), (11, 9999), (13, 6), (13, 7), (13, 10), (15, 9999), (16, 9999), (17, 9999), (18, 9999), (19, 9999), (20, 0), (20, 1), (20, 3), (20, 4), (20, 5), (20, 6), (20, 7), (20, 11), (20, 12), (21, 9999), (22, 9999), (23, 9999), (24, 4), (25, 9999)] S S' ∧ (TreeL S')) → k none S') : fC l 206 [.inr (.inr (24, 0)), .inl t] S k := by
  refine fxe_206 (Nat.le_of_ble_eq_true rfl) (fxz_206 400 ?_)
  refine And.intro (by decide) ?_
  exact (z_Changes_dropCopiesOn p0 p1 hk ((61 - (1 : Int)) * 10 + 9).toNat).1 (1 : Int) S fxfr_rfl (by omega) p0 (by omega)
theorem c_Changes_noteDeleteWritten {l : Launch} {k : fxK} {S : fxS} {d : Int} (p0 : TreeL S) (p1 : -2147483648 ≤ d ∧ d < 2147483648) (hk : ∀ (S' : fxS) , (fxfr [(8, 4), (10, 9999), (11, 9999), (13, 6), (13, 7), (13, 10), (15, 9999), (16, 9999), (17, 9999), (18, 9999), (19, 9999), (20, 0), (20, 1), (20, 3), (20, 4), (20, 5), (20, 6), (20, 7), (20, 11), (20, 12), (21, 9999), (22, 9999), (23, 9999)] S S' ∧ (TreeL S')) → k none S') : fC l 239 [.inr (.inr (24, 0)), .inl d] S k := by
  refine fxe_239 (Nat.le_of_ble_eq_true rfl) (fxz_239 400 ?_)
  intro z1 z1a z1b z1c
  refine c_Log_add0 (n := (-1 : Int)) (e := (6 : Int)) (d := z1) (show (-1 : Int) = -1 by omega) p0 (show -2147483648 ≤ (6 : Int) ∧ (6 : Int) < 2147483648 by omega) (show -2147483648 ≤ z1 ∧ z1 < 2147483648 by omega) (fun (S2 : fxS) ⟨(f3 : fxfr [(8, 4), (10, 9999), (11, 9999), (13, 6), (13, 7), (13, 10), (15, 9999), (16, 9999), (17, 9999), (18, 9999), (19, 9999), (20, 0), (20, 1), (20, 3), (20, 4), (20, 5), (20, 6), (20, 7), (20, 11), (20, 12), (21, 9999), (22, 9999), (23, 9999)] S S2), (g4 : TreeL S2)⟩ => ?_)
  exact hk S2 ⟨(fxfr_tr fxfr_rfl f3 rfl), g4⟩
