/-! contracts: changes of the class -/
theorem c_Log_undo {l : Launch} {k : fxK} {S : fxS} {n : Int} (p0 : 0 ≤ n ∧ n < 200) (hk : ∀ (S' : fxS) , (fxfr [(4, 0), (4, 1), (4, 3), (4, 4), (4, 5), (4, 6), (4, 7), (4, 11), (4, 12), (5, 9999), (6, 9999), (7, 9999), (13, 10), (18, 9999), (19, 9999)] S S') → k none S') : fC l 137 [.inr (.inr (13, 0)), .inl n] S k := by
  refine fxe_137 (Nat.le_of_ble_eq_true rfl) (fxz_137 400 ?_)
  refine And.intro (show 0 ≤ n ∧ n < 200 by omega) ?_
  intro z1 (z1a : (-1 : Int) ≤ z1) (z1b : z1 ≤ (59 : Int)) (z1c : z1 = S 15 0 (n).toNat)
  refine And.intro (fun (h2 : (z1 < (0 : Int) : Prop)) => ?_) (fun (h2 : ((0 : Int) ≤ z1 : Prop)) => ?_)
  ·
    refine And.intro (show 0 ≤ n ∧ n < 200 by omega) ?_
    intro z3 (z3a : (-2147483648 : Int) ≤ z3) (z3b : z3 ≤ (2147483647 : Int)) (z3c : z3 = S 17 0 (n).toNat)
    refine And.intro (fun (h4 : (z3 ≤ (0 : Int) : Prop)) => ?_) (fun (h4 : ((0 : Int) < z3 : Prop)) => ?_)
    ·
      refine And.intro (show 0 ≤ n ∧ n < 200 by omega) ?_
      intro z5 (z5a : (-2147483648 : Int) ≤ z5) (z5b : z5 ≤ (2147483647 : Int)) (z5c : z5 = S 17 0 (n).toNat)
      refine And.intro (fun (h6 : ((0 : Int) ≤ z5 : Prop)) => ?_) (fun (h6 : (z5 < (0 : Int) : Prop)) => ?_)
      ·
        exact hk S fxfr_rfl
      ·
        refine And.intro (show 0 ≤ n ∧ n < 200 by omega) ?_
        intro z7 (z7a : (-2147483648 : Int) ≤ z7) (z7b : z7 ≤ (2147483647 : Int)) (z7c : z7 = S 17 0 (n).toNat)
        intro z8 z8a z8b z8c
        refine c_Log_noteDelete (d := z8) (show -2147483648 ≤ z8 ∧ z8 < 2147483648 by omega) (fun (S9 : fxS) (f10 : fxfr [(13, 10), (18, 9999), (19, 9999)] S S9) => ?_)
        exact hk S9 (fxfr_tr fxfr_rfl f10 rfl)
    ·
      refine And.intro (show 0 ≤ n ∧ n < 200 by omega) ?_
      intro z11 (z11a : (-2147483648 : Int) ≤ z11) (z11b : z11 ≤ (2147483647 : Int)) (z11c : z11 = S 17 0 (n).toNat)
      refine c_Log_forgetDelete (d := z11) (show -2147483648 ≤ z11 ∧ z11 < 2147483648 by omega) (fun (S12 : fxS) (f13 : fxfr [(13, 10), (18, 9999), (19, 9999)] S S12) => ?_)
      refine And.intro (show 0 ≤ n ∧ n < 200 by omega) ?_
      intro z14 (z14a : (-2147483648 : Int) ≤ z14) (z14b : z14 ≤ (2147483647 : Int)) (z14c : z14 = S12 17 0 (n).toNat)
      refine And.intro (fun (h15 : ((0 : Int) ≤ z14 : Prop)) => ?_) (fun (h15 : (z14 < (0 : Int) : Prop)) => ?_)
      ·
        exact hk S12 (fxfr_tr fxfr_rfl f13 rfl)
      ·
        refine And.intro (show 0 ≤ n ∧ n < 200 by omega) ?_
        intro z16 (z16a : (-2147483648 : Int) ≤ z16) (z16b : z16 ≤ (2147483647 : Int)) (z16c : z16 = S12 17 0 (n).toNat)
        intro z17 z17a z17b z17c
        refine c_Log_noteDelete (d := z17) (show -2147483648 ≤ z17 ∧ z17 < 2147483648 by omega) (fun (S18 : fxS) (f19 : fxfr [(13, 10), (18, 9999), (19, 9999)] S12 S18) => ?_)
        exact hk S18 (fxfr_tr (fxfr_tr fxfr_rfl f13 rfl) f19 rfl)
  ·
    refine And.intro (show 0 ≤ n ∧ n < 200 by omega) ?_
    intro z20 (z20a : (-1 : Int) ≤ z20) (z20b : z20 ≤ (59 : Int)) (z20c : z20 = S 15 0 (n).toNat)
    refine And.intro (show 0 ≤ z20 ∧ z20 < 60 by omega) ?_
    refine And.intro (show 0 ≤ n ∧ n < 200 by omega) ?_
    refine c_Node_become4 (i := (z20).toNat) (j := (n).toNat)  (fun (S21 : fxS) ⟨(f22 : fxfr [(4, 0), (4, 1), (4, 3), (4, 4), (4, 5), (4, 6), (4, 7), (4, 11), (4, 12), (5, 9999), (6, 9999), (7, 9999)] S S21), (q23 : S21 4 (z20).toNat 0 = S 20 (n).toNat 0 ∧ S21 4 (z20).toNat 1 = S 20 (n).toNat 1)⟩ => ?_)
    refine And.intro (show 0 ≤ n ∧ n < 200 by omega) ?_
    intro z24 (z24a : (-2147483648 : Int) ≤ z24) (z24b : z24 ≤ (2147483647 : Int)) (z24c : z24 = S21 17 0 (n).toNat)
    refine And.intro (fun (h25 : (z24 ≤ (0 : Int) : Prop)) => ?_) (fun (h25 : ((0 : Int) < z24 : Prop)) => ?_)
    ·
      refine And.intro (show 0 ≤ n ∧ n < 200 by omega) ?_
      intro z26 (z26a : (-2147483648 : Int) ≤ z26) (z26b : z26 ≤ (2147483647 : Int)) (z26c : z26 = S21 17 0 (n).toNat)
      refine And.intro (fun (h27 : ((0 : Int) ≤ z26 : Prop)) => ?_) (fun (h27 : (z26 < (0 : Int) : Prop)) => ?_)
      ·
        exact hk S21 (fxfr_tr fxfr_rfl f22 rfl)
      ·
        refine And.intro (show 0 ≤ n ∧ n < 200 by omega) ?_
        intro z28 (z28a : (-2147483648 : Int) ≤ z28) (z28b : z28 ≤ (2147483647 : Int)) (z28c : z28 = S21 17 0 (n).toNat)
        intro z29 z29a z29b z29c
        refine c_Log_noteDelete (d := z29) (show -2147483648 ≤ z29 ∧ z29 < 2147483648 by omega) (fun (S30 : fxS) (f31 : fxfr [(13, 10), (18, 9999), (19, 9999)] S21 S30) => ?_)
        exact hk S30 (fxfr_tr (fxfr_tr fxfr_rfl f22 rfl) f31 rfl)
    ·
      refine And.intro (show 0 ≤ n ∧ n < 200 by omega) ?_
      intro z32 (z32a : (-2147483648 : Int) ≤ z32) (z32b : z32 ≤ (2147483647 : Int)) (z32c : z32 = S21 17 0 (n).toNat)
      refine c_Log_forgetDelete (d := z32) (show -2147483648 ≤ z32 ∧ z32 < 2147483648 by omega) (fun (S33 : fxS) (f34 : fxfr [(13, 10), (18, 9999), (19, 9999)] S21 S33) => ?_)
      refine And.intro (show 0 ≤ n ∧ n < 200 by omega) ?_
      intro z35 (z35a : (-2147483648 : Int) ≤ z35) (z35b : z35 ≤ (2147483647 : Int)) (z35c : z35 = S33 17 0 (n).toNat)
      refine And.intro (fun (h36 : ((0 : Int) ≤ z35 : Prop)) => ?_) (fun (h36 : (z35 < (0 : Int) : Prop)) => ?_)
      ·
        exact hk S33 (fxfr_tr (fxfr_tr fxfr_rfl f22 rfl) f34 rfl)
      ·
        refine And.intro (show 0 ≤ n ∧ n < 200 by omega) ?_
        intro z37 (z37a : (-2147483648 : Int) ≤ z37) (z37b : z37 ≤ (2147483647 : Int)) (z37c : z37 = S33 17 0 (n).toNat)
        intro z38 z38a z38b z38c
        refine c_Log_noteDelete (d := z38) (show -2147483648 ≤ z38 ∧ z38 < 2147483648 by omega) (fun (S39 : fxS) (f40 : fxfr [(13, 10), (18, 9999), (19, 9999)] S33 S39) => ?_)
        exact hk S39 (fxfr_tr (fxfr_tr (fxfr_tr fxfr_rfl f22 rfl) f34 rfl) f40 rfl)
theorem z_Log_claimHomes {l : Launch} {k : fxK} {S : fxS}   (hk : ∀ (S' : fxS) , (fxfr [(8, 4), (10, 9999), (11, 9999), (12, 9999)] S S') → k none S') : ∀ m : Nat, (∀ (j : Int) (S1 : fxS), (fxfr [(8, 4), (10, 9999), (11, 9999), (12, 9999)] S S1) → (1 ≤ j ∧ j ≤ 60) → (61 - j) * 100 + 99 ≤ (m : Int) → fZ l 139 k 9 [some (.inr (.inr (13, 0))), some (.inl j), none] [] S1) ∧ (∀ (j b : Int) (S1 : fxS), (fxfr [(8, 4), (10, 9999), (11, 9999), (12, 9999)] S S1) → (1 ≤ j ∧ j < 60) → (0 ≤ b ∧ b ≤ 32) → (61 - j) * 100 + 50 - b ≤ (m : Int) → fZ l 139 k 17 [some (.inr (.inr (13, 0))), some (.inl j), some (.inl b)] [] S1) := by
  intro m
  induction m with
  | zero =>
    refine ⟨?_, ?_⟩
    · intro j S1 hf i0 hmu
      exfalso
      omega
    · intro j b S1 hf i0 i1 hmu
      exfalso
      omega
  | succ m ih =>
    refine ⟨?_, ?_⟩
    · intro j S1 hf i0 hmu
      refine fxz_139 400 ?_
      refine And.intro (fun (h1 : ((60 : Int) ≤ j : Prop)) => ?_) (fun (h1 : (j < (60 : Int) : Prop)) => ?_)
      ·
        exact hk S1 hf
      ·
        refine And.intro (by decide) ?_
        exact ih.2 j (0 : Int) S1 hf (by omega) (by omega) (by omega)
    · intro j b S1 hf i0 i1 hmu
      refine fxz_139 400 ?_
      refine And.intro (fun (h2 : ((32 : Int) ≤ b : Prop)) => ?_) (fun (h2 : (b < (32 : Int) : Prop)) => ?_)
      ·
        refine And.intro (by decide) (And.intro (show -2147483648 ≤ j + (1 : Int) ∧ j + (1 : Int) < 2147483648 by omega) ?_)
        exact ih.1 (j + (1 : Int)) S1 hf (by omega) (by omega)
      ·
        refine And.intro (show 0 ≤ j ∧ j < 60 by omega) ?_
        refine And.intro (show 0 ≤ b ∧ b < 32 by omega) ?_
        intro z4 (z4a : (-1 : Int) ≤ z4) (z4b : z4 ≤ (207 : Int)) (z4c : z4 = S1 7 (j).toNat (b).toNat)
        refine c_Stores_claim (b := z4) (show -2147483648 ≤ z4 ∧ z4 < 2147483648 by omega) (fun (S5 : fxS) (f6 : fxfr [(10, 9999), (11, 9999), (12, 9999)] S1 S5) => ?_)
        refine And.intro (by decide) (And.intro (show -2147483648 ≤ b + (1 : Int) ∧ b + (1 : Int) < 2147483648 by omega) ?_)
        exact ih.2 j (b + (1 : Int)) S5 (fxfr_tr hf f6 rfl) (by omega) (by omega) (by omega)
theorem c_Log_claimHomes {l : Launch} {k : fxK} {S : fxS}   (hk : ∀ (S' : fxS) , (fxfr [(8, 4), (10, 9999), (11, 9999), (12, 9999)] S S') → k none S') : fC l 139 [.inr (.inr (13, 0))] S k := by
  refine fxe_139 (Nat.le_of_ble_eq_true rfl) (fxz_139 400 ?_)
  refine c_Stores_freeAll   (fun (S8 : fxS) (f9 : fxfr [(8, 4), (10, 9999), (11, 9999), (12, 9999)] S S8) => ?_)
  refine And.intro (by decide) ?_
  exact (z_Log_claimHomes  hk ((61 - (1 : Int)) * 100 + 99).toNat).1 (1 : Int) S8 (fxfr_tr fxfr_rfl f9 rfl) (by omega) (by omega)
theorem z_Log_undoBehind {l : Launch} {k : fxK} {S : fxS} {n : Int} (p0 : -2147483648 ≤ n ∧ n < 2147483648) (hk : ∀ (r : Int) (S' : fxS) , (fxfr [(4, 0), (4, 1), (4, 3), (4, 4), (4, 5), (4, 6), (4, 7), (4, 11), (4, 12), (5, 9999), (6, 9999), (7, 9999), (8, 4), (10, 9999), (11, 9999), (12, 9999), (13, 6), (13, 7), (13, 10), (18, 9999), (19, 9999)] S S' ∧ (-2147483648 ≤ r ∧ r < 2147483648)) → k (some (.inl r)) S') : ∀ m : Nat, (∀ (t e : Int) (S1 : fxS), (fxfr [(4, 0), (4, 1), (4, 3), (4, 4), (4, 5), (4, 6), (4, 7), (4, 11), (4, 12), (5, 9999), (6, 9999), (7, 9999), (8, 4), (10, 9999), (11, 9999), (12, 9999), (13, 6), (13, 7), (13, 10), (18, 9999), (19, 9999)] S S1) → (0 ≤ t ∧ t ≤ 200) → (-2147483648 ≤ e ∧ e < 2147483648) → 1000 - t ≤ (m : Int) → fZ l 141 k 4 [some (.inr (.inr (13, 0))), none, some (.inl t), some (.inl e), none] [] S1) ∧ (∀ (t j : Int) (S1 : fxS), (fxfr [(4, 0), (4, 1), (4, 3), (4, 4), (4, 5), (4, 6), (4, 7), (4, 11), (4, 12), (5, 9999), (6, 9999), (7, 9999), (8, 4), (10, 9999), (11, 9999), (12, 9999), (13, 6), (13, 7), (13, 10), (18, 9999), (19, 9999)] S S1) → (0 ≤ t ∧ t ≤ 200) → (-1 ≤ j ∧ j < 200) → j + 2 ≤ (m : Int) → fZ l 141 k 45 [some (.inr (.inr (13, 0))), none, some (.inl t), none, some (.inl j)] [] S1) := by
  intro m
  induction m with
  | zero =>
    refine ⟨?_, ?_⟩
    · intro t e S1 hf i0 i1 hmu
      exfalso
      omega
    · intro t j S1 hf i0 i1 hmu
      exfalso
      omega
  | succ m ih =>
    refine ⟨?_, ?_⟩
    · intro t e S1 hf i0 i1 hmu
      refine fxz_141 400 ?_
      intro z1 (z1a : (0 : Int) ≤ z1) (z1b : z1 ≤ (200 : Int)) (z1c : z1 = S1 13 0 6)
      refine And.intro (fun (h2 : (z1 ≤ t : Prop)) => ?_) (fun (h2 : (t < z1 : Prop)) => ?_)
      ·
        intro z3 (z3a : (0 : Int) ≤ z3) (z3b : z3 ≤ (200 : Int)) (z3c : z3 = S1 13 0 6)
        refine And.intro (show -2147483648 ≤ (z3 - (1 : Int)) ∧ (z3 - (1 : Int)) < 2147483648 by omega) ?_
        refine And.intro (by decide) ?_
        exact ih.2 t (z3 - (1 : Int)) S1 hf (by omega) (by omega) (by omega)
      ·
        refine And.intro (show 0 ≤ t ∧ t < 200 by omega) ?_
        intro z4 (z4a : (-2147483648 : Int) ≤ z4) (z4b : z4 ≤ (2147483647 : Int)) (z4c : z4 = S1 16 0 (t).toNat)
        refine And.intro (fun (h5 : (e < z4 : Prop)) => ?_) (fun (h5 : (z4 ≤ e : Prop)) => ?_)
        ·
          intro z6 (z6a : (0 : Int) ≤ z6) (z6b : z6 ≤ (200 : Int)) (z6c : z6 = S1 13 0 6)
          refine And.intro (show -2147483648 ≤ (z6 - (1 : Int)) ∧ (z6 - (1 : Int)) < 2147483648 by omega) ?_
          refine And.intro (by decide) ?_
          exact ih.2 t (z6 - (1 : Int)) S1 hf (by omega) (by omega) (by omega)
        ·
          refine And.intro (show 0 ≤ t ∧ t < 200 by omega) ?_
          intro z7 (z7a : (-2147483648 : Int) ≤ z7) (z7b : z7 ≤ (2147483647 : Int)) (z7c : z7 = S1 16 0 (t).toNat)
          intro z8 (z8a : -2147483648 ≤ z8) (z8b : z8 < 2147483648) (z8c : -2147483648 ≤ (e - z7) ∧ (e - z7) < 2147483648 → z8 = (e - z7))
          refine And.intro (by decide) ?_
          refine And.intro (by decide) (And.intro (show -2147483648 ≤ t + (1 : Int) ∧ t + (1 : Int) < 2147483648 by omega) ?_)
          exact ih.1 (t + (1 : Int)) z8 S1 hf (by omega) (by omega) (by omega)
    · intro t j S1 hf i0 i1 hmu
      refine fxz_141 400 ?_
      refine And.intro (fun (h10 : (j < t : Prop)) => ?_) (fun (h10 : (t ≤ j : Prop)) => ?_)
      ·
        refine c_Log_keepAll   (fun (z11 : Int) (S12 : fxS) ⟨(f13 : fxfr [(8, 4), (10, 9999), (11, 9999), (13, 6), (13, 7), (19, 9999)] S1 S12), (q14 : -2147483648 ≤ z11 ∧ z11 < 2147483648 ∧ (S12 13 0 6 = 0))⟩ => ?_)
        refine c_Log_claimHomes   (fun (S15 : fxS) (f16 : fxfr [(8, 4), (10, 9999), (11, 9999), (12, 9999)] S12 S15) => ?_)
        refine c_Tree_touchAll   (fun (S17 : fxS) (f18 : fxfr [(4, 6)] S15 S17) => ?_)
        exact hk t S17 ⟨(fxfr_tr (fxfr_tr (fxfr_tr hf f13 rfl) f16 rfl) f18 rfl), by omega⟩
      ·
        refine c_Log_undo (n := j) (show 0 ≤ j ∧ j < 200 by omega) (fun (S19 : fxS) (f20 : fxfr [(4, 0), (4, 1), (4, 3), (4, 4), (4, 5), (4, 6), (4, 7), (4, 11), (4, 12), (5, 9999), (6, 9999), (7, 9999), (13, 10), (18, 9999), (19, 9999)] S1 S19) => ?_)
        refine And.intro (by decide) (And.intro (show -2147483648 ≤ j + (-1 : Int) ∧ j + (-1 : Int) < 2147483648 by omega) ?_)
        exact ih.2 t (j + (-1 : Int)) S19 (fxfr_tr hf f20 rfl) (by omega) (by omega) (by omega)
theorem c_Log_undoBehind {l : Launch} {k : fxK} {S : fxS} {n : Int} (p0 : -2147483648 ≤ n ∧ n < 2147483648) (hk : ∀ (r : Int) (S' : fxS) , (fxfr [(4, 0), (4, 1), (4, 3), (4, 4), (4, 5), (4, 6), (4, 7), (4, 11), (4, 12), (5, 9999), (6, 9999), (7, 9999), (8, 4), (10, 9999), (11, 9999), (12, 9999), (13, 6), (13, 7), (13, 10), (18, 9999), (19, 9999)] S S' ∧ (-2147483648 ≤ r ∧ r < 2147483648)) → k (some (.inl r)) S') : fC l 141 [.inr (.inr (13, 0)), .inl n] S k := by
  refine fxe_141 (Nat.le_of_ble_eq_true rfl) (fxz_141 400 ?_)
  refine And.intro (by decide) ?_
  refine And.intro (by decide) ?_
  exact (z_Log_undoBehind p0 hk (1000 - (0 : Int)).toNat).1 (0 : Int) n S fxfr_rfl (by omega) (by omega) (by omega)
theorem c_Log_clear {l : Launch} {k : fxK} {S : fxS}   (hk : ∀ (S' : fxS) , (fxfr [(13, 6), (13, 7), (13, 10)] S S') → k none S') : fC l 153 [.inr (.inr (13, 0))] S k := by
  refine fxe_153 (Nat.le_of_ble_eq_true rfl) (fxz_153 400 ?_)
  refine And.intro (show (0 : Int) ≤ (0 : Int) ∧ (0 : Int) ≤ (200 : Int) by omega) ?_
  refine And.intro (show (-2147483648 : Int) ≤ (0 : Int) ∧ (0 : Int) ≤ (2147483647 : Int) by omega) ?_
  refine And.intro (show (0 : Int) ≤ (0 : Int) ∧ (0 : Int) ≤ (40 : Int) by omega) ?_
  exact hk (fx_up (fx_up (fx_up S 13 0 6 (0 : Int)) 13 0 7 (0 : Int)) 13 0 10 (0 : Int)) (fxfr_up (fxfr_up (fxfr_up fxfr_rfl rfl) rfl) rfl)
theorem z_Log_firstKeptDelete {l : Launch} {k : fxK} {S : fxS}   (hk : ∀ (r : Int) , (-2147483648 ≤ r ∧ r < 2147483648) → k (some (.inl r)) S) : ∀ m : Nat, (∀ (j : Int), (0 ≤ j ∧ j ≤ 40) → 41 - j ≤ (m : Int) → fZ l 219 k 2 [some (.inr (.inr (13, 0))), some (.inl j)] [] S) := by
  intro m
  induction m with
  | zero =>
    intro j  i0 hmu
    exfalso
    omega
  | succ m ih =>
    intro j  i0 hmu
    refine fxz_219 400 ?_
    intro z1 (z1a : (0 : Int) ≤ z1) (z1b : z1 ≤ (40 : Int)) (z1c : z1 = S 13 0 10)
    refine And.intro (fun (h2 : (z1 ≤ j : Prop)) => ?_) (fun (h2 : (j < z1 : Prop)) => ?_)
    ·
      exact hk (0 : Int) (by omega)
    ·
      refine And.intro (show 0 ≤ j ∧ j < 40 by omega) ?_
      intro z3 (z3a : (0 : Int) ≤ z3) (z3b : z3 ≤ (1 : Int)) (z3c : z3 = S 19 0 (j).toNat)
      refine And.intro (fun (h4 : (z3 = (0 : Int) : Prop)) => ?_) (fun (h4 : (z3 ≠ (0 : Int) : Prop)) => ?_)
      ·
        refine And.intro (by decide) (And.intro (show -2147483648 ≤ j + (1 : Int) ∧ j + (1 : Int) < 2147483648 by omega) ?_)
        exact ih (j + (1 : Int))  (by omega) (by omega)
      ·
        refine And.intro (show 0 ≤ j ∧ j < 40 by omega) ?_
        intro z6 (z6a : (-2147483648 : Int) ≤ z6) (z6b : z6 ≤ (2147483647 : Int)) (z6c : z6 = S 18 0 (j).toNat)
        exact hk z6 (by omega)
theorem c_Log_firstKeptDelete {l : Launch} {k : fxK} {S : fxS}   (hk : ∀ (r : Int) , (-2147483648 ≤ r ∧ r < 2147483648) → k (some (.inl r)) S) : fC l 219 [.inr (.inr (13, 0))] S k := by
  refine fxe_219 (Nat.le_of_ble_eq_true rfl) (fxz_219 400 ?_)
  refine And.intro (by decide) ?_
  exact (z_Log_firstKeptDelete  hk (41 - (0 : Int)).toNat) (0 : Int)  (by omega) (by omega)
theorem z_Changes_recallPlace {l : Launch} {k : fxK} {S : fxS} {n : Int} (p0 : -2147483648 ≤ n ∧ n < 2147483648) (hk : ∀ (r : Int) , (-1 ≤ r ∧ r < 60 ∧ (0 ≤ r → r < S 24 0 4)) → k (some (.inl r)) S) : ∀ m : Nat, (∀ (j : Int), (0 ≤ j ∧ j ≤ 60) → 61 - j ≤ (m : Int) → fZ l 57 k 2 [some (.inr (.inr (24, 0))), some (.inl n), some (.inl j)] [] S) := by
  intro m
  induction m with
  | zero =>
    intro j  i0 hmu
    exfalso
    omega
  | succ m ih =>
    intro j  i0 hmu
    refine fxz_57 400 ?_
    intro z1 (z1a : (0 : Int) ≤ z1) (z1b : z1 ≤ (60 : Int)) (z1c : z1 = S 24 0 4)
    refine And.intro (fun (h2 : (z1 ≤ j : Prop)) => ?_) (fun (h2 : (j < z1 : Prop)) => ?_)
    ·
      exact hk (-1 : Int) (by omega)
    ·
      refine And.intro (show 0 ≤ j ∧ j < 60 by omega) ?_
      intro z3 (z3a : (0 : Int) ≤ z3) (z3b : z3 ≤ (59 : Int)) (z3c : z3 = S 25 0 (j).toNat)
      refine And.intro (fun (h4 : (z3 ≠ n : Prop)) => ?_) (fun (h4 : (z3 = n : Prop)) => ?_)
      ·
        refine And.intro (by decide) (And.intro (show -2147483648 ≤ j + (1 : Int) ∧ j + (1 : Int) < 2147483648 by omega) ?_)
        exact ih (j + (1 : Int))  (by omega) (by omega)
      ·
        exact hk j (by omega)
theorem c_Changes_recallPlace {l : Launch} {k : fxK} {S : fxS} {n : Int} (p0 : -2147483648 ≤ n ∧ n < 2147483648) (hk : ∀ (r : Int) , (-1 ≤ r ∧ r < 60 ∧ (0 ≤ r → r < S 24 0 4)) → k (some (.inl r)) S) : fC l 57 [.inr (.inr (24, 0)), .inl n] S k := by
  refine fxe_57 (Nat.le_of_ble_eq_true rfl) (fxz_57 400 ?_)
  refine And.intro (by decide) ?_
  exact (z_Changes_recallPlace p0 hk (61 - (0 : Int)).toNat) (0 : Int)  (by omega) (by omega)
theorem c_Changes_isRecalled {l : Launch} {k : fxK} {S : fxS} {n : Int} (p0 : -2147483648 ≤ n ∧ n < 2147483648) (hk : ∀ (r : Int) , (r = 0 ∨ r = 1) → k (some (.inl r)) S) : fC l 90 [.inr (.inr (24, 0)), .inl n] S k := by
  refine fxe_90 (Nat.le_of_ble_eq_true rfl) (fxz_90 400 ?_)
  refine c_Changes_recallPlace (n := n) (show -2147483648 ≤ n ∧ n < 2147483648 by omega) (fun (z1 : Int) (q2 : -1 ≤ z1 ∧ z1 < 60 ∧ (0 ≤ z1 → z1 < S 24 0 4)) => ?_)
  refine And.intro (fun (h3 : (z1 < (0 : Int) : Prop)) => ?_) (fun (h3 : ((0 : Int) ≤ z1 : Prop)) => ?_)
  ·
    refine And.intro (show 0 ≤ (0 : Int) ∧ (0 : Int) ≤ 1 by omega) ?_
    exact hk (0 : Int) (by omega)
  ·
    refine And.intro (show 0 ≤ (1 : Int) ∧ (1 : Int) ≤ 1 by omega) ?_
    exact hk (1 : Int) (by omega)
theorem c_Changes_askRecall {l : Launch} {k : fxK} {S : fxS} {n : Int} (p0 : 0 ≤ n ∧ n < 60) (hk : ∀ (S' : fxS) , (fxfr [(24, 4), (25, 9999)] S S') → k none S') : fC l 91 [.inr (.inr (24, 0)), .inl n] S k := by
  refine fxe_91 (Nat.le_of_ble_eq_true rfl) (fxz_91 400 ?_)
  refine c_Changes_isRecalled (n := n) (show -2147483648 ≤ n ∧ n < 2147483648 by omega) (fun (z1 : Int) (q2 : z1 = 0 ∨ z1 = 1) => ?_)
  refine And.intro (fun (h3 : (z1 ≠ (0 : Int) : Prop)) => ?_) (fun (h3 : (z1 = (0 : Int) : Prop)) => ?_)
  ·
    exact hk S fxfr_rfl
  ·
    intro z4 (z4a : (0 : Int) ≤ z4) (z4b : z4 ≤ (60 : Int)) (z4c : z4 = S 24 0 4)
    refine And.intro (fun (h5 : (z4 < (60 : Int) : Prop)) => ?_) (fun (h5 : ((60 : Int) ≤ z4 : Prop)) => ?_)
    ·
      intro z6 (z6a : (0 : Int) ≤ z6) (z6b : z6 ≤ (60 : Int)) (z6c : z6 = S 24 0 4)
      refine And.intro (show 0 ≤ z6 ∧ z6 < 60 by omega) ?_
      refine And.intro (show (0 : Int) ≤ n ∧ n ≤ (59 : Int) by omega) ?_
      have w7 : (fx_up S 25 0 (z6).toNat n) 24 0 4 = S 24 0 4 := rfl
      intro z8 (z8a : (0 : Int) ≤ z8) (z8b : z8 ≤ (60 : Int)) (z8c : z8 = (fx_up S 25 0 (z6).toNat n) 24 0 4)
      refine And.intro (show -2147483648 ≤ (z8 + (1 : Int)) ∧ (z8 + (1 : Int)) < 2147483648 by omega) ?_
      refine And.intro (show (0 : Int) ≤ (z8 + (1 : Int)) ∧ (z8 + (1 : Int)) ≤ (60 : Int) by omega) ?_
      have w9 : (fx_up (fx_up S 25 0 (z6).toNat n) 24 0 4 (z8 + (1 : Int))) 24 0 4 = (z8 + (1 : Int)) := fx_up_at _ _ _ _ _
      exact hk (fx_up (fx_up S 25 0 (z6).toNat n) 24 0 4 (z8 + (1 : Int))) (fxfr_up (fxfr_up fxfr_rfl rfl) rfl)
    ·
      exact hk S fxfr_rfl
theorem z_Changes_forgetRecall {l : Launch} {k : fxK} {S : fxS} {n : Int} (p0 : -2147483648 ≤ n ∧ n < 2147483648) (hk : ∀ (S' : fxS) , (fxfr [(24, 4), (25, 9999)] S S') → k none S') : ∀ m : Nat, (∀ (j : Int) (S1 : fxS), (fxfr [(24, 4), (25, 9999)] S S1) → (0 ≤ j ∧ j < 60) → (1 ≤ S1 24 0 4) → 61 - j ≤ (m : Int) → fZ l 58 k 13 [some (.inr (.inr (24, 0))), none, none, some (.inl j)] [] S1) := by
  intro m
  induction m with
  | zero =>
    intro j S1 hf i0 i1 hmu
    exfalso
    omega
  | succ m ih =>
    intro j S1 hf i0 i1 hmu
    refine fxz_58 400 ?_
    refine And.intro (show -2147483648 ≤ (j + (1 : Int)) ∧ (j + (1 : Int)) < 2147483648 by omega) ?_
    intro z1 (z1a : (0 : Int) ≤ z1) (z1b : z1 ≤ (60 : Int)) (z1c : z1 = S1 24 0 4)
    refine And.intro (fun (h2 : (z1 ≤ (j + (1 : Int)) : Prop)) => ?_) (fun (h2 : ((j + (1 : Int)) < z1 : Prop)) => ?_)
    ·
      intro z3 (z3a : (0 : Int) ≤ z3) (z3b : z3 ≤ (60 : Int)) (z3c : z3 = S1 24 0 4)
      refine And.intro (show -2147483648 ≤ (z3 - (1 : Int)) ∧ (z3 - (1 : Int)) < 2147483648 by omega) ?_
      refine And.intro (show (0 : Int) ≤ (z3 - (1 : Int)) ∧ (z3 - (1 : Int)) ≤ (60 : Int) by omega) ?_
      have w4 : (fx_up S1 24 0 4 (z3 - (1 : Int))) 24 0 4 = (z3 - (1 : Int)) := fx_up_at _ _ _ _ _
      exact hk (fx_up S1 24 0 4 (z3 - (1 : Int))) (fxfr_up hf rfl)
    ·
      refine And.intro (show -2147483648 ≤ (j + (1 : Int)) ∧ (j + (1 : Int)) < 2147483648 by omega) ?_
      refine And.intro (show 0 ≤ (j + (1 : Int)) ∧ (j + (1 : Int)) < 60 by omega) ?_
      intro z5 (z5a : (0 : Int) ≤ z5) (z5b : z5 ≤ (59 : Int)) (z5c : z5 = S1 25 0 ((j + (1 : Int))).toNat)
      refine And.intro (show 0 ≤ j ∧ j < 60 by omega) ?_
      refine And.intro (show (0 : Int) ≤ z5 ∧ z5 ≤ (59 : Int) by omega) ?_
      have w6 : (fx_up S1 25 0 (j).toNat z5) 24 0 4 = S1 24 0 4 := rfl
      refine And.intro (by decide) (And.intro (show -2147483648 ≤ j + (1 : Int) ∧ j + (1 : Int) < 2147483648 by omega) ?_)
      exact ih (j + (1 : Int)) (fx_up S1 25 0 (j).toNat z5) (fxfr_up hf rfl) (by omega) (by omega) (by omega)
theorem c_Changes_forgetRecall {l : Launch} {k : fxK} {S : fxS} {n : Int} (p0 : -2147483648 ≤ n ∧ n < 2147483648) (hk : ∀ (S' : fxS) , (fxfr [(24, 4), (25, 9999)] S S') → k none S') : fC l 58 [.inr (.inr (24, 0)), .inl n] S k := by
  refine fxe_58 (Nat.le_of_ble_eq_true rfl) (fxz_58 400 ?_)
  refine c_Changes_recallPlace (n := n) (show -2147483648 ≤ n ∧ n < 2147483648 by omega) (fun (z8 : Int) (q9 : -1 ≤ z8 ∧ z8 < 60 ∧ (0 ≤ z8 → z8 < S 24 0 4)) => ?_)
  refine And.intro (by decide) ?_
  refine And.intro (fun (h10 : ((0 : Int) ≤ z8 : Prop)) => ?_) (fun (h10 : (z8 < (0 : Int) : Prop)) => ?_)
  ·
    refine And.intro (by decide) ?_
    exact (z_Changes_forgetRecall p0 hk (61 - z8).toNat) z8 S fxfr_rfl (by omega) (by omega) (by omega)
  ·
    exact hk S fxfr_rfl
theorem z_Changes_holdFrom {l : Launch} {k : fxK} {S : fxS} {i : Nat} {q : Int} (p0 : 0 ≤ q ∧ q ≤ 32) (hk : ∀ (S' : fxS) , (fxfr [(4, 11), (4, 12), (7, 9999), (8, 4), (10, 9999), (12, 9999)] S S') → k none S') : ∀ m : Nat, (∀ (j : Int) (S1 : fxS), (fxfr [(4, 11), (4, 12), (7, 9999), (8, 4), (10, 9999), (12, 9999)] S S1) → (0 ≤ j ∧ j ≤ 32) → 33 - j ≤ (m : Int) → fZ l 56 k 2 [some (.inr (.inr (24, 0))), some (.inr (.inr (4, i))), none, some (.inl j)] [] S1) := by
  intro m
  induction m with
  | zero =>
    intro j S1 hf i0 hmu
    exfalso
    omega
  | succ m ih =>
    intro j S1 hf i0 hmu
    refine fxz_56 400 ?_
    refine And.intro (fun (h1 : ((32 : Int) ≤ j : Prop)) => ?_) (fun (h1 : (j < (32 : Int) : Prop)) => ?_)
    ·
      exact hk S1 hf
    ·
      refine And.intro (show 0 ≤ j ∧ j < 32 by omega) ?_
      intro z2 (z2a : (-1 : Int) ≤ z2) (z2b : z2 ≤ (207 : Int)) (z2c : z2 = S1 7 i (j).toNat)
      refine c_Stores_hold (b := z2) (show -2147483648 ≤ z2 ∧ z2 < 2147483648 by omega) (fun (S3 : fxS) (f4 : fxfr [(8, 4), (10, 9999), (12, 9999)] S1 S3) => ?_)
      refine c_Node_setHome (i := i) (j := j) (b := (-1 : Int)) (show 0 ≤ j ∧ j < 32 by omega) (show -1 ≤ (-1 : Int) ∧ (-1 : Int) ≤ 207 by omega) (fun (S5 : fxS) (f6 : fxfr [(4, 11), (4, 12), (7, 9999)] S3 S5) => ?_)
      refine And.intro (by decide) (And.intro (show -2147483648 ≤ j + (1 : Int) ∧ j + (1 : Int) < 2147483648 by omega) ?_)
      exact ih (j + (1 : Int)) S5 (fxfr_tr (fxfr_tr hf f4 rfl) f6 rfl) (by omega) (by omega)
theorem c_Changes_holdFrom {l : Launch} {k : fxK} {S : fxS} {i : Nat} {q : Int} (p0 : 0 ≤ q ∧ q ≤ 32) (hk : ∀ (S' : fxS) , (fxfr [(4, 11), (4, 12), (7, 9999), (8, 4), (10, 9999), (12, 9999)] S S') → k none S') : fC l 56 [.inr (.inr (24, 0)), .inr (.inr (4, i)), .inl q] S k := by
  refine fxe_56 (Nat.le_of_ble_eq_true rfl) (fxz_56 400 ?_)
  refine And.intro (by decide) ?_
  exact (z_Changes_holdFrom p0 hk (33 - q).toNat) q S fxfr_rfl (by omega) (by omega)
theorem c_Changes_erase {l : Launch} {k : fxK} {S : fxS} {n : Int} {q : Int} (p0 : 1 ≤ n ∧ n < 60) (p1 : 0 ≤ q ∧ q ≤ 1) (hk : ∀ (S' : fxS) , (fxfr [(4, 0), (4, 1), (4, 3), (4, 4), (4, 5), (4, 6), (4, 7), (4, 11), (4, 12), (7, 9999), (8, 4), (10, 9999), (11, 9999), (12, 9999), (13, 6), (13, 7), (13, 10), (15, 9999), (16, 9999), (17, 9999), (18, 9999), (19, 9999), (20, 0), (20, 1), (20, 3), (20, 4), (20, 5), (20, 6), (20, 7), (20, 11), (20, 12), (21, 9999), (22, 9999), (23, 9999), (24, 4), (25, 9999)] S S') → k none S') : fC l 59 [.inr (.inr (24, 0)), .inl n, .inl q] S k := by
  refine fxe_59 (Nat.le_of_ble_eq_true rfl) (fxz_59 400 ?_)
  refine And.intro (show 0 ≤ n ∧ n < 60 by omega) ?_
  refine And.intro (by decide) ?_
  refine And.intro (fun (h1 : (q = (0 : Int) : Prop)) => ?_) (fun (h1 : (q ≠ (0 : Int) : Prop)) => ?_)
  ·
    refine And.intro (by decide) ?_
    refine And.intro (fun _ => ?_) (fun h => absurd h (by decide))
    refine c_Log_add (n := n) (e := (6 : Int)) (d := (0 : Int)) (show -1 ≤ n ∧ n < 60 by omega) (show -2147483648 ≤ (6 : Int) ∧ (6 : Int) < 2147483648 by omega) (show -2147483648 ≤ (0 : Int) ∧ (0 : Int) < 2147483648 by omega) (fun (S2 : fxS) (f3 : fxfr [(8, 4), (10, 9999), (11, 9999), (13, 6), (13, 7), (13, 10), (15, 9999), (16, 9999), (17, 9999), (18, 9999), (19, 9999), (20, 0), (20, 1), (20, 3), (20, 4), (20, 5), (20, 6), (20, 7), (20, 11), (20, 12), (21, 9999), (22, 9999), (23, 9999)] S S2) => ?_)
    refine c_Changes_holdFrom (i := (n).toNat) (q := (0 : Int)) (show 0 ≤ (0 : Int) ∧ (0 : Int) ≤ 32 by omega) (fun (S4 : fxS) (f5 : fxfr [(4, 11), (4, 12), (7, 9999), (8, 4), (10, 9999), (12, 9999)] S2 S4) => ?_)
    refine c_Changes_forgetRecall (n := n) (show -2147483648 ≤ n ∧ n < 2147483648 by omega) (fun (S6 : fxS) (f7 : fxfr [(24, 4), (25, 9999)] S4 S6) => ?_)
    refine c_Node_clear (i := (n).toNat)  (fun (S8 : fxS) ⟨(f9 : fxfr [(4, 0), (4, 1), (4, 3), (4, 4), (4, 5), (4, 6), (4, 7), (4, 11), (4, 12), (7, 9999)] S6 S8), (q10 : S8 4 (n).toNat 0 = 0 ∧ S8 4 (n).toNat 1 = 0)⟩ => ?_)
    exact hk S8 (fxfr_tr (fxfr_tr (fxfr_tr (fxfr_tr fxfr_rfl f3 rfl) f5 rfl) f7 rfl) f9 rfl)
  ·
    intro z11 (z11a : (0 : Int) ≤ z11) (z11b : z11 ≤ (40 : Int)) (z11c : z11 = S 13 0 10)
    refine And.intro (fun (h12 : ((40 : Int) ≤ z11 : Prop)) => ?_) (fun (h12 : (z11 < (40 : Int) : Prop)) => ?_)
    ·
      refine And.intro (by decide) ?_
      refine And.intro (fun _ => ?_) (fun h => absurd h (by decide))
      refine c_Log_add (n := n) (e := (6 : Int)) (d := (0 : Int)) (show -1 ≤ n ∧ n < 60 by omega) (show -2147483648 ≤ (6 : Int) ∧ (6 : Int) < 2147483648 by omega) (show -2147483648 ≤ (0 : Int) ∧ (0 : Int) < 2147483648 by omega) (fun (S13 : fxS) (f14 : fxfr [(8, 4), (10, 9999), (11, 9999), (13, 6), (13, 7), (13, 10), (15, 9999), (16, 9999), (17, 9999), (18, 9999), (19, 9999), (20, 0), (20, 1), (20, 3), (20, 4), (20, 5), (20, 6), (20, 7), (20, 11), (20, 12), (21, 9999), (22, 9999), (23, 9999)] S S13) => ?_)
      refine c_Changes_holdFrom (i := (n).toNat) (q := (0 : Int)) (show 0 ≤ (0 : Int) ∧ (0 : Int) ≤ 32 by omega) (fun (S15 : fxS) (f16 : fxfr [(4, 11), (4, 12), (7, 9999), (8, 4), (10, 9999), (12, 9999)] S13 S15) => ?_)
      refine c_Changes_forgetRecall (n := n) (show -2147483648 ≤ n ∧ n < 2147483648 by omega) (fun (S17 : fxS) (f18 : fxfr [(24, 4), (25, 9999)] S15 S17) => ?_)
      refine c_Node_clear (i := (n).toNat)  (fun (S19 : fxS) ⟨(f20 : fxfr [(4, 0), (4, 1), (4, 3), (4, 4), (4, 5), (4, 6), (4, 7), (4, 11), (4, 12), (7, 9999)] S17 S19), (q21 : S19 4 (n).toNat 0 = 0 ∧ S19 4 (n).toNat 1 = 0)⟩ => ?_)
      exact hk S19 (fxfr_tr (fxfr_tr (fxfr_tr (fxfr_tr fxfr_rfl f14 rfl) f16 rfl) f18 rfl) f20 rfl)
    ·
      refine And.intro (by decide) ?_
      refine And.intro (fun h => absurd h (by decide)) (fun _ => ?_)
      intro z22 (z22a : (-2147483648 : Int) ≤ z22) (z22b : z22 ≤ (2147483647 : Int)) (z22c : z22 = S 4 (n).toNat 3)
      refine c_Log_add (n := n) (e := (6 : Int)) (d := z22) (show -1 ≤ n ∧ n < 60 by omega) (show -2147483648 ≤ (6 : Int) ∧ (6 : Int) < 2147483648 by omega) (show -2147483648 ≤ z22 ∧ z22 < 2147483648 by omega) (fun (S23 : fxS) (f24 : fxfr [(8, 4), (10, 9999), (11, 9999), (13, 6), (13, 7), (13, 10), (15, 9999), (16, 9999), (17, 9999), (18, 9999), (19, 9999), (20, 0), (20, 1), (20, 3), (20, 4), (20, 5), (20, 6), (20, 7), (20, 11), (20, 12), (21, 9999), (22, 9999), (23, 9999)] S S23) => ?_)
      refine c_Changes_holdFrom (i := (n).toNat) (q := (0 : Int)) (show 0 ≤ (0 : Int) ∧ (0 : Int) ≤ 32 by omega) (fun (S25 : fxS) (f26 : fxfr [(4, 11), (4, 12), (7, 9999), (8, 4), (10, 9999), (12, 9999)] S23 S25) => ?_)
      refine c_Changes_forgetRecall (n := n) (show -2147483648 ≤ n ∧ n < 2147483648 by omega) (fun (S27 : fxS) (f28 : fxfr [(24, 4), (25, 9999)] S25 S27) => ?_)
      refine c_Node_clear (i := (n).toNat)  (fun (S29 : fxS) ⟨(f30 : fxfr [(4, 0), (4, 1), (4, 3), (4, 4), (4, 5), (4, 6), (4, 7), (4, 11), (4, 12), (7, 9999)] S27 S29), (q31 : S29 4 (n).toNat 0 = 0 ∧ S29 4 (n).toNat 1 = 0)⟩ => ?_)
      exact hk S29 (fxfr_tr (fxfr_tr (fxfr_tr (fxfr_tr fxfr_rfl f24 rfl) f26 rfl) f28 rfl) f30 rfl)
theorem c_Changes_rename {l : Launch} {k : fxK} {S : fxS} {n : Int} {o : Int} {x : Int} (p0 : 1 ≤ n ∧ n < 60) (p1 : 0 ≤ o ∧ o < 60) (hk : ∀ (S' : fxS) , (fxfr [(4, 1), (8, 4), (10, 9999), (11, 9999), (13, 6), (13, 7), (13, 10), (15, 9999), (16, 9999), (17, 9999), (18, 9999), (19, 9999), (20, 0), (20, 1), (20, 3), (20, 4), (20, 5), (20, 6), (20, 7), (20, 11), (20, 12), (21, 9999), (22, 9999), (23, 9999)] S S') → k none S') : fC l 81 [.inr (.inr (24, 0)), .inl n, .inl o, .inr (.inl x)] S k := by
  refine fxe_81 (Nat.le_of_ble_eq_true rfl) (fxz_81 400 ?_)
  refine c_Log_add (n := n) (e := (16 : Int)) (d := (0 : Int)) (show -1 ≤ n ∧ n < 60 by omega) (show -2147483648 ≤ (16 : Int) ∧ (16 : Int) < 2147483648 by omega) (show -2147483648 ≤ (0 : Int) ∧ (0 : Int) < 2147483648 by omega) (fun (S1 : fxS) (f2 : fxfr [(8, 4), (10, 9999), (11, 9999), (13, 6), (13, 7), (13, 10), (15, 9999), (16, 9999), (17, 9999), (18, 9999), (19, 9999), (20, 0), (20, 1), (20, 3), (20, 4), (20, 5), (20, 6), (20, 7), (20, 11), (20, 12), (21, 9999), (22, 9999), (23, 9999)] S S1) => ?_)
  refine And.intro (show 0 ≤ n ∧ n < 60 by omega) ?_
  refine And.intro (show (0 : Int) ≤ o ∧ o ≤ (59 : Int) by omega) ?_
  refine And.intro (show 0 ≤ n ∧ n < 60 by omega) ?_
  exact hk (fx_up S1 4 (n).toNat 1 o) (fxfr_up (fxfr_tr fxfr_rfl f2 rfl) rfl)
theorem c_Changes_lengthWith {l : Launch} {k : fxK} {S : fxS} {n : Int} (p0 : 0 ≤ n ∧ n ≤ 1024) (hk : ∀ (r : Int) , (0 ≤ r ∧ r ≤ 200) → k (some (.inl r)) S) : fC l 93 [.inl n] S k := by
  refine fxe_93 (Nat.le_of_ble_eq_true rfl) (fxz_93 400 ?_)
  refine And.intro (show -2147483648 ≤ (n + (32 : Int)) ∧ (n + (32 : Int)) < 2147483648 by omega) ?_
  refine And.intro (show -2147483648 ≤ ((n + (32 : Int)) - (1 : Int)) ∧ ((n + (32 : Int)) - (1 : Int)) < 2147483648 by omega) ?_
  refine And.intro (show 0 ≤ ((n + (32 : Int)) - (1 : Int)) ∧ 0 < (32 : Int) by omega) ?_
  refine And.intro (show -2147483648 ≤ ((4 : Int) * (((n + (32 : Int)) - (1 : Int)) / (32 : Int))) ∧ ((4 : Int) * (((n + (32 : Int)) - (1 : Int)) / (32 : Int))) < 2147483648 by omega) ?_
  refine And.intro (show -2147483648 ≤ ((8 : Int) + ((4 : Int) * (((n + (32 : Int)) - (1 : Int)) / (32 : Int)))) ∧ ((8 : Int) + ((4 : Int) * (((n + (32 : Int)) - (1 : Int)) / (32 : Int)))) < 2147483648 by omega) ?_
  exact hk ((8 : Int) + ((4 : Int) * (((n + (32 : Int)) - (1 : Int)) / (32 : Int)))) (by omega)
theorem c_Changes_rehouse {l : Launch} {k : fxK} {S : fxS} {i : Nat} {j : Int} {n : Int} (p0 : 0 ≤ j ∧ j < 32) (p1 : n ≤ 32) (hk : ∀ (S' : fxS) , (fxfr [(4, 11), (4, 12), (7, 9999), (8, 4), (9, 9999), (10, 9999), (11, 9999), (12, 9999)] S S') → k none S') : fC l 99 [.inr (.inr (24, 0)), .inr (.inr (4, i)), .inl j, .inl n] S k := by
  refine fxe_99 (Nat.le_of_ble_eq_true rfl) (fxz_99 400 ?_)
  refine And.intro (show 0 ≤ j ∧ j < 32 by omega) ?_
  intro z1 (z1a : (-1 : Int) ≤ z1) (z1b : z1 ≤ (207 : Int)) (z1c : z1 = S 7 i (j).toNat)
  refine And.intro (by decide) ?_
  refine c_Stores_giveAny   (fun (z2 : Int) (S3 : fxS) ⟨(f4 : fxfr [(10, 9999), (11, 9999), (12, 9999)] S S3), (q5 : -1 ≤ z2 ∧ z2 ≤ 207)⟩ => ?_)
  refine And.intro (by decide) ?_
  refine c_Stores_putBlock (o := z1) (b := z2) (n := n) (show -1 ≤ z1 ∧ z1 ≤ 207 by omega) (show n ≤ 32 by omega) (show -2147483648 ≤ z2 ∧ z2 < 2147483648 by omega) (fun (S6 : fxS) (f7 : fxfr [(9, 9999)] S3 S6) => ?_)
  refine c_Stores_hold (b := z1) (show -2147483648 ≤ z1 ∧ z1 < 2147483648 by omega) (fun (S8 : fxS) (f9 : fxfr [(8, 4), (10, 9999), (12, 9999)] S6 S8) => ?_)
  refine c_Node_setHome (i := i) (j := j) (b := z2) (show 0 ≤ j ∧ j < 32 by omega) (show -1 ≤ z2 ∧ z2 ≤ 207 by omega) (fun (S10 : fxS) (f11 : fxfr [(4, 11), (4, 12), (7, 9999)] S8 S10) => ?_)
  exact hk S10 (fxfr_tr (fxfr_tr (fxfr_tr (fxfr_tr fxfr_rfl f4 rfl) f7 rfl) f9 rfl) f11 rfl)
theorem c_Changes_renew {l : Launch} {k : fxK} {S : fxS} {i : Nat}  (hk : ∀ (S' : fxS) , (fxfr [(2, 3), (4, 5), (4, 6), (4, 7)] S S') → k none S') : fC l 100 [.inr (.inr (24, 0)), .inr (.inr (4, i))] S k := by
  refine fxe_100 (Nat.le_of_ble_eq_true rfl) (fxz_100 400 ?_)
  intro z1 (z1a : (-2147483648 : Int) ≤ z1) (z1b : z1 ≤ (2147483647 : Int)) (z1c : z1 = S 2 0 3)
  intro z2 (z2a : -2147483648 ≤ z2) (z2b : z2 < 2147483648) (z2c : -2147483648 ≤ (z1 + (1 : Int)) ∧ (z1 + (1 : Int)) < 2147483648 → z2 = (z1 + (1 : Int)))
  refine And.intro (show (-2147483648 : Int) ≤ z2 ∧ z2 ≤ (2147483647 : Int) by omega) ?_
  refine And.intro (show (-2147483648 : Int) ≤ z1 ∧ z1 ≤ (2147483647 : Int) by omega) ?_
  refine And.intro (show (0 : Int) ≤ (0 : Int) ∧ (0 : Int) ≤ (2 : Int) by omega) ?_
  intro z3 (z3a : (-2147483648 : Int) ≤ z3) (z3b : z3 ≤ (2147483647 : Int)) (z3c : z3 = (fx_up (fx_up (fx_up S 2 0 3 z2) 4 i 5 z1) 4 i 7 (0 : Int)) 2 0 1)
  refine And.intro (show (-2147483648 : Int) ≤ z3 ∧ z3 ≤ (2147483647 : Int) by omega) ?_
  exact hk (fx_up (fx_up (fx_up (fx_up S 2 0 3 z2) 4 i 5 z1) 4 i 7 (0 : Int)) 4 i 6 z3) (fxfr_up (fxfr_up (fxfr_up (fxfr_up fxfr_rfl rfl) rfl) rfl) rfl)
theorem z_Changes_overwrite {l : Launch} {k : fxK} {S : fxS} {n : Int} {p : Int} {e : Int} (p0 : 0 ≤ n ∧ n < 60) (p1 : 0 ≤ p ∧ p ≤ 1024) (p2 : 1 ≤ e ∧ e ≤ 256) (p3 : p + e ≤ 1024) (hk : ∀ (S' : fxS) , (fxfr [(2, 3), (4, 4), (4, 5), (4, 6), (4, 7), (4, 11), (4, 12), (7, 9999), (8, 4), (9, 9999), (10, 9999), (11, 9999), (12, 9999), (13, 6), (13, 7), (13, 10), (15, 9999), (16, 9999), (17, 9999), (18, 9999), (19, 9999), (20, 0), (20, 1), (20, 3), (20, 4), (20, 5), (20, 6), (20, 7), (20, 11), (20, 12), (21, 9999), (22, 9999), (23, 9999)] S S') → k none S') : ∀ m : Nat, (∀ (d b : Int) (S1 : fxS), (fxfr [(2, 3), (4, 4), (4, 5), (4, 6), (4, 7), (4, 11), (4, 12), (7, 9999), (8, 4), (9, 9999), (10, 9999), (11, 9999), (12, 9999), (13, 6), (13, 7), (13, 10), (15, 9999), (16, 9999), (17, 9999), (18, 9999), (19, 9999), (20, 0), (20, 1), (20, 3), (20, 4), (20, 5), (20, 6), (20, 7), (20, 11), (20, 12), (21, 9999), (22, 9999), (23, 9999)] S S1) → (0 ≤ p ∧ p < d ∧ d ≤ 1024 ∧ d ≤ p + 256) → (0 ≤ b ∧ b ≤ 32 ∧ p < 32 * b + 32) → 33 - b ≤ (m : Int) → fZ l 101 k 56 [some (.inr (.inr (24, 0))), none, some (.inl p), some (.inr (.inr (1, 0))), none, some (.inr (.inr (4, (n).toNat))), some (.inl d), none, some (.inl b), none, none] [] S1) := by
  intro m
  induction m with
  | zero =>
    intro d b S1 hf i0 i1 hmu
    exfalso
    omega
  | succ m ih =>
    intro d b S1 hf i0 i1 hmu
    refine fxz_101 400 ?_
    refine And.intro (show -2147483648 ≤ (b * (32 : Int)) ∧ (b * (32 : Int)) < 2147483648 by omega) ?_
    refine And.intro (fun (h1 : (d ≤ (b * (32 : Int)) : Prop)) => ?_) (fun (h1 : ((b * (32 : Int)) < d : Prop)) => ?_)
    ·
      refine c_Changes_renew (i := (n).toNat)  (fun (S2 : fxS) (f3 : fxfr [(2, 3), (4, 5), (4, 6), (4, 7)] S1 S2) => ?_)
      exact hk S2 (fxfr_tr hf f3 rfl)
    ·
      refine And.intro (fun (h4 : ((32 : Int) ≤ b : Prop)) => ?_) (fun (h4 : (b < (32 : Int) : Prop)) => ?_)
      ·
        refine c_Changes_renew (i := (n).toNat)  (fun (S5 : fxS) (f6 : fxfr [(2, 3), (4, 5), (4, 6), (4, 7)] S1 S5) => ?_)
        exact hk S5 (fxfr_tr hf f6 rfl)
      ·
        refine c_Changes_rehouse (i := (n).toNat) (j := b) (n := (32 : Int)) (show 0 ≤ b ∧ b < 32 by omega) (show (32 : Int) ≤ 32 by omega) (fun (S7 : fxS) (f8 : fxfr [(4, 11), (4, 12), (7, 9999), (8, 4), (9, 9999), (10, 9999), (11, 9999), (12, 9999)] S1 S7) => ?_)
        refine And.intro (show -2147483648 ≤ (b * (32 : Int)) ∧ (b * (32 : Int)) < 2147483648 by omega) ?_
        intro z9 (z9a : p ≤ z9) (z9b : (b * (32 : Int)) ≤ z9) (z9c : z9 = p ∨ z9 = (b * (32 : Int)))
        refine And.intro (by decide) ?_
        refine And.intro (show -2147483648 ≤ (b + (1 : Int)) ∧ (b + (1 : Int)) < 2147483648 by omega) ?_
        refine And.intro (show -2147483648 ≤ ((b + (1 : Int)) * (32 : Int)) ∧ ((b + (1 : Int)) * (32 : Int)) < 2147483648 by omega) ?_
        intro z10 (z10a : z10 ≤ d) (z10b : z10 ≤ ((b + (1 : Int)) * (32 : Int))) (z10c : z10 = d ∨ z10 = ((b + (1 : Int)) * (32 : Int)))
        refine And.intro (by decide) ?_
        refine And.intro (show -2147483648 ≤ (z9 - p) ∧ (z9 - p) < 2147483648 by omega) ?_
        refine And.intro (show 0 ≤ b ∧ b < 32 by omega) ?_
        intro z11 (z11a : (-1 : Int) ≤ z11) (z11b : z11 ≤ (207 : Int)) (z11c : z11 = S7 7 (n).toNat (b).toNat)
        refine And.intro (show -2147483648 ≤ (b * (32 : Int)) ∧ (b * (32 : Int)) < 2147483648 by omega) ?_
        refine And.intro (show -2147483648 ≤ (z9 - (b * (32 : Int))) ∧ (z9 - (b * (32 : Int))) < 2147483648 by omega) ?_
        refine And.intro (show -2147483648 ≤ (z10 - z9) ∧ (z10 - z9) < 2147483648 by omega) ?_
        refine c_put1 (f := (z9 - p)) (b := z11) (a := (z9 - (b * (32 : Int)))) (n := (z10 - z9)) (show (z10 - z9) ≤ 0 ∨ (0 ≤ (z9 - p) ∧ (z9 - p) + (z10 - z9) ≤ 256 ∧ 0 ≤ (z9 - (b * (32 : Int))) ∧ (z9 - (b * (32 : Int))) + (z10 - z9) ≤ 32) by omega) (show -2147483648 ≤ z11 ∧ z11 < 2147483648 by omega) (fun (S12 : fxS) (f13 : fxfr [(9, 9999)] S7 S12) => ?_)
        refine And.intro (by decide) (And.intro (show -2147483648 ≤ b + (1 : Int) ∧ b + (1 : Int) < 2147483648 by omega) ?_)
        exact ih d (b + (1 : Int)) S12 (fxfr_tr (fxfr_tr hf f8 rfl) f13 rfl) (by omega) (by omega) (by omega)
theorem c_Changes_overwrite {l : Launch} {k : fxK} {S : fxS} {n : Int} {p : Int} {e : Int} (p0 : 0 ≤ n ∧ n < 60) (p1 : 0 ≤ p ∧ p ≤ 1024) (p2 : 1 ≤ e ∧ e ≤ 256) (p3 : p + e ≤ 1024) (hk : ∀ (S' : fxS) , (fxfr [(2, 3), (4, 4), (4, 5), (4, 6), (4, 7), (4, 11), (4, 12), (7, 9999), (8, 4), (9, 9999), (10, 9999), (11, 9999), (12, 9999), (13, 6), (13, 7), (13, 10), (15, 9999), (16, 9999), (17, 9999), (18, 9999), (19, 9999), (20, 0), (20, 1), (20, 3), (20, 4), (20, 5), (20, 6), (20, 7), (20, 11), (20, 12), (21, 9999), (22, 9999), (23, 9999)] S S') → k none S') : fC l 101 [.inr (.inr (24, 0)), .inl n, .inl p, .inr (.inr (1, 0)), .inl e] S k := by
  refine fxe_101 (Nat.le_of_ble_eq_true rfl) (fxz_101 400 ?_)
  refine And.intro (show 0 ≤ n ∧ n < 60 by omega) ?_
  refine And.intro (by decide) ?_
  refine And.intro (show -2147483648 ≤ (p + e) ∧ (p + e) < 2147483648 by omega) ?_
  refine And.intro (by decide) ?_
  intro z15 (z15a : (0 : Int) ≤ z15) (z15b : z15 ≤ (1024 : Int)) (z15c : z15 = S 4 (n).toNat 4)
  intro z16 (z16a : z15 ≤ z16) (z16b : (p + e) ≤ z16) (z16c : z16 = z15 ∨ z16 = (p + e))
  refine And.intro (by decide) ?_
  refine c_Changes_lengthWith (n := z16) (show 0 ≤ z16 ∧ z16 ≤ 1024 by omega) (fun (z17 : Int) (q18 : 0 ≤ z17 ∧ z17 ≤ 200) => ?_)
  refine c_Log_add (n := n) (e := z17) (d := (0 : Int)) (show -1 ≤ n ∧ n < 60 by omega) (show -2147483648 ≤ z17 ∧ z17 < 2147483648 by omega) (show -2147483648 ≤ (0 : Int) ∧ (0 : Int) < 2147483648 by omega) (fun (S19 : fxS) (f20 : fxfr [(8, 4), (10, 9999), (11, 9999), (13, 6), (13, 7), (13, 10), (15, 9999), (16, 9999), (17, 9999), (18, 9999), (19, 9999), (20, 0), (20, 1), (20, 3), (20, 4), (20, 5), (20, 6), (20, 7), (20, 11), (20, 12), (21, 9999), (22, 9999), (23, 9999)] S S19) => ?_)
  refine And.intro (show (0 : Int) ≤ z16 ∧ z16 ≤ (1024 : Int) by omega) ?_
  refine And.intro (show 0 ≤ p ∧ 0 < (32 : Int) by omega) ?_
  refine And.intro (by decide) ?_
  exact (z_Changes_overwrite p0 p1 p2 p3 hk (33 - (p / (32 : Int))).toNat) (p + e) (p / (32 : Int)) (fx_up S19 4 (n).toNat 4 z16) (fxfr_up (fxfr_tr fxfr_rfl f20 rfl) rfl) (by omega) (by omega) (by omega)
theorem c_Changes_shorten {l : Launch} {k : fxK} {S : fxS} {n : Int} {z : Int} (p0 : 0 ≤ n ∧ n < 60) (p1 : 0 ≤ z ∧ z ≤ 1024) (hk : ∀ (S' : fxS) , (fxfr [(2, 3), (4, 4), (4, 5), (4, 6), (4, 7), (4, 11), (4, 12), (7, 9999), (8, 4), (9, 9999), (10, 9999), (11, 9999), (12, 9999), (13, 6), (13, 7), (13, 10), (15, 9999), (16, 9999), (17, 9999), (18, 9999), (19, 9999), (20, 0), (20, 1), (20, 3), (20, 4), (20, 5), (20, 6), (20, 7), (20, 11), (20, 12), (21, 9999), (22, 9999), (23, 9999), (24, 4), (25, 9999)] S S') → k none S') : fC l 112 [.inr (.inr (24, 0)), .inl n, .inl z] S k := by
  refine fxe_112 (Nat.le_of_ble_eq_true rfl) (fxz_112 400 ?_)
  refine And.intro (show 0 ≤ n ∧ n < 60 by omega) ?_
  refine And.intro (by decide) ?_
  refine c_Changes_lengthWith (n := z) (show 0 ≤ z ∧ z ≤ 1024 by omega) (fun (z1 : Int) (q2 : 0 ≤ z1 ∧ z1 ≤ 200) => ?_)
  refine c_Log_add (n := n) (e := z1) (d := (0 : Int)) (show -1 ≤ n ∧ n < 60 by omega) (show -2147483648 ≤ z1 ∧ z1 < 2147483648 by omega) (show -2147483648 ≤ (0 : Int) ∧ (0 : Int) < 2147483648 by omega) (fun (S3 : fxS) (f4 : fxfr [(8, 4), (10, 9999), (11, 9999), (13, 6), (13, 7), (13, 10), (15, 9999), (16, 9999), (17, 9999), (18, 9999), (19, 9999), (20, 0), (20, 1), (20, 3), (20, 4), (20, 5), (20, 6), (20, 7), (20, 11), (20, 12), (21, 9999), (22, 9999), (23, 9999)] S S3) => ?_)
  have w5 : S3 4 (n).toNat 4 = S 4 (n).toNat 4 := f4 4 (n).toNat 4 rfl
  refine And.intro (show 0 ≤ z ∧ 0 < (32 : Int) by omega) ?_
  refine And.intro (by decide) ?_
  intro z6 (z6a : (0 : Int) ≤ z6) (z6b : z6 ≤ (1024 : Int)) (z6c : z6 = S3 4 (n).toNat 4)
  refine And.intro (fun (h7 : (z6 ≤ z : Prop)) => ?_) (fun (h7 : (z < z6 : Prop)) => ?_)
  ·
    refine And.intro (show (0 : Int) ≤ z ∧ z ≤ (1024 : Int) by omega) ?_
    have w8 : (fx_up S3 4 (n).toNat 4 z) 4 (n).toNat 4 = z := fx_up_at _ _ _ _ _
    refine c_Node_blocks (i := (n).toNat)  (fun (z9 : Int) (q10 : 0 ≤ z9 ∧ z9 ≤ 32 ∧ (fx_up S3 4 (n).toNat 4 z) 4 (n).toNat 4 ≤ 32 * z9 ∧ 32 * z9 < (fx_up S3 4 (n).toNat 4 z) 4 (n).toNat 4 + 32) => ?_)
    refine c_Changes_holdFrom (i := (n).toNat) (q := z9) (show 0 ≤ z9 ∧ z9 ≤ 32 by omega) (fun (S11 : fxS) (f12 : fxfr [(4, 11), (4, 12), (7, 9999), (8, 4), (10, 9999), (12, 9999)] (fx_up S3 4 (n).toNat 4 z) S11) => ?_)
    have w13 : S11 4 (n).toNat 4 = (fx_up S3 4 (n).toNat 4 z) 4 (n).toNat 4 := f12 4 (n).toNat 4 rfl
    refine c_Changes_renew (i := (n).toNat)  (fun (S14 : fxS) (f15 : fxfr [(2, 3), (4, 5), (4, 6), (4, 7)] S11 S14) => ?_)
    have w16 : S14 4 (n).toNat 4 = S11 4 (n).toNat 4 := f15 4 (n).toNat 4 rfl
    refine And.intro (fun (h17 : (z ≠ (0 : Int) : Prop)) => ?_) (fun (h17 : (z = (0 : Int) : Prop)) => ?_)
    ·
      exact hk S14 (fxfr_tr (fxfr_tr (fxfr_up (fxfr_tr fxfr_rfl f4 rfl) rfl) f12 rfl) f15 rfl)
    ·
      refine c_Changes_forgetRecall (n := n) (show -2147483648 ≤ n ∧ n < 2147483648 by omega) (fun (S18 : fxS) (f19 : fxfr [(24, 4), (25, 9999)] S14 S18) => ?_)
      have w20 : S18 4 (n).toNat 4 = S14 4 (n).toNat 4 := f19 4 (n).toNat 4 rfl
      exact hk S18 (fxfr_tr (fxfr_tr (fxfr_tr (fxfr_up (fxfr_tr fxfr_rfl f4 rfl) rfl) f12 rfl) f15 rfl) f19 rfl)
  ·
    refine And.intro (fun (h21 : ((z % (32 : Int)) = (0 : Int) : Prop)) => ?_) (fun (h21 : ((z % (32 : Int)) ≠ (0 : Int) : Prop)) => ?_)
    ·
      refine And.intro (show (0 : Int) ≤ z ∧ z ≤ (1024 : Int) by omega) ?_
      have w22 : (fx_up S3 4 (n).toNat 4 z) 4 (n).toNat 4 = z := fx_up_at _ _ _ _ _
      refine c_Node_blocks (i := (n).toNat)  (fun (z23 : Int) (q24 : 0 ≤ z23 ∧ z23 ≤ 32 ∧ (fx_up S3 4 (n).toNat 4 z) 4 (n).toNat 4 ≤ 32 * z23 ∧ 32 * z23 < (fx_up S3 4 (n).toNat 4 z) 4 (n).toNat 4 + 32) => ?_)
      refine c_Changes_holdFrom (i := (n).toNat) (q := z23) (show 0 ≤ z23 ∧ z23 ≤ 32 by omega) (fun (S25 : fxS) (f26 : fxfr [(4, 11), (4, 12), (7, 9999), (8, 4), (10, 9999), (12, 9999)] (fx_up S3 4 (n).toNat 4 z) S25) => ?_)
      have w27 : S25 4 (n).toNat 4 = (fx_up S3 4 (n).toNat 4 z) 4 (n).toNat 4 := f26 4 (n).toNat 4 rfl
      refine c_Changes_renew (i := (n).toNat)  (fun (S28 : fxS) (f29 : fxfr [(2, 3), (4, 5), (4, 6), (4, 7)] S25 S28) => ?_)
      have w30 : S28 4 (n).toNat 4 = S25 4 (n).toNat 4 := f29 4 (n).toNat 4 rfl
      refine And.intro (fun (h31 : (z ≠ (0 : Int) : Prop)) => ?_) (fun (h31 : (z = (0 : Int) : Prop)) => ?_)
      ·
        exact hk S28 (fxfr_tr (fxfr_tr (fxfr_up (fxfr_tr fxfr_rfl f4 rfl) rfl) f26 rfl) f29 rfl)
      ·
        refine c_Changes_forgetRecall (n := n) (show -2147483648 ≤ n ∧ n < 2147483648 by omega) (fun (S32 : fxS) (f33 : fxfr [(24, 4), (25, 9999)] S28 S32) => ?_)
        have w34 : S32 4 (n).toNat 4 = S28 4 (n).toNat 4 := f33 4 (n).toNat 4 rfl
        exact hk S32 (fxfr_tr (fxfr_tr (fxfr_tr (fxfr_up (fxfr_tr fxfr_rfl f4 rfl) rfl) f26 rfl) f29 rfl) f33 rfl)
    ·
      refine And.intro (show 0 ≤ z ∧ 0 < (32 : Int) by omega) ?_
      refine c_Changes_rehouse (i := (n).toNat) (j := (z / (32 : Int))) (n := (z % (32 : Int))) (show 0 ≤ (z / (32 : Int)) ∧ (z / (32 : Int)) < 32 by omega) (show (z % (32 : Int)) ≤ 32 by omega) (fun (S35 : fxS) (f36 : fxfr [(4, 11), (4, 12), (7, 9999), (8, 4), (9, 9999), (10, 9999), (11, 9999), (12, 9999)] S3 S35) => ?_)
      have w37 : S35 4 (n).toNat 4 = S3 4 (n).toNat 4 := f36 4 (n).toNat 4 rfl
      refine And.intro (show (0 : Int) ≤ z ∧ z ≤ (1024 : Int) by omega) ?_
      have w38 : (fx_up S35 4 (n).toNat 4 z) 4 (n).toNat 4 = z := fx_up_at _ _ _ _ _
      refine c_Node_blocks (i := (n).toNat)  (fun (z39 : Int) (q40 : 0 ≤ z39 ∧ z39 ≤ 32 ∧ (fx_up S35 4 (n).toNat 4 z) 4 (n).toNat 4 ≤ 32 * z39 ∧ 32 * z39 < (fx_up S35 4 (n).toNat 4 z) 4 (n).toNat 4 + 32) => ?_)
      refine c_Changes_holdFrom (i := (n).toNat) (q := z39) (show 0 ≤ z39 ∧ z39 ≤ 32 by omega) (fun (S41 : fxS) (f42 : fxfr [(4, 11), (4, 12), (7, 9999), (8, 4), (10, 9999), (12, 9999)] (fx_up S35 4 (n).toNat 4 z) S41) => ?_)
      have w43 : S41 4 (n).toNat 4 = (fx_up S35 4 (n).toNat 4 z) 4 (n).toNat 4 := f42 4 (n).toNat 4 rfl
      refine c_Changes_renew (i := (n).toNat)  (fun (S44 : fxS) (f45 : fxfr [(2, 3), (4, 5), (4, 6), (4, 7)] S41 S44) => ?_)
      have w46 : S44 4 (n).toNat 4 = S41 4 (n).toNat 4 := f45 4 (n).toNat 4 rfl
      refine And.intro (fun (h47 : (z ≠ (0 : Int) : Prop)) => ?_) (fun (h47 : (z = (0 : Int) : Prop)) => ?_)
      ·
        exact hk S44 (fxfr_tr (fxfr_tr (fxfr_up (fxfr_tr (fxfr_tr fxfr_rfl f4 rfl) f36 rfl) rfl) f42 rfl) f45 rfl)
      ·
        refine c_Changes_forgetRecall (n := n) (show -2147483648 ≤ n ∧ n < 2147483648 by omega) (fun (S48 : fxS) (f49 : fxfr [(24, 4), (25, 9999)] S44 S48) => ?_)
        have w50 : S48 4 (n).toNat 4 = S44 4 (n).toNat 4 := f49 4 (n).toNat 4 rfl
        exact hk S48 (fxfr_tr (fxfr_tr (fxfr_tr (fxfr_up (fxfr_tr (fxfr_tr fxfr_rfl f4 rfl) f36 rfl) rfl) f42 rfl) f45 rfl) f49 rfl)
theorem z_Changes_sink {l : Launch} {k : fxK} {S : fxS} {n : Int} (p0 : 0 ≤ n ∧ n < 60) (hk : ∀ (S' : fxS) , (fxfr [(4, 11), (4, 12), (7, 9999), (8, 4), (9, 9999), (10, 9999), (11, 9999), (12, 9999), (13, 6), (13, 7), (13, 10), (15, 9999), (16, 9999), (17, 9999), (18, 9999), (19, 9999), (20, 0), (20, 1), (20, 3), (20, 4), (20, 5), (20, 6), (20, 7), (20, 11), (20, 12), (21, 9999), (22, 9999), (23, 9999)] S S') → k none S') : ∀ m : Nat, (∀ (b : Int) (S1 : fxS), (fxfr [(4, 11), (4, 12), (7, 9999), (8, 4), (9, 9999), (10, 9999), (11, 9999), (12, 9999), (13, 6), (13, 7), (13, 10), (15, 9999), (16, 9999), (17, 9999), (18, 9999), (19, 9999), (20, 0), (20, 1), (20, 3), (20, 4), (20, 5), (20, 6), (20, 7), (20, 11), (20, 12), (21, 9999), (22, 9999), (23, 9999)] S S1) → (0 ≤ b ∧ b ≤ 32) → 33 - b ≤ (m : Int) → fZ l 247 k 12 [some (.inr (.inr (24, 0))), some (.inl n), some (.inr (.inr (4, (n).toNat))), some (.inl b), none, none] [] S1) := by
  intro m
  induction m with
  | zero =>
    intro b S1 hf i0 hmu
    exfalso
    omega
  | succ m ih =>
    intro b S1 hf i0 hmu
    refine fxz_247 400 ?_
    refine And.intro (fun (h1 : ((32 : Int) ≤ b : Prop)) => ?_) (fun (h1 : (b < (32 : Int) : Prop)) => ?_)
    ·
      exact hk S1 hf
    ·
      refine And.intro (show 0 ≤ b ∧ b < 32 by omega) ?_
      intro z2 (z2a : (-1 : Int) ≤ z2) (z2b : z2 ≤ (207 : Int)) (z2c : z2 = S1 7 (n).toNat (b).toNat)
      refine And.intro (by decide) ?_
      refine And.intro (fun (h3 : (z2 < (0 : Int) : Prop)) => ?_) (fun (h3 : ((0 : Int) ≤ z2 : Prop)) => ?_)
      ·
        refine And.intro (by decide) (And.intro (show -2147483648 ≤ b + (1 : Int) ∧ b + (1 : Int) < 2147483648 by omega) ?_)
        exact ih (b + (1 : Int)) S1 hf (by omega) (by omega)
      ·
        refine And.intro (fun (h5 : ((48 : Int) ≤ z2 : Prop)) => ?_) (fun (h5 : (z2 < (48 : Int) : Prop)) => ?_)
        ·
          refine And.intro (by decide) (And.intro (show -2147483648 ≤ b + (1 : Int) ∧ b + (1 : Int) < 2147483648 by omega) ?_)
          exact ih (b + (1 : Int)) S1 hf (by omega) (by omega)
        ·
          refine c_Log_add (n := n) (e := (8 : Int)) (d := (0 : Int)) (show -1 ≤ n ∧ n < 60 by omega) (show -2147483648 ≤ (8 : Int) ∧ (8 : Int) < 2147483648 by omega) (show -2147483648 ≤ (0 : Int) ∧ (0 : Int) < 2147483648 by omega) (fun (S7 : fxS) (f8 : fxfr [(8, 4), (10, 9999), (11, 9999), (13, 6), (13, 7), (13, 10), (15, 9999), (16, 9999), (17, 9999), (18, 9999), (19, 9999), (20, 0), (20, 1), (20, 3), (20, 4), (20, 5), (20, 6), (20, 7), (20, 11), (20, 12), (21, 9999), (22, 9999), (23, 9999)] S1 S7) => ?_)
          refine c_Stores_giveOf (s := (1 : Int)) (show -2147483648 ≤ (1 : Int) ∧ (1 : Int) < 2147483648 by omega) (fun (z9 : Int) (S10 : fxS) ⟨(f11 : fxfr [(10, 9999), (11, 9999), (12, 9999)] S7 S10), (q12 : -1 ≤ z9 ∧ z9 ≤ 207)⟩ => ?_)
          refine And.intro (by decide) ?_
          refine c_Stores_putBlock (o := z2) (b := z9) (n := (32 : Int)) (show -1 ≤ z2 ∧ z2 ≤ 207 by omega) (show (32 : Int) ≤ 32 by omega) (show -2147483648 ≤ z9 ∧ z9 < 2147483648 by omega) (fun (S13 : fxS) (f14 : fxfr [(9, 9999)] S10 S13) => ?_)
          refine c_Stores_hold (b := z2) (show -2147483648 ≤ z2 ∧ z2 < 2147483648 by omega) (fun (S15 : fxS) (f16 : fxfr [(8, 4), (10, 9999), (12, 9999)] S13 S15) => ?_)
          refine c_Node_setHome (i := (n).toNat) (j := b) (b := z9) (show 0 ≤ b ∧ b < 32 by omega) (show -1 ≤ z9 ∧ z9 ≤ 207 by omega) (fun (S17 : fxS) (f18 : fxfr [(4, 11), (4, 12), (7, 9999)] S15 S17) => ?_)
          exact hk S17 (fxfr_tr (fxfr_tr (fxfr_tr (fxfr_tr (fxfr_tr hf f8 rfl) f11 rfl) f14 rfl) f16 rfl) f18 rfl)
theorem c_Changes_sink {l : Launch} {k : fxK} {S : fxS} {n : Int} (p0 : 0 ≤ n ∧ n < 60) (hk : ∀ (S' : fxS) , (fxfr [(4, 11), (4, 12), (7, 9999), (8, 4), (9, 9999), (10, 9999), (11, 9999), (12, 9999), (13, 6), (13, 7), (13, 10), (15, 9999), (16, 9999), (17, 9999), (18, 9999), (19, 9999), (20, 0), (20, 1), (20, 3), (20, 4), (20, 5), (20, 6), (20, 7), (20, 11), (20, 12), (21, 9999), (22, 9999), (23, 9999)] S S') → k none S') : fC l 247 [.inr (.inr (24, 0)), .inl n] S k := by
  refine fxe_247 (Nat.le_of_ble_eq_true rfl) (fxz_247 400 ?_)
  refine And.intro (show 0 ≤ n ∧ n < 60 by omega) ?_
  refine And.intro (by decide) ?_
  refine And.intro (by decide) ?_
  exact (z_Changes_sink p0 hk (33 - (0 : Int)).toNat) (0 : Int) S fxfr_rfl (by omega) (by omega)
theorem c_Changes_release {l : Launch} {k : fxK} {S : fxS} {n : Int} (p0 : 0 ≤ n ∧ n < 60) (hk : ∀ (S' : fxS) , (fxfr [(4, 11), (4, 12), (7, 9999), (8, 4), (10, 9999), (11, 9999), (12, 9999), (13, 6), (13, 7), (13, 10), (15, 9999), (16, 9999), (17, 9999), (18, 9999), (19, 9999), (20, 0), (20, 1), (20, 3), (20, 4), (20, 5), (20, 6), (20, 7), (20, 11), (20, 12), (21, 9999), (22, 9999), (23, 9999)] S S') → k none S') : fC l 248 [.inr (.inr (24, 0)), .inl n] S k := by
  refine fxe_248 (Nat.le_of_ble_eq_true rfl) (fxz_248 400 ?_)
  refine c_Log_add (n := n) (e := (6 : Int)) (d := (0 : Int)) (show -1 ≤ n ∧ n < 60 by omega) (show -2147483648 ≤ (6 : Int) ∧ (6 : Int) < 2147483648 by omega) (show -2147483648 ≤ (0 : Int) ∧ (0 : Int) < 2147483648 by omega) (fun (S1 : fxS) (f2 : fxfr [(8, 4), (10, 9999), (11, 9999), (13, 6), (13, 7), (13, 10), (15, 9999), (16, 9999), (17, 9999), (18, 9999), (19, 9999), (20, 0), (20, 1), (20, 3), (20, 4), (20, 5), (20, 6), (20, 7), (20, 11), (20, 12), (21, 9999), (22, 9999), (23, 9999)] S S1) => ?_)
  refine And.intro (show 0 ≤ n ∧ n < 60 by omega) ?_
  refine c_Changes_holdFrom (i := (n).toNat) (q := (0 : Int)) (show 0 ≤ (0 : Int) ∧ (0 : Int) ≤ 32 by omega) (fun (S3 : fxS) (f4 : fxfr [(4, 11), (4, 12), (7, 9999), (8, 4), (10, 9999), (12, 9999)] S1 S3) => ?_)
  exact hk S3 (fxfr_tr (fxfr_tr fxfr_rfl f2 rfl) f4 rfl)
theorem c_Changes_noteCopy {l : Launch} {k : fxK} {S : fxS} {n : Int} {t : Int} {p : Int} (p0 : 0 ≤ n ∧ n < 60) (p1 : 0 ≤ t ∧ t ≤ 5) (p2 : 0 ≤ p ∧ p ≤ 6000) (hk : ∀ (S' : fxS) , (fxfr [(4, 7), (5, 9999), (6, 9999), (8, 4), (10, 9999), (11, 9999), (13, 6), (13, 7), (13, 10), (15, 9999), (16, 9999), (17, 9999), (18, 9999), (19, 9999), (20, 0), (20, 1), (20, 3), (20, 4), (20, 5), (20, 6), (20, 7), (20, 11), (20, 12), (21, 9999), (22, 9999), (23, 9999)] S S') → k none S') : fC l 242 [.inr (.inr (24, 0)), .inl n, .inl t, .inl p] S k := by
  refine fxe_242 (Nat.le_of_ble_eq_true rfl) (fxz_242 400 ?_)
  refine c_Log_add (n := n) (e := (12 : Int)) (d := (0 : Int)) (show -1 ≤ n ∧ n < 60 by omega) (show -2147483648 ≤ (12 : Int) ∧ (12 : Int) < 2147483648 by omega) (show -2147483648 ≤ (0 : Int) ∧ (0 : Int) < 2147483648 by omega) (fun (S1 : fxS) (f2 : fxfr [(8, 4), (10, 9999), (11, 9999), (13, 6), (13, 7), (13, 10), (15, 9999), (16, 9999), (17, 9999), (18, 9999), (19, 9999), (20, 0), (20, 1), (20, 3), (20, 4), (20, 5), (20, 6), (20, 7), (20, 11), (20, 12), (21, 9999), (22, 9999), (23, 9999)] S S1) => ?_)
  refine And.intro (show 0 ≤ n ∧ n < 60 by omega) ?_
  refine c_Node_addCopy (i := (n).toNat) (t := t) (p := p) (show 0 ≤ t ∧ t ≤ 5 by omega) (show 0 ≤ p ∧ p ≤ 6000 by omega) (fun (S3 : fxS) (f4 : fxfr [(4, 7), (5, 9999), (6, 9999)] S1 S3) => ?_)
  exact hk S3 (fxfr_tr (fxfr_tr fxfr_rfl f2 rfl) f4 rfl)
theorem c_Changes_putCopy {l : Launch} {k : fxK} {S : fxS} {n : Int} {q : Int} {t : Int} {p : Int} (p0 : 0 ≤ n ∧ n < 60) (p1 : 0 ≤ t ∧ t ≤ 5) (p2 : 0 ≤ p ∧ p ≤ 6000) (p3 : -2147483648 ≤ q ∧ q < 2147483648) (hk : ∀ (S' : fxS) , (fxfr [(5, 9999), (6, 9999), (8, 4), (10, 9999), (11, 9999), (13, 6), (13, 7), (13, 10), (15, 9999), (16, 9999), (17, 9999), (18, 9999), (19, 9999), (20, 0), (20, 1), (20, 3), (20, 4), (20, 5), (20, 6), (20, 7), (20, 11), (20, 12), (21, 9999), (22, 9999), (23, 9999)] S S') → k none S') : fC l 240 [.inr (.inr (24, 0)), .inl n, .inl q, .inl t, .inl p] S k := by
  refine fxe_240 (Nat.le_of_ble_eq_true rfl) (fxz_240 400 ?_)
  refine And.intro (fun (h1 : (q < (0 : Int) : Prop)) => ?_) (fun (h1 : ((0 : Int) ≤ q : Prop)) => ?_)
  ·
    exact hk S fxfr_rfl
  ·
    refine And.intro (fun (h2 : (q < (2 : Int) : Prop)) => ?_) (fun (h2 : ((2 : Int) ≤ q : Prop)) => ?_)
    ·
      refine c_Log_add (n := n) (e := (12 : Int)) (d := (0 : Int)) (show -1 ≤ n ∧ n < 60 by omega) (show -2147483648 ≤ (12 : Int) ∧ (12 : Int) < 2147483648 by omega) (show -2147483648 ≤ (0 : Int) ∧ (0 : Int) < 2147483648 by omega) (fun (S3 : fxS) (f4 : fxfr [(8, 4), (10, 9999), (11, 9999), (13, 6), (13, 7), (13, 10), (15, 9999), (16, 9999), (17, 9999), (18, 9999), (19, 9999), (20, 0), (20, 1), (20, 3), (20, 4), (20, 5), (20, 6), (20, 7), (20, 11), (20, 12), (21, 9999), (22, 9999), (23, 9999)] S S3) => ?_)
      refine And.intro (show 0 ≤ n ∧ n < 60 by omega) ?_
      refine And.intro (show 0 ≤ q ∧ q < 2 by omega) ?_
      refine And.intro (show (0 : Int) ≤ t ∧ t ≤ (5 : Int) by omega) ?_
      refine And.intro (show 0 ≤ n ∧ n < 60 by omega) ?_
      refine And.intro (show 0 ≤ q ∧ q < 2 by omega) ?_
      refine And.intro (show (0 : Int) ≤ p ∧ p ≤ (6000 : Int) by omega) ?_
      exact hk (fx_up (fx_up S3 5 (n).toNat (q).toNat t) 6 (n).toNat (q).toNat p) (fxfr_up (fxfr_up (fxfr_tr fxfr_rfl f4 rfl) rfl) rfl)
    ·
      exact hk S fxfr_rfl
theorem c_Changes_dropCopy {l : Launch} {k : fxK} {S : fxS} {n : Int} {q : Int} (p0 : 0 ≤ n ∧ n < 60) (p1 : -2147483648 ≤ q ∧ q < 2147483648) (hk : ∀ (S' : fxS) , (fxfr [(4, 7), (5, 9999), (6, 9999), (8, 4), (10, 9999), (11, 9999), (13, 6), (13, 7), (13, 10), (15, 9999), (16, 9999), (17, 9999), (18, 9999), (19, 9999), (20, 0), (20, 1), (20, 3), (20, 4), (20, 5), (20, 6), (20, 7), (20, 11), (20, 12), (21, 9999), (22, 9999), (23, 9999), (24, 4), (25, 9999)] S S') → k none S') : fC l 205 [.inr (.inr (24, 0)), .inl n, .inl q] S k := by
  refine fxe_205 (Nat.le_of_ble_eq_true rfl) (fxz_205 400 ?_)
  refine c_Log_add (n := n) (e := (12 : Int)) (d := (0 : Int)) (show -1 ≤ n ∧ n < 60 by omega) (show -2147483648 ≤ (12 : Int) ∧ (12 : Int) < 2147483648 by omega) (show -2147483648 ≤ (0 : Int) ∧ (0 : Int) < 2147483648 by omega) (fun (S1 : fxS) (f2 : fxfr [(8, 4), (10, 9999), (11, 9999), (13, 6), (13, 7), (13, 10), (15, 9999), (16, 9999), (17, 9999), (18, 9999), (19, 9999), (20, 0), (20, 1), (20, 3), (20, 4), (20, 5), (20, 6), (20, 7), (20, 11), (20, 12), (21, 9999), (22, 9999), (23, 9999)] S S1) => ?_)
  refine And.intro (show 0 ≤ n ∧ n < 60 by omega) ?_
  refine c_Node_takeCopy (i := (n).toNat) (j := q) (show -2147483648 ≤ q ∧ q < 2147483648 by omega) (fun (S3 : fxS) (f4 : fxfr [(4, 7), (5, 9999), (6, 9999)] S1 S3) => ?_)
  refine And.intro (show 0 ≤ n ∧ n < 60 by omega) ?_
  intro z5 (z5a : (0 : Int) ≤ z5) (z5b : z5 ≤ (2 : Int)) (z5c : z5 = S3 4 (n).toNat 7)
  refine And.intro (fun (h6 : (z5 ≠ (0 : Int) : Prop)) => ?_) (fun (h6 : (z5 = (0 : Int) : Prop)) => ?_)
  ·
    exact hk S3 (fxfr_tr (fxfr_tr fxfr_rfl f2 rfl) f4 rfl)
  ·
    refine c_Changes_forgetRecall (n := n) (show -2147483648 ≤ n ∧ n < 2147483648 by omega) (fun (S7 : fxS) (f8 : fxfr [(24, 4), (25, 9999)] S3 S7) => ?_)
    exact hk S7 (fxfr_tr (fxfr_tr (fxfr_tr fxfr_rfl f2 rfl) f4 rfl) f8 rfl)
theorem z_Changes_dropCopiesOn {l : Launch} {k : fxK} {S : fxS} {t : Int} (p0 : -2147483648 ≤ t ∧ t < 2147483648) (hk : ∀ (S' : fxS) , (fxfr [(4, 7), (5, 9999), (6, 9999), (8, 4), (10, 9999), (11, 9999), (13, 6), (13, 7), (13, 10), (15, 9999), (16, 9999), (17, 9999), (18, 9999), (19, 9999), (20, 0), (20, 1), (20, 3), (20, 4), (20, 5), (20, 6), (20, 7), (20, 11), (20, 12), (21, 9999), (22, 9999), (23, 9999), (24, 4), (25, 9999)] S S') → k none S') : ∀ m : Nat, (∀ (j : Int) (S1 : fxS), (fxfr [(4, 7), (5, 9999), (6, 9999), (8, 4), (10, 9999), (11, 9999), (13, 6), (13, 7), (13, 10), (15, 9999), (16, 9999), (17, 9999), (18, 9999), (19, 9999), (20, 0), (20, 1), (20, 3), (20, 4), (20, 5), (20, 6), (20, 7), (20, 11), (20, 12), (21, 9999), (22, 9999), (23, 9999), (24, 4), (25, 9999)] S S1) → (1 ≤ j ∧ j ≤ 60) → (61 - j) * 10 + 9 ≤ (m : Int) → fZ l 206 k 2 [some (.inr (.inr (24, 0))), some (.inl t), some (.inl j), none, none] [] S1) ∧ (∀ (j b : Int) (S1 : fxS), (fxfr [(4, 7), (5, 9999), (6, 9999), (8, 4), (10, 9999), (11, 9999), (13, 6), (13, 7), (13, 10), (15, 9999), (16, 9999), (17, 9999), (18, 9999), (19, 9999), (20, 0), (20, 1), (20, 3), (20, 4), (20, 5), (20, 6), (20, 7), (20, 11), (20, 12), (21, 9999), (22, 9999), (23, 9999), (24, 4), (25, 9999)] S S1) → (1 ≤ j ∧ j < 60) → (-1 ≤ b ∧ b ≤ 1) → (61 - j) * 10 + b + 1 ≤ (m : Int) → fZ l 206 k 10 [some (.inr (.inr (24, 0))), some (.inl t), some (.inl j), some (.inl b), none] [] S1) := by
  intro m
  induction m with
  | zero =>
    refine ⟨?_, ?_⟩
    · intro j S1 hf i0 hmu
      exfalso
      omega
    · intro j b S1 hf i0 i1 hmu
      exfalso
      omega
  | succ m ih =>
    refine ⟨?_, ?_⟩
    · intro j S1 hf i0 hmu
      refine fxz_206 400 ?_
      refine And.intro (fun (h1 : ((60 : Int) ≤ j : Prop)) => ?_) (fun (h1 : (j < (60 : Int) : Prop)) => ?_)
      ·
        exact hk S1 hf
      ·
        refine And.intro (by decide) ?_
        exact ih.2 j (1 : Int) S1 hf (by omega) (by omega) (by omega)
    · intro j b S1 hf i0 i1 hmu
      refine fxz_206 400 ?_
      refine And.intro (fun (h2 : (b < (0 : Int) : Prop)) => ?_) (fun (h2 : ((0 : Int) ≤ b : Prop)) => ?_)
      ·
        refine And.intro (by decide) (And.intro (show -2147483648 ≤ j + (1 : Int) ∧ j + (1 : Int) < 2147483648 by omega) ?_)
        exact ih.1 (j + (1 : Int)) S1 hf (by omega) (by omega)
      ·
        refine And.intro (show 0 ≤ j ∧ j < 60 by omega) ?_
        refine And.intro (by decide) ?_
        intro z4 (z4a : (0 : Int) ≤ z4) (z4b : z4 ≤ (2 : Int)) (z4c : z4 = S1 4 (j).toNat 7)
        refine And.intro (fun (h5 : (z4 ≤ b : Prop)) => ?_) (fun (h5 : (b < z4 : Prop)) => ?_)
        ·
          refine And.intro (by decide) (And.intro (show -2147483648 ≤ b + (-1 : Int) ∧ b + (-1 : Int) < 2147483648 by omega) ?_)
          exact ih.2 j (b + (-1 : Int)) S1 hf (by omega) (by omega) (by omega)
        ·
          refine And.intro (show 0 ≤ b ∧ b < 2 by omega) ?_
          intro z7 (z7a : (0 : Int) ≤ z7) (z7b : z7 ≤ (5 : Int)) (z7c : z7 = S1 5 (j).toNat (b).toNat)
          refine And.intro (fun (h8 : (z7 ≠ t : Prop)) => ?_) (fun (h8 : (z7 = t : Prop)) => ?_)
          ·
            refine And.intro (by decide) (And.intro (show -2147483648 ≤ b + (-1 : Int) ∧ b + (-1 : Int) < 2147483648 by omega) ?_)
            exact ih.2 j (b + (-1 : Int)) S1 hf (by omega) (by omega) (by omega)
          ·
            refine c_Changes_dropCopy (n := j) (q := b) (show 0 ≤ j ∧ j < 60 by omega) (show -2147483648 ≤ b ∧ b < 2147483648 by omega) (fun (S10 : fxS) (f11 : fxfr [(4, 7), (5, 9999), (6, 9999), (8, 4), (10, 9999), (11, 9999), (13, 6), (13, 7), (13, 10), (15, 9999), (16, 9999), (17, 9999), (18, 9999), (19, 9999), (20, 0), (20, 1), (20, 3), (20, 4), (20, 5), (20, 6), (20, 7), (20, 11), (20, 12), (21, 9999), (22, 9999), (23, 9999), (24, 4), (25, 9999)] S1 S10) => ?_)
            refine And.intro (by decide) (And.intro (show -2147483648 ≤ b + (-1 : Int) ∧ b + (-1 : Int) < 2147483648 by omega) ?_)
            exact ih.2 j (b + (-1 : Int)) S10 (fxfr_tr hf f11 rfl) (by omega) (by omega) (by omega)
theorem c_Changes_dropCopiesOn {l : Launch} {k : fxK} {S : fxS} {t : Int} (p0 : -2147483648 ≤ t ∧ t < 2147483648) (hk : ∀ (S' : fxS) , (fxfr [(4, 7), (5, 9999), (6, 9999), (8, 4), (10, 9999), (11, 9999), (13, 6), (13, 7), (13, 10), (15, 9999), (16, 9999), (17, 9999), (18, 9999), (19, 9999), (20, 0), (20, 1), (20, 3), (20, 4), (20, 5), (20, 6), (20, 7), (20, 11), (20, 12), (21, 9999), (22, 9999), (23, 9999), (24, 4), (25, 9999)] S S') → k none S') : fC l 206 [.inr (.inr (24, 0)), .inl t] S k := by
  refine fxe_206 (Nat.le_of_ble_eq_true rfl) (fxz_206 400 ?_)
  refine And.intro (by decide) ?_
  exact (z_Changes_dropCopiesOn p0 hk ((61 - (1 : Int)) * 10 + 9).toNat).1 (1 : Int) S fxfr_rfl (by omega) (by omega)
theorem c_Changes_noteDeleteWritten {l : Launch} {k : fxK} {S : fxS} {d : Int} (p0 : -2147483648 ≤ d ∧ d < 2147483648) (hk : ∀ (S' : fxS) , (fxfr [(8, 4), (10, 9999), (11, 9999), (13, 6), (13, 7), (13, 10), (15, 9999), (16, 9999), (17, 9999), (18, 9999), (19, 9999), (20, 0), (20, 1), (20, 3), (20, 4), (20, 5), (20, 6), (20, 7), (20, 11), (20, 12), (21, 9999), (22, 9999), (23, 9999)] S S') → k none S') : fC l 239 [.inr (.inr (24, 0)), .inl d] S k := by
  refine fxe_239 (Nat.le_of_ble_eq_true rfl) (fxz_239 400 ?_)
  intro z1 z1a z1b z1c
  refine c_Log_add (n := (-1 : Int)) (e := (6 : Int)) (d := z1) (show -1 ≤ (-1 : Int) ∧ (-1 : Int) < 60 by omega) (show -2147483648 ≤ (6 : Int) ∧ (6 : Int) < 2147483648 by omega) (show -2147483648 ≤ z1 ∧ z1 < 2147483648 by omega) (fun (S2 : fxS) (f3 : fxfr [(8, 4), (10, 9999), (11, 9999), (13, 6), (13, 7), (13, 10), (15, 9999), (16, 9999), (17, 9999), (18, 9999), (19, 9999), (20, 0), (20, 1), (20, 3), (20, 4), (20, 5), (20, 6), (20, 7), (20, 11), (20, 12), (21, 9999), (22, 9999), (23, 9999)] S S2) => ?_)
  exact hk S2 (fxfr_tr fxfr_rfl f3 rfl)
