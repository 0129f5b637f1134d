/-! contracts: what rebuilds the tree of the class -/
theorem c_Library_restoreDirectory {l : Launch} {k : fxK} {S : fxS} {o : Int} {x : Int} (p0 : 0 ≤ o ∧ o < 60) (p1 : S 4 (o).toNat 0 = 1) (p2 : (depF (fun m => S 4 m 1) 60 o : Int) ≤ 3) (p3 : S 13 0 6 = 0) (p4 : TreeL S) (hk : ∀ (r : Int) (S' : fxS) , (fxfr [(4, 0), (4, 1), (4, 3), (4, 4), (4, 5), (4, 6), (4, 7), (4, 11), (4, 12), (7, 9999)] S S' ∧ (-1 ≤ r ∧ r < 60 ∧ S' 13 0 6 = 0 ∧ (0 ≤ r → S' 4 (r).toNat 0 = 1 ∧ (depF (fun m => S' 4 m 1) 60 r : Int) = (depF (fun m => S 4 m 1) 60 o : Int) + 1)) ∧ (TreeL S')) → k (some (.inl r)) S') : fC l 171 [.inr (.inr (26, 0)), .inl o, .inr (.inl x)] S k := by
  have n1 : NS S S := NS_rfl
  refine fxe_171 (Nat.le_of_ble_eq_true rfl) (fxz_171 400 ?_)
  intro z2 (z2a : 0 ≤ z2) (z2b : z2 ≤ 1)
  refine And.intro (fun (h3 : (z2 ≠ (0 : Int) : Prop)) => ?_) (fun (h3 : (z2 = (0 : Int) : Prop)) => ?_)
  ·
    refine c_Tree_seek (n := o) (x := x) (show -2147483648 ≤ o ∧ o < 2147483648 by omega) (fun (z4 : Int) (q5 : -1 ≤ z4 ∧ z4 < 60 ∧ z4 ≠ 0 ∧ (0 ≤ z4 → S 4 (z4).toNat 0 ≠ 0 ∧ S 4 (z4).toNat 1 = o)) => ?_)
    have wc : 0 ≤ z4 → (depF (fun m => S 4 m 1) 60 z4 : Int) = 1 + (depF (fun m => S 4 m 1) 60 o : Int) := fun h => by have e := WTS_child (n := z4) (TreeL_wt (by assumption)) (by omega); rw [(q5.2.2.2 h).2] at e; exact e
    refine And.intro (by decide) ?_
    refine And.intro (fun (h6 : (z4 < (0 : Int) : Prop)) => ?_) (fun (h6 : ((0 : Int) ≤ z4 : Prop)) => ?_)
    ·
      refine c_Tree_leastAbsent   (fun (z7 : Int) (q8 : -1 ≤ z7 ∧ z7 < 60 ∧ z7 ≠ 0 ∧ (0 ≤ z7 → S 4 (z7).toNat 0 = 0)) => ?_)
      refine And.intro (by decide) ?_
      refine And.intro (fun (h9 : (z7 < (0 : Int) : Prop)) => ?_) (fun (h9 : ((0 : Int) ≤ z7 : Prop)) => ?_)
      ·
        exact hk z7 S ⟨fxfr_rfl, by omega, p4⟩
      ·
        refine c_Tree_settle (n := z7) (o := o) (x := x) (q := (1 : Int)) (show 1 ≤ z7 ∧ z7 < 60 by omega) (show 0 ≤ o ∧ o < 60 by omega) (show 1 ≤ (1 : Int) ∧ (1 : Int) ≤ 2 by omega) (fun (S10 : fxS) ⟨(f11 : fxfr [(4, 0), (4, 1), (4, 3), (4, 4), (4, 5), (4, 6), (4, 7), (4, 11), (4, 12), (7, 9999)] S S10), (q12 : S10 4 (z7).toNat 0 = (1 : Int) ∧ S10 4 (z7).toNat 1 = o), (g13 : N4 (z7).toNat S S10)⟩ => ?_)
        have w14 : S10 13 0 6 = S 13 0 6 := f11 13 0 6 rfl
        have tl : TreeL S10 := Tree_0 (by omega) (Tree_new0 (S := S) (S1 := S) (TreeL_wt (by assumption)) NS_rfl (by assumption) q12 (by omega) (by omega) (by omega) (by omega) (by omega) (by omega))
        have dn : (depF (fun m => S10 4 m 1) 60 z7 : Int) = 1 + (depF (fun m => S 4 m 1) 60 o : Int) := Tree_newd (S := S) (S1 := S) (TreeL_wt (by assumption)) NS_rfl (by assumption) q12 (by omega) (by omega) (by omega) (by omega) (by omega) (by omega)
        exact hk z7 S10 ⟨(fxfr_tr fxfr_rfl f11 rfl), by omega, tl⟩
    ·
      refine c_Tree_isDirectory (n := z4) (show -2147483648 ≤ z4 ∧ z4 < 2147483648 by omega) (fun (z15 : Int) (q16 : (z15 = 0 ∨ z15 = 1) ∧ (z15 = 1 → 0 ≤ z4 ∧ z4 < 60 ∧ S 4 (z4).toNat 0 = 1)) => ?_)
      refine And.intro (fun (h17 : (z15 = (0 : Int) : Prop)) => ?_) (fun (h17 : (z15 ≠ (0 : Int) : Prop)) => ?_)
      ·
        exact hk (-1 : Int) S ⟨fxfr_rfl, by omega, p4⟩
      ·
        exact hk z4 S ⟨fxfr_rfl, by omega, p4⟩
  ·
    exact hk (-1 : Int) S ⟨fxfr_rfl, by omega, p4⟩
theorem z_Library_restoreCopies {l : Launch} {k : fxK} {S : fxS} {i : Nat} (p0 : SegA S) (hk : ∀ (S' : fxS) , (fxfr [(4, 7), (5, 9999), (6, 9999)] S S') → k none S') : ∀ m : Nat, (∀ (t : Int) (S1 : fxS), (fxfr [(4, 7), (5, 9999), (6, 9999)] S S1) → (0 ≤ t ∧ t ≤ 6) → (SegA S1) → (7 - t) * 1000 + 500 ≤ (m : Int) → fZ l 175 k 2 [some (.inr (.inr (26, 0))), some (.inr (.inr (4, i))), some (.inl t), none] [] S1) ∧ (∀ (t c : Int) (S1 : fxS), (fxfr [(4, 7), (5, 9999), (6, 9999)] S S1) → (0 ≤ t ∧ t < 6) → (0 ≤ c ∧ c ≤ 285) → (SegA S1) → (7 - t) * 1000 + 300 - c ≤ (m : Int) → fZ l 175 k 10 [some (.inr (.inr (26, 0))), some (.inr (.inr (4, i))), some (.inl t), some (.inl c)] [] S1) := by
  intro m
  induction m with
  | zero =>
    refine ⟨?_, ?_⟩
    · intro t S1 hf i0 i1 hmu
      exfalso
      omega
    · intro t c S1 hf i0 i1 i2 hmu
      exfalso
      omega
  | succ m ih =>
    refine ⟨?_, ?_⟩
    · intro t S1 hf i0 i1 hmu
      refine fxz_175 400 ?_
      refine And.intro (fun (h1 : ((6 : Int) ≤ t : Prop)) => ?_) (fun (h1 : (t < (6 : Int) : Prop)) => ?_)
      ·
        exact hk S1 hf
      ·
        refine And.intro (by decide) ?_
        exact ih.2 t (0 : Int) S1 hf (by omega) (by omega) i1 (by omega)
    · intro t c S1 hf i0 i1 i2 hmu
      refine fxz_175 400 ?_
      refine And.intro (show 0 ≤ t ∧ t < 6 by omega) ?_
      intro z2 (z2a : (0 : Int) ≤ z2) (z2b : z2 ≤ (285 : Int)) (z2c : z2 = S1 32 (t).toNat 5)
      refine And.intro (fun (h3 : (z2 ≤ c : Prop)) => ?_) (fun (h3 : (c < z2 : Prop)) => ?_)
      ·
        refine And.intro (by decide) (And.intro (show -2147483648 ≤ t + (1 : Int) ∧ t + (1 : Int) < 2147483648 by omega) ?_)
        exact ih.1 (t + (1 : Int)) S1 hf (by omega) i2 (by omega)
      ·
        refine c_Library_fits (t := t) (c := c) (j := i) i2 (show 0 ≤ t ∧ t ≤ 5 by omega) (show -2147483648 ≤ c ∧ c < 2147483648 by omega) (fun (z5 : Int) (q6 : 0 ≤ z5 ∧ z5 ≤ 1 ∧ (z5 = 1 → 0 ≤ c ∧ c < S1 32 t.toNat 5 ∧ S1 33 t.toNat (S1 34 t.toNat c.toNat + 1).toNat % 256 = 1 ∧ sN S1 33 t.toNat (S1 34 t.toNat c.toNat + 15 + 8 * (S1 33 t.toNat (S1 34 t.toNat c.toNat + 14).toNat % 256)) 2 = S1 4 i 4)) => ?_)
        refine And.intro (fun (h7 : (z5 = (0 : Int) : Prop)) => ?_) (fun (h7 : (z5 ≠ (0 : Int) : Prop)) => ?_)
        ·
          refine And.intro (by decide) (And.intro (show -2147483648 ≤ c + (1 : Int) ∧ c + (1 : Int) < 2147483648 by omega) ?_)
          exact ih.2 t (c + (1 : Int)) S1 hf (by omega) (by omega) i2 (by omega)
        ·
          refine And.intro (show 0 ≤ t ∧ t < 6 by omega) ?_
          refine And.intro (show 0 ≤ c ∧ c < 285 by omega) ?_
          intro z9 (z9a : (0 : Int) ≤ z9) (z9b : z9 ≤ (5979 : Int)) (z9c : z9 = S1 34 (t).toNat (c).toNat)
          have s10 : ((t).toNat < 6 ∧ 0 ≤ c ∧ c < S1 32 (t).toNat 5) → (8 ≤ z9 ∧ z9 + 21 + 8 * (S1 33 (t).toNat (z9 + 14).toNat % 256) ≤ S1 32 (t).toNat 1 ∧ S1 32 (t).toNat 1 ≤ 6000 ∧ (S1 33 (t).toNat (z9 + 14).toNat % 256) ≤ 5 ∧ (S1 33 (t).toNat (z9 + 1).toNat % 256 = 1 ∨ S1 33 (t).toNat (z9 + 1).toNat % 256 = 2) ∧ sN S1 33 (t).toNat (z9 + 15 + 8 * (S1 33 (t).toNat (z9 + 14).toNat % 256)) 2 ≤ 1024 ∧ (S1 33 (t).toNat (z9 + 1).toNat % 256 = 1 → 1 ≤ (S1 33 (t).toNat (z9 + 14).toNat % 256) ∧ z9 + 25 + 8 * (S1 33 (t).toNat (z9 + 14).toNat % 256) + sN S1 33 (t).toNat (z9 + 15 + 8 * (S1 33 (t).toNat (z9 + 14).toNat % 256)) 2 ≤ S1 32 (t).toNat 1)) := SegA_at (by assumption) z9c
          refine c_Node_addCopy (i := i) (t := t) (p := z9) (show 0 ≤ t ∧ t ≤ 5 by omega) (show 0 ≤ z9 ∧ z9 ≤ 6000 by omega) (fun (S11 : fxS) (f12 : fxfr [(4, 7), (5, 9999), (6, 9999)] S1 S11) => ?_)
          have g13 : SegA S11 := fx_pfr SegA_stab f12 rfl i2
          refine And.intro (by decide) (And.intro (show -2147483648 ≤ t + (1 : Int) ∧ t + (1 : Int) < 2147483648 by omega) ?_)
          exact ih.1 (t + (1 : Int)) S11 (fxfr_tr hf f12 rfl) (by omega) g13 (by omega)
theorem c_Library_restoreCopies {l : Launch} {k : fxK} {S : fxS} {i : Nat} (p0 : SegA S) (hk : ∀ (S' : fxS) , (fxfr [(4, 7), (5, 9999), (6, 9999)] S S') → k none S') : fC l 175 [.inr (.inr (26, 0)), .inr (.inr (4, i))] S k := by
  refine fxe_175 (Nat.le_of_ble_eq_true rfl) (fxz_175 400 ?_)
  refine And.intro (by decide) ?_
  exact (z_Library_restoreCopies p0 hk ((7 - (0 : Int)) * 1000 + 500).toNat).1 (0 : Int) S fxfr_rfl (by omega) p0 (by omega)
theorem z_Library_passNumbers {l : Launch} {k : fxK} {S : fxS}   (hk : ∀ (S' : fxS) , (fxfr [(2, 2), (2, 3), (26, 2)] S S') → k none S') : ∀ m : Nat, (∀ (t : Int) (S1 : fxS), (fxfr [(2, 2), (2, 3), (26, 2)] S S1) → (0 ≤ t ∧ t ≤ 6) → (7 - t) * 1000 + 500 ≤ (m : Int) → fZ l 177 k 2 [some (.inr (.inr (26, 0))), some (.inl t), none, none] [] S1) ∧ (∀ (t c : Int) (S1 : fxS), (fxfr [(2, 2), (2, 3), (26, 2)] S S1) → (0 ≤ t ∧ t < 6) → (0 ≤ c ∧ c ≤ 285) → (7 - t) * 1000 + 300 - c ≤ (m : Int) → fZ l 177 k 17 [some (.inr (.inr (26, 0))), some (.inl t), some (.inr (.inr (32, (t).toNat))), some (.inl c)] [] S1) := by
  intro m
  induction m with
  | zero =>
    refine ⟨?_, ?_⟩
    · intro t S1 hf i0 hmu
      exfalso
      omega
    · intro t c S1 hf i0 i1 hmu
      exfalso
      omega
  | succ m ih =>
    refine ⟨?_, ?_⟩
    · intro t S1 hf i0 hmu
      refine fxz_177 400 ?_
      refine And.intro (fun (h1 : ((6 : Int) ≤ t : Prop)) => ?_) (fun (h1 : (t < (6 : Int) : Prop)) => ?_)
      ·
        exact hk S1 hf
      ·
        refine And.intro (show 0 ≤ t ∧ t < 6 by omega) ?_
        refine And.intro (by decide) ?_
        refine And.intro (by decide) ?_
        exact ih.2 t (0 : Int) S1 hf (by omega) (by omega) (by omega)
    · intro t c S1 hf i0 i1 hmu
      refine fxz_177 400 ?_
      intro z2 (z2a : (0 : Int) ≤ z2) (z2b : z2 ≤ (285 : Int)) (z2c : z2 = S1 32 (t).toNat 5)
      refine And.intro (fun (h3 : (z2 ≤ c : Prop)) => ?_) (fun (h3 : (c < z2 : Prop)) => ?_)
      ·
        refine And.intro (by decide) (And.intro (show -2147483648 ≤ t + (1 : Int) ∧ t + (1 : Int) < 2147483648 by omega) ?_)
        exact ih.1 (t + (1 : Int)) S1 hf (by omega) (by omega)
      ·
        intro z5 (z5a : (-2147483648 : Int) ≤ z5) (z5b : z5 ≤ (2147483647 : Int)) (z5c : z5 = S1 2 0 2)
        refine And.intro (show 0 ≤ c ∧ c < 285 by omega) ?_
        intro z6 (z6a : (-2147483648 : Int) ≤ z6) (z6b : z6 ≤ (2147483647 : Int)) (z6c : z6 = S1 35 (t).toNat (c).toNat)
        intro z7 (z7a : -2147483648 ≤ z7) (z7b : z7 < 2147483648) (z7c : -2147483648 ≤ (z6 + (1 : Int)) ∧ (z6 + (1 : Int)) < 2147483648 → z7 = (z6 + (1 : Int)))
        intro z8 (z8a : z5 ≤ z8) (z8b : z7 ≤ z8) (z8c : z8 = z5 ∨ z8 = z7)
        refine And.intro (show (-2147483648 : Int) ≤ z8 ∧ z8 ≤ (2147483647 : Int) by omega) ?_
        intro z9 (z9a : (-2147483648 : Int) ≤ z9) (z9b : z9 ≤ (2147483647 : Int)) (z9c : z9 = S1 26 0 2)
        refine And.intro (show 0 ≤ c ∧ c < 285 by omega) ?_
        intro z10 (z10a : (-2147483648 : Int) ≤ z10) (z10b : z10 ≤ (2147483647 : Int)) (z10c : z10 = S1 36 (t).toNat (c).toNat)
        intro z11 (z11a : -2147483648 ≤ z11) (z11b : z11 < 2147483648) (z11c : -2147483648 ≤ (z10 + (1 : Int)) ∧ (z10 + (1 : Int)) < 2147483648 → z11 = (z10 + (1 : Int)))
        intro z12 (z12a : z9 ≤ z12) (z12b : z11 ≤ z12) (z12c : z12 = z9 ∨ z12 = z11)
        refine And.intro (show (-2147483648 : Int) ≤ z12 ∧ z12 ≤ (2147483647 : Int) by omega) ?_
        intro z13 (z13a : (-2147483648 : Int) ≤ z13) (z13b : z13 ≤ (2147483647 : Int)) (z13c : z13 = S1 2 0 3)
        refine And.intro (show 0 ≤ c ∧ c < 285 by omega) ?_
        intro z14 (z14a : (0 : Int) ≤ z14) (z14b : z14 ≤ (5979 : Int)) (z14c : z14 = S1 34 (t).toNat (c).toNat)
        refine c_Tape_versionAt (i := (t).toNat) (p := z14) (show 0 ≤ z14 ∧ z14 ≤ 5990 by omega) (fun (z15 : Int) (q16 : -2147483648 ≤ z15 ∧ z15 < 2147483648) => ?_)
        intro z17 (z17a : -2147483648 ≤ z17) (z17b : z17 < 2147483648) (z17c : -2147483648 ≤ (z15 + (1 : Int)) ∧ (z15 + (1 : Int)) < 2147483648 → z17 = (z15 + (1 : Int)))
        intro z18 (z18a : z13 ≤ z18) (z18b : z17 ≤ z18) (z18c : z18 = z13 ∨ z18 = z17)
        refine And.intro (show (-2147483648 : Int) ≤ z18 ∧ z18 ≤ (2147483647 : Int) by omega) ?_
        refine And.intro (by decide) (And.intro (show -2147483648 ≤ c + (1 : Int) ∧ c + (1 : Int) < 2147483648 by omega) ?_)
        exact ih.2 t (c + (1 : Int)) (fx_up (fx_up (fx_up S1 2 0 2 z8) 26 0 2 z12) 2 0 3 z18) (fxfr_up (fxfr_up (fxfr_up hf rfl) rfl) rfl) (by omega) (by omega) (by omega)
theorem c_Library_passNumbers {l : Launch} {k : fxK} {S : fxS}   (hk : ∀ (S' : fxS) , (fxfr [(2, 2), (2, 3), (26, 2)] S S') → k none S') : fC l 177 [.inr (.inr (26, 0))] S k := by
  refine fxe_177 (Nat.le_of_ble_eq_true rfl) (fxz_177 400 ?_)
  refine And.intro (by decide) ?_
  exact (z_Library_passNumbers  hk ((7 - (0 : Int)) * 1000 + 500).toNat).1 (0 : Int) S fxfr_rfl (by omega) (by omega)
theorem z_Library_restoreFile {l : Launch} {k : fxK} {S : fxS} {v : Int} (p0 : SegA S) (p1 : ViewV S) (p2 : 0 ≤ v ∧ v < 1710) (p3 : v < S 26 0 4) (p4 : S 13 0 6 = 0) (p5 : TreeL S) (hk : ∀ (r : Int) (S' : fxS) , (fxfr [(4, 0), (4, 1), (4, 3), (4, 4), (4, 5), (4, 6), (4, 7), (4, 11), (4, 12), (5, 9999), (6, 9999), (7, 9999)] S S' ∧ (0 ≤ r ∧ r ≤ 1 ∧ S' 13 0 6 = 0) ∧ (SegA S') ∧ (ViewV S') ∧ (TreeL S')) → k (some (.inl r)) S') : ∀ m : Nat, (∀ (p a o j : Int) (S1 : fxS), (fxfr [(4, 0), (4, 1), (4, 3), (4, 4), (4, 5), (4, 6), (4, 7), (4, 11), (4, 12), (5, 9999), (6, 9999), (7, 9999)] S S1) → (-1 ≤ a ∧ a ≤ 4) → (8 ≤ p ∧ p ≤ 5979 ∧ p + 15 + 8 * a + 8 ≤ 6000) → (0 ≤ j ∧ (j ≤ 0 ∨ j ≤ a)) → (-1 ≤ o ∧ o < 60) → (0 ≤ o → S1 4 (o).toNat 0 = 1 ∧ (depF (fun m => S1 4 m 1) 60 o : Int) = j) → (S1 13 0 6 = 0) → (SegA S1) → (ViewV S1) → (TreeL S1) → (SGx (S 29 0 (v).toNat).toNat p S1) → 5 - j ≤ (m : Int) → fZ l 176 k 33 [some (.inr (.inr (26, 0))), some (.inl v), some (.inr (.inr (32, (S 29 0 (v).toNat).toNat))), some (.inl p), some (.inl a), some (.inl o), some (.inl j), none, none, none] [] S1) := by
  intro m
  induction m with
  | zero =>
    intro p a o j S1 hf i0 i1 i2 i3 i4 i5 i6 i7 i8 i9 hmu
    exfalso
    omega
  | succ m ih =>
    intro p a o j S1 hf i0 i1 i2 i3 i4 i5 i6 i7 i8 i9 hmu
    refine fxz_176 400 ?_
    refine And.intro (fun (h1 : (a ≤ j : Prop)) => ?_) (fun (h1 : (j < a : Prop)) => ?_)
    ·
      refine And.intro (fun (h2 : ((0 : Int) ≤ o : Prop)) => ?_) (fun (h2 : (o < (0 : Int) : Prop)) => ?_)
      ·
        refine c_Tape_titleAt (i := (S 29 0 (v).toNat).toNat) (p := p) (q := a) (show 0 ≤ p ∧ p ≤ 6000 ∧ -1 ≤ a ∧ a ≤ 255 ∧ 0 ≤ p + 15 + 8 * a ∧ p + 15 + 8 * a + 8 ≤ 6000 by omega) (fun (z3 : Int) => ?_)
        refine And.intro (by decide) ?_
        refine c_Tree_leastAbsent   (fun (z4 : Int) (q5 : -1 ≤ z4 ∧ z4 < 60 ∧ z4 ≠ 0 ∧ (0 ≤ z4 → S1 4 (z4).toNat 0 = 0)) => ?_)
        refine And.intro (by decide) ?_
        refine And.intro (fun (h6 : (z4 < (0 : Int) : Prop)) => ?_) (fun (h6 : ((0 : Int) ≤ z4 : Prop)) => ?_)
        ·
          refine And.intro (show 0 ≤ (0 : Int) ∧ (0 : Int) ≤ 1 by omega) ?_
          exact hk (0 : Int) S1 ⟨hf, by omega, i6, i7, i8⟩
        ·
          intro z7 (z7a : 0 ≤ z7) (z7b : z7 ≤ 1)
          refine And.intro (fun (h8 : (z7 = (0 : Int) : Prop)) => ?_) (fun (h8 : (z7 ≠ (0 : Int) : Prop)) => ?_)
          ·
            refine And.intro (show 0 ≤ (0 : Int) ∧ (0 : Int) ≤ 1 by omega) ?_
            exact hk (0 : Int) S1 ⟨hf, by omega, i6, i7, i8⟩
          ·
            refine c_Tree_seek (n := o) (x := z3) (show -2147483648 ≤ o ∧ o < 2147483648 by omega) (fun (z9 : Int) (q10 : -1 ≤ z9 ∧ z9 < 60 ∧ z9 ≠ 0 ∧ (0 ≤ z9 → S1 4 (z9).toNat 0 ≠ 0 ∧ S1 4 (z9).toNat 1 = o)) => ?_)
            refine And.intro (fun (h11 : (z9 < (0 : Int) : Prop)) => ?_) (fun (h11 : ((0 : Int) ≤ z9 : Prop)) => ?_)
            ·
              refine c_Tree_settle (n := z4) (o := o) (x := z3) (q := (2 : Int)) (show 1 ≤ z4 ∧ z4 < 60 by omega) (show 0 ≤ o ∧ o < 60 by omega) (show 1 ≤ (2 : Int) ∧ (2 : Int) ≤ 2 by omega) (fun (S12 : fxS) ⟨(f13 : fxfr [(4, 0), (4, 1), (4, 3), (4, 4), (4, 5), (4, 6), (4, 7), (4, 11), (4, 12), (7, 9999)] S1 S12), (q14 : S12 4 (z4).toNat 0 = (2 : Int) ∧ S12 4 (z4).toNat 1 = o), (g15 : N4 (z4).toNat S1 S12)⟩ => ?_)
              have w16 : S12 13 0 6 = S1 13 0 6 := f13 13 0 6 rfl
              have g17 : SegA S12 := fx_pfr SegA_stab f13 rfl i6
              have g18 : ViewV S12 := fx_pfr ViewV_stab f13 rfl i7
              have g19 : SGx (S 29 0 (v).toNat).toNat p S12 := fx_pfr SGx_stab f13 rfl i9
              have tl : TreeL S12 := Tree_0 (by omega) (Tree_new0 (S := S1) (S1 := S1) (TreeL_wt (by assumption)) NS_rfl (by assumption) q14 (by omega) (by omega) (by omega) (by omega) (by omega) (by omega))
              have sh : (8 ≤ p ∧ p + 21 + 8 * (S12 33 (S 29 0 (v).toNat).toNat (p + 14).toNat % 256) ≤ S12 32 (S 29 0 (v).toNat).toNat 1 ∧ S12 32 (S 29 0 (v).toNat).toNat 1 ≤ 6000 ∧ (S12 33 (S 29 0 (v).toNat).toNat (p + 14).toNat % 256) ≤ 5 ∧ (S12 33 (S 29 0 (v).toNat).toNat (p + 1).toNat % 256 = 1 ∨ S12 33 (S 29 0 (v).toNat).toNat (p + 1).toNat % 256 = 2) ∧ sN S12 33 (S 29 0 (v).toNat).toNat (p + 15 + 8 * (S12 33 (S 29 0 (v).toNat).toNat (p + 14).toNat % 256)) 2 ≤ 1024 ∧ (S12 33 (S 29 0 (v).toNat).toNat (p + 1).toNat % 256 = 1 → 1 ≤ (S12 33 (S 29 0 (v).toNat).toNat (p + 14).toNat % 256) ∧ p + 25 + 8 * (S12 33 (S 29 0 (v).toNat).toNat (p + 14).toNat % 256) + sN S12 33 (S 29 0 (v).toNat).toNat (p + 15 + 8 * (S12 33 (S 29 0 (v).toNat).toNat (p + 14).toNat % 256)) 2 ≤ S12 32 (S 29 0 (v).toNat).toNat 1)) := (by assumption : SGx (S 29 0 (v).toNat).toNat p S12)
              refine And.intro (show 0 ≤ z4 ∧ z4 < 60 by omega) ?_
              refine And.intro (by decide) ?_
              refine And.intro (show 0 ≤ v ∧ v < 1710 by omega) ?_
              intro z20 (z20a : (-2147483648 : Int) ≤ z20) (z20b : z20 ≤ (2147483647 : Int)) (z20c : z20 = S12 28 0 (v).toNat)
              refine And.intro (show (-2147483648 : Int) ≤ z20 ∧ z20 ≤ (2147483647 : Int) by omega) ?_
              have w21 : (fx_up S12 4 (z4).toNat 3 z20) 13 0 6 = S12 13 0 6 := rfl
              have g22 : SegA (fx_up S12 4 (z4).toNat 3 z20) := fx_pup SegA_stab rfl g17
              have g23 : ViewV (fx_up S12 4 (z4).toNat 3 z20) := fx_pup ViewV_stab rfl g18
              have g24 : SGx (S 29 0 (v).toNat).toNat p (fx_up S12 4 (z4).toNat 3 z20) := fx_pup SGx_stab rfl g19
              have g25 : TreeL (fx_up S12 4 (z4).toNat 3 z20) := fx_pup TreeL_stab rfl tl
              refine c_Tape_versionAt (i := (S 29 0 (v).toNat).toNat) (p := p) (show 0 ≤ p ∧ p ≤ 5990 by omega) (fun (z26 : Int) (q27 : -2147483648 ≤ z26 ∧ z26 < 2147483648) => ?_)
              refine And.intro (show (-2147483648 : Int) ≤ z26 ∧ z26 ≤ (2147483647 : Int) by omega) ?_
              have w28 : (fx_up (fx_up S12 4 (z4).toNat 3 z20) 4 (z4).toNat 5 z26) 13 0 6 = (fx_up S12 4 (z4).toNat 3 z20) 13 0 6 := rfl
              have g29 : SegA (fx_up (fx_up S12 4 (z4).toNat 3 z20) 4 (z4).toNat 5 z26) := fx_pup SegA_stab rfl g22
              have g30 : ViewV (fx_up (fx_up S12 4 (z4).toNat 3 z20) 4 (z4).toNat 5 z26) := fx_pup ViewV_stab rfl g23
              have g31 : SGx (S 29 0 (v).toNat).toNat p (fx_up (fx_up S12 4 (z4).toNat 3 z20) 4 (z4).toNat 5 z26) := fx_pup SGx_stab rfl g24
              have g32 : TreeL (fx_up (fx_up S12 4 (z4).toNat 3 z20) 4 (z4).toNat 5 z26) := fx_pup TreeL_stab rfl g25
              refine c_Tape_sizeAt (i := (S 29 0 (v).toNat).toNat) (p := p) (show 0 ≤ p ∧ p < 5986 ∧ p + 17 + 8 * (S12 33 (S 29 0 (v).toNat).toNat (p + 14).toNat % 256) ≤ 6000 by omega) (fun (z33 : Int) (q34 : z33 = sN S12 33 (S 29 0 (v).toNat).toNat (p + 15 + 8 * (S12 33 (S 29 0 (v).toNat).toNat (p + 14).toNat % 256)) 2 ∧ 0 ≤ z33 ∧ z33 ≤ 65535) => ?_)
              refine And.intro (show (0 : Int) ≤ z33 ∧ z33 ≤ (1024 : Int) by omega) ?_
              have w35 : (fx_up (fx_up (fx_up S12 4 (z4).toNat 3 z20) 4 (z4).toNat 5 z26) 4 (z4).toNat 4 z33) 13 0 6 = (fx_up (fx_up S12 4 (z4).toNat 3 z20) 4 (z4).toNat 5 z26) 13 0 6 := rfl
              have g36 : SegA (fx_up (fx_up (fx_up S12 4 (z4).toNat 3 z20) 4 (z4).toNat 5 z26) 4 (z4).toNat 4 z33) := fx_pup SegA_stab rfl g29
              have g37 : ViewV (fx_up (fx_up (fx_up S12 4 (z4).toNat 3 z20) 4 (z4).toNat 5 z26) 4 (z4).toNat 4 z33) := fx_pup ViewV_stab rfl g30
              have g38 : SGx (S 29 0 (v).toNat).toNat p (fx_up (fx_up (fx_up S12 4 (z4).toNat 3 z20) 4 (z4).toNat 5 z26) 4 (z4).toNat 4 z33) := fx_pup SGx_stab rfl g31
              have g39 : TreeL (fx_up (fx_up (fx_up S12 4 (z4).toNat 3 z20) 4 (z4).toNat 5 z26) 4 (z4).toNat 4 z33) := fx_pup TreeL_stab rfl g32
              refine c_Library_restoreCopies (i := (z4).toNat) g36 (fun (S40 : fxS) (f41 : fxfr [(4, 7), (5, 9999), (6, 9999)] (fx_up (fx_up (fx_up S12 4 (z4).toNat 3 z20) 4 (z4).toNat 5 z26) 4 (z4).toNat 4 z33) S40) => ?_)
              have w42 : S40 13 0 6 = (fx_up (fx_up (fx_up S12 4 (z4).toNat 3 z20) 4 (z4).toNat 5 z26) 4 (z4).toNat 4 z33) 13 0 6 := f41 13 0 6 rfl
              have g43 : SegA S40 := fx_pfr SegA_stab f41 rfl g36
              have g44 : ViewV S40 := fx_pfr ViewV_stab f41 rfl g37
              have g45 : SGx (S 29 0 (v).toNat).toNat p S40 := fx_pfr SGx_stab f41 rfl g38
              have g46 : TreeL S40 := fx_pfr TreeL_stab f41 rfl g39
              refine And.intro (show 0 ≤ (1 : Int) ∧ (1 : Int) ≤ 1 by omega) ?_
              exact hk (1 : Int) S40 ⟨(fxfr_tr (fxfr_up (fxfr_up (fxfr_up (fxfr_tr hf f13 rfl) rfl) rfl) rfl) f41 rfl), by omega, g43, g44, g46⟩
            ·
              refine And.intro (show 0 ≤ (0 : Int) ∧ (0 : Int) ≤ 1 by omega) ?_
              exact hk (0 : Int) S1 ⟨hf, by omega, i6, i7, i8⟩
      ·
        refine And.intro (show 0 ≤ (0 : Int) ∧ (0 : Int) ≤ 1 by omega) ?_
        exact hk (0 : Int) S1 ⟨hf, by omega, i6, i7, i8⟩
    ·
      refine And.intro (fun (h47 : (o < (0 : Int) : Prop)) => ?_) (fun (h47 : ((0 : Int) ≤ o : Prop)) => ?_)
      ·
        refine And.intro (fun (h48 : ((0 : Int) ≤ o : Prop)) => ?_) (fun (h48 : (o < (0 : Int) : Prop)) => ?_)
        ·
          refine c_Tape_titleAt (i := (S 29 0 (v).toNat).toNat) (p := p) (q := a) (show 0 ≤ p ∧ p ≤ 6000 ∧ -1 ≤ a ∧ a ≤ 255 ∧ 0 ≤ p + 15 + 8 * a ∧ p + 15 + 8 * a + 8 ≤ 6000 by omega) (fun (z49 : Int) => ?_)
          refine And.intro (by decide) ?_
          refine c_Tree_leastAbsent   (fun (z50 : Int) (q51 : -1 ≤ z50 ∧ z50 < 60 ∧ z50 ≠ 0 ∧ (0 ≤ z50 → S1 4 (z50).toNat 0 = 0)) => ?_)
          refine And.intro (by decide) ?_
          refine And.intro (fun (h52 : (z50 < (0 : Int) : Prop)) => ?_) (fun (h52 : ((0 : Int) ≤ z50 : Prop)) => ?_)
          ·
            refine And.intro (show 0 ≤ (0 : Int) ∧ (0 : Int) ≤ 1 by omega) ?_
            exact hk (0 : Int) S1 ⟨hf, by omega, i6, i7, i8⟩
          ·
            intro z53 (z53a : 0 ≤ z53) (z53b : z53 ≤ 1)
            refine And.intro (fun (h54 : (z53 = (0 : Int) : Prop)) => ?_) (fun (h54 : (z53 ≠ (0 : Int) : Prop)) => ?_)
            ·
              refine And.intro (show 0 ≤ (0 : Int) ∧ (0 : Int) ≤ 1 by omega) ?_
              exact hk (0 : Int) S1 ⟨hf, by omega, i6, i7, i8⟩
            ·
              refine c_Tree_seek (n := o) (x := z49) (show -2147483648 ≤ o ∧ o < 2147483648 by omega) (fun (z55 : Int) (q56 : -1 ≤ z55 ∧ z55 < 60 ∧ z55 ≠ 0 ∧ (0 ≤ z55 → S1 4 (z55).toNat 0 ≠ 0 ∧ S1 4 (z55).toNat 1 = o)) => ?_)
              refine And.intro (fun (h57 : (z55 < (0 : Int) : Prop)) => ?_) (fun (h57 : ((0 : Int) ≤ z55 : Prop)) => ?_)
              ·
                refine c_Tree_settle (n := z50) (o := o) (x := z49) (q := (2 : Int)) (show 1 ≤ z50 ∧ z50 < 60 by omega) (show 0 ≤ o ∧ o < 60 by omega) (show 1 ≤ (2 : Int) ∧ (2 : Int) ≤ 2 by omega) (fun (S58 : fxS) ⟨(f59 : fxfr [(4, 0), (4, 1), (4, 3), (4, 4), (4, 5), (4, 6), (4, 7), (4, 11), (4, 12), (7, 9999)] S1 S58), (q60 : S58 4 (z50).toNat 0 = (2 : Int) ∧ S58 4 (z50).toNat 1 = o), (g61 : N4 (z50).toNat S1 S58)⟩ => ?_)
                have w62 : S58 13 0 6 = S1 13 0 6 := f59 13 0 6 rfl
                have g63 : SegA S58 := fx_pfr SegA_stab f59 rfl i6
                have g64 : ViewV S58 := fx_pfr ViewV_stab f59 rfl i7
                have g65 : SGx (S 29 0 (v).toNat).toNat p S58 := fx_pfr SGx_stab f59 rfl i9
                have tl : TreeL S58 := Tree_0 (by omega) (Tree_new0 (S := S1) (S1 := S1) (TreeL_wt (by assumption)) NS_rfl (by assumption) q60 (by omega) (by omega) (by omega) (by omega) (by omega) (by omega))
                have sh : (8 ≤ p ∧ p + 21 + 8 * (S58 33 (S 29 0 (v).toNat).toNat (p + 14).toNat % 256) ≤ S58 32 (S 29 0 (v).toNat).toNat 1 ∧ S58 32 (S 29 0 (v).toNat).toNat 1 ≤ 6000 ∧ (S58 33 (S 29 0 (v).toNat).toNat (p + 14).toNat % 256) ≤ 5 ∧ (S58 33 (S 29 0 (v).toNat).toNat (p + 1).toNat % 256 = 1 ∨ S58 33 (S 29 0 (v).toNat).toNat (p + 1).toNat % 256 = 2) ∧ sN S58 33 (S 29 0 (v).toNat).toNat (p + 15 + 8 * (S58 33 (S 29 0 (v).toNat).toNat (p + 14).toNat % 256)) 2 ≤ 1024 ∧ (S58 33 (S 29 0 (v).toNat).toNat (p + 1).toNat % 256 = 1 → 1 ≤ (S58 33 (S 29 0 (v).toNat).toNat (p + 14).toNat % 256) ∧ p + 25 + 8 * (S58 33 (S 29 0 (v).toNat).toNat (p + 14).toNat % 256) + sN S58 33 (S 29 0 (v).toNat).toNat (p + 15 + 8 * (S58 33 (S 29 0 (v).toNat).toNat (p + 14).toNat % 256)) 2 ≤ S58 32 (S 29 0 (v).toNat).toNat 1)) := (by assumption : SGx (S 29 0 (v).toNat).toNat p S58)
                refine And.intro (show 0 ≤ z50 ∧ z50 < 60 by omega) ?_
                refine And.intro (by decide) ?_
                refine And.intro (show 0 ≤ v ∧ v < 1710 by omega) ?_
                intro z66 (z66a : (-2147483648 : Int) ≤ z66) (z66b : z66 ≤ (2147483647 : Int)) (z66c : z66 = S58 28 0 (v).toNat)
                refine And.intro (show (-2147483648 : Int) ≤ z66 ∧ z66 ≤ (2147483647 : Int) by omega) ?_
                have w67 : (fx_up S58 4 (z50).toNat 3 z66) 13 0 6 = S58 13 0 6 := rfl
                have g68 : SegA (fx_up S58 4 (z50).toNat 3 z66) := fx_pup SegA_stab rfl g63
                have g69 : ViewV (fx_up S58 4 (z50).toNat 3 z66) := fx_pup ViewV_stab rfl g64
                have g70 : SGx (S 29 0 (v).toNat).toNat p (fx_up S58 4 (z50).toNat 3 z66) := fx_pup SGx_stab rfl g65
                have g71 : TreeL (fx_up S58 4 (z50).toNat 3 z66) := fx_pup TreeL_stab rfl tl
                refine c_Tape_versionAt (i := (S 29 0 (v).toNat).toNat) (p := p) (show 0 ≤ p ∧ p ≤ 5990 by omega) (fun (z72 : Int) (q73 : -2147483648 ≤ z72 ∧ z72 < 2147483648) => ?_)
                refine And.intro (show (-2147483648 : Int) ≤ z72 ∧ z72 ≤ (2147483647 : Int) by omega) ?_
                have w74 : (fx_up (fx_up S58 4 (z50).toNat 3 z66) 4 (z50).toNat 5 z72) 13 0 6 = (fx_up S58 4 (z50).toNat 3 z66) 13 0 6 := rfl
                have g75 : SegA (fx_up (fx_up S58 4 (z50).toNat 3 z66) 4 (z50).toNat 5 z72) := fx_pup SegA_stab rfl g68
                have g76 : ViewV (fx_up (fx_up S58 4 (z50).toNat 3 z66) 4 (z50).toNat 5 z72) := fx_pup ViewV_stab rfl g69
                have g77 : SGx (S 29 0 (v).toNat).toNat p (fx_up (fx_up S58 4 (z50).toNat 3 z66) 4 (z50).toNat 5 z72) := fx_pup SGx_stab rfl g70
                have g78 : TreeL (fx_up (fx_up S58 4 (z50).toNat 3 z66) 4 (z50).toNat 5 z72) := fx_pup TreeL_stab rfl g71
                refine c_Tape_sizeAt (i := (S 29 0 (v).toNat).toNat) (p := p) (show 0 ≤ p ∧ p < 5986 ∧ p + 17 + 8 * (S58 33 (S 29 0 (v).toNat).toNat (p + 14).toNat % 256) ≤ 6000 by omega) (fun (z79 : Int) (q80 : z79 = sN S58 33 (S 29 0 (v).toNat).toNat (p + 15 + 8 * (S58 33 (S 29 0 (v).toNat).toNat (p + 14).toNat % 256)) 2 ∧ 0 ≤ z79 ∧ z79 ≤ 65535) => ?_)
                refine And.intro (show (0 : Int) ≤ z79 ∧ z79 ≤ (1024 : Int) by omega) ?_
                have w81 : (fx_up (fx_up (fx_up S58 4 (z50).toNat 3 z66) 4 (z50).toNat 5 z72) 4 (z50).toNat 4 z79) 13 0 6 = (fx_up (fx_up S58 4 (z50).toNat 3 z66) 4 (z50).toNat 5 z72) 13 0 6 := rfl
                have g82 : SegA (fx_up (fx_up (fx_up S58 4 (z50).toNat 3 z66) 4 (z50).toNat 5 z72) 4 (z50).toNat 4 z79) := fx_pup SegA_stab rfl g75
                have g83 : ViewV (fx_up (fx_up (fx_up S58 4 (z50).toNat 3 z66) 4 (z50).toNat 5 z72) 4 (z50).toNat 4 z79) := fx_pup ViewV_stab rfl g76
                have g84 : SGx (S 29 0 (v).toNat).toNat p (fx_up (fx_up (fx_up S58 4 (z50).toNat 3 z66) 4 (z50).toNat 5 z72) 4 (z50).toNat 4 z79) := fx_pup SGx_stab rfl g77
                have g85 : TreeL (fx_up (fx_up (fx_up S58 4 (z50).toNat 3 z66) 4 (z50).toNat 5 z72) 4 (z50).toNat 4 z79) := fx_pup TreeL_stab rfl g78
                refine c_Library_restoreCopies (i := (z50).toNat) g82 (fun (S86 : fxS) (f87 : fxfr [(4, 7), (5, 9999), (6, 9999)] (fx_up (fx_up (fx_up S58 4 (z50).toNat 3 z66) 4 (z50).toNat 5 z72) 4 (z50).toNat 4 z79) S86) => ?_)
                have w88 : S86 13 0 6 = (fx_up (fx_up (fx_up S58 4 (z50).toNat 3 z66) 4 (z50).toNat 5 z72) 4 (z50).toNat 4 z79) 13 0 6 := f87 13 0 6 rfl
                have g89 : SegA S86 := fx_pfr SegA_stab f87 rfl g82
                have g90 : ViewV S86 := fx_pfr ViewV_stab f87 rfl g83
                have g91 : SGx (S 29 0 (v).toNat).toNat p S86 := fx_pfr SGx_stab f87 rfl g84
                have g92 : TreeL S86 := fx_pfr TreeL_stab f87 rfl g85
                refine And.intro (show 0 ≤ (1 : Int) ∧ (1 : Int) ≤ 1 by omega) ?_
                exact hk (1 : Int) S86 ⟨(fxfr_tr (fxfr_up (fxfr_up (fxfr_up (fxfr_tr hf f59 rfl) rfl) rfl) rfl) f87 rfl), by omega, g89, g90, g92⟩
              ·
                refine And.intro (show 0 ≤ (0 : Int) ∧ (0 : Int) ≤ 1 by omega) ?_
                exact hk (0 : Int) S1 ⟨hf, by omega, i6, i7, i8⟩
        ·
          refine And.intro (show 0 ≤ (0 : Int) ∧ (0 : Int) ≤ 1 by omega) ?_
          exact hk (0 : Int) S1 ⟨hf, by omega, i6, i7, i8⟩
      ·
        refine c_Tape_titleAt (i := (S 29 0 (v).toNat).toNat) (p := p) (q := j) (show 0 ≤ p ∧ p ≤ 6000 ∧ -1 ≤ j ∧ j ≤ 255 ∧ 0 ≤ p + 15 + 8 * j ∧ p + 15 + 8 * j + 8 ≤ 6000 by omega) (fun (z93 : Int) => ?_)
        refine c_Library_restoreDirectory (o := o) (x := z93) (show 0 ≤ o ∧ o < 60 by omega) (show S1 4 (o).toNat 0 = 1 by omega) (show (depF (fun m => S1 4 m 1) 60 o : Int) ≤ 3 by omega) (show S1 13 0 6 = 0 by omega) i8 (fun (z94 : Int) (S95 : fxS) ⟨(f96 : fxfr [(4, 0), (4, 1), (4, 3), (4, 4), (4, 5), (4, 6), (4, 7), (4, 11), (4, 12), (7, 9999)] S1 S95), (q97 : -1 ≤ z94 ∧ z94 < 60 ∧ S95 13 0 6 = 0 ∧ (0 ≤ z94 → S95 4 (z94).toNat 0 = 1 ∧ (depF (fun m => S95 4 m 1) 60 z94 : Int) = (depF (fun m => S1 4 m 1) 60 o : Int) + 1)), (g98 : TreeL S95)⟩ => ?_)
        have w99 : S95 13 0 6 = S1 13 0 6 := f96 13 0 6 rfl
        have g100 : SegA S95 := fx_pfr SegA_stab f96 rfl i6
        have g101 : ViewV S95 := fx_pfr ViewV_stab f96 rfl i7
        have g102 : SGx (S 29 0 (v).toNat).toNat p S95 := fx_pfr SGx_stab f96 rfl i9
        refine And.intro (by decide) ?_
        refine And.intro (by decide) (And.intro (show -2147483648 ≤ j + (1 : Int) ∧ j + (1 : Int) < 2147483648 by omega) ?_)
        exact ih p a z94 (j + (1 : Int)) S95 (fxfr_tr hf f96 rfl) (by omega) (by omega) (by omega) (by omega) (by omega) (by omega) g100 g101 g98 g102 (by omega)
theorem c_Library_restoreFile {l : Launch} {k : fxK} {S : fxS} {v : Int} (p0 : SegA S) (p1 : ViewV S) (p2 : 0 ≤ v ∧ v < 1710) (p3 : v < S 26 0 4) (p4 : S 13 0 6 = 0) (p5 : TreeL S) (hk : ∀ (r : Int) (S' : fxS) , (fxfr [(4, 0), (4, 1), (4, 3), (4, 4), (4, 5), (4, 6), (4, 7), (4, 11), (4, 12), (5, 9999), (6, 9999), (7, 9999)] S S' ∧ (0 ≤ r ∧ r ≤ 1 ∧ S' 13 0 6 = 0) ∧ (SegA S') ∧ (ViewV S') ∧ (TreeL S')) → k (some (.inl r)) S') : fC l 176 [.inr (.inr (26, 0)), .inl v] S k := by
  refine fxe_176 (Nat.le_of_ble_eq_true rfl) (fxz_176 400 ?_)
  refine And.intro (show 0 ≤ v ∧ v < 1710 by omega) ?_
  intro z104 (z104a : (0 : Int) ≤ z104) (z104b : z104 ≤ (5 : Int)) (z104c : z104 = S 29 0 (v).toNat)
  subst z104c
  refine And.intro (show 0 ≤ (S 29 0 (v).toNat) ∧ (S 29 0 (v).toNat) < 6 by omega) ?_
  refine And.intro (by decide) ?_
  refine c_Library_placeInView (v := v) (show 0 ≤ v ∧ v < 1710 by omega) (fun (z105 : Int) (q106 : 0 ≤ z105 ∧ z105 ≤ 5979 ∧ z105 = S 34 (S 29 0 (v).toNat).toNat (S 30 0 (v).toNat).toNat ∧ 0 ≤ S 30 0 (v).toNat) => ?_)
  have sg : SGx (S 29 0 (v).toNat).toNat z105 S := SegB_at p0.1 q106.2.2.1 ⟨by omega, q106.2.2.2, View_at p1 rfl rfl (by omega)⟩
  have sh : (8 ≤ z105 ∧ z105 + 21 + 8 * (S 33 (S 29 0 (v).toNat).toNat (z105 + 14).toNat % 256) ≤ S 32 (S 29 0 (v).toNat).toNat 1 ∧ S 32 (S 29 0 (v).toNat).toNat 1 ≤ 6000 ∧ (S 33 (S 29 0 (v).toNat).toNat (z105 + 14).toNat % 256) ≤ 5 ∧ (S 33 (S 29 0 (v).toNat).toNat (z105 + 1).toNat % 256 = 1 ∨ S 33 (S 29 0 (v).toNat).toNat (z105 + 1).toNat % 256 = 2) ∧ sN S 33 (S 29 0 (v).toNat).toNat (z105 + 15 + 8 * (S 33 (S 29 0 (v).toNat).toNat (z105 + 14).toNat % 256)) 2 ≤ 1024 ∧ (S 33 (S 29 0 (v).toNat).toNat (z105 + 1).toNat % 256 = 1 → 1 ≤ (S 33 (S 29 0 (v).toNat).toNat (z105 + 14).toNat % 256) ∧ z105 + 25 + 8 * (S 33 (S 29 0 (v).toNat).toNat (z105 + 14).toNat % 256) + sN S 33 (S 29 0 (v).toNat).toNat (z105 + 15 + 8 * (S 33 (S 29 0 (v).toNat).toNat (z105 + 14).toNat % 256)) 2 ≤ S 32 (S 29 0 (v).toNat).toNat 1)) := sg
  refine And.intro (by decide) ?_
  refine c_Tape_depthAt (i := (S 29 0 (v).toNat).toNat) (p := z105) (show 0 ≤ z105 ∧ z105 < 5986 by omega) (fun (z107 : Int) (q108 : z107 = (S 33 (S 29 0 (v).toNat).toNat (z105 + 14).toNat % 256) ∧ 0 ≤ z107 ∧ z107 ≤ 255) => ?_)
  refine And.intro (show -2147483648 ≤ (z107 - (1 : Int)) ∧ (z107 - (1 : Int)) < 2147483648 by omega) ?_
  refine And.intro (by decide) ?_
  refine And.intro (by decide) ?_
  have rt : S 4 ((0 : Int)).toNat 0 = 1 ∧ (depF (fun m => S 4 m 1) 60 (0 : Int) : Int) = 0 := ⟨(WT.root (kd := fun m => S 4 m 0) (ov := fun m => S 4 m 1) (TreeL_wt (by assumption))).2, by rw [depF_0 (by omega)]; rfl⟩
  refine And.intro (by decide) ?_
  exact (z_Library_restoreFile p0 p1 p2 p3 p4 p5 hk (5 - (0 : Int)).toNat) z105 (z107 - (1 : Int)) (0 : Int) (0 : Int) S fxfr_rfl (by omega) (by omega) (by omega) (by omega) (by omega) (by omega) p0 p1 p5 sg (by omega)
theorem z_Library_restoreTree {l : Launch} {k : fxK} {S : fxS}  (p0 : SegA S) (p1 : ViewV S) (p2 : S 13 0 6 = 0) (p3 : TreeL S) (hk : ∀ (r : Int) (S' : fxS) , (fxfr [(2, 2), (2, 3), (4, 0), (4, 1), (4, 3), (4, 4), (4, 5), (4, 6), (4, 7), (4, 11), (4, 12), (5, 9999), (6, 9999), (7, 9999), (26, 2)] S S' ∧ (S' 13 0 6 = 0 ∧ 0 ≤ r ∧ r ≤ 1710) ∧ (SegA S') ∧ (TreeL S')) → k (some (.inl r)) S') : ∀ m : Nat, (∀ (u v : Int) (S1 : fxS), (fxfr [(2, 2), (2, 3), (4, 0), (4, 1), (4, 3), (4, 4), (4, 5), (4, 6), (4, 7), (4, 11), (4, 12), (5, 9999), (6, 9999), (7, 9999), (26, 2)] S S1) → (0 ≤ v ∧ v ≤ 1710) → (0 ≤ u ∧ u ≤ v) → (S1 13 0 6 = 0) → (SegA S1) → (ViewV S1) → (TreeL S1) → 1711 - v ≤ (m : Int) → fZ l 178 k 4 [some (.inr (.inr (26, 0))), some (.inl u), some (.inl v)] [] S1) := by
  intro m
  induction m with
  | zero =>
    intro u v S1 hf i0 i1 i2 i3 i4 i5 hmu
    exfalso
    omega
  | succ m ih =>
    intro u v S1 hf i0 i1 i2 i3 i4 i5 hmu
    refine fxz_178 400 ?_
    intro z1 (z1a : (0 : Int) ≤ z1) (z1b : z1 ≤ (1710 : Int)) (z1c : z1 = S1 26 0 4)
    refine And.intro (fun (h2 : (z1 ≤ v : Prop)) => ?_) (fun (h2 : (v < z1 : Prop)) => ?_)
    ·
      refine c_Library_passNumbers   (fun (S3 : fxS) (f4 : fxfr [(2, 2), (2, 3), (26, 2)] S1 S3) => ?_)
      have w5 : S3 13 0 6 = S1 13 0 6 := f4 13 0 6 rfl
      have g6 : SegA S3 := fx_pfr SegA_stab f4 rfl i3
      have g7 : ViewV S3 := fx_pfr ViewV_stab f4 rfl i4
      have g8 : TreeL S3 := fx_pfr TreeL_stab f4 rfl i5
      exact hk u S3 ⟨(fxfr_tr hf f4 rfl), by omega, g6, g8⟩
    ·
      refine c_Library_restoreFile (v := v) i3 i4 (show 0 ≤ v ∧ v < 1710 by omega) (show v < S1 26 0 4 by omega) (show S1 13 0 6 = 0 by omega) i5 (fun (z9 : Int) (S10 : fxS) ⟨(f11 : fxfr [(4, 0), (4, 1), (4, 3), (4, 4), (4, 5), (4, 6), (4, 7), (4, 11), (4, 12), (5, 9999), (6, 9999), (7, 9999)] S1 S10), (q12 : 0 ≤ z9 ∧ z9 ≤ 1 ∧ S10 13 0 6 = 0), (g13 : SegA S10), (g14 : ViewV S10), (g15 : TreeL S10)⟩ => ?_)
      have w16 : S10 13 0 6 = S1 13 0 6 := f11 13 0 6 rfl
      refine And.intro (fun (h17 : (z9 = (0 : Int) : Prop)) => ?_) (fun (h17 : (z9 ≠ (0 : Int) : Prop)) => ?_)
      ·
        refine And.intro (by decide) (And.intro (show -2147483648 ≤ v + (1 : Int) ∧ v + (1 : Int) < 2147483648 by omega) ?_)
        exact ih u (v + (1 : Int)) S10 (fxfr_tr hf f11 rfl) (by omega) (by omega) (by omega) g13 g14 g15 (by omega)
      ·
        refine And.intro (by decide) (And.intro (show -2147483648 ≤ u + (1 : Int) ∧ u + (1 : Int) < 2147483648 by omega) ?_)
        refine And.intro (by decide) (And.intro (show -2147483648 ≤ v + (1 : Int) ∧ v + (1 : Int) < 2147483648 by omega) ?_)
        exact ih (u + (1 : Int)) (v + (1 : Int)) S10 (fxfr_tr hf f11 rfl) (by omega) (by omega) (by omega) g13 g14 g15 (by omega)
theorem c_Library_restoreTree {l : Launch} {k : fxK} {S : fxS}  (p0 : SegA S) (p1 : ViewV S) (p2 : S 13 0 6 = 0) (p3 : TreeL S) (hk : ∀ (r : Int) (S' : fxS) , (fxfr [(2, 2), (2, 3), (4, 0), (4, 1), (4, 3), (4, 4), (4, 5), (4, 6), (4, 7), (4, 11), (4, 12), (5, 9999), (6, 9999), (7, 9999), (26, 2)] S S' ∧ (S' 13 0 6 = 0 ∧ 0 ≤ r ∧ r ≤ 1710) ∧ (SegA S') ∧ (TreeL S')) → k (some (.inl r)) S') : fC l 178 [.inr (.inr (26, 0))] S k := by
  refine fxe_178 (Nat.le_of_ble_eq_true rfl) (fxz_178 400 ?_)
  refine And.intro (by decide) ?_
  refine And.intro (by decide) ?_
  exact (z_Library_restoreTree p0 p1 p2 p3 hk (1711 - (0 : Int)).toNat) (0 : Int) (0 : Int) S fxfr_rfl (by omega) (by omega) (by omega) p0 p1 p3 (by omega)
theorem c_StubHouse_rebuild {l : Launch} {k : fxK} {S : fxS}  (p0 : SegA S) (p1 : TreeL S) (p2 : LCt S) (hk : ∀ (r : Int) (S' : fxS) , (fxfr [(0, 10), (2, 2), (2, 3), (4, 0), (4, 1), (4, 3), (4, 4), (4, 5), (4, 6), (4, 7), (4, 11), (4, 12), (5, 9999), (6, 9999), (7, 9999), (26, 2), (26, 3), (26, 4), (28, 9999), (29, 9999), (30, 9999), (31, 9999), (32, 3), (32, 4), (32, 5), (34, 9999), (35, 9999), (36, 9999), (37, 9999)] S S' ∧ (-2147483648 ≤ r ∧ r < 2147483648) ∧ (SegA S') ∧ (TreeL S') ∧ (LCt S')) → k (some (.inl r)) S') : fC l 179 [.inr (.inr (0, 0))] S k := by
  refine fxe_179 (Nat.le_of_ble_eq_true rfl) (fxz_179 400 ?_)
  intro z1 (z1a : (0 : Int) ≤ z1) (z1b : z1 ≤ (1 : Int)) (z1c : z1 = S 0 0 10)
  refine And.intro (fun (h2 : (z1 ≠ (0 : Int) : Prop)) => ?_) (fun (h2 : (z1 = (0 : Int) : Prop)) => ?_)
  ·
    have cz : S 13 0 6 = 0 := (by assumption : LCt S) (by omega)
    refine c_Library_scanAll  p0 (fun (S3 : fxS) ⟨(f4 : fxfr [(32, 3), (32, 4), (32, 5), (34, 9999), (35, 9999), (36, 9999), (37, 9999)] S S3), (g5 : SegA S3)⟩ => ?_)
    have w6 : S3 13 0 6 = S 13 0 6 := f4 13 0 6 rfl
    have w7 : S3 0 0 10 = S 0 0 10 := f4 0 0 10 rfl
    have g8 : TreeL S3 := fx_pfr TreeL_stab f4 rfl p1
    have g9 : LCt S3 := fx_pfr LCt_stab f4 rfl p2
    refine c_Library_lookOver  g5 (fun (S10 : fxS) ⟨(f11 : fxfr [(26, 3), (26, 4), (28, 9999), (29, 9999), (30, 9999), (31, 9999)] S3 S10), (g12 : SegA S10), (g13 : ViewV S10)⟩ => ?_)
    have w14 : S10 13 0 6 = S3 13 0 6 := f11 13 0 6 rfl
    have w15 : S10 0 0 10 = S3 0 0 10 := f11 0 0 10 rfl
    have g16 : TreeL S10 := fx_pfr TreeL_stab f11 rfl g8
    have g17 : LCt S10 := fx_pfr LCt_stab f11 rfl g9
    refine And.intro (show (0 : Int) ≤ (0 : Int) ∧ (0 : Int) ≤ (1 : Int) by omega) ?_
    have w18 : (fx_up S10 0 0 10 (0 : Int)) 13 0 6 = S10 13 0 6 := rfl
    have w19 : (fx_up S10 0 0 10 (0 : Int)) 0 0 10 = (0 : Int) := fx_up_at _ _ _ _ _
    have g20 : SegA (fx_up S10 0 0 10 (0 : Int)) := fx_pup SegA_stab rfl g12
    have g21 : TreeL (fx_up S10 0 0 10 (0 : Int)) := fx_pup TreeL_stab rfl g16
    have g22 : ViewV (fx_up S10 0 0 10 (0 : Int)) := fx_pup ViewV_stab rfl g13
    refine c_Library_restoreTree  g20 g22 (show S10 13 0 6 = 0 by omega) g21 (fun (z23 : Int) (S24 : fxS) ⟨(f25 : fxfr [(2, 2), (2, 3), (4, 0), (4, 1), (4, 3), (4, 4), (4, 5), (4, 6), (4, 7), (4, 11), (4, 12), (5, 9999), (6, 9999), (7, 9999), (26, 2)] (fx_up S10 0 0 10 (0 : Int)) S24), (q26 : S24 13 0 6 = 0 ∧ 0 ≤ z23 ∧ z23 ≤ 1710), (g27 : SegA S24), (g28 : TreeL S24)⟩ => ?_)
    have w29 : S24 13 0 6 = (fx_up S10 0 0 10 (0 : Int)) 13 0 6 := f25 13 0 6 rfl
    have w30 : S24 0 0 10 = (fx_up S10 0 0 10 (0 : Int)) 0 0 10 := f25 0 0 10 rfl
    have g31 : ViewV S24 := fx_pfr ViewV_stab f25 rfl g22
    exact hk z23 S24 ⟨(fxfr_tr (fxfr_up (fxfr_tr (fxfr_tr fxfr_rfl f4 rfl) f11 rfl) rfl) f25 rfl), by omega, g27, g28, by first | assumption | exact Tree_keep (by assumption) (by assumption) (by assumption) | exact LCt_of (by omega)⟩
  ·
    exact hk (-6 : Int) S ⟨fxfr_rfl, by omega, p0, p1, p2⟩
