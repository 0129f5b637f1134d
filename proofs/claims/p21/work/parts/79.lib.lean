/-! contracts: all tapes of the class -/
theorem z_Library_scanAll {l : Launch} {k : fxK} {S : fxS}  (p0 : SegA S) (hk : ∀ (S' : fxS) , (fxfr [(32, 3), (32, 4), (32, 5), (34, 9999), (35, 9999), (36, 9999), (37, 9999)] S S' ∧ (SegA S')) → k none S') : ∀ m : Nat, (∀ (t : Int) (S1 : fxS), (fxfr [(32, 3), (32, 4), (32, 5), (34, 9999), (35, 9999), (36, 9999), (37, 9999)] S S1) → (0 ≤ t ∧ t ≤ 6) → (SegA S1) → 7 - t ≤ (m : Int) → fZ l 48 k 2 [some (.inr (.inr (26, 0))), some (.inl t)] [] S1) := by
  intro m
  induction m with
  | zero =>
    intro t S1 hf i0 i1 hmu
    exfalso
    omega
  | succ m ih =>
    intro t S1 hf i0 i1 hmu
    refine fxz_48 400 ?_
    refine And.intro (fun (h1 : ((6 : Int) ≤ t : Prop)) => ?_) (fun (h1 : (t < (6 : Int) : Prop)) => ?_)
    ·
      exact hk S1 ⟨hf, i1⟩
    ·
      refine And.intro (show 0 ≤ t ∧ t < 6 by omega) ?_
      refine c_Tape_scan (i := (t).toNat) i1 (fun (S2 : fxS) ⟨(f3 : fxfr [(32, 3), (32, 4), (32, 5), (34, 9999), (35, 9999), (36, 9999), (37, 9999)] S1 S2), (g4 : SegA S2)⟩ => ?_)
      refine And.intro (by decide) (And.intro (show -2147483648 ≤ t + (1 : Int) ∧ t + (1 : Int) < 2147483648 by omega) ?_)
      exact ih (t + (1 : Int)) S2 (fxfr_tr hf f3 rfl) (by omega) g4 (by omega)
theorem c_Library_scanAll {l : Launch} {k : fxK} {S : fxS}  (p0 : SegA S) (hk : ∀ (S' : fxS) , (fxfr [(32, 3), (32, 4), (32, 5), (34, 9999), (35, 9999), (36, 9999), (37, 9999)] S S' ∧ (SegA S')) → k none S') : fC l 48 [.inr (.inr (26, 0))] S k := by
  refine fxe_48 (Nat.le_of_ble_eq_true rfl) (fxz_48 400 ?_)
  refine And.intro (by decide) ?_
  exact (z_Library_scanAll p0 hk (7 - (0 : Int)).toNat) (0 : Int) S fxfr_rfl (by omega) p0 (by omega)
theorem z_Library_isFound {l : Launch} {k : fxK} {S : fxS} {d : Int} (p0 : -2147483648 ≤ d ∧ d < 2147483648) (hk : ∀ (r : Int) , (r = 0 ∨ r = 1) → k (some (.inl r)) S) : ∀ m : Nat, (∀ (t : Int), (0 ≤ t ∧ t ≤ 6) → (7 - t) * 1000 + 500 ≤ (m : Int) → fZ l 49 k 2 [some (.inr (.inr (26, 0))), some (.inl d), some (.inl t), none] [] S) ∧ (∀ (t c : Int), (0 ≤ t ∧ t < 6) → (0 ≤ c ∧ c ≤ 285) → (7 - t) * 1000 + 300 - c ≤ (m : Int) → fZ l 49 k 10 [some (.inr (.inr (26, 0))), some (.inl d), some (.inl t), some (.inl c)] [] S) := by
  intro m
  induction m with
  | zero =>
    refine ⟨?_, ?_⟩
    · intro t  i0 hmu
      exfalso
      omega
    · intro t c  i0 i1 hmu
      exfalso
      omega
  | succ m ih =>
    refine ⟨?_, ?_⟩
    · intro t  i0 hmu
      refine fxz_49 400 ?_
      refine And.intro (fun (h1 : ((6 : Int) ≤ t : Prop)) => ?_) (fun (h1 : (t < (6 : Int) : Prop)) => ?_)
      ·
        refine And.intro (show 0 ≤ (0 : Int) ∧ (0 : Int) ≤ 1 by omega) ?_
        exact hk (0 : Int) (by omega)
      ·
        refine And.intro (by decide) ?_
        exact ih.2 t (0 : Int)  (by omega) (by omega) (by omega)
    · intro t c  i0 i1 hmu
      refine fxz_49 400 ?_
      refine And.intro (show 0 ≤ t ∧ t < 6 by omega) ?_
      intro z2 (z2a : (0 : Int) ≤ z2) (z2b : z2 ≤ (285 : Int)) (z2c : z2 = S 32 (t).toNat 5)
      refine And.intro (fun (h3 : (z2 ≤ c : Prop)) => ?_) (fun (h3 : (c < z2 : Prop)) => ?_)
      ·
        refine And.intro (by decide) (And.intro (show -2147483648 ≤ t + (1 : Int) ∧ t + (1 : Int) < 2147483648 by omega) ?_)
        exact ih.1 (t + (1 : Int))  (by omega) (by omega)
      ·
        refine And.intro (show 0 ≤ t ∧ t < 6 by omega) ?_
        refine And.intro (show 0 ≤ c ∧ c < 285 by omega) ?_
        intro z5 (z5a : (-2147483648 : Int) ≤ z5) (z5b : z5 ≤ (2147483647 : Int)) (z5c : z5 = S 35 (t).toNat (c).toNat)
        refine And.intro (fun (h6 : (z5 ≠ d : Prop)) => ?_) (fun (h6 : (z5 = d : Prop)) => ?_)
        ·
          refine And.intro (by decide) (And.intro (show -2147483648 ≤ c + (1 : Int) ∧ c + (1 : Int) < 2147483648 by omega) ?_)
          exact ih.2 t (c + (1 : Int))  (by omega) (by omega) (by omega)
        ·
          refine And.intro (show 0 ≤ (1 : Int) ∧ (1 : Int) ≤ 1 by omega) ?_
          exact hk (1 : Int) (by omega)
theorem c_Library_isFound {l : Launch} {k : fxK} {S : fxS} {d : Int} (p0 : -2147483648 ≤ d ∧ d < 2147483648) (hk : ∀ (r : Int) , (r = 0 ∨ r = 1) → k (some (.inl r)) S) : fC l 49 [.inr (.inr (26, 0)), .inl d] S k := by
  refine fxe_49 (Nat.le_of_ble_eq_true rfl) (fxz_49 400 ?_)
  refine And.intro (by decide) ?_
  exact (z_Library_isFound p0 hk ((7 - (0 : Int)) * 1000 + 500).toNat).1 (0 : Int)  (by omega) (by omega)
theorem c_Library_fits {l : Launch} {k : fxK} {S : fxS} {t : Int} {c : Int} {j : Nat} (p0 : SegA S) (p1 : 0 ≤ t ∧ t ≤ 5) (p2 : -2147483648 ≤ c ∧ c < 2147483648) (hk : ∀ (r : Int) , (0 ≤ r ∧ r ≤ 1 ∧ (r = 1 → 0 ≤ c ∧ c < S 32 t.toNat 5 ∧ S 33 t.toNat (S 34 t.toNat c.toNat + 1).toNat % 256 = 1 ∧ sN S 33 t.toNat (S 34 t.toNat c.toNat + 15 + 8 * (S 33 t.toNat (S 34 t.toNat c.toNat + 14).toNat % 256)) 2 = S 4 j 4)) → k (some (.inl r)) S) : fC l 173 [.inr (.inr (26, 0)), .inl t, .inl c, .inr (.inr (4, j))] S k := by
  refine fxe_173 (Nat.le_of_ble_eq_true rfl) (fxz_173 400 ?_)
  refine And.intro (show 0 ≤ t ∧ t < 6 by omega) ?_
  refine And.intro (by decide) ?_
  refine And.intro (fun (h1 : (c < (0 : Int) : Prop)) => ?_) (fun (h1 : ((0 : Int) ≤ c : Prop)) => ?_)
  ·
    refine And.intro (show 0 ≤ (0 : Int) ∧ (0 : Int) ≤ 1 by omega) ?_
    exact hk (0 : Int) (by first | omega | (subst_vars; omega))
  ·
    intro z2 (z2a : (0 : Int) ≤ z2) (z2b : z2 ≤ (285 : Int)) (z2c : z2 = S 32 (t).toNat 5)
    refine And.intro (fun (h3 : (z2 ≤ c : Prop)) => ?_) (fun (h3 : (c < z2 : Prop)) => ?_)
    ·
      refine And.intro (show 0 ≤ (0 : Int) ∧ (0 : Int) ≤ 1 by omega) ?_
      exact hk (0 : Int) (by first | omega | (subst_vars; omega))
    ·
      refine And.intro (show 0 ≤ c ∧ c < 285 by omega) ?_
      intro z4 (z4a : (0 : Int) ≤ z4) (z4b : z4 ≤ (1 : Int)) (z4c : z4 = S 37 (t).toNat (c).toNat)
      refine And.intro (fun (h5 : (z4 ≠ (0 : Int) : Prop)) => ?_) (fun (h5 : (z4 = (0 : Int) : Prop)) => ?_)
      ·
        refine And.intro (show 0 ≤ c ∧ c < 285 by omega) ?_
        intro z6 (z6a : (0 : Int) ≤ z6) (z6b : z6 ≤ (5979 : Int)) (z6c : z6 = S 34 (t).toNat (c).toNat)
        have s7 : ((t).toNat < 6 ∧ 0 ≤ c ∧ c < S 32 (t).toNat 5) → (8 ≤ z6 ∧ z6 + 21 + 8 * (S 33 (t).toNat (z6 + 14).toNat % 256) ≤ S 32 (t).toNat 1 ∧ S 32 (t).toNat 1 ≤ 6000 ∧ (S 33 (t).toNat (z6 + 14).toNat % 256) ≤ 5 ∧ (S 33 (t).toNat (z6 + 1).toNat % 256 = 1 ∨ S 33 (t).toNat (z6 + 1).toNat % 256 = 2) ∧ sN S 33 (t).toNat (z6 + 15 + 8 * (S 33 (t).toNat (z6 + 14).toNat % 256)) 2 ≤ 1024 ∧ (S 33 (t).toNat (z6 + 1).toNat % 256 = 1 → 1 ≤ (S 33 (t).toNat (z6 + 14).toNat % 256) ∧ z6 + 25 + 8 * (S 33 (t).toNat (z6 + 14).toNat % 256) + sN S 33 (t).toNat (z6 + 15 + 8 * (S 33 (t).toNat (z6 + 14).toNat % 256)) 2 ≤ S 32 (t).toNat 1)) := SegA_at (by assumption) z6c
        refine And.intro (by decide) ?_
        refine c_Tape_sortAt (i := (t).toNat) (p := z6) (show 0 ≤ z6 ∧ z6 < 5999 by omega) (fun (z8 : Int) (q9 : z8 = S 33 (t).toNat (z6 + 1).toNat % 256 ∧ 0 ≤ z8 ∧ z8 ≤ 255) => ?_)
        refine And.intro (fun (h10 : (z8 = (1 : Int) : Prop)) => ?_) (fun (h10 : (z8 ≠ (1 : Int) : Prop)) => ?_)
        ·
          refine And.intro (show 0 ≤ c ∧ c < 285 by omega) ?_
          intro z11 (z11a : (-2147483648 : Int) ≤ z11) (z11b : z11 ≤ (2147483647 : Int)) (z11c : z11 = S 35 (t).toNat (c).toNat)
          intro z12 (z12a : (-2147483648 : Int) ≤ z12) (z12b : z12 ≤ (2147483647 : Int)) (z12c : z12 = S 4 j 3)
          refine And.intro (fun (h13 : (z11 ≠ z12 : Prop)) => ?_) (fun (h13 : (z11 = z12 : Prop)) => ?_)
          ·
            refine And.intro (show 0 ≤ (0 : Int) ∧ (0 : Int) ≤ 1 by omega) ?_
            exact hk (0 : Int) (by first | omega | (subst_vars; omega))
          ·
            refine c_Tape_versionAt (i := (t).toNat) (p := z6) (show 0 ≤ z6 ∧ z6 ≤ 5990 by omega) (fun (z14 : Int) (q15 : -2147483648 ≤ z14 ∧ z14 < 2147483648) => ?_)
            intro z16 (z16a : (-2147483648 : Int) ≤ z16) (z16b : z16 ≤ (2147483647 : Int)) (z16c : z16 = S 4 j 5)
            refine And.intro (fun (h17 : (z14 ≠ z16 : Prop)) => ?_) (fun (h17 : (z14 = z16 : Prop)) => ?_)
            ·
              refine And.intro (show 0 ≤ (0 : Int) ∧ (0 : Int) ≤ 1 by omega) ?_
              exact hk (0 : Int) (by first | omega | (subst_vars; omega))
            ·
              refine c_Tape_sizeAt (i := (t).toNat) (p := z6) (show 0 ≤ z6 ∧ z6 < 5986 ∧ z6 + 17 + 8 * (S 33 (t).toNat (z6 + 14).toNat % 256) ≤ 6000 by omega) (fun (z18 : Int) (q19 : z18 = sN S 33 (t).toNat (z6 + 15 + 8 * (S 33 (t).toNat (z6 + 14).toNat % 256)) 2 ∧ 0 ≤ z18 ∧ z18 ≤ 65535) => ?_)
              intro z20 (z20a : (0 : Int) ≤ z20) (z20b : z20 ≤ (1024 : Int)) (z20c : z20 = S 4 j 4)
              refine And.intro (fun (h21 : (z18 ≠ z20 : Prop)) => ?_) (fun (h21 : (z18 = z20 : Prop)) => ?_)
              ·
                refine And.intro (show 0 ≤ (0 : Int) ∧ (0 : Int) ≤ 1 by omega) ?_
                exact hk (0 : Int) (by first | omega | (subst_vars; omega))
              ·
                refine And.intro (show 0 ≤ (1 : Int) ∧ (1 : Int) ≤ 1 by omega) ?_
                exact hk (1 : Int) (by first | omega | (subst_vars; omega))
        ·
          refine And.intro (show 0 ≤ (0 : Int) ∧ (0 : Int) ≤ 1 by omega) ?_
          exact hk (0 : Int) (by first | omega | (subst_vars; omega))
      ·
        refine And.intro (show 0 ≤ (0 : Int) ∧ (0 : Int) ≤ 1 by omega) ?_
        exact hk (0 : Int) (by first | omega | (subst_vars; omega))
theorem z_Library_isCopyOfFile {l : Launch} {k : fxK} {S : fxS} {t : Int} {c : Int} (p0 : SegA S) (p1 : 0 ≤ t ∧ t ≤ 5) (p2 : 0 ≤ c ∧ c < 285) (hk : ∀ (r : Int) , (r = 0 ∨ r = 1) → k (some (.inl r)) S) : ∀ m : Nat, (∀ (p n : Int), (1 ≤ n ∧ n ≤ 60) → (0 ≤ p ∧ p ≤ 5979) → 61 - n ≤ (m : Int) → fZ l 197 k 15 [some (.inr (.inr (26, 0))), some (.inl t), some (.inl c), some (.inl p), some (.inl n), none] [] S) := by
  intro m
  induction m with
  | zero =>
    intro p n  i0 i1 hmu
    exfalso
    omega
  | succ m ih =>
    intro p n  i0 i1 hmu
    refine fxz_197 400 ?_
    refine And.intro (fun (h1 : ((60 : Int) ≤ n : Prop)) => ?_) (fun (h1 : (n < (60 : Int) : Prop)) => ?_)
    ·
      refine And.intro (show 0 ≤ (0 : Int) ∧ (0 : Int) ≤ 1 by omega) ?_
      exact hk (0 : Int) (by omega)
    ·
      refine And.intro (show 0 ≤ n ∧ n < 60 by omega) ?_
      refine And.intro (by decide) ?_
      intro z2 (z2a : (0 : Int) ≤ z2) (z2b : z2 ≤ (2 : Int)) (z2c : z2 = S 4 (n).toNat 0)
      refine And.intro (fun (h3 : (z2 ≠ (2 : Int) : Prop)) => ?_) (fun (h3 : (z2 = (2 : Int) : Prop)) => ?_)
      ·
        refine And.intro (by decide) (And.intro (show -2147483648 ≤ n + (1 : Int) ∧ n + (1 : Int) < 2147483648 by omega) ?_)
        exact ih p (n + (1 : Int))  (by omega) (by omega) (by omega)
      ·
        refine c_Node_copyAt (i := (n).toNat) (t := t) (p := p) (show -2147483648 ≤ t ∧ t < 2147483648 by omega) (show -2147483648 ≤ p ∧ p < 2147483648 by omega) (fun (z5 : Int) (q6 : -1 ≤ z5 ∧ z5 ≤ 1 ∧ (0 ≤ z5 → z5 < S 4 (n).toNat 7 ∧ 0 ≤ t ∧ t ≤ 5)) => ?_)
        refine And.intro (fun (h7 : (z5 < (0 : Int) : Prop)) => ?_) (fun (h7 : ((0 : Int) ≤ z5 : Prop)) => ?_)
        ·
          refine And.intro (by decide) (And.intro (show -2147483648 ≤ n + (1 : Int) ∧ n + (1 : Int) < 2147483648 by omega) ?_)
          exact ih p (n + (1 : Int))  (by omega) (by omega) (by omega)
        ·
          refine c_Library_fits (t := t) (c := c) (j := (n).toNat) p0 (show 0 ≤ t ∧ t ≤ 5 by omega) (show -2147483648 ≤ c ∧ c < 2147483648 by omega) (fun (z9 : Int) (q10 : 0 ≤ z9 ∧ z9 ≤ 1 ∧ (z9 = 1 → 0 ≤ c ∧ c < S 32 t.toNat 5 ∧ S 33 t.toNat (S 34 t.toNat c.toNat + 1).toNat % 256 = 1 ∧ sN S 33 t.toNat (S 34 t.toNat c.toNat + 15 + 8 * (S 33 t.toNat (S 34 t.toNat c.toNat + 14).toNat % 256)) 2 = S 4 (n).toNat 4)) => ?_)
          refine And.intro (fun (h11 : (z9 = (0 : Int) : Prop)) => ?_) (fun (h11 : (z9 ≠ (0 : Int) : Prop)) => ?_)
          ·
            refine And.intro (by decide) (And.intro (show -2147483648 ≤ n + (1 : Int) ∧ n + (1 : Int) < 2147483648 by omega) ?_)
            exact ih p (n + (1 : Int))  (by omega) (by omega) (by omega)
          ·
            refine And.intro (show 0 ≤ (1 : Int) ∧ (1 : Int) ≤ 1 by omega) ?_
            exact hk (1 : Int) (by omega)
theorem c_Library_isCopyOfFile {l : Launch} {k : fxK} {S : fxS} {t : Int} {c : Int} (p0 : SegA S) (p1 : 0 ≤ t ∧ t ≤ 5) (p2 : 0 ≤ c ∧ c < 285) (hk : ∀ (r : Int) , (r = 0 ∨ r = 1) → k (some (.inl r)) S) : fC l 197 [.inr (.inr (26, 0)), .inl t, .inl c] S k := by
  refine fxe_197 (Nat.le_of_ble_eq_true rfl) (fxz_197 400 ?_)
  refine And.intro (show 0 ≤ t ∧ t < 6 by omega) ?_
  refine And.intro (show 0 ≤ c ∧ c < 285 by omega) ?_
  intro z13 (z13a : (0 : Int) ≤ z13) (z13b : z13 ≤ (5979 : Int)) (z13c : z13 = S 34 (t).toNat (c).toNat)
  have s14 : ((t).toNat < 6 ∧ 0 ≤ c ∧ c < S 32 (t).toNat 5) → (8 ≤ z13 ∧ z13 + 21 + 8 * (S 33 (t).toNat (z13 + 14).toNat % 256) ≤ S 32 (t).toNat 1 ∧ S 32 (t).toNat 1 ≤ 6000 ∧ (S 33 (t).toNat (z13 + 14).toNat % 256) ≤ 5 ∧ (S 33 (t).toNat (z13 + 1).toNat % 256 = 1 ∨ S 33 (t).toNat (z13 + 1).toNat % 256 = 2) ∧ sN S 33 (t).toNat (z13 + 15 + 8 * (S 33 (t).toNat (z13 + 14).toNat % 256)) 2 ≤ 1024 ∧ (S 33 (t).toNat (z13 + 1).toNat % 256 = 1 → 1 ≤ (S 33 (t).toNat (z13 + 14).toNat % 256) ∧ z13 + 25 + 8 * (S 33 (t).toNat (z13 + 14).toNat % 256) + sN S 33 (t).toNat (z13 + 15 + 8 * (S 33 (t).toNat (z13 + 14).toNat % 256)) 2 ≤ S 32 (t).toNat 1)) := SegA_at (by assumption) z13c
  refine And.intro (by decide) ?_
  refine And.intro (by decide) ?_
  exact (z_Library_isCopyOfFile p0 p1 p2 hk (61 - (1 : Int)).toNat) z13 (1 : Int)  (by omega) (by omega) (by omega)
theorem z_Library_isLatest {l : Launch} {k : fxK} {S : fxS} {t : Int} {c : Int} (p0 : 0 ≤ t ∧ t ≤ 5) (p1 : 0 ≤ c ∧ c < 285) (hk : ∀ (r : Int) , (r = 0 ∨ r = 1) → k (some (.inl r)) S) : ∀ m : Nat, (∀ (d s e u : Int), (0 ≤ u ∧ u ≤ 6) → (0 ≤ e ∧ e ≤ 1) → (7 - u) * 1000 + 500 ≤ (m : Int) → fZ l 198 k 31 [some (.inr (.inr (26, 0))), some (.inl t), some (.inl c), some (.inl d), some (.inl s), some (.inl e), some (.inl u), none, none] [] S) ∧ (∀ (d s e u b : Int), (0 ≤ u ∧ u < 6) → (0 ≤ e ∧ e ≤ 1) → (0 ≤ b ∧ b ≤ 285) → (7 - u) * 1000 + 300 - b ≤ (m : Int) → fZ l 198 k 50 [some (.inr (.inr (26, 0))), some (.inl t), some (.inl c), some (.inl d), some (.inl s), some (.inl e), some (.inl u), some (.inr (.inr (32, (u).toNat))), some (.inl b)] [] S) := by
  intro m
  induction m with
  | zero =>
    refine ⟨?_, ?_⟩
    · intro d s e u  i0 i1 hmu
      exfalso
      omega
    · intro d s e u b  i0 i1 i2 hmu
      exfalso
      omega
  | succ m ih =>
    refine ⟨?_, ?_⟩
    · intro d s e u  i0 i1 hmu
      refine fxz_198 400 ?_
      refine And.intro (fun (h1 : ((6 : Int) ≤ u : Prop)) => ?_) (fun (h1 : (u < (6 : Int) : Prop)) => ?_)
      ·
        refine And.intro (fun (h2 : (e ≠ (0 : Int) : Prop)) => ?_) (fun (h2 : (e = (0 : Int) : Prop)) => ?_)
        ·
          refine And.intro (show 0 ≤ (1 : Int) ∧ (1 : Int) ≤ 1 by omega) ?_
          exact hk (1 : Int) (by omega)
        ·
          refine And.intro (show 0 ≤ t ∧ t < 6 by omega) ?_
          refine And.intro (show 0 ≤ t ∧ t < 6 by omega) ?_
          refine And.intro (show 0 ≤ c ∧ c < 285 by omega) ?_
          intro z3 (z3a : (0 : Int) ≤ z3) (z3b : z3 ≤ (5979 : Int)) (z3c : z3 = S 34 (t).toNat (c).toNat)
          refine c_Tape_sortAt (i := (t).toNat) (p := z3) (show 0 ≤ z3 ∧ z3 < 5999 by omega) (fun (z4 : Int) (q5 : z4 = S 33 (t).toNat (z3 + 1).toNat % 256 ∧ 0 ≤ z4 ∧ z4 ≤ 255) => ?_)
          refine And.intro (fun (h6 : (z4 ≠ (1 : Int) : Prop)) => ?_) (fun (h6 : (z4 = (1 : Int) : Prop)) => ?_)
          ·
            refine And.intro (show 0 ≤ (0 : Int) ∧ (0 : Int) ≤ 1 by omega) ?_
            exact hk (0 : Int) (by omega)
          ·
            refine And.intro (show 0 ≤ (1 : Int) ∧ (1 : Int) ≤ 1 by omega) ?_
            exact hk (1 : Int) (by omega)
      ·
        refine And.intro (show 0 ≤ u ∧ u < 6 by omega) ?_
        refine And.intro (by decide) ?_
        refine And.intro (by decide) ?_
        exact ih.2 d s e u (0 : Int)  (by omega) (by omega) (by omega) (by omega)
    · intro d s e u b  i0 i1 i2 hmu
      refine fxz_198 400 ?_
      intro z7 (z7a : (0 : Int) ≤ z7) (z7b : z7 ≤ (285 : Int)) (z7c : z7 = S 32 (u).toNat 5)
      refine And.intro (fun (h8 : (z7 ≤ b : Prop)) => ?_) (fun (h8 : (b < z7 : Prop)) => ?_)
      ·
        refine And.intro (by decide) (And.intro (show -2147483648 ≤ u + (1 : Int) ∧ u + (1 : Int) < 2147483648 by omega) ?_)
        exact ih.1 d s e (u + (1 : Int))  (by omega) (by omega) (by omega)
      ·
        refine And.intro (show 0 ≤ b ∧ b < 285 by omega) ?_
        intro z10 (z10a : (-2147483648 : Int) ≤ z10) (z10b : z10 ≤ (2147483647 : Int)) (z10c : z10 = S 35 (u).toNat (b).toNat)
        refine And.intro (fun (h11 : (z10 = d : Prop)) => ?_) (fun (h11 : (z10 ≠ d : Prop)) => ?_)
        ·
          refine And.intro (fun (h12 : (u = t : Prop)) => ?_) (fun (h12 : (u ≠ t : Prop)) => ?_)
          ·
            refine And.intro (show 0 ≤ b ∧ b < 285 by omega) ?_
            intro z13 (z13a : (0 : Int) ≤ z13) (z13b : z13 ≤ (1 : Int)) (z13c : z13 = S 37 (u).toNat (b).toNat)
            refine And.intro (fun (h14 : (z13 ≠ (0 : Int) : Prop)) => ?_) (fun (h14 : (z13 = (0 : Int) : Prop)) => ?_)
            ·
              refine And.intro (show 0 ≤ b ∧ b < 285 by omega) ?_
              intro z15 (z15a : (-2147483648 : Int) ≤ z15) (z15b : z15 ≤ (2147483647 : Int)) (z15c : z15 = S 36 (u).toNat (b).toNat)
              refine And.intro (fun (h16 : (s < z15 : Prop)) => ?_) (fun (h16 : (z15 ≤ s : Prop)) => ?_)
              ·
                refine And.intro (show 0 ≤ (0 : Int) ∧ (0 : Int) ≤ 1 by omega) ?_
                exact hk (0 : Int) (by omega)
              ·
                refine And.intro (fun (h17 : (u = t : Prop)) => ?_) (fun (h17 : (u ≠ t : Prop)) => ?_)
                ·
                  refine And.intro (by decide) (And.intro (show -2147483648 ≤ b + (1 : Int) ∧ b + (1 : Int) < 2147483648 by omega) ?_)
                  exact ih.2 d s e u (b + (1 : Int))  (by omega) (by omega) (by omega) (by omega)
                ·
                  refine And.intro (show 0 ≤ b ∧ b < 285 by omega) ?_
                  intro z19 (z19a : (-2147483648 : Int) ≤ z19) (z19b : z19 ≤ (2147483647 : Int)) (z19c : z19 = S 36 (u).toNat (b).toNat)
                  refine And.intro (fun (h20 : (z19 ≠ s : Prop)) => ?_) (fun (h20 : (z19 = s : Prop)) => ?_)
                  ·
                    refine And.intro (by decide) (And.intro (show -2147483648 ≤ b + (1 : Int) ∧ b + (1 : Int) < 2147483648 by omega) ?_)
                    exact ih.2 d s e u (b + (1 : Int))  (by omega) (by omega) (by omega) (by omega)
                  ·
                    refine And.intro (show 0 ≤ (0 : Int) ∧ (0 : Int) ≤ 1 by omega) ?_
                    exact hk (0 : Int) (by omega)
            ·
              refine And.intro (by decide) (And.intro (show -2147483648 ≤ b + (1 : Int) ∧ b + (1 : Int) < 2147483648 by omega) ?_)
              exact ih.2 d s e u (b + (1 : Int))  (by omega) (by omega) (by omega) (by omega)
          ·
            refine And.intro (by decide) ?_
            refine And.intro (show 0 ≤ b ∧ b < 285 by omega) ?_
            intro z23 (z23a : (0 : Int) ≤ z23) (z23b : z23 ≤ (1 : Int)) (z23c : z23 = S 37 (u).toNat (b).toNat)
            refine And.intro (fun (h24 : (z23 ≠ (0 : Int) : Prop)) => ?_) (fun (h24 : (z23 = (0 : Int) : Prop)) => ?_)
            ·
              refine And.intro (show 0 ≤ b ∧ b < 285 by omega) ?_
              intro z25 (z25a : (-2147483648 : Int) ≤ z25) (z25b : z25 ≤ (2147483647 : Int)) (z25c : z25 = S 36 (u).toNat (b).toNat)
              refine And.intro (fun (h26 : (s < z25 : Prop)) => ?_) (fun (h26 : (z25 ≤ s : Prop)) => ?_)
              ·
                refine And.intro (show 0 ≤ (0 : Int) ∧ (0 : Int) ≤ 1 by omega) ?_
                exact hk (0 : Int) (by omega)
              ·
                refine And.intro (fun (h27 : (u = t : Prop)) => ?_) (fun (h27 : (u ≠ t : Prop)) => ?_)
                ·
                  refine And.intro (by decide) (And.intro (show -2147483648 ≤ b + (1 : Int) ∧ b + (1 : Int) < 2147483648 by omega) ?_)
                  exact ih.2 d s (1 : Int) u (b + (1 : Int))  (by omega) (by omega) (by omega) (by omega)
                ·
                  refine And.intro (show 0 ≤ b ∧ b < 285 by omega) ?_
                  intro z29 (z29a : (-2147483648 : Int) ≤ z29) (z29b : z29 ≤ (2147483647 : Int)) (z29c : z29 = S 36 (u).toNat (b).toNat)
                  refine And.intro (fun (h30 : (z29 ≠ s : Prop)) => ?_) (fun (h30 : (z29 = s : Prop)) => ?_)
                  ·
                    refine And.intro (by decide) (And.intro (show -2147483648 ≤ b + (1 : Int) ∧ b + (1 : Int) < 2147483648 by omega) ?_)
                    exact ih.2 d s (1 : Int) u (b + (1 : Int))  (by omega) (by omega) (by omega) (by omega)
                  ·
                    refine And.intro (show 0 ≤ (0 : Int) ∧ (0 : Int) ≤ 1 by omega) ?_
                    exact hk (0 : Int) (by omega)
            ·
              refine And.intro (by decide) (And.intro (show -2147483648 ≤ b + (1 : Int) ∧ b + (1 : Int) < 2147483648 by omega) ?_)
              exact ih.2 d s (1 : Int) u (b + (1 : Int))  (by omega) (by omega) (by omega) (by omega)
        ·
          refine And.intro (by decide) (And.intro (show -2147483648 ≤ b + (1 : Int) ∧ b + (1 : Int) < 2147483648 by omega) ?_)
          exact ih.2 d s e u (b + (1 : Int))  (by omega) (by omega) (by omega) (by omega)
theorem c_Library_isLatest {l : Launch} {k : fxK} {S : fxS} {t : Int} {c : Int} (p0 : 0 ≤ t ∧ t ≤ 5) (p1 : 0 ≤ c ∧ c < 285) (hk : ∀ (r : Int) , (r = 0 ∨ r = 1) → k (some (.inl r)) S) : fC l 198 [.inr (.inr (26, 0)), .inl t, .inl c] S k := by
  refine fxe_198 (Nat.le_of_ble_eq_true rfl) (fxz_198 400 ?_)
  refine And.intro (show 0 ≤ t ∧ t < 6 by omega) ?_
  refine And.intro (show 0 ≤ c ∧ c < 285 by omega) ?_
  intro z34 (z34a : (-2147483648 : Int) ≤ z34) (z34b : z34 ≤ (2147483647 : Int)) (z34c : z34 = S 35 (t).toNat (c).toNat)
  refine And.intro (by decide) ?_
  refine And.intro (show 0 ≤ t ∧ t < 6 by omega) ?_
  refine And.intro (show 0 ≤ c ∧ c < 285 by omega) ?_
  intro z35 (z35a : (-2147483648 : Int) ≤ z35) (z35b : z35 ≤ (2147483647 : Int)) (z35c : z35 = S 36 (t).toNat (c).toNat)
  refine And.intro (by decide) ?_
  refine And.intro (by decide) ?_
  refine And.intro (by decide) ?_
  exact (z_Library_isLatest p0 p1 hk ((7 - (0 : Int)) * 1000 + 500).toNat).1 z34 z35 (0 : Int) (0 : Int)  (by omega) (by omega) (by omega)
theorem c_Library_isLive {l : Launch} {k : fxK} {S : fxS} {t : Int} {c : Int} (p0 : SegA S) (p1 : 0 ≤ t ∧ t ≤ 5) (p2 : -2147483648 ≤ c ∧ c < 2147483648) (hk : ∀ (r : Int) , (0 ≤ r ∧ r ≤ 1 ∧ (r = 1 → 0 ≤ c ∧ c < S 32 t.toNat 5)) → k (some (.inl r)) S) : fC l 199 [.inr (.inr (26, 0)), .inl t, .inl c] S k := by
  refine fxe_199 (Nat.le_of_ble_eq_true rfl) (fxz_199 400 ?_)
  refine And.intro (fun (h1 : (c < (0 : Int) : Prop)) => ?_) (fun (h1 : ((0 : Int) ≤ c : Prop)) => ?_)
  ·
    refine And.intro (show 0 ≤ (0 : Int) ∧ (0 : Int) ≤ 1 by omega) ?_
    exact hk (0 : Int) (by omega)
  ·
    refine And.intro (show 0 ≤ t ∧ t < 6 by omega) ?_
    intro z2 (z2a : (0 : Int) ≤ z2) (z2b : z2 ≤ (285 : Int)) (z2c : z2 = S 32 (t).toNat 5)
    refine And.intro (fun (h3 : (z2 ≤ c : Prop)) => ?_) (fun (h3 : (c < z2 : Prop)) => ?_)
    ·
      refine And.intro (show 0 ≤ (0 : Int) ∧ (0 : Int) ≤ 1 by omega) ?_
      exact hk (0 : Int) (by omega)
    ·
      refine And.intro (show 0 ≤ t ∧ t < 6 by omega) ?_
      refine And.intro (show 0 ≤ c ∧ c < 285 by omega) ?_
      intro z4 (z4a : (0 : Int) ≤ z4) (z4b : z4 ≤ (1 : Int)) (z4c : z4 = S 37 (t).toNat (c).toNat)
      refine And.intro (fun (h5 : (z4 ≠ (0 : Int) : Prop)) => ?_) (fun (h5 : (z4 = (0 : Int) : Prop)) => ?_)
      ·
        refine c_Library_isCopyOfFile (t := t) (c := c) p0 (show 0 ≤ t ∧ t ≤ 5 by omega) (show 0 ≤ c ∧ c < 285 by omega) (fun (z6 : Int) (q7 : z6 = 0 ∨ z6 = 1) => ?_)
        refine And.intro (fun (h8 : (z6 ≠ (0 : Int) : Prop)) => ?_) (fun (h8 : (z6 = (0 : Int) : Prop)) => ?_)
        ·
          refine And.intro (show 0 ≤ (1 : Int) ∧ (1 : Int) ≤ 1 by omega) ?_
          exact hk (1 : Int) (by omega)
        ·
          refine c_Library_isLatest (t := t) (c := c) (show 0 ≤ t ∧ t ≤ 5 by omega) (show 0 ≤ c ∧ c < 285 by omega) (fun (z9 : Int) (q10 : z9 = 0 ∨ z9 = 1) => ?_)
          refine And.intro (fun (h11 : (z9 = (0 : Int) : Prop)) => ?_) (fun (h11 : (z9 ≠ (0 : Int) : Prop)) => ?_)
          ·
            refine And.intro (show 0 ≤ (0 : Int) ∧ (0 : Int) ≤ 1 by omega) ?_
            exact hk (0 : Int) (by omega)
          ·
            refine And.intro (show 0 ≤ (1 : Int) ∧ (1 : Int) ≤ 1 by omega) ?_
            exact hk (1 : Int) (by omega)
      ·
        refine And.intro (show 0 ≤ (0 : Int) ∧ (0 : Int) ≤ 1 by omega) ?_
        exact hk (0 : Int) (by omega)
theorem z_Library_countLive {l : Launch} {k : fxK} {S : fxS} {t : Int} (p0 : SegA S) (p1 : 0 ≤ t ∧ t ≤ 5) (hk : ∀ (r : Int) , (0 ≤ r ∧ r ≤ 285) → k (some (.inl r)) S) : ∀ m : Nat, (∀ (u j : Int), (0 ≤ u ∧ u ≤ j) → (0 ≤ j ∧ j ≤ 285) → 286 - j ≤ (m : Int) → fZ l 302 k 4 [some (.inr (.inr (26, 0))), some (.inl t), some (.inl u), some (.inl j)] [] S) := by
  intro m
  induction m with
  | zero =>
    intro u j  i0 i1 hmu
    exfalso
    omega
  | succ m ih =>
    intro u j  i0 i1 hmu
    refine fxz_302 400 ?_
    refine And.intro (show 0 ≤ t ∧ t < 6 by omega) ?_
    intro z1 (z1a : (0 : Int) ≤ z1) (z1b : z1 ≤ (285 : Int)) (z1c : z1 = S 32 (t).toNat 5)
    refine And.intro (fun (h2 : (z1 ≤ j : Prop)) => ?_) (fun (h2 : (j < z1 : Prop)) => ?_)
    ·
      exact hk u (by omega)
    ·
      refine c_Library_isLive (t := t) (c := j) p0 (show 0 ≤ t ∧ t ≤ 5 by omega) (show -2147483648 ≤ j ∧ j < 2147483648 by omega) (fun (z3 : Int) (q4 : 0 ≤ z3 ∧ z3 ≤ 1 ∧ (z3 = 1 → 0 ≤ j ∧ j < S 32 t.toNat 5)) => ?_)
      refine And.intro (fun (h5 : (z3 = (0 : Int) : Prop)) => ?_) (fun (h5 : (z3 ≠ (0 : Int) : Prop)) => ?_)
      ·
        refine And.intro (by decide) (And.intro (show -2147483648 ≤ j + (1 : Int) ∧ j + (1 : Int) < 2147483648 by omega) ?_)
        exact ih u (j + (1 : Int))  (by omega) (by omega) (by omega)
      ·
        refine And.intro (by decide) (And.intro (show -2147483648 ≤ u + (1 : Int) ∧ u + (1 : Int) < 2147483648 by omega) ?_)
        refine And.intro (by decide) (And.intro (show -2147483648 ≤ j + (1 : Int) ∧ j + (1 : Int) < 2147483648 by omega) ?_)
        exact ih (u + (1 : Int)) (j + (1 : Int))  (by omega) (by omega) (by omega)
theorem c_Library_countLive {l : Launch} {k : fxK} {S : fxS} {t : Int} (p0 : SegA S) (p1 : 0 ≤ t ∧ t ≤ 5) (hk : ∀ (r : Int) , (0 ≤ r ∧ r ≤ 285) → k (some (.inl r)) S) : fC l 302 [.inr (.inr (26, 0)), .inl t] S k := by
  refine fxe_302 (Nat.le_of_ble_eq_true rfl) (fxz_302 400 ?_)
  refine And.intro (by decide) ?_
  refine And.intro (by decide) ?_
  exact (z_Library_countLive p0 p1 hk (286 - (0 : Int)).toNat) (0 : Int) (0 : Int)  (by omega) (by omega) (by omega)
theorem z_Library_nextLive {l : Launch} {k : fxK} {S : fxS} {t : Int} {p : Int} (p0 : SegA S) (p1 : 0 ≤ t ∧ t ≤ 5) (p2 : -2147483648 ≤ p ∧ p < 2147483648) (hk : ∀ (r : Int) , (-1 ≤ r ∧ r < 285 ∧ (0 ≤ r → r < S 32 t.toNat 5)) → k (some (.inl r)) S) : ∀ m : Nat, (∀ (j : Int), (0 ≤ j ∧ j ≤ 285) → 286 - j ≤ (m : Int) → fZ l 200 k 2 [some (.inr (.inr (26, 0))), some (.inl t), some (.inl p), some (.inl j)] [] S) := by
  intro m
  induction m with
  | zero =>
    intro j  i0 hmu
    exfalso
    omega
  | succ m ih =>
    intro j  i0 hmu
    refine fxz_200 400 ?_
    refine And.intro (show 0 ≤ t ∧ t < 6 by omega) ?_
    intro z1 (z1a : (0 : Int) ≤ z1) (z1b : z1 ≤ (285 : Int)) (z1c : z1 = S 32 (t).toNat 5)
    refine And.intro (fun (h2 : (z1 ≤ j : Prop)) => ?_) (fun (h2 : (j < z1 : Prop)) => ?_)
    ·
      exact hk (-1 : Int) (by omega)
    ·
      refine And.intro (show 0 ≤ t ∧ t < 6 by omega) ?_
      refine And.intro (show 0 ≤ j ∧ j < 285 by omega) ?_
      intro z3 (z3a : (0 : Int) ≤ z3) (z3b : z3 ≤ (5979 : Int)) (z3c : z3 = S 34 (t).toNat (j).toNat)
      have s4 : ((t).toNat < 6 ∧ 0 ≤ j ∧ j < S 32 (t).toNat 5) → (8 ≤ z3 ∧ z3 + 21 + 8 * (S 33 (t).toNat (z3 + 14).toNat % 256) ≤ S 32 (t).toNat 1 ∧ S 32 (t).toNat 1 ≤ 6000 ∧ (S 33 (t).toNat (z3 + 14).toNat % 256) ≤ 5 ∧ (S 33 (t).toNat (z3 + 1).toNat % 256 = 1 ∨ S 33 (t).toNat (z3 + 1).toNat % 256 = 2) ∧ sN S 33 (t).toNat (z3 + 15 + 8 * (S 33 (t).toNat (z3 + 14).toNat % 256)) 2 ≤ 1024 ∧ (S 33 (t).toNat (z3 + 1).toNat % 256 = 1 → 1 ≤ (S 33 (t).toNat (z3 + 14).toNat % 256) ∧ z3 + 25 + 8 * (S 33 (t).toNat (z3 + 14).toNat % 256) + sN S 33 (t).toNat (z3 + 15 + 8 * (S 33 (t).toNat (z3 + 14).toNat % 256)) 2 ≤ S 32 (t).toNat 1)) := SegA_at (by assumption) z3c
      refine And.intro (fun (h5 : (z3 < p : Prop)) => ?_) (fun (h5 : (p ≤ z3 : Prop)) => ?_)
      ·
        refine And.intro (by decide) (And.intro (show -2147483648 ≤ j + (1 : Int) ∧ j + (1 : Int) < 2147483648 by omega) ?_)
        exact ih (j + (1 : Int))  (by omega) (by omega)
      ·
        refine c_Library_isLive (t := t) (c := j) p0 (show 0 ≤ t ∧ t ≤ 5 by omega) (show -2147483648 ≤ j ∧ j < 2147483648 by omega) (fun (z7 : Int) (q8 : 0 ≤ z7 ∧ z7 ≤ 1 ∧ (z7 = 1 → 0 ≤ j ∧ j < S 32 t.toNat 5)) => ?_)
        refine And.intro (fun (h9 : (z7 = (0 : Int) : Prop)) => ?_) (fun (h9 : (z7 ≠ (0 : Int) : Prop)) => ?_)
        ·
          refine And.intro (by decide) (And.intro (show -2147483648 ≤ j + (1 : Int) ∧ j + (1 : Int) < 2147483648 by omega) ?_)
          exact ih (j + (1 : Int))  (by omega) (by omega)
        ·
          exact hk j (by omega)
theorem c_Library_nextLive {l : Launch} {k : fxK} {S : fxS} {t : Int} {p : Int} (p0 : SegA S) (p1 : 0 ≤ t ∧ t ≤ 5) (p2 : -2147483648 ≤ p ∧ p < 2147483648) (hk : ∀ (r : Int) , (-1 ≤ r ∧ r < 285 ∧ (0 ≤ r → r < S 32 t.toNat 5)) → k (some (.inl r)) S) : fC l 200 [.inr (.inr (26, 0)), .inl t, .inl p] S k := by
  refine fxe_200 (Nat.le_of_ble_eq_true rfl) (fxz_200 400 ?_)
  refine And.intro (by decide) ?_
  exact (z_Library_nextLive p0 p1 p2 hk (286 - (0 : Int)).toNat) (0 : Int)  (by omega) (by omega)
theorem c_Library_hasByte {l : Launch} {k : fxK} {S : fxS} {t : Int} {p : Int} (p0 : -2147483648 ≤ t ∧ t < 2147483648) (p1 : -2147483648 ≤ p ∧ p < 2147483648) (hk : ∀ (r : Int) , (0 ≤ r ∧ r ≤ 1 ∧ (r = 1 → 0 ≤ t ∧ t ≤ 5 ∧ 0 ≤ p ∧ p < 6000)) → k (some (.inl r)) S) : fC l 305 [.inr (.inr (26, 0)), .inl t, .inl p] S k := by
  refine fxe_305 (Nat.le_of_ble_eq_true rfl) (fxz_305 400 ?_)
  refine And.intro (fun (h1 : (t < (0 : Int) : Prop)) => ?_) (fun (h1 : ((0 : Int) ≤ t : Prop)) => ?_)
  ·
    refine And.intro (show 0 ≤ (0 : Int) ∧ (0 : Int) ≤ 1 by omega) ?_
    exact hk (0 : Int) (by omega)
  ·
    refine And.intro (fun (h2 : ((6 : Int) ≤ t : Prop)) => ?_) (fun (h2 : (t < (6 : Int) : Prop)) => ?_)
    ·
      refine And.intro (show 0 ≤ (0 : Int) ∧ (0 : Int) ≤ 1 by omega) ?_
      exact hk (0 : Int) (by omega)
    ·
      refine And.intro (fun (h3 : (p < (0 : Int) : Prop)) => ?_) (fun (h3 : ((0 : Int) ≤ p : Prop)) => ?_)
      ·
        refine And.intro (show 0 ≤ (0 : Int) ∧ (0 : Int) ≤ 1 by omega) ?_
        exact hk (0 : Int) (by omega)
      ·
        refine And.intro (show 0 ≤ t ∧ t < 6 by omega) ?_
        intro z4 (z4a : (0 : Int) ≤ z4) (z4b : z4 ≤ (6000 : Int)) (z4c : z4 = S 32 (t).toNat 1)
        refine And.intro (fun (h5 : (z4 ≤ p : Prop)) => ?_) (fun (h5 : (p < z4 : Prop)) => ?_)
        ·
          refine And.intro (show 0 ≤ (0 : Int) ∧ (0 : Int) ≤ 1 by omega) ?_
          exact hk (0 : Int) (by omega)
        ·
          refine And.intro (show 0 ≤ (1 : Int) ∧ (1 : Int) ≤ 1 by omega) ?_
          exact hk (1 : Int) (by omega)
theorem c_StubHouse_mustWriteDelete {l : Launch} {k : fxK} {S : fxS} {n : Int} (p0 : SegA S) (p1 : -2147483648 ≤ n ∧ n < 2147483648) (hk : ∀ (r : Int) (S' : fxS) , (fxfr [(32, 3), (32, 4), (32, 5), (34, 9999), (35, 9999), (36, 9999), (37, 9999)] S S' ∧ (r = 0 ∨ r = 1) ∧ (SegA S')) → k (some (.inl r)) S') : fC l 51 [.inr (.inr (0, 0)), .inl n] S k := by
  refine fxe_51 (Nat.le_of_ble_eq_true rfl) (fxz_51 400 ?_)
  refine c_Tree_isFile (n := n) (show -2147483648 ≤ n ∧ n < 2147483648 by omega) (fun (z1 : Int) (q2 : (z1 = 0 ∨ z1 = 1) ∧ (z1 = 1 → 0 ≤ n ∧ n < 60 ∧ S 4 (n).toNat 0 = 2)) => ?_)
  refine And.intro (fun (h3 : (z1 ≠ (0 : Int) : Prop)) => ?_) (fun (h3 : (z1 = (0 : Int) : Prop)) => ?_)
  ·
    refine c_Library_scanAll  p0 (fun (S4 : fxS) ⟨(f5 : fxfr [(32, 3), (32, 4), (32, 5), (34, 9999), (35, 9999), (36, 9999), (37, 9999)] S S4), (g6 : SegA S4)⟩ => ?_)
    refine And.intro (show 0 ≤ n ∧ n < 60 by omega) ?_
    intro z7 (z7a : (-2147483648 : Int) ≤ z7) (z7b : z7 ≤ (2147483647 : Int)) (z7c : z7 = S4 4 (n).toNat 3)
    refine And.intro (by decide) ?_
    refine c_Library_isFound (d := z7) (show -2147483648 ≤ z7 ∧ z7 < 2147483648 by omega) (fun (z8 : Int) (q9 : z8 = 0 ∨ z8 = 1) => ?_)
    refine And.intro (fun (h10 : (z8 ≠ (0 : Int) : Prop)) => ?_) (fun (h10 : (z8 = (0 : Int) : Prop)) => ?_)
    ·
      refine And.intro (show 0 ≤ (1 : Int) ∧ (1 : Int) ≤ 1 by omega) ?_
      exact hk (1 : Int) S4 ⟨(fxfr_tr fxfr_rfl f5 rfl), by omega, g6⟩
    ·
      refine c_Writer_isWriting (d := z7) (show -2147483648 ≤ z7 ∧ z7 < 2147483648 by omega) (fun (z11 : Int) (q12 : z11 = 0 ∨ z11 = 1) => ?_)
      refine And.intro (fun (h13 : (z11 = (0 : Int) : Prop)) => ?_) (fun (h13 : (z11 ≠ (0 : Int) : Prop)) => ?_)
      ·
        refine And.intro (show 0 ≤ (0 : Int) ∧ (0 : Int) ≤ 1 by omega) ?_
        exact hk (0 : Int) S4 ⟨(fxfr_tr fxfr_rfl f5 rfl), by omega, g6⟩
      ·
        refine And.intro (show 0 ≤ (1 : Int) ∧ (1 : Int) ≤ 1 by omega) ?_
        exact hk (1 : Int) S4 ⟨(fxfr_tr fxfr_rfl f5 rfl), by omega, g6⟩
  ·
    refine And.intro (show 0 ≤ (0 : Int) ∧ (0 : Int) ≤ 1 by omega) ?_
    exact hk (0 : Int) S ⟨fxfr_rfl, by omega, p0⟩
theorem c_StubHouse_remove {l : Launch} {k : fxK} {S : fxS} {n : Int} (p0 : SegA S) (p1 : TreeL S) (p2 : LCt S) (p3 : -2147483648 ≤ n ∧ n < 2147483648) (hk : ∀ (r : Int) (S' : fxS) , (fxfr [(4, 0), (4, 1), (4, 3), (4, 4), (4, 5), (4, 6), (4, 7), (4, 11), (4, 12), (7, 9999), (8, 4), (10, 9999), (11, 9999), (12, 9999), (13, 6), (13, 7), (13, 10), (15, 9999), (16, 9999), (17, 9999), (18, 9999), (19, 9999), (20, 0), (20, 1), (20, 3), (20, 4), (20, 5), (20, 6), (20, 7), (20, 11), (20, 12), (21, 9999), (22, 9999), (23, 9999), (24, 4), (25, 9999), (32, 3), (32, 4), (32, 5), (34, 9999), (35, 9999), (36, 9999), (37, 9999)] S S' ∧ (-2147483648 ≤ r ∧ r < 2147483648) ∧ (SegA S') ∧ (TreeL S') ∧ (LCt S')) → k (some (.inl r)) S') : fC l 60 [.inr (.inr (0, 0)), .inl n] S k := by
  refine fxe_60 (Nat.le_of_ble_eq_true rfl) (fxz_60 400 ?_)
  intro z1 (z1a : (0 : Int) ≤ z1) (z1b : z1 ≤ (1 : Int)) (z1c : z1 = S 0 0 10)
  refine And.intro (fun (h2 : (z1 = (0 : Int) : Prop)) => ?_) (fun (h2 : (z1 ≠ (0 : Int) : Prop)) => ?_)
  ·
    refine And.intro (fun (h3 : (n = (0 : Int) : Prop)) => ?_) (fun (h3 : (n ≠ (0 : Int) : Prop)) => ?_)
    ·
      exact hk (-1 : Int) S ⟨fxfr_rfl, by omega, p0, p1, p2⟩
    ·
      refine c_Tree_isThere (n := n) (show -2147483648 ≤ n ∧ n < 2147483648 by omega) (fun (z4 : Int) (q5 : (z4 = 0 ∨ z4 = 1) ∧ (z4 = 1 → 0 ≤ n ∧ n < 60 ∧ S 4 (n).toNat 0 ≠ 0)) => ?_)
      refine And.intro (fun (h6 : (z4 ≠ (0 : Int) : Prop)) => ?_) (fun (h6 : (z4 = (0 : Int) : Prop)) => ?_)
      ·
        refine c_Tree_hasNodes (n := n) (show -2147483648 ≤ n ∧ n < 2147483648 by omega) (fun (z7 : Int) (q8 : (z7 = 0 ∨ z7 = 1) ∧ (z7 = 0 → NoC n S)) => ?_)
        have nq : z7 = 0 → NoC n S := q8.2
        refine And.intro (fun (h9 : (z7 = (0 : Int) : Prop)) => ?_) (fun (h9 : (z7 ≠ (0 : Int) : Prop)) => ?_)
        ·
          have nc : NoC n S := nq (by omega)
          refine c_StubHouse_mustWriteDelete (n := n) p0 (show -2147483648 ≤ n ∧ n < 2147483648 by omega) (fun (z10 : Int) (S11 : fxS) ⟨(f12 : fxfr [(32, 3), (32, 4), (32, 5), (34, 9999), (35, 9999), (36, 9999), (37, 9999)] S S11), (q13 : z10 = 0 ∨ z10 = 1), (g14 : SegA S11)⟩ => ?_)
          have w15 : S11 0 0 10 = S 0 0 10 := f12 0 0 10 rfl
          have g16 : TreeL S11 := fx_pfr TreeL_stab f12 rfl p1
          have g17 : LCt S11 := fx_pfr LCt_stab f12 rfl p2
          have g18 : NoC n S11 := fx_pfr NoC_stab f12 rfl nc
          refine c_Changes_erase (n := n) (q := z10) (show 1 ≤ n ∧ n < 60 by omega) (show 0 ≤ z10 ∧ z10 ≤ 1 by omega) g18 g16 (fun (S19 : fxS) ⟨(f20 : fxfr [(4, 0), (4, 1), (4, 3), (4, 4), (4, 5), (4, 6), (4, 7), (4, 11), (4, 12), (7, 9999), (8, 4), (10, 9999), (11, 9999), (12, 9999), (13, 6), (13, 7), (13, 10), (15, 9999), (16, 9999), (17, 9999), (18, 9999), (19, 9999), (20, 0), (20, 1), (20, 3), (20, 4), (20, 5), (20, 6), (20, 7), (20, 11), (20, 12), (21, 9999), (22, 9999), (23, 9999), (24, 4), (25, 9999)] S11 S19), (g21 : TreeL S19)⟩ => ?_)
          have w22 : S19 0 0 10 = S11 0 0 10 := f20 0 0 10 rfl
          have g23 : SegA S19 := fx_pfr SegA_stab f20 rfl g14
          exact hk (0 : Int) S19 ⟨(fxfr_tr (fxfr_tr fxfr_rfl f12 rfl) f20 rfl), by omega, g23, g21, by first | assumption | exact Tree_keep (by assumption) (by assumption) (by assumption) | exact LCt_of (by omega)⟩
        ·
          exact hk (-6 : Int) S ⟨fxfr_rfl, by omega, p0, p1, p2⟩
      ·
        exact hk (-1 : Int) S ⟨fxfr_rfl, by omega, p0, p1, p2⟩
  ·
    exact hk (-8 : Int) S ⟨fxfr_rfl, by omega, p0, p1, p2⟩
theorem c_StubHouse_tape {l : Launch} {k : fxK} {S : fxS} {t : Int} {w : Int} (p0 : SegA S) (p1 : -2147483648 ≤ t ∧ t < 2147483648) (p2 : -2147483648 ≤ w ∧ w < 2147483648) (hk : ∀ (r : Int) (S' : fxS) , (fxfr [(32, 3), (32, 4), (32, 5), (34, 9999), (35, 9999), (36, 9999), (37, 9999)] S S' ∧ (-2147483648 ≤ r ∧ r < 2147483648) ∧ (SegA S')) → k (some (.inl r)) S') : fC l 303 [.inr (.inr (0, 0)), .inl t, .inl w] S k := by
  refine fxe_303 (Nat.le_of_ble_eq_true rfl) (fxz_303 400 ?_)
  refine And.intro (fun (h1 : (t < (0 : Int) : Prop)) => ?_) (fun (h1 : ((0 : Int) ≤ t : Prop)) => ?_)
  ·
    exact hk (-1 : Int) S ⟨fxfr_rfl, by omega, p0⟩
  ·
    refine And.intro (fun (h2 : (t < (6 : Int) : Prop)) => ?_) (fun (h2 : ((6 : Int) ≤ t : Prop)) => ?_)
    ·
      refine c_Library_scanAll  p0 (fun (S3 : fxS) ⟨(f4 : fxfr [(32, 3), (32, 4), (32, 5), (34, 9999), (35, 9999), (36, 9999), (37, 9999)] S S3), (g5 : SegA S3)⟩ => ?_)
      refine And.intro (show 0 ≤ t ∧ t < 6 by omega) ?_
      refine And.intro (by decide) ?_
      refine And.intro (fun (h6 : w = (0 : Int)) => ?_) (fun (h6 : w ≠ (0 : Int)) => ?_)
      ·
        intro z7 (z7a : (0 : Int) ≤ z7) (z7b : z7 ≤ (6000 : Int)) (z7c : z7 = S3 32 (t).toNat 1)
        exact hk z7 S3 ⟨(fxfr_tr fxfr_rfl f4 rfl), by omega, g5⟩
      refine And.intro (fun (h8 : w = (1 : Int)) => ?_) (fun (h8 : w ≠ (1 : Int)) => ?_)
      ·
        intro z9 (z9a : (0 : Int) ≤ z9) (z9b : z9 ≤ (65535 : Int)) (z9c : z9 = S3 32 (t).toNat 2)
        exact hk z9 S3 ⟨(fxfr_tr fxfr_rfl f4 rfl), by omega, g5⟩
      refine And.intro (fun (h10 : w = (2 : Int)) => ?_) (fun (h10 : w ≠ (2 : Int)) => ?_)
      ·
        intro z11 (z11a : (0 : Int) ≤ z11) (z11b : z11 ≤ (285 : Int)) (z11c : z11 = S3 32 (t).toNat 5)
        exact hk z11 S3 ⟨(fxfr_tr fxfr_rfl f4 rfl), by omega, g5⟩
      refine And.intro (fun (h12 : w = (3 : Int)) => ?_) (fun (h12 : w ≠ (3 : Int)) => ?_)
      ·
        intro z13 (z13a : (0 : Int) ≤ z13) (z13b : z13 ≤ (285 : Int)) (z13c : z13 = S3 32 (t).toNat 5)
        refine c_Tape_countGood (i := (t).toNat)  (fun (z14 : Int) (q15 : 0 ≤ z14 ∧ z14 ≤ 285) => ?_)
        refine And.intro (show -2147483648 ≤ (z13 - z14) ∧ (z13 - z14) < 2147483648 by omega) ?_
        exact hk (z13 - z14) S3 ⟨(fxfr_tr fxfr_rfl f4 rfl), by omega, g5⟩
      refine And.intro (fun (h16 : w = (4 : Int)) => ?_) (fun (h16 : w ≠ (4 : Int)) => ?_)
      ·
        refine c_Library_countLive (t := t) g5 (show 0 ≤ t ∧ t ≤ 5 by omega) (fun (z17 : Int) (q18 : 0 ≤ z17 ∧ z17 ≤ 285) => ?_)
        exact hk z17 S3 ⟨(fxfr_tr fxfr_rfl f4 rfl), by omega, g5⟩
      exact hk (-1 : Int) S3 ⟨(fxfr_tr fxfr_rfl f4 rfl), by omega, g5⟩
    ·
      exact hk (-1 : Int) S ⟨fxfr_rfl, by omega, p0⟩
theorem c_StubHouse_byteOf {l : Launch} {k : fxK} {S : fxS} {t : Int} {p : Int} (p0 : -2147483648 ≤ t ∧ t < 2147483648) (p1 : -2147483648 ≤ p ∧ p < 2147483648) (hk : ∀ (r : Int) , (-2147483648 ≤ r ∧ r < 2147483648) → k (some (.inl r)) S) : fC l 306 [.inr (.inr (0, 0)), .inl t, .inl p] S k := by
  refine fxe_306 (Nat.le_of_ble_eq_true rfl) (fxz_306 400 ?_)
  refine c_Library_hasByte (t := t) (p := p) (show -2147483648 ≤ t ∧ t < 2147483648 by omega) (show -2147483648 ≤ p ∧ p < 2147483648 by omega) (fun (z1 : Int) (q2 : 0 ≤ z1 ∧ z1 ≤ 1 ∧ (z1 = 1 → 0 ≤ t ∧ t ≤ 5 ∧ 0 ≤ p ∧ p < 6000)) => ?_)
  refine And.intro (fun (h3 : (z1 ≠ (0 : Int) : Prop)) => ?_) (fun (h3 : (z1 = (0 : Int) : Prop)) => ?_)
  ·
    refine And.intro (show 0 ≤ t ∧ t < 6 by omega) ?_
    refine c_Tape_byteAt (i := (t).toNat) (p := p) (show 0 ≤ p ∧ p < 6000 by omega) (fun (z4 : Int) (q5 : z4 = S 33 (t).toNat p.toNat % 256 ∧ 0 ≤ z4 ∧ z4 ≤ 255) => ?_)
    exact hk z4 (by omega)
  ·
    exact hk (-1 : Int) (by omega)
theorem c_StubHouse_segment {l : Launch} {k : fxK} {S : fxS} {t : Int} {c : Int} {w : Int} (p0 : SegA S) (p1 : -2147483648 ≤ t ∧ t < 2147483648) (p2 : -2147483648 ≤ c ∧ c < 2147483648) (p3 : -2147483648 ≤ w ∧ w < 2147483648) (hk : ∀ (r : Int) (S' : fxS) , (fxfr [(32, 3), (32, 4), (32, 5), (34, 9999), (35, 9999), (36, 9999), (37, 9999)] S S' ∧ (-2147483648 ≤ r ∧ r < 2147483648) ∧ (SegA S')) → k (some (.inl r)) S') : fC l 312 [.inr (.inr (0, 0)), .inl t, .inl c, .inl w] S k := by
  refine fxe_312 (Nat.le_of_ble_eq_true rfl) (fxz_312 400 ?_)
  refine And.intro (fun (h1 : (t < (0 : Int) : Prop)) => ?_) (fun (h1 : ((0 : Int) ≤ t : Prop)) => ?_)
  ·
    exact hk (-1 : Int) S ⟨fxfr_rfl, by omega, p0⟩
  ·
    refine And.intro (fun (h2 : ((6 : Int) ≤ t : Prop)) => ?_) (fun (h2 : (t < (6 : Int) : Prop)) => ?_)
    ·
      exact hk (-1 : Int) S ⟨fxfr_rfl, by omega, p0⟩
    ·
      refine And.intro (fun (h3 : (c < (0 : Int) : Prop)) => ?_) (fun (h3 : ((0 : Int) ≤ c : Prop)) => ?_)
      ·
        exact hk (-1 : Int) S ⟨fxfr_rfl, by omega, p0⟩
      ·
        refine And.intro (fun (h4 : (w < (0 : Int) : Prop)) => ?_) (fun (h4 : ((0 : Int) ≤ w : Prop)) => ?_)
        ·
          exact hk (-1 : Int) S ⟨fxfr_rfl, by omega, p0⟩
        ·
          refine And.intro (fun (h5 : (w ≤ (8 : Int) : Prop)) => ?_) (fun (h5 : ((8 : Int) < w : Prop)) => ?_)
          ·
            refine c_Library_scanAll  p0 (fun (S6 : fxS) ⟨(f7 : fxfr [(32, 3), (32, 4), (32, 5), (34, 9999), (35, 9999), (36, 9999), (37, 9999)] S S6), (g8 : SegA S6)⟩ => ?_)
            refine And.intro (show 0 ≤ t ∧ t < 6 by omega) ?_
            refine And.intro (by decide) ?_
            intro z9 (z9a : (0 : Int) ≤ z9) (z9b : z9 ≤ (285 : Int)) (z9c : z9 = S6 32 (t).toNat 5)
            refine And.intro (fun (h10 : (c < z9 : Prop)) => ?_) (fun (h10 : (z9 ≤ c : Prop)) => ?_)
            ·
              refine And.intro (show 0 ≤ c ∧ c < 285 by omega) ?_
              intro z11 (z11a : (0 : Int) ≤ z11) (z11b : z11 ≤ (5979 : Int)) (z11c : z11 = S6 34 (t).toNat (c).toNat)
              have s12 : ((t).toNat < 6 ∧ 0 ≤ c ∧ c < S6 32 (t).toNat 5) → (8 ≤ z11 ∧ z11 + 21 + 8 * (S6 33 (t).toNat (z11 + 14).toNat % 256) ≤ S6 32 (t).toNat 1 ∧ S6 32 (t).toNat 1 ≤ 6000 ∧ (S6 33 (t).toNat (z11 + 14).toNat % 256) ≤ 5 ∧ (S6 33 (t).toNat (z11 + 1).toNat % 256 = 1 ∨ S6 33 (t).toNat (z11 + 1).toNat % 256 = 2) ∧ sN S6 33 (t).toNat (z11 + 15 + 8 * (S6 33 (t).toNat (z11 + 14).toNat % 256)) 2 ≤ 1024 ∧ (S6 33 (t).toNat (z11 + 1).toNat % 256 = 1 → 1 ≤ (S6 33 (t).toNat (z11 + 14).toNat % 256) ∧ z11 + 25 + 8 * (S6 33 (t).toNat (z11 + 14).toNat % 256) + sN S6 33 (t).toNat (z11 + 15 + 8 * (S6 33 (t).toNat (z11 + 14).toNat % 256)) 2 ≤ S6 32 (t).toNat 1)) := SegA_at (by assumption) z11c
              refine And.intro (by decide) ?_
              refine And.intro (fun (h13 : w = (0 : Int)) => ?_) (fun (h13 : w ≠ (0 : Int)) => ?_)
              ·
                exact hk z11 S6 ⟨(fxfr_tr fxfr_rfl f7 rfl), by omega, g8⟩
              refine And.intro (fun (h14 : w = (1 : Int)) => ?_) (fun (h14 : w ≠ (1 : Int)) => ?_)
              ·
                refine c_Tape_sortAt (i := (t).toNat) (p := z11) (show 0 ≤ z11 ∧ z11 < 5999 by omega) (fun (z15 : Int) (q16 : z15 = S6 33 (t).toNat (z11 + 1).toNat % 256 ∧ 0 ≤ z15 ∧ z15 ≤ 255) => ?_)
                exact hk z15 S6 ⟨(fxfr_tr fxfr_rfl f7 rfl), by omega, g8⟩
              refine And.intro (fun (h17 : w = (2 : Int)) => ?_) (fun (h17 : w ≠ (2 : Int)) => ?_)
              ·
                refine And.intro (show 0 ≤ c ∧ c < 285 by omega) ?_
                intro z18 (z18a : (-2147483648 : Int) ≤ z18) (z18b : z18 ≤ (2147483647 : Int)) (z18c : z18 = S6 35 (t).toNat (c).toNat)
                exact hk z18 S6 ⟨(fxfr_tr fxfr_rfl f7 rfl), by omega, g8⟩
              refine And.intro (fun (h19 : w = (3 : Int)) => ?_) (fun (h19 : w ≠ (3 : Int)) => ?_)
              ·
                refine c_Tape_versionAt (i := (t).toNat) (p := z11) (show 0 ≤ z11 ∧ z11 ≤ 5990 by omega) (fun (z20 : Int) (q21 : -2147483648 ≤ z20 ∧ z20 < 2147483648) => ?_)
                exact hk z20 S6 ⟨(fxfr_tr fxfr_rfl f7 rfl), by omega, g8⟩
              refine And.intro (fun (h22 : w = (4 : Int)) => ?_) (fun (h22 : w ≠ (4 : Int)) => ?_)
              ·
                refine And.intro (show 0 ≤ c ∧ c < 285 by omega) ?_
                intro z23 (z23a : (-2147483648 : Int) ≤ z23) (z23b : z23 ≤ (2147483647 : Int)) (z23c : z23 = S6 36 (t).toNat (c).toNat)
                exact hk z23 S6 ⟨(fxfr_tr fxfr_rfl f7 rfl), by omega, g8⟩
              refine And.intro (fun (h24 : w = (5 : Int)) => ?_) (fun (h24 : w ≠ (5 : Int)) => ?_)
              ·
                refine c_Tape_depthAt (i := (t).toNat) (p := z11) (show 0 ≤ z11 ∧ z11 < 5986 by omega) (fun (z25 : Int) (q26 : z25 = (S6 33 (t).toNat (z11 + 14).toNat % 256) ∧ 0 ≤ z25 ∧ z25 ≤ 255) => ?_)
                exact hk z25 S6 ⟨(fxfr_tr fxfr_rfl f7 rfl), by omega, g8⟩
              refine And.intro (fun (h27 : w = (6 : Int)) => ?_) (fun (h27 : w ≠ (6 : Int)) => ?_)
              ·
                refine c_Tape_sizeAt (i := (t).toNat) (p := z11) (show 0 ≤ z11 ∧ z11 < 5986 ∧ z11 + 17 + 8 * (S6 33 (t).toNat (z11 + 14).toNat % 256) ≤ 6000 by omega) (fun (z28 : Int) (q29 : z28 = sN S6 33 (t).toNat (z11 + 15 + 8 * (S6 33 (t).toNat (z11 + 14).toNat % 256)) 2 ∧ 0 ≤ z28 ∧ z28 ≤ 65535) => ?_)
                exact hk z28 S6 ⟨(fxfr_tr fxfr_rfl f7 rfl), by omega, g8⟩
              refine And.intro (fun (h30 : w = (7 : Int)) => ?_) (fun (h30 : w ≠ (7 : Int)) => ?_)
              ·
                refine And.intro (show 0 ≤ c ∧ c < 285 by omega) ?_
                intro z31 (z31a : (0 : Int) ≤ z31) (z31b : z31 ≤ (1 : Int)) (z31c : z31 = S6 37 (t).toNat (c).toNat)
                refine And.intro (fun (h32 : (z31 = (0 : Int) : Prop)) => ?_) (fun (h32 : (z31 ≠ (0 : Int) : Prop)) => ?_)
                ·
                  exact hk (0 : Int) S6 ⟨(fxfr_tr fxfr_rfl f7 rfl), by omega, g8⟩
                ·
                  exact hk (1 : Int) S6 ⟨(fxfr_tr fxfr_rfl f7 rfl), by omega, g8⟩
              refine c_Library_isLive (t := t) (c := c) g8 (show 0 ≤ t ∧ t ≤ 5 by omega) (show -2147483648 ≤ c ∧ c < 2147483648 by omega) (fun (z33 : Int) (q34 : 0 ≤ z33 ∧ z33 ≤ 1 ∧ (z33 = 1 → 0 ≤ c ∧ c < S6 32 t.toNat 5)) => ?_)
              refine And.intro (fun (h35 : (z33 = (0 : Int) : Prop)) => ?_) (fun (h35 : (z33 ≠ (0 : Int) : Prop)) => ?_)
              ·
                exact hk (0 : Int) S6 ⟨(fxfr_tr fxfr_rfl f7 rfl), by omega, g8⟩
              ·
                exact hk (1 : Int) S6 ⟨(fxfr_tr fxfr_rfl f7 rfl), by omega, g8⟩
            ·
              exact hk (-2 : Int) S6 ⟨(fxfr_tr fxfr_rfl f7 rfl), by omega, g8⟩
          ·
            exact hk (-1 : Int) S ⟨fxfr_rfl, by omega, p0⟩
theorem c_StubHouse_marks {l : Launch} {k : fxK} {S : fxS} {s : Int} {h : Int} {lo : Int} (p0 : -2147483648 ≤ s ∧ s < 2147483648) (p1 : -2147483648 ≤ h ∧ h < 2147483648) (p2 : -2147483648 ≤ lo ∧ lo < 2147483648) (hk : ∀ (r : Int) (S' : fxS) , (fxfr [(45, 9999), (46, 9999)] S S' ∧ (-2147483648 ≤ r ∧ r < 2147483648)) → k (some (.inl r)) S') : fC l 131 [.inr (.inr (0, 0)), .inl s, .inl h, .inl lo] S k := by
  refine fxe_131 (Nat.le_of_ble_eq_true rfl) (fxz_131 400 ?_)
  refine And.intro (fun (h1 : (s = (0 : Int) : Prop)) => ?_) (fun (h1 : (s ≠ (0 : Int) : Prop)) => ?_)
  ·
    refine And.intro (fun (h2 : (s ≠ (0 : Int) : Prop)) => ?_) (fun (h2 : (s = (0 : Int) : Prop)) => ?_)
    ·
      refine And.intro (by decide) ?_
      refine And.intro (fun (h3 : (h < (0 : Int) : Prop)) => ?_) (fun (h3 : ((0 : Int) ≤ h : Prop)) => ?_)
      ·
        exact hk (-1 : Int) S ⟨fxfr_rfl, by omega⟩
      ·
        refine And.intro (fun (h4 : ((160 : Int) < h : Prop)) => ?_) (fun (h4 : (h ≤ (160 : Int) : Prop)) => ?_)
        ·
          exact hk (-1 : Int) S ⟨fxfr_rfl, by omega⟩
        ·
          refine And.intro (fun (h5 : (lo < (0 : Int) : Prop)) => ?_) (fun (h5 : ((0 : Int) ≤ lo : Prop)) => ?_)
          ·
            exact hk (-1 : Int) S ⟨fxfr_rfl, by omega⟩
          ·
            refine And.intro (fun (h6 : (lo ≤ h : Prop)) => ?_) (fun (h6 : (h < lo : Prop)) => ?_)
            ·
              refine And.intro (show 0 ≤ s ∧ s < 2 by omega) ?_
              intro z7 (z7a : (0 : Int) ≤ z7) (z7b : z7 ≤ (160 : Int)) (z7c : z7 = S 45 0 (s).toNat)
              refine And.intro (by decide) ?_
              refine And.intro (show 0 ≤ s ∧ s < 2 by omega) ?_
              refine And.intro (show (0 : Int) ≤ h ∧ h ≤ (160 : Int) by omega) ?_
              refine And.intro (show 0 ≤ s ∧ s < 2 by omega) ?_
              refine And.intro (show (0 : Int) ≤ lo ∧ lo ≤ (160 : Int) by omega) ?_
              exact hk z7 (fx_up (fx_up S 45 0 (s).toNat h) 46 0 (s).toNat lo) ⟨(fxfr_up (fxfr_up fxfr_rfl rfl) rfl), by omega⟩
            ·
              exact hk (-1 : Int) S ⟨fxfr_rfl, by omega⟩
    ·
      refine And.intro (by decide) ?_
      refine And.intro (fun (h8 : (h < (0 : Int) : Prop)) => ?_) (fun (h8 : ((0 : Int) ≤ h : Prop)) => ?_)
      ·
        exact hk (-1 : Int) S ⟨fxfr_rfl, by omega⟩
      ·
        refine And.intro (fun (h9 : ((48 : Int) < h : Prop)) => ?_) (fun (h9 : (h ≤ (48 : Int) : Prop)) => ?_)
        ·
          exact hk (-1 : Int) S ⟨fxfr_rfl, by omega⟩
        ·
          refine And.intro (fun (h10 : (lo < (0 : Int) : Prop)) => ?_) (fun (h10 : ((0 : Int) ≤ lo : Prop)) => ?_)
          ·
            exact hk (-1 : Int) S ⟨fxfr_rfl, by omega⟩
          ·
            refine And.intro (fun (h11 : (lo ≤ h : Prop)) => ?_) (fun (h11 : (h < lo : Prop)) => ?_)
            ·
              refine And.intro (show 0 ≤ s ∧ s < 2 by omega) ?_
              intro z12 (z12a : (0 : Int) ≤ z12) (z12b : z12 ≤ (160 : Int)) (z12c : z12 = S 45 0 (s).toNat)
              refine And.intro (by decide) ?_
              refine And.intro (show 0 ≤ s ∧ s < 2 by omega) ?_
              refine And.intro (show (0 : Int) ≤ h ∧ h ≤ (160 : Int) by omega) ?_
              refine And.intro (show 0 ≤ s ∧ s < 2 by omega) ?_
              refine And.intro (show (0 : Int) ≤ lo ∧ lo ≤ (160 : Int) by omega) ?_
              exact hk z12 (fx_up (fx_up S 45 0 (s).toNat h) 46 0 (s).toNat lo) ⟨(fxfr_up (fxfr_up fxfr_rfl rfl) rfl), by omega⟩
            ·
              exact hk (-1 : Int) S ⟨fxfr_rfl, by omega⟩
  ·
    refine And.intro (fun (h13 : (s = (1 : Int) : Prop)) => ?_) (fun (h13 : (s ≠ (1 : Int) : Prop)) => ?_)
    ·
      refine And.intro (fun (h14 : (s ≠ (0 : Int) : Prop)) => ?_) (fun (h14 : (s = (0 : Int) : Prop)) => ?_)
      ·
        refine And.intro (by decide) ?_
        refine And.intro (fun (h15 : (h < (0 : Int) : Prop)) => ?_) (fun (h15 : ((0 : Int) ≤ h : Prop)) => ?_)
        ·
          exact hk (-1 : Int) S ⟨fxfr_rfl, by omega⟩
        ·
          refine And.intro (fun (h16 : ((160 : Int) < h : Prop)) => ?_) (fun (h16 : (h ≤ (160 : Int) : Prop)) => ?_)
          ·
            exact hk (-1 : Int) S ⟨fxfr_rfl, by omega⟩
          ·
            refine And.intro (fun (h17 : (lo < (0 : Int) : Prop)) => ?_) (fun (h17 : ((0 : Int) ≤ lo : Prop)) => ?_)
            ·
              exact hk (-1 : Int) S ⟨fxfr_rfl, by omega⟩
            ·
              refine And.intro (fun (h18 : (lo ≤ h : Prop)) => ?_) (fun (h18 : (h < lo : Prop)) => ?_)
              ·
                refine And.intro (show 0 ≤ s ∧ s < 2 by omega) ?_
                intro z19 (z19a : (0 : Int) ≤ z19) (z19b : z19 ≤ (160 : Int)) (z19c : z19 = S 45 0 (s).toNat)
                refine And.intro (by decide) ?_
                refine And.intro (show 0 ≤ s ∧ s < 2 by omega) ?_
                refine And.intro (show (0 : Int) ≤ h ∧ h ≤ (160 : Int) by omega) ?_
                refine And.intro (show 0 ≤ s ∧ s < 2 by omega) ?_
                refine And.intro (show (0 : Int) ≤ lo ∧ lo ≤ (160 : Int) by omega) ?_
                exact hk z19 (fx_up (fx_up S 45 0 (s).toNat h) 46 0 (s).toNat lo) ⟨(fxfr_up (fxfr_up fxfr_rfl rfl) rfl), by omega⟩
              ·
                exact hk (-1 : Int) S ⟨fxfr_rfl, by omega⟩
      ·
        refine And.intro (by decide) ?_
        refine And.intro (fun (h20 : (h < (0 : Int) : Prop)) => ?_) (fun (h20 : ((0 : Int) ≤ h : Prop)) => ?_)
        ·
          exact hk (-1 : Int) S ⟨fxfr_rfl, by omega⟩
        ·
          refine And.intro (fun (h21 : ((48 : Int) < h : Prop)) => ?_) (fun (h21 : (h ≤ (48 : Int) : Prop)) => ?_)
          ·
            exact hk (-1 : Int) S ⟨fxfr_rfl, by omega⟩
          ·
            refine And.intro (fun (h22 : (lo < (0 : Int) : Prop)) => ?_) (fun (h22 : ((0 : Int) ≤ lo : Prop)) => ?_)
            ·
              exact hk (-1 : Int) S ⟨fxfr_rfl, by omega⟩
            ·
              refine And.intro (fun (h23 : (lo ≤ h : Prop)) => ?_) (fun (h23 : (h < lo : Prop)) => ?_)
              ·
                refine And.intro (show 0 ≤ s ∧ s < 2 by omega) ?_
                intro z24 (z24a : (0 : Int) ≤ z24) (z24b : z24 ≤ (160 : Int)) (z24c : z24 = S 45 0 (s).toNat)
                refine And.intro (by decide) ?_
                refine And.intro (show 0 ≤ s ∧ s < 2 by omega) ?_
                refine And.intro (show (0 : Int) ≤ h ∧ h ≤ (160 : Int) by omega) ?_
                refine And.intro (show 0 ≤ s ∧ s < 2 by omega) ?_
                refine And.intro (show (0 : Int) ≤ lo ∧ lo ≤ (160 : Int) by omega) ?_
                exact hk z24 (fx_up (fx_up S 45 0 (s).toNat h) 46 0 (s).toNat lo) ⟨(fxfr_up (fxfr_up fxfr_rfl rfl) rfl), by omega⟩
              ·
                exact hk (-1 : Int) S ⟨fxfr_rfl, by omega⟩
    ·
      exact hk (-1 : Int) S ⟨fxfr_rfl, by omega⟩
theorem c_StubHouse_reclaim {l : Launch} {k : fxK} {S : fxS} {t : Int} (p0 : -2147483648 ≤ t ∧ t < 2147483648) (hk : ∀ (r : Int) (S' : fxS) , (fxfr [(38, 12), (38, 13), (38, 15)] S S' ∧ (-2147483648 ≤ r ∧ r < 2147483648)) → k (some (.inl r)) S') : fC l 292 [.inr (.inr (0, 0)), .inl t] S k := by
  refine fxe_292 (Nat.le_of_ble_eq_true rfl) (fxz_292 400 ?_)
  intro z1 (z1a : (0 : Int) ≤ z1) (z1b : z1 ≤ (1 : Int)) (z1c : z1 = S 0 0 10)
  refine And.intro (fun (h2 : (z1 = (0 : Int) : Prop)) => ?_) (fun (h2 : (z1 ≠ (0 : Int) : Prop)) => ?_)
  ·
    refine And.intro (fun (h3 : (t < (0 : Int) : Prop)) => ?_) (fun (h3 : ((0 : Int) ≤ t : Prop)) => ?_)
    ·
      exact hk (-1 : Int) S ⟨fxfr_rfl, by omega⟩
    ·
      refine And.intro (fun (h4 : (t < (6 : Int) : Prop)) => ?_) (fun (h4 : ((6 : Int) ≤ t : Prop)) => ?_)
      ·
        intro z5 (z5a : (-1 : Int) ≤ z5) (z5b : z5 ≤ (5 : Int)) (z5c : z5 = S 38 0 12)
        refine And.intro (fun (h6 : ((0 : Int) ≤ z5 : Prop)) => ?_) (fun (h6 : (z5 < (0 : Int) : Prop)) => ?_)
        ·
          exact hk (-6 : Int) S ⟨fxfr_rfl, by omega⟩
        ·
          refine And.intro (show 0 ≤ t ∧ t < 6 by omega) ?_
          intro z7 (z7a : (0 : Int) ≤ z7) (z7b : z7 ≤ (6000 : Int)) (z7c : z7 = S 32 (t).toNat 1)
          refine And.intro (fun (h8 : (z7 ≠ (0 : Int) : Prop)) => ?_) (fun (h8 : (z7 = (0 : Int) : Prop)) => ?_)
          ·
            refine c_Reader_beginReclaim (t := t) (show 0 ≤ t ∧ t ≤ 5 by omega) (fun (S9 : fxS) (f10 : fxfr [(38, 12), (38, 13), (38, 15)] S S9) => ?_)
            exact hk (0 : Int) S9 ⟨(fxfr_tr fxfr_rfl f10 rfl), by omega⟩
          ·
            exact hk (-6 : Int) S ⟨fxfr_rfl, by omega⟩
      ·
        exact hk (-1 : Int) S ⟨fxfr_rfl, by omega⟩
  ·
    exact hk (-8 : Int) S ⟨fxfr_rfl, by omega⟩
theorem c_StubHouse_move {l : Launch} {k : fxK} {S : fxS} {n : Int} {o : Int} {x : Int} (p0 : TreeL S) (p1 : LCt S) (p2 : -2147483648 ≤ n ∧ n < 2147483648) (p3 : -2147483648 ≤ o ∧ o < 2147483648) (hk : ∀ (r : Int) (S' : fxS) , (fxfr [(4, 1), (8, 4), (10, 9999), (11, 9999), (13, 6), (13, 7), (13, 10), (15, 9999), (16, 9999), (17, 9999), (18, 9999), (19, 9999), (20, 0), (20, 1), (20, 3), (20, 4), (20, 5), (20, 6), (20, 7), (20, 11), (20, 12), (21, 9999), (22, 9999), (23, 9999)] S S' ∧ (-2147483648 ≤ r ∧ r < 2147483648) ∧ (TreeL S') ∧ (LCt S')) → k (some (.inl r)) S') : fC l 82 [.inr (.inr (0, 0)), .inl n, .inl o, .inr (.inl x)] S k := by
  refine fxe_82 (Nat.le_of_ble_eq_true rfl) (fxz_82 400 ?_)
  intro z1 (z1a : (0 : Int) ≤ z1) (z1b : z1 ≤ (1 : Int)) (z1c : z1 = S 0 0 10)
  refine And.intro (fun (h2 : (z1 = (0 : Int) : Prop)) => ?_) (fun (h2 : (z1 ≠ (0 : Int) : Prop)) => ?_)
  ·
    refine And.intro (fun (h3 : (n = (0 : Int) : Prop)) => ?_) (fun (h3 : (n ≠ (0 : Int) : Prop)) => ?_)
    ·
      exact hk (-1 : Int) S ⟨fxfr_rfl, by omega, p0, p1⟩
    ·
      refine c_Tree_isThere (n := n) (show -2147483648 ≤ n ∧ n < 2147483648 by omega) (fun (z4 : Int) (q5 : (z4 = 0 ∨ z4 = 1) ∧ (z4 = 1 → 0 ≤ n ∧ n < 60 ∧ S 4 (n).toNat 0 ≠ 0)) => ?_)
      refine And.intro (fun (h6 : (z4 = (0 : Int) : Prop)) => ?_) (fun (h6 : (z4 ≠ (0 : Int) : Prop)) => ?_)
      ·
        exact hk (-1 : Int) S ⟨fxfr_rfl, by omega, p0, p1⟩
      ·
        refine c_Tree_isDirectory (n := o) (show -2147483648 ≤ o ∧ o < 2147483648 by omega) (fun (z7 : Int) (q8 : (z7 = 0 ∨ z7 = 1) ∧ (z7 = 1 → 0 ≤ o ∧ o < 60 ∧ S 4 (o).toNat 0 = 1)) => ?_)
        refine And.intro (fun (h9 : (z7 = (0 : Int) : Prop)) => ?_) (fun (h9 : (z7 ≠ (0 : Int) : Prop)) => ?_)
        ·
          exact hk (-1 : Int) S ⟨fxfr_rfl, by omega, p0, p1⟩
        ·
          intro z10 (z10a : 0 ≤ z10) (z10b : z10 ≤ 1)
          refine And.intro (fun (h11 : (z10 ≠ (0 : Int) : Prop)) => ?_) (fun (h11 : (z10 = (0 : Int) : Prop)) => ?_)
          ·
            refine c_Tree_seek (n := o) (x := x) (show -2147483648 ≤ o ∧ o < 2147483648 by omega) (fun (z12 : Int) (q13 : -1 ≤ z12 ∧ z12 < 60 ∧ z12 ≠ 0 ∧ (0 ≤ z12 → S 4 (z12).toNat 0 ≠ 0 ∧ S 4 (z12).toNat 1 = o)) => ?_)
            refine And.intro (by decide) ?_
            refine And.intro (fun (h14 : (z12 < (0 : Int) : Prop)) => ?_) (fun (h14 : ((0 : Int) ≤ z12 : Prop)) => ?_)
            ·
              refine c_Tree_isWithin (n := o) (t := n) (show 0 ≤ o ∧ o < 60 by omega) (show -2147483648 ≤ n ∧ n < 2147483648 by omega) (fun (z15 : Int) (q16 : (z15 = 0 ∨ z15 = 1) ∧ (z15 = 1 → wiF (fun m => S 4 m 1) n 60 o = true) ∧ (z15 = 0 → wiF (fun m => S 4 m 1) n 60 o = false)) => ?_)
              have wq : z15 = 0 → wiF (fun m => S 4 m 1) n 60 o = false := q16.2.2
              refine And.intro (fun (h17 : (z15 = (0 : Int) : Prop)) => ?_) (fun (h17 : (z15 ≠ (0 : Int) : Prop)) => ?_)
              ·
                refine c_Tree_depthOf (n := o) (show 0 ≤ o ∧ o < 60 by omega) (fun (z18 : Int) (q19 : 0 ≤ z18 ∧ z18 ≤ 60 ∧ z18 = (depF (fun m => S 4 m 1) 60 o : Int)) => ?_)
                refine And.intro (show -2147483648 ≤ (z18 + (1 : Int)) ∧ (z18 + (1 : Int)) < 2147483648 by omega) ?_
                refine c_Tree_heightOf (n := n) (show 0 ≤ n ∧ n < 60 by omega) (fun (z20 : Int) (q21 : 0 ≤ z20 ∧ z20 ≤ 60 ∧ HGJ S n z20 60) => ?_)
                have hq : HGJ S n z20 60 := q21.2.2
                refine And.intro (show -2147483648 ≤ ((z18 + (1 : Int)) + z20) ∧ ((z18 + (1 : Int)) + z20) < 2147483648 by omega) ?_
                refine And.intro (fun (h22 : (((z18 + (1 : Int)) + z20) ≤ (5 : Int) : Prop)) => ?_) (fun (h22 : ((5 : Int) < ((z18 + (1 : Int)) + z20) : Prop)) => ?_)
                ·
                  have mv : MvO n o S := ⟨by omega, by omega, wq (by omega), _, hq, by omega⟩
                  refine c_Changes_rename (n := n) (o := o) (x := x) (show 1 ≤ n ∧ n < 60 by omega) (show 0 ≤ o ∧ o < 60 by omega) mv p0 (fun (S23 : fxS) ⟨(f24 : fxfr [(4, 1), (8, 4), (10, 9999), (11, 9999), (13, 6), (13, 7), (13, 10), (15, 9999), (16, 9999), (17, 9999), (18, 9999), (19, 9999), (20, 0), (20, 1), (20, 3), (20, 4), (20, 5), (20, 6), (20, 7), (20, 11), (20, 12), (21, 9999), (22, 9999), (23, 9999)] S S23), (g25 : TreeL S23)⟩ => ?_)
                  have w26 : S23 0 0 10 = S 0 0 10 := f24 0 0 10 rfl
                  exact hk (0 : Int) S23 ⟨(fxfr_tr fxfr_rfl f24 rfl), by omega, g25, by first | assumption | exact Tree_keep (by assumption) (by assumption) (by assumption) | exact LCt_of (by omega)⟩
                ·
                  exact hk (-3 : Int) S ⟨fxfr_rfl, by omega, p0, p1⟩
              ·
                exact hk (-6 : Int) S ⟨fxfr_rfl, by omega, p0, p1⟩
            ·
              refine And.intro (fun (h27 : (z12 = n : Prop)) => ?_) (fun (h27 : (z12 ≠ n : Prop)) => ?_)
              ·
                refine c_Tree_isWithin (n := o) (t := n) (show 0 ≤ o ∧ o < 60 by omega) (show -2147483648 ≤ n ∧ n < 2147483648 by omega) (fun (z28 : Int) (q29 : (z28 = 0 ∨ z28 = 1) ∧ (z28 = 1 → wiF (fun m => S 4 m 1) n 60 o = true) ∧ (z28 = 0 → wiF (fun m => S 4 m 1) n 60 o = false)) => ?_)
                have wq : z28 = 0 → wiF (fun m => S 4 m 1) n 60 o = false := q29.2.2
                refine And.intro (fun (h30 : (z28 = (0 : Int) : Prop)) => ?_) (fun (h30 : (z28 ≠ (0 : Int) : Prop)) => ?_)
                ·
                  refine c_Tree_depthOf (n := o) (show 0 ≤ o ∧ o < 60 by omega) (fun (z31 : Int) (q32 : 0 ≤ z31 ∧ z31 ≤ 60 ∧ z31 = (depF (fun m => S 4 m 1) 60 o : Int)) => ?_)
                  refine And.intro (show -2147483648 ≤ (z31 + (1 : Int)) ∧ (z31 + (1 : Int)) < 2147483648 by omega) ?_
                  refine c_Tree_heightOf (n := n) (show 0 ≤ n ∧ n < 60 by omega) (fun (z33 : Int) (q34 : 0 ≤ z33 ∧ z33 ≤ 60 ∧ HGJ S n z33 60) => ?_)
                  have hq : HGJ S n z33 60 := q34.2.2
                  refine And.intro (show -2147483648 ≤ ((z31 + (1 : Int)) + z33) ∧ ((z31 + (1 : Int)) + z33) < 2147483648 by omega) ?_
                  refine And.intro (fun (h35 : (((z31 + (1 : Int)) + z33) ≤ (5 : Int) : Prop)) => ?_) (fun (h35 : ((5 : Int) < ((z31 + (1 : Int)) + z33) : Prop)) => ?_)
                  ·
                    have mv : MvO n o S := ⟨by omega, by omega, wq (by omega), _, hq, by omega⟩
                    refine c_Changes_rename (n := n) (o := o) (x := x) (show 1 ≤ n ∧ n < 60 by omega) (show 0 ≤ o ∧ o < 60 by omega) mv p0 (fun (S36 : fxS) ⟨(f37 : fxfr [(4, 1), (8, 4), (10, 9999), (11, 9999), (13, 6), (13, 7), (13, 10), (15, 9999), (16, 9999), (17, 9999), (18, 9999), (19, 9999), (20, 0), (20, 1), (20, 3), (20, 4), (20, 5), (20, 6), (20, 7), (20, 11), (20, 12), (21, 9999), (22, 9999), (23, 9999)] S S36), (g38 : TreeL S36)⟩ => ?_)
                    have w39 : S36 0 0 10 = S 0 0 10 := f37 0 0 10 rfl
                    exact hk (0 : Int) S36 ⟨(fxfr_tr fxfr_rfl f37 rfl), by omega, g38, by first | assumption | exact Tree_keep (by assumption) (by assumption) (by assumption) | exact LCt_of (by omega)⟩
                  ·
                    exact hk (-3 : Int) S ⟨fxfr_rfl, by omega, p0, p1⟩
                ·
                  exact hk (-6 : Int) S ⟨fxfr_rfl, by omega, p0, p1⟩
              ·
                exact hk (-7 : Int) S ⟨fxfr_rfl, by omega, p0, p1⟩
          ·
            exact hk (-1 : Int) S ⟨fxfr_rfl, by omega, p0, p1⟩
  ·
    exact hk (-8 : Int) S ⟨fxfr_rfl, by omega, p0, p1⟩
