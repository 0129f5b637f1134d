/-! contracts: nodes, stores of the class -/
theorem z_Tree_heightOf {l : Launch} {k : fxK} {S : fxS} {n : Int} (p0 : 0 ≤ n ∧ n < 60) (hk : ∀ (r : Int) , (0 ≤ r ∧ r ≤ 60 ∧ HGJ S n r 60) → k (some (.inl r)) S) : ∀ m : Nat, (∀ (h b j : Int), (1 ≤ j ∧ j ≤ 60) → (0 ≤ h ∧ h ≤ 60) → (0 ≤ b ∧ b ≤ 60) → (b = (depF (fun m => S 4 m 1) 60 n : Int)) → (HGJ S n h j) → 61 - j ≤ (m : Int) → fZ l 80 k 11 [some (.inr (.inr (2, 0))), some (.inl n), some (.inl h), some (.inl b), some (.inl j)] [] S) := by
  intro m
  induction m with
  | zero =>
    intro h b j  i0 i1 i2 i3 i4 hmu
    exfalso
    omega
  | succ m ih =>
    intro h b j  i0 i1 i2 i3 i4 hmu
    refine fxz_80 400 ?_
    refine And.intro (fun (h1 : ((60 : Int) ≤ j : Prop)) => ?_) (fun (h1 : (j < (60 : Int) : Prop)) => ?_)
    ·
      exact hk h (by exact ⟨by omega, by omega, fun m h1 h2 => i4 m h1 (by omega)⟩)
    ·
      refine And.intro (show 0 ≤ j ∧ j < 60 by omega) ?_
      intro z2 (z2a : (0 : Int) ≤ z2) (z2b : z2 ≤ (2 : Int)) (z2c : z2 = S 4 (j).toNat 0)
      refine And.intro (fun (h3 : (z2 = (0 : Int) : Prop)) => ?_) (fun (h3 : (z2 ≠ (0 : Int) : Prop)) => ?_)
      ·
        refine And.intro (by decide) (And.intro (show -2147483648 ≤ j + (1 : Int) ∧ j + (1 : Int) < 2147483648 by omega) ?_)
        exact ih h b (j + (1 : Int))  (by first | omega | exact HG_0 | exact HG_step i4 (by omega) (by omega) (fun u v => by first | omega | (rw [wf (by omega)] at v; cases v))) (by first | omega | exact HG_0 | exact HG_step i4 (by omega) (by omega) (fun u v => by first | omega | (rw [wf (by omega)] at v; cases v))) (by first | omega | exact HG_0 | exact HG_step i4 (by omega) (by omega) (fun u v => by first | omega | (rw [wf (by omega)] at v; cases v))) (by first | omega | exact HG_0 | exact HG_step i4 (by omega) (by omega) (fun u v => by first | omega | (rw [wf (by omega)] at v; cases v))) (by first | omega | exact HG_0 | exact HG_step i4 (by omega) (by omega) (fun u v => by first | omega | (rw [wf (by omega)] at v; cases v))) (by omega)
      ·
        refine c_Tree_isWithin (n := j) (t := n) (show 0 ≤ j ∧ j < 60 by omega) (show -2147483648 ≤ n ∧ n < 2147483648 by omega) (fun (z5 : Int) (q6 : (z5 = 0 ∨ z5 = 1) ∧ (z5 = 1 → wiF (fun m => S 4 m 1) n 60 j = true) ∧ (z5 = 0 → wiF (fun m => S 4 m 1) n 60 j = false)) => ?_)
        have wf : z5 = 0 → wiF (fun m => S 4 m 1) n 60 j = false := q6.2.2
        refine And.intro (fun (h7 : (z5 = (0 : Int) : Prop)) => ?_) (fun (h7 : (z5 ≠ (0 : Int) : Prop)) => ?_)
        ·
          refine And.intro (by decide) (And.intro (show -2147483648 ≤ j + (1 : Int) ∧ j + (1 : Int) < 2147483648 by omega) ?_)
          exact ih h b (j + (1 : Int))  (by first | omega | exact HG_0 | exact HG_step i4 (by omega) (by omega) (fun u v => by first | omega | (rw [wf (by omega)] at v; cases v))) (by first | omega | exact HG_0 | exact HG_step i4 (by omega) (by omega) (fun u v => by first | omega | (rw [wf (by omega)] at v; cases v))) (by first | omega | exact HG_0 | exact HG_step i4 (by omega) (by omega) (fun u v => by first | omega | (rw [wf (by omega)] at v; cases v))) (by first | omega | exact HG_0 | exact HG_step i4 (by omega) (by omega) (fun u v => by first | omega | (rw [wf (by omega)] at v; cases v))) (by first | omega | exact HG_0 | exact HG_step i4 (by omega) (by omega) (fun u v => by first | omega | (rw [wf (by omega)] at v; cases v))) (by omega)
        ·
          refine c_Tree_depthOf (n := j) (show 0 ≤ j ∧ j < 60 by omega) (fun (z9 : Int) (q10 : 0 ≤ z9 ∧ z9 ≤ 60 ∧ z9 = (depF (fun m => S 4 m 1) 60 j : Int)) => ?_)
          refine And.intro (show -2147483648 ≤ (z9 - b) ∧ (z9 - b) < 2147483648 by omega) ?_
          intro z11 (z11a : h ≤ z11) (z11b : (z9 - b) ≤ z11) (z11c : z11 = h ∨ z11 = (z9 - b))
          refine And.intro (by decide) ?_
          refine And.intro (by decide) (And.intro (show -2147483648 ≤ j + (1 : Int) ∧ j + (1 : Int) < 2147483648 by omega) ?_)
          exact ih z11 b (j + (1 : Int))  (by first | omega | exact HG_0 | exact HG_step i4 (by omega) (by omega) (fun u v => by first | omega | (rw [wf (by omega)] at v; cases v))) (by first | omega | exact HG_0 | exact HG_step i4 (by omega) (by omega) (fun u v => by first | omega | (rw [wf (by omega)] at v; cases v))) (by first | omega | exact HG_0 | exact HG_step i4 (by omega) (by omega) (fun u v => by first | omega | (rw [wf (by omega)] at v; cases v))) (by first | omega | exact HG_0 | exact HG_step i4 (by omega) (by omega) (fun u v => by first | omega | (rw [wf (by omega)] at v; cases v))) (by first | omega | exact HG_0 | exact HG_step i4 (by omega) (by omega) (fun u v => by first | omega | (rw [wf (by omega)] at v; cases v))) (by omega)
theorem c_Tree_heightOf {l : Launch} {k : fxK} {S : fxS} {n : Int} (p0 : 0 ≤ n ∧ n < 60) (hk : ∀ (r : Int) , (0 ≤ r ∧ r ≤ 60 ∧ HGJ S n r 60) → k (some (.inl r)) S) : fC l 80 [.inr (.inr (2, 0)), .inl n] S k := by
  refine fxe_80 (Nat.le_of_ble_eq_true rfl) (fxz_80 400 ?_)
  refine And.intro (by decide) ?_
  refine c_Tree_depthOf (n := n) (show 0 ≤ n ∧ n < 60 by omega) (fun (z13 : Int) (q14 : 0 ≤ z13 ∧ z13 ≤ 60 ∧ z13 = (depF (fun m => S 4 m 1) 60 n : Int)) => ?_)
  refine And.intro (by decide) ?_
  refine And.intro (by decide) ?_
  exact (z_Tree_heightOf p0 hk (61 - (1 : Int)).toNat) (0 : Int) z13 (1 : Int)  (by first | omega | exact HG_0 | exact HG_step i4 (by omega) (by omega) (fun u v => by first | omega | (rw [wf (by omega)] at v; cases v))) (by first | omega | exact HG_0 | exact HG_step i4 (by omega) (by omega) (fun u v => by first | omega | (rw [wf (by omega)] at v; cases v))) (by first | omega | exact HG_0 | exact HG_step i4 (by omega) (by omega) (fun u v => by first | omega | (rw [wf (by omega)] at v; cases v))) (by first | omega | exact HG_0 | exact HG_step i4 (by omega) (by omega) (fun u v => by first | omega | (rw [wf (by omega)] at v; cases v))) (by first | omega | exact HG_0 | exact HG_step i4 (by omega) (by omega) (fun u v => by first | omega | (rw [wf (by omega)] at v; cases v))) (by omega)
theorem c_Tree_hasItsCopies {l : Launch} {k : fxK} {S : fxS} {j : Nat}  (hk : ∀ (r : Int) , (r = 0 ∨ r = 1) → k (some (.inl r)) S) : fC l 118 [.inr (.inr (2, 0)), .inr (.inr (4, j))] S k := by
  refine fxe_118 (Nat.le_of_ble_eq_true rfl) (fxz_118 400 ?_)
  intro z1 (z1a : (0 : Int) ≤ z1) (z1b : z1 ≤ (2 : Int)) (z1c : z1 = S 4 j 7)
  intro z2 (z2a : (1 : Int) ≤ z2) (z2b : z2 ≤ (2 : Int)) (z2c : z2 = S 2 0 4)
  refine And.intro (fun (h3 : (z1 < z2 : Prop)) => ?_) (fun (h3 : (z2 ≤ z1 : Prop)) => ?_)
  ·
    refine And.intro (show 0 ≤ (0 : Int) ∧ (0 : Int) ≤ 1 by omega) ?_
    exact hk (0 : Int) (by omega)
  ·
    refine And.intro (show 0 ≤ (1 : Int) ∧ (1 : Int) ≤ 1 by omega) ?_
    exact hk (1 : Int) (by omega)
theorem z_Node_copyAt {l : Launch} {k : fxK} {S : fxS} {i : Nat} {t : Int} {p : Int} (p0 : -2147483648 ≤ t ∧ t < 2147483648) (p1 : -2147483648 ≤ p ∧ p < 2147483648) (hk : ∀ (r : Int) , (-1 ≤ r ∧ r ≤ 1 ∧ (0 ≤ r → r < S 4 i 7 ∧ 0 ≤ t ∧ t ≤ 5)) → k (some (.inl r)) S) : ∀ m : Nat, (∀ (j : Int), (0 ≤ j ∧ j ≤ 2) → 3 - j ≤ (m : Int) → fZ l 196 k 2 [some (.inr (.inr (4, i))), some (.inl t), some (.inl p), some (.inl j)] [] S) := by
  intro m
  induction m with
  | zero =>
    intro j  i0 hmu
    exfalso
    omega
  | succ m ih =>
    intro j  i0 hmu
    refine fxz_196 400 ?_
    intro z1 (z1a : (0 : Int) ≤ z1) (z1b : z1 ≤ (2 : Int)) (z1c : z1 = S 4 i 7)
    refine And.intro (fun (h2 : (z1 ≤ j : Prop)) => ?_) (fun (h2 : (j < z1 : Prop)) => ?_)
    ·
      exact hk (-1 : Int) (by omega)
    ·
      refine And.intro (show 0 ≤ j ∧ j < 2 by omega) ?_
      intro z3 (z3a : (0 : Int) ≤ z3) (z3b : z3 ≤ (5 : Int)) (z3c : z3 = S 5 i (j).toNat)
      refine And.intro (fun (h4 : (z3 ≠ t : Prop)) => ?_) (fun (h4 : (z3 = t : Prop)) => ?_)
      ·
        refine And.intro (by decide) (And.intro (show -2147483648 ≤ j + (1 : Int) ∧ j + (1 : Int) < 2147483648 by omega) ?_)
        exact ih (j + (1 : Int))  (by omega) (by omega)
      ·
        refine And.intro (show 0 ≤ j ∧ j < 2 by omega) ?_
        intro z6 (z6a : (0 : Int) ≤ z6) (z6b : z6 ≤ (6000 : Int)) (z6c : z6 = S 6 i (j).toNat)
        refine And.intro (fun (h7 : (z6 ≠ p : Prop)) => ?_) (fun (h7 : (z6 = p : Prop)) => ?_)
        ·
          refine And.intro (by decide) (And.intro (show -2147483648 ≤ j + (1 : Int) ∧ j + (1 : Int) < 2147483648 by omega) ?_)
          exact ih (j + (1 : Int))  (by omega) (by omega)
        ·
          exact hk j (by omega)
theorem c_Node_copyAt {l : Launch} {k : fxK} {S : fxS} {i : Nat} {t : Int} {p : Int} (p0 : -2147483648 ≤ t ∧ t < 2147483648) (p1 : -2147483648 ≤ p ∧ p < 2147483648) (hk : ∀ (r : Int) , (-1 ≤ r ∧ r ≤ 1 ∧ (0 ≤ r → r < S 4 i 7 ∧ 0 ≤ t ∧ t ≤ 5)) → k (some (.inl r)) S) : fC l 196 [.inr (.inr (4, i)), .inl t, .inl p] S k := by
  refine fxe_196 (Nat.le_of_ble_eq_true rfl) (fxz_196 400 ?_)
  refine And.intro (by decide) ?_
  exact (z_Node_copyAt p0 p1 hk (3 - (0 : Int)).toNat) (0 : Int)  (by omega) (by omega)
theorem z_Node_hasCopyOn {l : Launch} {k : fxK} {S : fxS} {i : Nat} {t : Int} (p0 : -2147483648 ≤ t ∧ t < 2147483648) (hk : ∀ (r : Int) , (r = 0 ∨ r = 1) → k (some (.inl r)) S) : ∀ m : Nat, (∀ (j : Int), (0 ≤ j ∧ j ≤ 2) → 3 - j ≤ (m : Int) → fZ l 220 k 2 [some (.inr (.inr (4, i))), some (.inl t), some (.inl j)] [] S) := by
  intro m
  induction m with
  | zero =>
    intro j  i0 hmu
    exfalso
    omega
  | succ m ih =>
    intro j  i0 hmu
    refine fxz_220 400 ?_
    intro z1 (z1a : (0 : Int) ≤ z1) (z1b : z1 ≤ (2 : Int)) (z1c : z1 = S 4 i 7)
    refine And.intro (fun (h2 : (z1 ≤ j : Prop)) => ?_) (fun (h2 : (j < z1 : Prop)) => ?_)
    ·
      refine And.intro (show 0 ≤ (0 : Int) ∧ (0 : Int) ≤ 1 by omega) ?_
      exact hk (0 : Int) (by omega)
    ·
      refine And.intro (show 0 ≤ j ∧ j < 2 by omega) ?_
      intro z3 (z3a : (0 : Int) ≤ z3) (z3b : z3 ≤ (5 : Int)) (z3c : z3 = S 5 i (j).toNat)
      refine And.intro (fun (h4 : (z3 ≠ t : Prop)) => ?_) (fun (h4 : (z3 = t : Prop)) => ?_)
      ·
        refine And.intro (by decide) (And.intro (show -2147483648 ≤ j + (1 : Int) ∧ j + (1 : Int) < 2147483648 by omega) ?_)
        exact ih (j + (1 : Int))  (by omega) (by omega)
      ·
        refine And.intro (show 0 ≤ (1 : Int) ∧ (1 : Int) ≤ 1 by omega) ?_
        exact hk (1 : Int) (by omega)
theorem c_Node_hasCopyOn {l : Launch} {k : fxK} {S : fxS} {i : Nat} {t : Int} (p0 : -2147483648 ≤ t ∧ t < 2147483648) (hk : ∀ (r : Int) , (r = 0 ∨ r = 1) → k (some (.inl r)) S) : fC l 220 [.inr (.inr (4, i)), .inl t] S k := by
  refine fxe_220 (Nat.le_of_ble_eq_true rfl) (fxz_220 400 ?_)
  refine And.intro (by decide) ?_
  exact (z_Node_hasCopyOn p0 hk (3 - (0 : Int)).toNat) (0 : Int)  (by omega) (by omega)
theorem z_Tree_ownerOf {l : Launch} {k : fxK} {S : fxS} {t : Int} {p : Int} (p0 : -2147483648 ≤ t ∧ t < 2147483648) (p1 : -2147483648 ≤ p ∧ p < 2147483648) (hk : ∀ (r : Int) , (-1 ≤ r ∧ r < 60 ∧ r ≠ 0) → k (some (.inl r)) S) : ∀ m : Nat, (∀ (j : Int), (1 ≤ j ∧ j ≤ 60) → 61 - j ≤ (m : Int) → fZ l 230 k 2 [some (.inr (.inr (2, 0))), some (.inl t), some (.inl p), some (.inl j)] [] S) := by
  intro m
  induction m with
  | zero =>
    intro j  i0 hmu
    exfalso
    omega
  | succ m ih =>
    intro j  i0 hmu
    refine fxz_230 400 ?_
    refine And.intro (fun (h1 : ((60 : Int) ≤ j : Prop)) => ?_) (fun (h1 : (j < (60 : Int) : Prop)) => ?_)
    ·
      exact hk (-1 : Int) (by omega)
    ·
      refine And.intro (show 0 ≤ j ∧ j < 60 by omega) ?_
      intro z2 (z2a : (0 : Int) ≤ z2) (z2b : z2 ≤ (2 : Int)) (z2c : z2 = S 4 (j).toNat 0)
      refine And.intro (fun (h3 : (z2 ≠ (2 : Int) : Prop)) => ?_) (fun (h3 : (z2 = (2 : Int) : Prop)) => ?_)
      ·
        refine And.intro (by decide) (And.intro (show -2147483648 ≤ j + (1 : Int) ∧ j + (1 : Int) < 2147483648 by omega) ?_)
        exact ih (j + (1 : Int))  (by omega) (by omega)
      ·
        refine And.intro (show 0 ≤ j ∧ j < 60 by omega) ?_
        refine c_Node_copyAt (i := (j).toNat) (t := t) (p := p) (show -2147483648 ≤ t ∧ t < 2147483648 by omega) (show -2147483648 ≤ p ∧ p < 2147483648 by omega) (fun (z5 : Int) (q6 : -1 ≤ z5 ∧ z5 ≤ 1 ∧ (0 ≤ z5 → z5 < S 4 (j).toNat 7 ∧ 0 ≤ t ∧ t ≤ 5)) => ?_)
        refine And.intro (fun (h7 : (z5 < (0 : Int) : Prop)) => ?_) (fun (h7 : ((0 : Int) ≤ z5 : Prop)) => ?_)
        ·
          refine And.intro (by decide) (And.intro (show -2147483648 ≤ j + (1 : Int) ∧ j + (1 : Int) < 2147483648 by omega) ?_)
          exact ih (j + (1 : Int))  (by omega) (by omega)
        ·
          exact hk j (by omega)
theorem c_Tree_ownerOf {l : Launch} {k : fxK} {S : fxS} {t : Int} {p : Int} (p0 : -2147483648 ≤ t ∧ t < 2147483648) (p1 : -2147483648 ≤ p ∧ p < 2147483648) (hk : ∀ (r : Int) , (-1 ≤ r ∧ r < 60 ∧ r ≠ 0) → k (some (.inl r)) S) : fC l 230 [.inr (.inr (2, 0)), .inl t, .inl p] S k := by
  refine fxe_230 (Nat.le_of_ble_eq_true rfl) (fxz_230 400 ?_)
  refine And.intro (by decide) ?_
  exact (z_Tree_ownerOf p0 p1 hk (61 - (1 : Int)).toNat) (1 : Int)  (by omega) (by omega)
theorem z_Tree_clear {l : Launch} {k : fxK} {S : fxS}   (hk : ∀ (S' : fxS) , (fxfr [(4, 0), (4, 1), (4, 3), (4, 4), (4, 5), (4, 6), (4, 7), (4, 11), (4, 12), (7, 9999)] S S' ∧ (CLR 60 S S')) → k none S') : ∀ m : Nat, (∀ (j : Int) (S1 : fxS), (fxfr [(4, 0), (4, 1), (4, 3), (4, 4), (4, 5), (4, 6), (4, 7), (4, 11), (4, 12), (7, 9999)] S S1) → (1 ≤ j ∧ j ≤ 60) → (CLR j S S1) → 61 - j ≤ (m : Int) → fZ l 152 k 2 [some (.inr (.inr (2, 0))), some (.inl j)] [] S1) := by
  intro m
  induction m with
  | zero =>
    intro j S1 hf i0 i1 hmu
    exfalso
    omega
  | succ m ih =>
    intro j S1 hf i0 i1 hmu
    refine fxz_152 400 ?_
    refine And.intro (fun (h1 : ((60 : Int) ≤ j : Prop)) => ?_) (fun (h1 : (j < (60 : Int) : Prop)) => ?_)
    ·
      exact hk S1 ⟨hf, by exact CLR_end (by assumption) (by omega)⟩
    ·
      refine And.intro (show 0 ≤ j ∧ j < 60 by omega) ?_
      refine c_Node_clear (i := (j).toNat)  (fun (S2 : fxS) ⟨(f3 : fxfr [(4, 0), (4, 1), (4, 3), (4, 4), (4, 5), (4, 6), (4, 7), (4, 11), (4, 12), (7, 9999)] S1 S2), (q4 : S2 4 (j).toNat 0 = 0 ∧ S2 4 (j).toNat 1 = 0), (g5 : N4 (j).toNat S1 S2)⟩ => ?_)
      have cj : CLR (j + (1 : Int)) S S2 := CLR_step (by assumption) (by omega) (by assumption) q4
      refine And.intro (by decide) (And.intro (show -2147483648 ≤ j + (1 : Int) ∧ j + (1 : Int) < 2147483648 by omega) ?_)
      exact ih (j + (1 : Int)) S2 (fxfr_tr hf f3 rfl) (by omega) cj (by omega)
theorem c_Tree_clear {l : Launch} {k : fxK} {S : fxS}   (hk : ∀ (S' : fxS) , (fxfr [(4, 0), (4, 1), (4, 3), (4, 4), (4, 5), (4, 6), (4, 7), (4, 11), (4, 12), (7, 9999)] S S' ∧ (CLR 60 S S')) → k none S') : fC l 152 [.inr (.inr (2, 0))] S k := by
  refine fxe_152 (Nat.le_of_ble_eq_true rfl) (fxz_152 400 ?_)
  have c0 : CLR (1 : Int) S S := CLR_0
  refine And.intro (by decide) ?_
  exact (z_Tree_clear  hk (61 - (1 : Int)).toNat) (1 : Int) S fxfr_rfl (by omega) c0 (by omega)
theorem z_Tree_touchAll {l : Launch} {k : fxK} {S : fxS}   (hk : ∀ (S' : fxS) , (fxfr [(4, 6)] S S') → k none S') : ∀ m : Nat, (∀ (j : Int) (S1 : fxS), (fxfr [(4, 6)] S S1) → (1 ≤ j ∧ j ≤ 60) → 61 - j ≤ (m : Int) → fZ l 140 k 2 [some (.inr (.inr (2, 0))), some (.inl j)] [] S1) := by
  intro m
  induction m with
  | zero =>
    intro j S1 hf i0 hmu
    exfalso
    omega
  | succ m ih =>
    intro j S1 hf i0 hmu
    refine fxz_140 400 ?_
    refine And.intro (fun (h1 : ((60 : Int) ≤ j : Prop)) => ?_) (fun (h1 : (j < (60 : Int) : Prop)) => ?_)
    ·
      exact hk S1 hf
    ·
      refine And.intro (show 0 ≤ j ∧ j < 60 by omega) ?_
      intro z2 (z2a : (0 : Int) ≤ z2) (z2b : z2 ≤ (2 : Int)) (z2c : z2 = S1 4 (j).toNat 0)
      refine And.intro (fun (h3 : (z2 ≠ (2 : Int) : Prop)) => ?_) (fun (h3 : (z2 = (2 : Int) : Prop)) => ?_)
      ·
        refine And.intro (by decide) (And.intro (show -2147483648 ≤ j + (1 : Int) ∧ j + (1 : Int) < 2147483648 by omega) ?_)
        exact ih (j + (1 : Int)) S1 hf (by omega) (by omega)
      ·
        refine And.intro (show 0 ≤ j ∧ j < 60 by omega) ?_
        intro z5 (z5a : (-2147483648 : Int) ≤ z5) (z5b : z5 ≤ (2147483647 : Int)) (z5c : z5 = S1 2 0 1)
        refine And.intro (show (-2147483648 : Int) ≤ z5 ∧ z5 ≤ (2147483647 : Int) by omega) ?_
        refine And.intro (by decide) (And.intro (show -2147483648 ≤ j + (1 : Int) ∧ j + (1 : Int) < 2147483648 by omega) ?_)
        exact ih (j + (1 : Int)) (fx_up S1 4 (j).toNat 6 z5) (fxfr_up hf rfl) (by omega) (by omega)
theorem c_Tree_touchAll {l : Launch} {k : fxK} {S : fxS}   (hk : ∀ (S' : fxS) , (fxfr [(4, 6)] S S') → k none S') : fC l 140 [.inr (.inr (2, 0))] S k := by
  refine fxe_140 (Nat.le_of_ble_eq_true rfl) (fxz_140 400 ?_)
  refine And.intro (by decide) ?_
  exact (z_Tree_touchAll  hk (61 - (1 : Int)).toNat) (1 : Int) S fxfr_rfl (by omega) (by omega)
theorem c_Node_blocks {l : Launch} {k : fxK} {S : fxS} {i : Nat}  (hk : ∀ (r : Int) , (0 ≤ r ∧ r ≤ 32 ∧ S 4 i 4 ≤ 32 * r ∧ 32 * r < S 4 i 4 + 32) → k (some (.inl r)) S) : fC l 111 [.inr (.inr (4, i))] S k := by
  refine fxe_111 (Nat.le_of_ble_eq_true rfl) (fxz_111 400 ?_)
  intro z1 (z1a : (0 : Int) ≤ z1) (z1b : z1 ≤ (1024 : Int)) (z1c : z1 = S 4 i 4)
  refine And.intro (show -2147483648 ≤ (z1 + (32 : Int)) ∧ (z1 + (32 : Int)) < 2147483648 by omega) ?_
  refine And.intro (show -2147483648 ≤ ((z1 + (32 : Int)) - (1 : Int)) ∧ ((z1 + (32 : Int)) - (1 : Int)) < 2147483648 by omega) ?_
  refine And.intro (show 0 ≤ ((z1 + (32 : Int)) - (1 : Int)) ∧ 0 < (32 : Int) by omega) ?_
  exact hk (((z1 + (32 : Int)) - (1 : Int)) / (32 : Int)) (by omega)
theorem c_Node_isStub {l : Launch} {k : fxK} {S : fxS} {i : Nat}  (hk : ∀ (r : Int) , (r = 0 ∨ r = 1) → k (some (.inl r)) S) : fC l 89 [.inr (.inr (4, i))] S k := by
  refine fxe_89 (Nat.le_of_ble_eq_true rfl) (fxz_89 400 ?_)
  intro z1 (z1a : (0 : Int) ≤ z1) (z1b : z1 ≤ (1024 : Int)) (z1c : z1 = S 4 i 4)
  refine And.intro (fun (h2 : (z1 ≤ (0 : Int) : Prop)) => ?_) (fun (h2 : ((0 : Int) < z1 : Prop)) => ?_)
  ·
    refine And.intro (show 0 ≤ (0 : Int) ∧ (0 : Int) ≤ 1 by omega) ?_
    exact hk (0 : Int) (by omega)
  ·
    intro z3 (z3a : (-2147483648 : Int) ≤ z3) (z3b : z3 ≤ (2147483647 : Int)) (z3c : z3 = S 4 i 11)
    intro z4 (z4a : (-2147483648 : Int) ≤ z4) (z4b : z4 ≤ (2147483647 : Int)) (z4c : z4 = S 4 i 12)
    intro z5 (z5a : -2147483648 ≤ z5) (z5b : z5 < 2147483648) (z5c : -2147483648 ≤ (z3 + z4) ∧ (z3 + z4) < 2147483648 → z5 = (z3 + z4))
    refine And.intro (fun (h6 : (z5 ≠ (0 : Int) : Prop)) => ?_) (fun (h6 : (z5 = (0 : Int) : Prop)) => ?_)
    ·
      refine And.intro (show 0 ≤ (0 : Int) ∧ (0 : Int) ≤ 1 by omega) ?_
      exact hk (0 : Int) (by omega)
    ·
      refine And.intro (show 0 ≤ (1 : Int) ∧ (1 : Int) ≤ 1 by omega) ?_
      exact hk (1 : Int) (by omega)
theorem c_Node_countHome {l : Launch} {k : fxK} {S : fxS} {i : Nat} {b : Int} {d : Int} (p0 : -2147483648 ≤ b ∧ b < 2147483648) (p1 : -2147483648 ≤ d ∧ d < 2147483648) (hk : ∀ (S' : fxS) , (fxfr [(4, 11), (4, 12)] S S') → k none S') : fC l 54 [.inr (.inr (4, i)), .inl b, .inl d] S k := by
  refine fxe_54 (Nat.le_of_ble_eq_true rfl) (fxz_54 400 ?_)
  refine And.intro (fun (h1 : ((0 : Int) ≤ b : Prop)) => ?_) (fun (h1 : (b < (0 : Int) : Prop)) => ?_)
  ·
    refine And.intro (fun (h2 : ((48 : Int) ≤ b : Prop)) => ?_) (fun (h2 : (b < (48 : Int) : Prop)) => ?_)
    ·
      intro z3 (z3a : (-2147483648 : Int) ≤ z3) (z3b : z3 ≤ (2147483647 : Int)) (z3c : z3 = S 4 i 12)
      intro z4 (z4a : -2147483648 ≤ z4) (z4b : z4 < 2147483648) (z4c : -2147483648 ≤ (z3 + d) ∧ (z3 + d) < 2147483648 → z4 = (z3 + d))
      refine And.intro (show (-2147483648 : Int) ≤ z4 ∧ z4 ≤ (2147483647 : Int) by omega) ?_
      exact hk (fx_up S 4 i 12 z4) (fxfr_up fxfr_rfl rfl)
    ·
      intro z5 (z5a : (-2147483648 : Int) ≤ z5) (z5b : z5 ≤ (2147483647 : Int)) (z5c : z5 = S 4 i 11)
      intro z6 (z6a : -2147483648 ≤ z6) (z6b : z6 < 2147483648) (z6c : -2147483648 ≤ (z5 + d) ∧ (z5 + d) < 2147483648 → z6 = (z5 + d))
      refine And.intro (show (-2147483648 : Int) ≤ z6 ∧ z6 ≤ (2147483647 : Int) by omega) ?_
      exact hk (fx_up S 4 i 11 z6) (fxfr_up fxfr_rfl rfl)
  ·
    exact hk S fxfr_rfl
theorem c_Node_setHome {l : Launch} {k : fxK} {S : fxS} {i : Nat} {j : Int} {b : Int} (p0 : 0 ≤ j ∧ j < 32) (p1 : -1 ≤ b ∧ b ≤ 207) (hk : ∀ (S' : fxS) , (fxfr [(4, 11), (4, 12), (7, 9999)] S S') → k none S') : fC l 55 [.inr (.inr (4, i)), .inl j, .inl b] S k := by
  refine fxe_55 (Nat.le_of_ble_eq_true rfl) (fxz_55 400 ?_)
  refine And.intro (show 0 ≤ j ∧ j < 32 by omega) ?_
  intro z1 (z1a : (-1 : Int) ≤ z1) (z1b : z1 ≤ (207 : Int)) (z1c : z1 = S 7 i (j).toNat)
  refine c_Node_countHome (i := i) (b := z1) (d := (-1 : Int)) (show -2147483648 ≤ z1 ∧ z1 < 2147483648 by omega) (show -2147483648 ≤ (-1 : Int) ∧ (-1 : Int) < 2147483648 by omega) (fun (S2 : fxS) (f3 : fxfr [(4, 11), (4, 12)] S S2) => ?_)
  refine c_Node_countHome (i := i) (b := b) (d := (1 : Int)) (show -2147483648 ≤ b ∧ b < 2147483648 by omega) (show -2147483648 ≤ (1 : Int) ∧ (1 : Int) < 2147483648 by omega) (fun (S4 : fxS) (f5 : fxfr [(4, 11), (4, 12)] S2 S4) => ?_)
  refine And.intro (show 0 ≤ j ∧ j < 32 by omega) ?_
  refine And.intro (show (-1 : Int) ≤ b ∧ b ≤ (207 : Int) by omega) ?_
  exact hk (fx_up S4 7 i (j).toNat b) (fxfr_up (fxfr_tr (fxfr_tr fxfr_rfl f3 rfl) f5 rfl) rfl)
theorem c_Node_addCopy {l : Launch} {k : fxK} {S : fxS} {i : Nat} {t : Int} {p : Int} (p0 : 0 ≤ t ∧ t ≤ 5) (p1 : 0 ≤ p ∧ p ≤ 6000) (hk : ∀ (S' : fxS) , (fxfr [(4, 7), (5, 9999), (6, 9999)] S S') → k none S') : fC l 174 [.inr (.inr (4, i)), .inl t, .inl p] S k := by
  refine fxe_174 (Nat.le_of_ble_eq_true rfl) (fxz_174 400 ?_)
  intro z1 (z1a : (0 : Int) ≤ z1) (z1b : z1 ≤ (2 : Int)) (z1c : z1 = S 4 i 7)
  refine And.intro (fun (h2 : (z1 < (2 : Int) : Prop)) => ?_) (fun (h2 : ((2 : Int) ≤ z1 : Prop)) => ?_)
  ·
    intro z3 (z3a : (0 : Int) ≤ z3) (z3b : z3 ≤ (2 : Int)) (z3c : z3 = S 4 i 7)
    refine And.intro (show 0 ≤ z3 ∧ z3 < 2 by omega) ?_
    refine And.intro (show (0 : Int) ≤ t ∧ t ≤ (5 : Int) by omega) ?_
    have w4 : (fx_up S 5 i (z3).toNat t) 4 i 7 = S 4 i 7 := rfl
    intro z5 (z5a : (0 : Int) ≤ z5) (z5b : z5 ≤ (2 : Int)) (z5c : z5 = (fx_up S 5 i (z3).toNat t) 4 i 7)
    refine And.intro (show 0 ≤ z5 ∧ z5 < 2 by omega) ?_
    refine And.intro (show (0 : Int) ≤ p ∧ p ≤ (6000 : Int) by omega) ?_
    have w6 : (fx_up (fx_up S 5 i (z3).toNat t) 6 i (z5).toNat p) 4 i 7 = (fx_up S 5 i (z3).toNat t) 4 i 7 := rfl
    intro z7 (z7a : (0 : Int) ≤ z7) (z7b : z7 ≤ (2 : Int)) (z7c : z7 = (fx_up (fx_up S 5 i (z3).toNat t) 6 i (z5).toNat p) 4 i 7)
    refine And.intro (show -2147483648 ≤ (z7 + (1 : Int)) ∧ (z7 + (1 : Int)) < 2147483648 by omega) ?_
    refine And.intro (show (0 : Int) ≤ (z7 + (1 : Int)) ∧ (z7 + (1 : Int)) ≤ (2 : Int) by omega) ?_
    have w8 : (fx_up (fx_up (fx_up S 5 i (z3).toNat t) 6 i (z5).toNat p) 4 i 7 (z7 + (1 : Int))) 4 i 7 = (z7 + (1 : Int)) := fx_up_at _ _ _ _ _
    exact hk (fx_up (fx_up (fx_up S 5 i (z3).toNat t) 6 i (z5).toNat p) 4 i 7 (z7 + (1 : Int))) (fxfr_up (fxfr_up (fxfr_up fxfr_rfl rfl) rfl) rfl)
  ·
    exact hk S fxfr_rfl
theorem z_Node_takeCopy {l : Launch} {k : fxK} {S : fxS} {i : Nat} {j : Int} (p0 : -2147483648 ≤ j ∧ j < 2147483648) (hk : ∀ (S' : fxS) , (fxfr [(4, 7), (5, 9999), (6, 9999)] S S') → k none S') : ∀ m : Nat, (∀ (q : Int) (S1 : fxS), (fxfr [(4, 7), (5, 9999), (6, 9999)] S S1) → (0 ≤ q ∧ q ≤ 1) → (1 ≤ S1 4 i 7 ∧ S1 4 i 7 ≤ 2) → 3 - q ≤ (m : Int) → fZ l 204 k 15 [some (.inr (.inr (4, i))), none, some (.inl q)] [] S1) := by
  intro m
  induction m with
  | zero =>
    intro q S1 hf i0 i1 hmu
    exfalso
    omega
  | succ m ih =>
    intro q S1 hf i0 i1 hmu
    refine fxz_204 400 ?_
    refine And.intro (show -2147483648 ≤ (q + (1 : Int)) ∧ (q + (1 : Int)) < 2147483648 by omega) ?_
    intro z1 (z1a : (0 : Int) ≤ z1) (z1b : z1 ≤ (2 : Int)) (z1c : z1 = S1 4 i 7)
    refine And.intro (fun (h2 : (z1 ≤ (q + (1 : Int)) : Prop)) => ?_) (fun (h2 : ((q + (1 : Int)) < z1 : Prop)) => ?_)
    ·
      intro z3 (z3a : (0 : Int) ≤ z3) (z3b : z3 ≤ (2 : Int)) (z3c : z3 = S1 4 i 7)
      refine And.intro (show -2147483648 ≤ (z3 - (1 : Int)) ∧ (z3 - (1 : Int)) < 2147483648 by omega) ?_
      refine And.intro (show (0 : Int) ≤ (z3 - (1 : Int)) ∧ (z3 - (1 : Int)) ≤ (2 : Int) by omega) ?_
      have w4 : (fx_up S1 4 i 7 (z3 - (1 : Int))) 4 i 7 = (z3 - (1 : Int)) := fx_up_at _ _ _ _ _
      exact hk (fx_up S1 4 i 7 (z3 - (1 : Int))) (fxfr_up hf rfl)
    ·
      refine And.intro (show -2147483648 ≤ (q + (1 : Int)) ∧ (q + (1 : Int)) < 2147483648 by omega) ?_
      refine And.intro (show 0 ≤ (q + (1 : Int)) ∧ (q + (1 : Int)) < 2 by omega) ?_
      intro z5 (z5a : (0 : Int) ≤ z5) (z5b : z5 ≤ (5 : Int)) (z5c : z5 = S1 5 i ((q + (1 : Int))).toNat)
      refine And.intro (show 0 ≤ q ∧ q < 2 by omega) ?_
      refine And.intro (show (0 : Int) ≤ z5 ∧ z5 ≤ (5 : Int) by omega) ?_
      have w6 : (fx_up S1 5 i (q).toNat z5) 4 i 7 = S1 4 i 7 := rfl
      refine And.intro (show -2147483648 ≤ (q + (1 : Int)) ∧ (q + (1 : Int)) < 2147483648 by omega) ?_
      refine And.intro (show 0 ≤ (q + (1 : Int)) ∧ (q + (1 : Int)) < 2 by omega) ?_
      intro z7 (z7a : (0 : Int) ≤ z7) (z7b : z7 ≤ (6000 : Int)) (z7c : z7 = (fx_up S1 5 i (q).toNat z5) 6 i ((q + (1 : Int))).toNat)
      refine And.intro (show 0 ≤ q ∧ q < 2 by omega) ?_
      refine And.intro (show (0 : Int) ≤ z7 ∧ z7 ≤ (6000 : Int) by omega) ?_
      have w8 : (fx_up (fx_up S1 5 i (q).toNat z5) 6 i (q).toNat z7) 4 i 7 = (fx_up S1 5 i (q).toNat z5) 4 i 7 := rfl
      refine And.intro (by decide) (And.intro (show -2147483648 ≤ q + (1 : Int) ∧ q + (1 : Int) < 2147483648 by omega) ?_)
      exact ih (q + (1 : Int)) (fx_up (fx_up S1 5 i (q).toNat z5) 6 i (q).toNat z7) (fxfr_up (fxfr_up hf rfl) rfl) (by omega) (by omega) (by omega)
theorem c_Node_takeCopy {l : Launch} {k : fxK} {S : fxS} {i : Nat} {j : Int} (p0 : -2147483648 ≤ j ∧ j < 2147483648) (hk : ∀ (S' : fxS) , (fxfr [(4, 7), (5, 9999), (6, 9999)] S S') → k none S') : fC l 204 [.inr (.inr (4, i)), .inl j] S k := by
  refine fxe_204 (Nat.le_of_ble_eq_true rfl) (fxz_204 400 ?_)
  refine And.intro (fun (h10 : (j < (0 : Int) : Prop)) => ?_) (fun (h10 : ((0 : Int) ≤ j : Prop)) => ?_)
  ·
    exact hk S fxfr_rfl
  ·
    intro z11 (z11a : (0 : Int) ≤ z11) (z11b : z11 ≤ (2 : Int)) (z11c : z11 = S 4 i 7)
    refine And.intro (fun (h12 : (j < z11 : Prop)) => ?_) (fun (h12 : (z11 ≤ j : Prop)) => ?_)
    ·
      refine And.intro (by decide) ?_
      exact (z_Node_takeCopy p0 hk (3 - j).toNat) j S fxfr_rfl (by omega) (by omega) (by omega)
    ·
      exact hk S fxfr_rfl
theorem c_Stores_storeOf {l : Launch} {k : fxK} {S : fxS} {b : Int} (p0 : -2147483648 ≤ b ∧ b < 2147483648) (hk : ∀ (r : Int) , (0 ≤ r ∧ r ≤ 1) → k (some (.inl r)) S) : fC l 52 [.inl b] S k := by
  refine fxe_52 (Nat.le_of_ble_eq_true rfl) (fxz_52 400 ?_)
  refine And.intro (fun (h1 : ((48 : Int) ≤ b : Prop)) => ?_) (fun (h1 : (b < (48 : Int) : Prop)) => ?_)
  ·
    exact hk (1 : Int) (by omega)
  ·
    exact hk (0 : Int) (by omega)
theorem c_Stores_hold {l : Launch} {k : fxK} {S : fxS} {b : Int} (p0 : -2147483648 ≤ b ∧ b < 2147483648) (hk : ∀ (S' : fxS) , (fxfr [(8, 4), (10, 9999), (12, 9999)] S S') → k none S') : fC l 53 [.inr (.inr (8, 0)), .inl b] S k := by
  refine fxe_53 (Nat.le_of_ble_eq_true rfl) (fxz_53 400 ?_)
  refine And.intro (fun (h1 : (b < (0 : Int) : Prop)) => ?_) (fun (h1 : ((0 : Int) ≤ b : Prop)) => ?_)
  ·
    exact hk S fxfr_rfl
  ·
    refine And.intro (fun (h2 : ((208 : Int) ≤ b : Prop)) => ?_) (fun (h2 : (b < (208 : Int) : Prop)) => ?_)
    ·
      exact hk S fxfr_rfl
    ·
      refine And.intro (show 0 ≤ b ∧ b < 208 by omega) ?_
      intro z3 (z3a : (0 : Int) ≤ z3) (z3b : z3 ≤ (2 : Int)) (z3c : z3 = S 10 0 (b).toNat)
      refine And.intro (fun (h4 : (z3 = (1 : Int) : Prop)) => ?_) (fun (h4 : (z3 ≠ (1 : Int) : Prop)) => ?_)
      ·
        refine And.intro (show 0 ≤ b ∧ b < 208 by omega) ?_
        refine And.intro (show (0 : Int) ≤ (2 : Int) ∧ (2 : Int) ≤ (2 : Int) by omega) ?_
        refine c_Stores_storeOf (b := b) (show -2147483648 ≤ b ∧ b < 2147483648 by omega) (fun (z5 : Int) (q6 : 0 ≤ z5 ∧ z5 ≤ 1) => ?_)
        refine And.intro (show 0 ≤ z5 ∧ z5 < 2 by omega) ?_
        intro z7 (z7a : (-2147483648 : Int) ≤ z7) (z7b : z7 ≤ (2147483647 : Int)) (z7c : z7 = (fx_up S 10 0 (b).toNat (2 : Int)) 12 0 (z5).toNat)
        intro z8 (z8a : -2147483648 ≤ z8) (z8b : z8 < 2147483648) (z8c : -2147483648 ≤ (z7 - (1 : Int)) ∧ (z7 - (1 : Int)) < 2147483648 → z8 = (z7 - (1 : Int)))
        refine And.intro (show 0 ≤ z5 ∧ z5 < 2 by omega) ?_
        refine And.intro (show (-2147483648 : Int) ≤ z8 ∧ z8 ≤ (2147483647 : Int) by omega) ?_
        intro z9 (z9a : (-2147483648 : Int) ≤ z9) (z9b : z9 ≤ (2147483647 : Int)) (z9c : z9 = (fx_up (fx_up S 10 0 (b).toNat (2 : Int)) 12 0 (z5).toNat z8) 8 0 4)
        intro z10 (z10a : -2147483648 ≤ z10) (z10b : z10 < 2147483648) (z10c : -2147483648 ≤ (z9 + (1 : Int)) ∧ (z9 + (1 : Int)) < 2147483648 → z10 = (z9 + (1 : Int)))
        refine And.intro (show (-2147483648 : Int) ≤ z10 ∧ z10 ≤ (2147483647 : Int) by omega) ?_
        exact hk (fx_up (fx_up (fx_up S 10 0 (b).toNat (2 : Int)) 12 0 (z5).toNat z8) 8 0 4 z10) (fxfr_up (fxfr_up (fxfr_up fxfr_rfl rfl) rfl) rfl)
      ·
        exact hk S fxfr_rfl
theorem c_Stores_claim {l : Launch} {k : fxK} {S : fxS} {b : Int} (p0 : -2147483648 ≤ b ∧ b < 2147483648) (hk : ∀ (S' : fxS) , (fxfr [(10, 9999), (11, 9999), (12, 9999)] S S') → k none S') : fC l 94 [.inr (.inr (8, 0)), .inl b] S k := by
  refine fxe_94 (Nat.le_of_ble_eq_true rfl) (fxz_94 400 ?_)
  refine And.intro (fun (h1 : (b < (0 : Int) : Prop)) => ?_) (fun (h1 : ((0 : Int) ≤ b : Prop)) => ?_)
  ·
    exact hk S fxfr_rfl
  ·
    refine And.intro (fun (h2 : ((208 : Int) ≤ b : Prop)) => ?_) (fun (h2 : (b < (208 : Int) : Prop)) => ?_)
    ·
      exact hk S fxfr_rfl
    ·
      refine And.intro (show 0 ≤ b ∧ b < 208 by omega) ?_
      intro z3 (z3a : (0 : Int) ≤ z3) (z3b : z3 ≤ (2 : Int)) (z3c : z3 = S 10 0 (b).toNat)
      refine And.intro (fun (h4 : (z3 = (0 : Int) : Prop)) => ?_) (fun (h4 : (z3 ≠ (0 : Int) : Prop)) => ?_)
      ·
        refine And.intro (show 0 ≤ b ∧ b < 208 by omega) ?_
        refine And.intro (show (0 : Int) ≤ (1 : Int) ∧ (1 : Int) ≤ (2 : Int) by omega) ?_
        refine c_Stores_storeOf (b := b) (show -2147483648 ≤ b ∧ b < 2147483648 by omega) (fun (z5 : Int) (q6 : 0 ≤ z5 ∧ z5 ≤ 1) => ?_)
        refine And.intro (show 0 ≤ z5 ∧ z5 < 2 by omega) ?_
        intro z7 (z7a : (-2147483648 : Int) ≤ z7) (z7b : z7 ≤ (2147483647 : Int)) (z7c : z7 = (fx_up S 10 0 (b).toNat (1 : Int)) 11 0 (z5).toNat)
        intro z8 (z8a : -2147483648 ≤ z8) (z8b : z8 < 2147483648) (z8c : -2147483648 ≤ (z7 - (1 : Int)) ∧ (z7 - (1 : Int)) < 2147483648 → z8 = (z7 - (1 : Int)))
        refine And.intro (show 0 ≤ z5 ∧ z5 < 2 by omega) ?_
        refine And.intro (show (-2147483648 : Int) ≤ z8 ∧ z8 ≤ (2147483647 : Int) by omega) ?_
        refine c_Stores_storeOf (b := b) (show -2147483648 ≤ b ∧ b < 2147483648 by omega) (fun (z9 : Int) (q10 : 0 ≤ z9 ∧ z9 ≤ 1) => ?_)
        refine And.intro (show 0 ≤ z9 ∧ z9 < 2 by omega) ?_
        intro z11 (z11a : (-2147483648 : Int) ≤ z11) (z11b : z11 ≤ (2147483647 : Int)) (z11c : z11 = (fx_up (fx_up S 10 0 (b).toNat (1 : Int)) 11 0 (z5).toNat z8) 12 0 (z9).toNat)
        intro z12 (z12a : -2147483648 ≤ z12) (z12b : z12 < 2147483648) (z12c : -2147483648 ≤ (z11 + (1 : Int)) ∧ (z11 + (1 : Int)) < 2147483648 → z12 = (z11 + (1 : Int)))
        refine And.intro (show 0 ≤ z9 ∧ z9 < 2 by omega) ?_
        refine And.intro (show (-2147483648 : Int) ≤ z12 ∧ z12 ≤ (2147483647 : Int) by omega) ?_
        exact hk (fx_up (fx_up (fx_up S 10 0 (b).toNat (1 : Int)) 11 0 (z5).toNat z8) 12 0 (z9).toNat z12) (fxfr_up (fxfr_up (fxfr_up fxfr_rfl rfl) rfl) rfl)
      ·
        exact hk S fxfr_rfl
theorem z_Stores_giveOf {l : Launch} {k : fxK} {S : fxS} {s : Int} (p0 : -2147483648 ≤ s ∧ s < 2147483648) (hk : ∀ (r : Int) (S' : fxS) , (fxfr [(10, 9999), (11, 9999), (12, 9999)] S S' ∧ (-1 ≤ r ∧ r ≤ 207)) → k (some (.inl r)) S') : ∀ m : Nat, (∀ (e b : Int) (S1 : fxS), (fxfr [(10, 9999), (11, 9999), (12, 9999)] S S1) → (e = 48 ∨ e = 208) → (0 ≤ b ∧ b ≤ 208) → 209 - b ≤ (m : Int) → fZ l 95 k 24 [some (.inr (.inr (8, 0))), none, some (.inl e), some (.inl b)] [] S1) := by
  intro m
  induction m with
  | zero =>
    intro e b S1 hf i0 i1 hmu
    exfalso
    omega
  | succ m ih =>
    intro e b S1 hf i0 i1 hmu
    refine fxz_95 400 ?_
    refine And.intro (fun (h1 : (e ≤ b : Prop)) => ?_) (fun (h1 : (b < e : Prop)) => ?_)
    ·
      exact hk (-1 : Int) S1 ⟨hf, by omega⟩
    ·
      refine And.intro (show 0 ≤ b ∧ b < 208 by omega) ?_
      intro z2 (z2a : (0 : Int) ≤ z2) (z2b : z2 ≤ (2 : Int)) (z2c : z2 = S1 10 0 (b).toNat)
      refine And.intro (fun (h3 : (z2 ≠ (0 : Int) : Prop)) => ?_) (fun (h3 : (z2 = (0 : Int) : Prop)) => ?_)
      ·
        refine And.intro (by decide) (And.intro (show -2147483648 ≤ b + (1 : Int) ∧ b + (1 : Int) < 2147483648 by omega) ?_)
        exact ih e (b + (1 : Int)) S1 hf (by omega) (by omega) (by omega)
      ·
        refine c_Stores_claim (b := b) (show -2147483648 ≤ b ∧ b < 2147483648 by omega) (fun (S5 : fxS) (f6 : fxfr [(10, 9999), (11, 9999), (12, 9999)] S1 S5) => ?_)
        exact hk b S5 ⟨(fxfr_tr hf f6 rfl), by omega⟩
theorem c_Stores_giveOf {l : Launch} {k : fxK} {S : fxS} {s : Int} (p0 : -2147483648 ≤ s ∧ s < 2147483648) (hk : ∀ (r : Int) (S' : fxS) , (fxfr [(10, 9999), (11, 9999), (12, 9999)] S S' ∧ (-1 ≤ r ∧ r ≤ 207)) → k (some (.inl r)) S') : fC l 95 [.inr (.inr (8, 0)), .inl s] S k := by
  refine fxe_95 (Nat.le_of_ble_eq_true rfl) (fxz_95 400 ?_)
  refine And.intro (fun (h7 : (s ≠ (0 : Int) : Prop)) => ?_) (fun (h7 : (s = (0 : Int) : Prop)) => ?_)
  ·
    refine And.intro (by decide) ?_
    refine And.intro (fun (h8 : (s ≠ (0 : Int) : Prop)) => ?_) (fun (h8 : (s = (0 : Int) : Prop)) => ?_)
    ·
      refine And.intro (by decide) ?_
      exact (z_Stores_giveOf p0 hk (209 - (48 : Int)).toNat) (208 : Int) (48 : Int) S fxfr_rfl (by omega) (by omega) (by omega)
    ·
      refine And.intro (by decide) ?_
      exact (z_Stores_giveOf p0 hk (209 - (0 : Int)).toNat) (208 : Int) (0 : Int) S fxfr_rfl (by omega) (by omega) (by omega)
  ·
    refine And.intro (by decide) ?_
    refine And.intro (fun (h9 : (s ≠ (0 : Int) : Prop)) => ?_) (fun (h9 : (s = (0 : Int) : Prop)) => ?_)
    ·
      refine And.intro (by decide) ?_
      exact (z_Stores_giveOf p0 hk (209 - (48 : Int)).toNat) (48 : Int) (48 : Int) S fxfr_rfl (by omega) (by omega) (by omega)
    ·
      refine And.intro (by decide) ?_
      exact (z_Stores_giveOf p0 hk (209 - (0 : Int)).toNat) (48 : Int) (0 : Int) S fxfr_rfl (by omega) (by omega) (by omega)
theorem c_Stores_giveAny {l : Launch} {k : fxK} {S : fxS}   (hk : ∀ (r : Int) (S' : fxS) , (fxfr [(10, 9999), (11, 9999), (12, 9999)] S S' ∧ (-1 ≤ r ∧ r ≤ 207)) → k (some (.inl r)) S') : fC l 96 [.inr (.inr (8, 0))] S k := by
  refine fxe_96 (Nat.le_of_ble_eq_true rfl) (fxz_96 400 ?_)
  refine c_Stores_giveOf (s := (0 : Int)) (show -2147483648 ≤ (0 : Int) ∧ (0 : Int) < 2147483648 by omega) (fun (z1 : Int) (S2 : fxS) ⟨(f3 : fxfr [(10, 9999), (11, 9999), (12, 9999)] S S2), (q4 : -1 ≤ z1 ∧ z1 ≤ 207)⟩ => ?_)
  refine And.intro (by decide) ?_
  refine And.intro (fun (h5 : (z1 < (0 : Int) : Prop)) => ?_) (fun (h5 : ((0 : Int) ≤ z1 : Prop)) => ?_)
  ·
    refine c_Stores_giveOf (s := (1 : Int)) (show -2147483648 ≤ (1 : Int) ∧ (1 : Int) < 2147483648 by omega) (fun (z6 : Int) (S7 : fxS) ⟨(f8 : fxfr [(10, 9999), (11, 9999), (12, 9999)] S2 S7), (q9 : -1 ≤ z6 ∧ z6 ≤ 207)⟩ => ?_)
    exact hk z6 S7 ⟨(fxfr_tr (fxfr_tr fxfr_rfl f3 rfl) f8 rfl), by omega⟩
  ·
    exact hk z1 S2 ⟨(fxfr_tr fxfr_rfl f3 rfl), by omega⟩
theorem c_Stores_freeAll {l : Launch} {k : fxK} {S : fxS}   (hk : ∀ (S' : fxS) , (fxfr [(8, 4), (10, 9999), (11, 9999), (12, 9999)] S S') → k none S') : fC l 138 [.inr (.inr (8, 0))] S k := by
  refine fxe_138 (Nat.le_of_ble_eq_true rfl) (fxz_138 400 ?_)
  refine c_fill10 (i := 0) (v := (0 : Int)) (show 0 ≤ (0 : Int) ∧ (0 : Int) ≤ 2 by omega) (fun (S1 : fxS) (f2 : fxfr [(10, 9999)] S S1) => ?_)
  refine And.intro (show 0 ≤ (0 : Int) ∧ (0 : Int) < 2 by omega) ?_
  refine And.intro (show (-2147483648 : Int) ≤ (48 : Int) ∧ (48 : Int) ≤ (2147483647 : Int) by omega) ?_
  refine And.intro (show 0 ≤ (1 : Int) ∧ (1 : Int) < 2 by omega) ?_
  refine And.intro (show (-2147483648 : Int) ≤ (160 : Int) ∧ (160 : Int) ≤ (2147483647 : Int) by omega) ?_
  refine And.intro (show 0 ≤ (0 : Int) ∧ (0 : Int) < 2 by omega) ?_
  refine And.intro (show (-2147483648 : Int) ≤ (0 : Int) ∧ (0 : Int) ≤ (2147483647 : Int) by omega) ?_
  refine And.intro (show 0 ≤ (1 : Int) ∧ (1 : Int) < 2 by omega) ?_
  refine And.intro (show (-2147483648 : Int) ≤ (0 : Int) ∧ (0 : Int) ≤ (2147483647 : Int) by omega) ?_
  refine And.intro (show (-2147483648 : Int) ≤ (0 : Int) ∧ (0 : Int) ≤ (2147483647 : Int) by omega) ?_
  exact hk (fx_up (fx_up (fx_up (fx_up (fx_up S1 11 0 ((0 : Int)).toNat (48 : Int)) 11 0 ((1 : Int)).toNat (160 : Int)) 12 0 ((0 : Int)).toNat (0 : Int)) 12 0 ((1 : Int)).toNat (0 : Int)) 8 0 4 (0 : Int)) (fxfr_up (fxfr_up (fxfr_up (fxfr_up (fxfr_up (fxfr_tr fxfr_rfl f2 rfl) rfl) rfl) rfl) rfl) rfl)
theorem c_Stores_byteAt {l : Launch} {k : fxK} {S : fxS} {b : Int} {j : Int} (p0 : 0 ≤ j ∧ j < 32) (p1 : -2147483648 ≤ b ∧ b < 2147483648) (hk : ∀ (r : Int) , (0 ≤ r ∧ r ≤ 255) → k (some (.inl r)) S) : fC l 115 [.inr (.inr (8, 0)), .inl b, .inl j] S k := by
  refine fxe_115 (Nat.le_of_ble_eq_true rfl) (fxz_115 400 ?_)
  refine And.intro (fun (h1 : (b < (0 : Int) : Prop)) => ?_) (fun (h1 : ((0 : Int) ≤ b : Prop)) => ?_)
  ·
    exact hk (0 : Int) (by omega)
  ·
    refine And.intro (fun (h2 : (b < (208 : Int) : Prop)) => ?_) (fun (h2 : ((208 : Int) ≤ b : Prop)) => ?_)
    ·
      refine And.intro (show -2147483648 ≤ (b * (32 : Int)) ∧ (b * (32 : Int)) < 2147483648 by omega) ?_
      refine And.intro (show -2147483648 ≤ ((b * (32 : Int)) + j) ∧ ((b * (32 : Int)) + j) < 2147483648 by omega) ?_
      refine And.intro (show 0 ≤ ((b * (32 : Int)) + j) ∧ ((b * (32 : Int)) + j) < 6656 by omega) ?_
      intro z3 (z3a : (-128 : Int) ≤ z3) (z3b : z3 ≤ (127 : Int)) (z3c : z3 = S 9 0 (((b * (32 : Int)) + j)).toNat)
      refine And.intro (show (0 : Int) ≤ (255 : Int) by omega) ?_
      intro z4 (z4a : 0 ≤ z4) (z4b : z4 ≤ (255 : Int)) z4d
      have z4c : z4 = z3 % 256 := z4d rfl
      exact hk z4 (by omega)
    ·
      exact hk (0 : Int) (by omega)
theorem c_put1 {l : Launch} {k : fxK} {S : fxS} {f : Int} {b : Int} {a : Int} {n : Int} (p0 : n ≤ 0 ∨ (0 ≤ f ∧ f + n ≤ 256 ∧ 0 ≤ a ∧ a + n ≤ 32)) (p1 : -2147483648 ≤ b ∧ b < 2147483648) (hk : ∀ (S' : fxS) , (fxfr [(9, 9999)] S S') → k none S') : fC l 97 [.inr (.inr (8, 0)), .inr (.inr (1, 0)), .inl f, .inl b, .inl a, .inl n] S k := by
  refine fxe_97 (Nat.le_of_ble_eq_true rfl) (fxz_97 400 ?_)
  refine And.intro (fun (h1 : (b < (0 : Int) : Prop)) => ?_) (fun (h1 : ((0 : Int) ≤ b : Prop)) => ?_)
  ·
    exact hk S fxfr_rfl
  ·
    refine And.intro (fun (h2 : ((208 : Int) ≤ b : Prop)) => ?_) (fun (h2 : (b < (208 : Int) : Prop)) => ?_)
    ·
      exact hk S fxfr_rfl
    ·
      refine And.intro (fun (h3 : ((0 : Int) < n : Prop)) => ?_) (fun (h3 : (n ≤ (0 : Int) : Prop)) => ?_)
      ·
        refine And.intro (show -2147483648 ≤ (b * (32 : Int)) ∧ (b * (32 : Int)) < 2147483648 by omega) ?_
        refine And.intro (show -2147483648 ≤ ((b * (32 : Int)) + a) ∧ ((b * (32 : Int)) + a) < 2147483648 by omega) ?_
        refine And.intro (show ((-128 : Int) ≤ (-128 : Int) ∧ (127 : Int) ≤ (127 : Int) : Prop) by omega) (And.intro (show (0 ≤ f ∧ 0 ≤ ((b * (32 : Int)) + a)) ∧ (0 ≤ n ∧ f + n ≤ (256 : Int) ∧ ((b * (32 : Int)) + a) + n ≤ (6656 : Int)) by omega) ?_)
        exact hk (fx_cpy S 9 0 ((b * (32 : Int)) + a) n 1 0 f) (fxfr_cpy fxfr_rfl (fun _ => rfl))
      ·
        exact hk S fxfr_rfl
theorem c_put33 {l : Launch} {k : fxK} {S : fxS} {i : Nat} {f : Int} {b : Int} {a : Int} {n : Int} (p0 : n ≤ 0 ∨ (0 ≤ f ∧ f + n ≤ 6000 ∧ 0 ≤ a ∧ a + n ≤ 32)) (p1 : -2147483648 ≤ b ∧ b < 2147483648) (hk : ∀ (S' : fxS) , (fxfr [(9, 9999)] S S') → k none S') : fC l 97 [.inr (.inr (8, 0)), .inr (.inr (33, i)), .inl f, .inl b, .inl a, .inl n] S k := by
  refine fxe_97 (Nat.le_of_ble_eq_true rfl) (fxz_97 400 ?_)
  refine And.intro (fun (h1 : (b < (0 : Int) : Prop)) => ?_) (fun (h1 : ((0 : Int) ≤ b : Prop)) => ?_)
  ·
    exact hk S fxfr_rfl
  ·
    refine And.intro (fun (h2 : ((208 : Int) ≤ b : Prop)) => ?_) (fun (h2 : (b < (208 : Int) : Prop)) => ?_)
    ·
      exact hk S fxfr_rfl
    ·
      refine And.intro (fun (h3 : ((0 : Int) < n : Prop)) => ?_) (fun (h3 : (n ≤ (0 : Int) : Prop)) => ?_)
      ·
        refine And.intro (show -2147483648 ≤ (b * (32 : Int)) ∧ (b * (32 : Int)) < 2147483648 by omega) ?_
        refine And.intro (show -2147483648 ≤ ((b * (32 : Int)) + a) ∧ ((b * (32 : Int)) + a) < 2147483648 by omega) ?_
        refine And.intro (show ((-128 : Int) ≤ (-128 : Int) ∧ (127 : Int) ≤ (127 : Int) : Prop) by omega) (And.intro (show (0 ≤ f ∧ 0 ≤ ((b * (32 : Int)) + a)) ∧ (0 ≤ n ∧ f + n ≤ (6000 : Int) ∧ ((b * (32 : Int)) + a) + n ≤ (6656 : Int)) by omega) ?_)
        exact hk (fx_cpy S 9 0 ((b * (32 : Int)) + a) n 33 i f) (fxfr_cpy fxfr_rfl (fun _ => rfl))
      ·
        exact hk S fxfr_rfl
theorem c_put9 {l : Launch} {k : fxK} {S : fxS} {f : Int} {b : Int} {a : Int} {n : Int} (p0 : n ≤ 0 ∨ (0 ≤ f ∧ f + n ≤ 6656 ∧ 0 ≤ a ∧ a + n ≤ 32)) (p1 : -2147483648 ≤ b ∧ b < 2147483648) (hk : ∀ (S' : fxS) , (fxfr [(9, 9999)] S S') → k none S') : fC l 97 [.inr (.inr (8, 0)), .inr (.inr (9, 0)), .inl f, .inl b, .inl a, .inl n] S k := by
  refine fxe_97 (Nat.le_of_ble_eq_true rfl) (fxz_97 400 ?_)
  refine And.intro (fun (h1 : (b < (0 : Int) : Prop)) => ?_) (fun (h1 : ((0 : Int) ≤ b : Prop)) => ?_)
  ·
    exact hk S fxfr_rfl
  ·
    refine And.intro (fun (h2 : ((208 : Int) ≤ b : Prop)) => ?_) (fun (h2 : (b < (208 : Int) : Prop)) => ?_)
    ·
      exact hk S fxfr_rfl
    ·
      refine And.intro (fun (h3 : ((0 : Int) < n : Prop)) => ?_) (fun (h3 : (n ≤ (0 : Int) : Prop)) => ?_)
      ·
        refine And.intro (show -2147483648 ≤ (b * (32 : Int)) ∧ (b * (32 : Int)) < 2147483648 by omega) ?_
        refine And.intro (show -2147483648 ≤ ((b * (32 : Int)) + a) ∧ ((b * (32 : Int)) + a) < 2147483648 by omega) ?_
        refine And.intro (show ((-128 : Int) ≤ (-128 : Int) ∧ (127 : Int) ≤ (127 : Int) : Prop) by omega) (And.intro (show (0 ≤ f ∧ 0 ≤ ((b * (32 : Int)) + a)) ∧ (0 ≤ n ∧ f + n ≤ (6656 : Int) ∧ ((b * (32 : Int)) + a) + n ≤ (6656 : Int)) by omega) ?_)
        exact hk (fx_cpy S 9 0 ((b * (32 : Int)) + a) n 9 0 f) (fxfr_cpy fxfr_rfl (fun _ => rfl))
      ·
        exact hk S fxfr_rfl
theorem z_Stores_putBlock {l : Launch} {k : fxK} {S : fxS} {o : Int} {b : Int} {n : Int} (p0 : -1 ≤ o ∧ o ≤ 207) (p1 : n ≤ 32) (p2 : -2147483648 ≤ b ∧ b < 2147483648) (hk : ∀ (S' : fxS) , (fxfr [(9, 9999)] S S') → k none S') : ∀ m : Nat, (∀ (s j : Int) (S1 : fxS), (fxfr [(9, 9999)] S S1) → (0 ≤ b ∧ b < 208) → (s = 32 * b) → (s ≤ j ∧ j ≤ s + 32) → s + 33 - j ≤ (m : Int) → fZ l 98 k 22 [some (.inr (.inr (8, 0))), some (.inl o), some (.inl b), some (.inl n), some (.inl s), some (.inl j)] [] S1) := by
  intro m
  induction m with
  | zero =>
    intro s j S1 hf i0 i1 i2 hmu
    exfalso
    omega
  | succ m ih =>
    intro s j S1 hf i0 i1 i2 hmu
    refine fxz_98 400 ?_
    refine And.intro (show -2147483648 ≤ (s + (32 : Int)) ∧ (s + (32 : Int)) < 2147483648 by omega) ?_
    refine And.intro (fun (h1 : ((s + (32 : Int)) ≤ j : Prop)) => ?_) (fun (h1 : (j < (s + (32 : Int)) : Prop)) => ?_)
    ·
      refine And.intro (fun (h2 : (o < (0 : Int) : Prop)) => ?_) (fun (h2 : ((0 : Int) ≤ o : Prop)) => ?_)
      ·
        exact hk S1 hf
      ·
        refine And.intro (show -2147483648 ≤ (o * (32 : Int)) ∧ (o * (32 : Int)) < 2147483648 by omega) ?_
        refine c_put9 (f := (o * (32 : Int))) (b := b) (a := (0 : Int)) (n := n) (show n ≤ 0 ∨ (0 ≤ (o * (32 : Int)) ∧ (o * (32 : Int)) + n ≤ 6656 ∧ 0 ≤ (0 : Int) ∧ (0 : Int) + n ≤ 32) by omega) (show -2147483648 ≤ b ∧ b < 2147483648 by omega) (fun (S3 : fxS) (f4 : fxfr [(9, 9999)] S1 S3) => ?_)
        exact hk S3 (fxfr_tr hf f4 rfl)
    ·
      refine And.intro (show 0 ≤ j ∧ j < 6656 by omega) ?_
      intro z5 z5a z5b z5c
      refine And.intro (by decide) (And.intro (show -2147483648 ≤ j + (1 : Int) ∧ j + (1 : Int) < 2147483648 by omega) ?_)
      exact ih s (j + (1 : Int)) (fx_up S1 9 0 (j).toNat z5) (fxfr_up hf rfl) (by omega) (by omega) (by omega) (by omega)
theorem c_Stores_putBlock {l : Launch} {k : fxK} {S : fxS} {o : Int} {b : Int} {n : Int} (p0 : -1 ≤ o ∧ o ≤ 207) (p1 : n ≤ 32) (p2 : -2147483648 ≤ b ∧ b < 2147483648) (hk : ∀ (S' : fxS) , (fxfr [(9, 9999)] S S') → k none S') : fC l 98 [.inr (.inr (8, 0)), .inl o, .inl b, .inl n] S k := by
  refine fxe_98 (Nat.le_of_ble_eq_true rfl) (fxz_98 400 ?_)
  refine And.intro (fun (h7 : (b < (0 : Int) : Prop)) => ?_) (fun (h7 : ((0 : Int) ≤ b : Prop)) => ?_)
  ·
    exact hk S fxfr_rfl
  ·
    refine And.intro (fun (h8 : (b < (208 : Int) : Prop)) => ?_) (fun (h8 : ((208 : Int) ≤ b : Prop)) => ?_)
    ·
      refine And.intro (show -2147483648 ≤ (b * (32 : Int)) ∧ (b * (32 : Int)) < 2147483648 by omega) ?_
      refine And.intro (by decide) ?_
      refine And.intro (by decide) ?_
      exact (z_Stores_putBlock p0 p1 p2 hk ((b * (32 : Int)) + 33 - (b * (32 : Int))).toNat) (b * (32 : Int)) (b * (32 : Int)) S fxfr_rfl (by omega) (by omega) (by omega) (by omega)
    ·
      exact hk S fxfr_rfl
theorem c_Stores_takeOut {l : Launch} {k : fxK} {S : fxS} {b : Int} {a : Int} {n : Int} (p0 : n ≤ 32) (p1 : n ≤ 0 ∨ (0 ≤ a ∧ a + n ≤ 1089)) (p2 : -2147483648 ≤ b ∧ b < 2147483648) (hk : ∀ (S' : fxS) , (fxfr [(43, 9999)] S S') → k none S') : fC l 233 [.inr (.inr (8, 0)), .inl b, .inr (.inr (43, 0)), .inl a, .inl n] S k := by
  refine fxe_233 (Nat.le_of_ble_eq_true rfl) (fxz_233 400 ?_)
  refine And.intro (fun (h1 : (b < (0 : Int) : Prop)) => ?_) (fun (h1 : ((0 : Int) ≤ b : Prop)) => ?_)
  ·
    exact hk S fxfr_rfl
  ·
    refine And.intro (fun (h2 : ((208 : Int) ≤ b : Prop)) => ?_) (fun (h2 : (b < (208 : Int) : Prop)) => ?_)
    ·
      exact hk S fxfr_rfl
    ·
      refine And.intro (fun (h3 : ((0 : Int) < n : Prop)) => ?_) (fun (h3 : (n ≤ (0 : Int) : Prop)) => ?_)
      ·
        refine And.intro (show -2147483648 ≤ (b * (32 : Int)) ∧ (b * (32 : Int)) < 2147483648 by omega) ?_
        refine And.intro (show ((-128 : Int) ≤ (-128 : Int) ∧ (127 : Int) ≤ (127 : Int) : Prop) by omega) (And.intro (show (0 ≤ (b * (32 : Int)) ∧ 0 ≤ a) ∧ (0 ≤ n ∧ (b * (32 : Int)) + n ≤ (6656 : Int) ∧ a + n ≤ (1089 : Int)) by omega) ?_)
        exact hk (fx_cpy S 43 0 a n 9 0 (b * (32 : Int))) (fxfr_cpy fxfr_rfl (fun _ => rfl))
      ·
        exact hk S fxfr_rfl
theorem c_Stores_hasRoomFor {l : Launch} {k : fxK} {S : fxS} {n : Int} (p0 : -2147483648 ≤ n ∧ n < 2147483648) (hk : ∀ (r : Int) , (r = 0 ∨ r = 1) → k (some (.inl r)) S) : fC l 189 [.inr (.inr (8, 0)), .inl n] S k := by
  refine fxe_189 (Nat.le_of_ble_eq_true rfl) (fxz_189 400 ?_)
  refine And.intro (show 0 ≤ (0 : Int) ∧ (0 : Int) < 2 by omega) ?_
  intro z1 (z1a : (-2147483648 : Int) ≤ z1) (z1b : z1 ≤ (2147483647 : Int)) (z1c : z1 = S 11 0 ((0 : Int)).toNat)
  refine And.intro (fun (h2 : (n ≤ z1 : Prop)) => ?_) (fun (h2 : (z1 < n : Prop)) => ?_)
  ·
    refine And.intro (show 0 ≤ (1 : Int) ∧ (1 : Int) ≤ 1 by omega) ?_
    exact hk (1 : Int) (by omega)
  ·
    refine And.intro (show 0 ≤ (1 : Int) ∧ (1 : Int) < 2 by omega) ?_
    intro z3 (z3a : (-2147483648 : Int) ≤ z3) (z3b : z3 ≤ (2147483647 : Int)) (z3c : z3 = S 11 0 ((1 : Int)).toNat)
    refine And.intro (fun (h4 : (z3 < n : Prop)) => ?_) (fun (h4 : (n ≤ z3 : Prop)) => ?_)
    ·
      refine And.intro (show 0 ≤ (0 : Int) ∧ (0 : Int) ≤ 1 by omega) ?_
      exact hk (0 : Int) (by omega)
    ·
      refine And.intro (show 0 ≤ (1 : Int) ∧ (1 : Int) ≤ 1 by omega) ?_
      exact hk (1 : Int) (by omega)
