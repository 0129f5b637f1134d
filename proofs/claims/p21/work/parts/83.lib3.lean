/-! contracts: THE VIEW of the class -/
theorem z_Library_viewPlace {l : Launch} {k : fxK} {S : fxS} {d : Int} (p0 : -2147483648 ≤ d ∧ d < 2147483648) (hk : ∀ (r : Int) , (0 ≤ r ∧ r ≤ S 26 0 4 ∧ r ≤ 1710) → k (some (.inl r)) S) : ∀ m : Nat, (∀ (lw hg j : Int), (0 ≤ lw ∧ lw ≤ S 26 0 4 ∧ lw ≤ 1710) → (0 ≤ hg ∧ hg ≤ S 26 0 4 ∧ hg ≤ 1710) → (0 ≤ j ∧ j ≤ 32) → 33 - j ≤ (m : Int) → fZ l 158 k 10 [some (.inr (.inr (26, 0))), some (.inl d), some (.inl lw), some (.inl hg), some (.inl j), none] [] S) := by
  intro m
  induction m with
  | zero =>
    intro lw hg j  i0 i1 i2 hmu
    exfalso
    omega
  | succ m ih =>
    intro lw hg j  i0 i1 i2 hmu
    refine fxz_158 400 ?_
    refine And.intro (fun (h1 : ((32 : Int) ≤ j : Prop)) => ?_) (fun (h1 : (j < (32 : Int) : Prop)) => ?_)
    ·
      exact hk lw (by omega)
    ·
      refine And.intro (fun (h2 : (hg ≤ lw : Prop)) => ?_) (fun (h2 : (lw < hg : Prop)) => ?_)
      ·
        exact hk lw (by omega)
      ·
        intro z3 (z3a : -2147483648 ≤ z3) (z3b : z3 < 2147483648) (z3c : -2147483648 ≤ (lw + hg) ∧ (lw + hg) < 2147483648 → z3 = (lw + hg))
        intro z4 z4a z4b (z4c : z4 = fx_bop 1 z3 (1 : Int))
        have hf : z4 = (lw + hg) / 2 := by have := bop_half (by omega) z4c; omega
        refine And.intro (by decide) ?_
        refine And.intro (show 0 ≤ z4 ∧ z4 < 1710 by omega) ?_
        intro z5 (z5a : (-2147483648 : Int) ≤ z5) (z5b : z5 ≤ (2147483647 : Int)) (z5c : z5 = S 28 0 (z4).toNat)
        refine And.intro (fun (h6 : (d ≤ z5 : Prop)) => ?_) (fun (h6 : (z5 < d : Prop)) => ?_)
        ·
          refine And.intro (by decide) ?_
          refine And.intro (by decide) (And.intro (show -2147483648 ≤ j + (1 : Int) ∧ j + (1 : Int) < 2147483648 by omega) ?_)
          exact ih lw z4 (j + (1 : Int))  (by omega) (by omega) (by omega) (by omega)
        ·
          intro z8 (z8a : -2147483648 ≤ z8) (z8b : z8 < 2147483648) (z8c : -2147483648 ≤ (z4 + (1 : Int)) ∧ (z4 + (1 : Int)) < 2147483648 → z8 = (z4 + (1 : Int)))
          refine And.intro (by decide) ?_
          refine And.intro (by decide) (And.intro (show -2147483648 ≤ j + (1 : Int) ∧ j + (1 : Int) < 2147483648 by omega) ?_)
          exact ih z8 hg (j + (1 : Int))  (by omega) (by omega) (by omega) (by omega)
theorem c_Library_viewPlace {l : Launch} {k : fxK} {S : fxS} {d : Int} (p0 : -2147483648 ≤ d ∧ d < 2147483648) (hk : ∀ (r : Int) , (0 ≤ r ∧ r ≤ S 26 0 4 ∧ r ≤ 1710) → k (some (.inl r)) S) : fC l 158 [.inr (.inr (26, 0)), .inl d] S k := by
  refine fxe_158 (Nat.le_of_ble_eq_true rfl) (fxz_158 400 ?_)
  refine And.intro (by decide) ?_
  intro z10 (z10a : (0 : Int) ≤ z10) (z10b : z10 ≤ (1710 : Int)) (z10c : z10 = S 26 0 4)
  refine And.intro (by decide) ?_
  refine And.intro (by decide) ?_
  exact (z_Library_viewPlace p0 hk (33 - (0 : Int)).toNat) (0 : Int) z10 (0 : Int)  (by omega) (by omega) (by omega) (by omega)
theorem c_Library_viewStamp {l : Launch} {k : fxK} {S : fxS} {v : Int} (p0 : 0 ≤ v ∧ v < 1710) (hk : ∀ (r : Int) , (-2147483648 ≤ r ∧ r < 2147483648) → k (some (.inl r)) S) : fC l 159 [.inr (.inr (26, 0)), .inl v] S k := by
  refine fxe_159 (Nat.le_of_ble_eq_true rfl) (fxz_159 400 ?_)
  refine And.intro (show 0 ≤ v ∧ v < 1710 by omega) ?_
  intro z1 (z1a : (0 : Int) ≤ z1) (z1b : z1 ≤ (5 : Int)) (z1c : z1 = S 29 0 (v).toNat)
  refine And.intro (show 0 ≤ z1 ∧ z1 < 6 by omega) ?_
  refine And.intro (show 0 ≤ v ∧ v < 1710 by omega) ?_
  intro z2 (z2a : (0 : Int) ≤ z2) (z2b : z2 ≤ (284 : Int)) (z2c : z2 = S 30 0 (v).toNat)
  refine And.intro (show 0 ≤ z2 ∧ z2 < 285 by omega) ?_
  intro z3 (z3a : (-2147483648 : Int) ≤ z3) (z3b : z3 ≤ (2147483647 : Int)) (z3c : z3 = S 36 (z1).toNat (z2).toNat)
  exact hk z3 (by omega)
theorem c_Library_placeInView {l : Launch} {k : fxK} {S : fxS} {v : Int} (p0 : 0 ≤ v ∧ v < 1710) (hk : ∀ (r : Int) , (0 ≤ r ∧ r ≤ 5979 ∧ r = S 34 (S 29 0 (v).toNat).toNat (S 30 0 (v).toNat).toNat ∧ 0 ≤ S 30 0 (v).toNat) → k (some (.inl r)) S) : fC l 161 [.inr (.inr (26, 0)), .inl v] S k := by
  refine fxe_161 (Nat.le_of_ble_eq_true rfl) (fxz_161 400 ?_)
  refine And.intro (show 0 ≤ v ∧ v < 1710 by omega) ?_
  intro z1 (z1a : (0 : Int) ≤ z1) (z1b : z1 ≤ (5 : Int)) (z1c : z1 = S 29 0 (v).toNat)
  refine And.intro (show 0 ≤ z1 ∧ z1 < 6 by omega) ?_
  refine And.intro (show 0 ≤ v ∧ v < 1710 by omega) ?_
  intro z2 (z2a : (0 : Int) ≤ z2) (z2b : z2 ≤ (284 : Int)) (z2c : z2 = S 30 0 (v).toNat)
  refine And.intro (show 0 ≤ z2 ∧ z2 < 285 by omega) ?_
  intro z3 (z3a : (0 : Int) ≤ z3) (z3b : z3 ≤ (5979 : Int)) (z3c : z3 = S 34 (z1).toNat (z2).toNat)
  exact hk z3 (by first | omega | (subst_vars; omega))
theorem c_Library_keepInView {l : Launch} {k : fxK} {S : fxS} {v : Int} {a : Int} (p0 : ViewV S) (p1 : 0 ≤ v ∧ v < 1710) (p2 : v < S 26 0 4) (p3 : 0 ≤ a ∧ a < 1710) (hk : ∀ (S' : fxS) , (fxfr [(28, 9999), (29, 9999), (30, 9999)] S S' ∧ (ViewV S')) → k none S') : fC l 162 [.inr (.inr (26, 0)), .inl v, .inl a] S k := by
  refine fxe_162 (Nat.le_of_ble_eq_true rfl) (fxz_162 400 ?_)
  refine And.intro (show 0 ≤ v ∧ v < 1710 by omega) ?_
  intro z1 (z1a : (-2147483648 : Int) ≤ z1) (z1b : z1 ≤ (2147483647 : Int)) (z1c : z1 = S 28 0 (v).toNat)
  refine And.intro (show 0 ≤ a ∧ a < 1710 by omega) ?_
  refine And.intro (show (-2147483648 : Int) ≤ z1 ∧ z1 ≤ (2147483647 : Int) by omega) ?_
  refine And.intro (show 0 ≤ v ∧ v < 1710 by omega) ?_
  intro z2 (z2a : (0 : Int) ≤ z2) (z2b : z2 ≤ (5 : Int)) (z2c : z2 = S 29 0 (v).toNat)
  refine And.intro (show 0 ≤ a ∧ a < 1710 by omega) ?_
  refine And.intro (show (0 : Int) ≤ z2 ∧ z2 ≤ (5 : Int) by omega) ?_
  refine And.intro (show 0 ≤ v ∧ v < 1710 by omega) ?_
  intro z3 (z3a : (0 : Int) ≤ z3) (z3b : z3 ≤ (284 : Int)) (z3c : z3 = S 30 0 (v).toNat)
  refine And.intro (show 0 ≤ a ∧ a < 1710 by omega) ?_
  refine And.intro (show (0 : Int) ≤ z3 ∧ z3 ≤ (284 : Int) by omega) ?_
  exact hk (fx_up (fx_up (fx_up S 28 0 (a).toNat z1) 29 0 (a).toNat z2) 30 0 (a).toNat z3) ⟨(fxfr_up (fxfr_up (fxfr_up fxfr_rfl rfl) rfl) rfl), by exact View_set p0 (View_at p0 (by assumption) (by assumption) (by omega))⟩
theorem z_Library_dropDeletes {l : Launch} {k : fxK} {S : fxS}  (p0 : ViewV S) (hk : ∀ (S' : fxS) , (fxfr [(26, 4), (28, 9999), (29, 9999), (30, 9999)] S S' ∧ (S' 26 0 4 ≤ 1710) ∧ (ViewV S')) → k none S') : ∀ m : Nat, (∀ (q v : Int) (S1 : fxS), (fxfr [(26, 4), (28, 9999), (29, 9999), (30, 9999)] S S1) → (0 ≤ q ∧ q ≤ v ∧ v ≤ 1710) → ((q ≤ 0 ∨ q ≤ S1 26 0 4) ∧ S1 26 0 4 = S 26 0 4) → (ViewV S1) → 1711 - v ≤ (m : Int) → fZ l 163 k 4 [some (.inr (.inr (26, 0))), some (.inl q), some (.inl v)] [] S1) := by
  intro m
  induction m with
  | zero =>
    intro q v S1 hf i0 i1 i2 hmu
    exfalso
    omega
  | succ m ih =>
    intro q v S1 hf i0 i1 i2 hmu
    refine fxz_163 400 ?_
    intro z1 (z1a : (0 : Int) ≤ z1) (z1b : z1 ≤ (1710 : Int)) (z1c : z1 = S1 26 0 4)
    refine And.intro (fun (h2 : (z1 ≤ v : Prop)) => ?_) (fun (h2 : (v < z1 : Prop)) => ?_)
    ·
      refine And.intro (show (0 : Int) ≤ q ∧ q ≤ (1710 : Int) by omega) ?_
      have w3 : (fx_up S1 26 0 4 q) 26 0 4 = q := fx_up_at _ _ _ _ _
      exact hk (fx_up S1 26 0 4 q) ⟨(fxfr_up hf rfl), by omega, by first | assumption | exact View_cut (by assumption) (by omega)⟩
    ·
      refine And.intro (show 0 ≤ v ∧ v < 1710 by omega) ?_
      intro z4 (z4a : (0 : Int) ≤ z4) (z4b : z4 ≤ (5 : Int)) (z4c : z4 = S1 29 0 (v).toNat)
      refine And.intro (show 0 ≤ z4 ∧ z4 < 6 by omega) ?_
      refine c_Library_placeInView (v := v) (show 0 ≤ v ∧ v < 1710 by omega) (fun (z5 : Int) (q6 : 0 ≤ z5 ∧ z5 ≤ 5979 ∧ z5 = S1 34 (S1 29 0 (v).toNat).toNat (S1 30 0 (v).toNat).toNat ∧ 0 ≤ S1 30 0 (v).toNat) => ?_)
      refine c_Tape_sortAt (i := (z4).toNat) (p := z5) (show 0 ≤ z5 ∧ z5 < 5999 by omega) (fun (z7 : Int) (q8 : z7 = S1 33 (z4).toNat (z5 + 1).toNat % 256 ∧ 0 ≤ z7 ∧ z7 ≤ 255) => ?_)
      refine And.intro (fun (h9 : (z7 ≠ (1 : Int) : Prop)) => ?_) (fun (h9 : (z7 = (1 : Int) : Prop)) => ?_)
      ·
        refine And.intro (by decide) (And.intro (show -2147483648 ≤ v + (1 : Int) ∧ v + (1 : Int) < 2147483648 by omega) ?_)
        exact ih q (v + (1 : Int)) S1 hf (by omega) (by omega) i2 (by omega)
      ·
        refine c_Library_keepInView (v := v) (a := q) i2 (show 0 ≤ v ∧ v < 1710 by omega) (show v < S1 26 0 4 by omega) (show 0 ≤ q ∧ q < 1710 by omega) (fun (S11 : fxS) ⟨(f12 : fxfr [(28, 9999), (29, 9999), (30, 9999)] S1 S11), (g13 : ViewV S11)⟩ => ?_)
        have w14 : S11 26 0 4 = S1 26 0 4 := f12 26 0 4 rfl
        refine And.intro (by decide) (And.intro (show -2147483648 ≤ q + (1 : Int) ∧ q + (1 : Int) < 2147483648 by omega) ?_)
        refine And.intro (by decide) (And.intro (show -2147483648 ≤ v + (1 : Int) ∧ v + (1 : Int) < 2147483648 by omega) ?_)
        exact ih (q + (1 : Int)) (v + (1 : Int)) S11 (fxfr_tr hf f12 rfl) (by omega) (by omega) g13 (by omega)
theorem c_Library_dropDeletes {l : Launch} {k : fxK} {S : fxS}  (p0 : ViewV S) (hk : ∀ (S' : fxS) , (fxfr [(26, 4), (28, 9999), (29, 9999), (30, 9999)] S S' ∧ (S' 26 0 4 ≤ 1710) ∧ (ViewV S')) → k none S') : fC l 163 [.inr (.inr (26, 0))] S k := by
  refine fxe_163 (Nat.le_of_ble_eq_true rfl) (fxz_163 400 ?_)
  refine And.intro (by decide) ?_
  refine And.intro (by decide) ?_
  exact (z_Library_dropDeletes p0 hk (1711 - (0 : Int)).toNat) (0 : Int) (0 : Int) S fxfr_rfl (by omega) (by omega) p0 (by omega)
theorem z_Library_sortByStamps {l : Launch} {k : fxK} {S : fxS}  (p0 : S 26 0 4 ≤ 1710) (hk : ∀ (S' : fxS) , (fxfr [(31, 9999)] S S' ∧ (OrdV S')) → k none S') : ∀ m : Nat, (∀ (v : Int) (S1 : fxS), (fxfr [(31, 9999)] S S1) → (0 ≤ v ∧ v ≤ 1710) → (OrdN S1 v) → (S1 26 0 4 = S 26 0 4) → (1711 - v) * 2000 + 1999 ≤ (m : Int) → fZ l 164 k 2 [some (.inr (.inr (26, 0))), some (.inl v), none, none] [] S1) ∧ (∀ (v s a : Int) (S1 : fxS), (fxfr [(31, 9999)] S S1) → (0 ≤ a ∧ a ≤ v ∧ v < S1 26 0 4 ∧ v < 1710) → (OrdN S1 v) → (a < v → OrdN S1 (v + 1)) → (S1 26 0 4 = S 26 0 4) → (1711 - v) * 2000 + a ≤ (m : Int) → fZ l 164 k 18 [some (.inr (.inr (26, 0))), some (.inl v), some (.inl s), some (.inl a)] [] S1) := by
  intro m
  induction m with
  | zero =>
    refine ⟨?_, ?_⟩
    · intro v S1 hf i0 i1 i2 hmu
      exfalso
      omega
    · intro v s a S1 hf i0 i1 i2 i3 hmu
      exfalso
      omega
  | succ m ih =>
    refine ⟨?_, ?_⟩
    · intro v S1 hf i0 i1 i2 hmu
      refine fxz_164 400 ?_
      intro z1 (z1a : (0 : Int) ≤ z1) (z1b : z1 ≤ (1710 : Int)) (z1c : z1 = S1 26 0 4)
      refine And.intro (fun (h2 : (z1 ≤ v : Prop)) => ?_) (fun (h2 : (v < z1 : Prop)) => ?_)
      ·
        exact hk S1 ⟨hf, by first | assumption | exact OrdV_of i1 (by omega)⟩
      ·
        refine c_Library_viewStamp (v := v) (show 0 ≤ v ∧ v < 1710 by omega) (fun (z3 : Int) (q4 : -2147483648 ≤ z3 ∧ z3 < 2147483648) => ?_)
        refine And.intro (by decide) ?_
        refine And.intro (by decide) ?_
        exact ih.2 v z3 v S1 hf (by first | omega | assumption | exact OrdN_0 | exact OrdN_le (by assumption) (by omega) | exact fun _ => (by assumption) | exact fun h => absurd h (by omega)) (by first | omega | assumption | exact OrdN_0 | exact OrdN_le (by assumption) (by omega) | exact fun _ => (by assumption) | exact fun h => absurd h (by omega)) (by first | omega | assumption | exact OrdN_0 | exact OrdN_le (by assumption) (by omega) | exact fun _ => (by assumption) | exact fun h => absurd h (by omega)) (by first | omega | assumption | exact OrdN_0 | exact OrdN_le (by assumption) (by omega) | exact fun _ => (by assumption) | exact fun h => absurd h (by omega)) (by omega)
    · intro v s a S1 hf i0 i1 i2 i3 hmu
      refine fxz_164 400 ?_
      refine And.intro (fun (h5 : (a ≤ (0 : Int) : Prop)) => ?_) (fun (h5 : ((0 : Int) < a : Prop)) => ?_)
      ·
        refine And.intro (show 0 ≤ a ∧ a < 1710 by omega) ?_
        refine And.intro (show (0 : Int) ≤ v ∧ v ≤ (1709 : Int) by omega) ?_
        have w6 : (fx_up S1 31 0 (a).toNat v) 26 0 4 = S1 26 0 4 := rfl
        have od : OrdN (fx_up S1 31 0 (a).toNat v) (v + (1 : Int)) := OrdN_step i1 i2 (by omega) (by omega)
        refine And.intro (by decide) (And.intro (show -2147483648 ≤ v + (1 : Int) ∧ v + (1 : Int) < 2147483648 by omega) ?_)
        exact ih.1 (v + (1 : Int)) (fx_up S1 31 0 (a).toNat v) (fxfr_up hf rfl) (by first | omega | assumption | exact OrdN_0 | exact OrdN_le (by assumption) (by omega) | exact fun _ => (by assumption) | exact fun h => absurd h (by omega)) (by first | omega | assumption | exact OrdN_0 | exact OrdN_le (by assumption) (by omega) | exact fun _ => (by assumption) | exact fun h => absurd h (by omega)) (by first | omega | assumption | exact OrdN_0 | exact OrdN_le (by assumption) (by omega) | exact fun _ => (by assumption) | exact fun h => absurd h (by omega)) (by omega)
      ·
        refine And.intro (show -2147483648 ≤ (a - (1 : Int)) ∧ (a - (1 : Int)) < 2147483648 by omega) ?_
        refine And.intro (show 0 ≤ (a - (1 : Int)) ∧ (a - (1 : Int)) < 1710 by omega) ?_
        intro z8 (z8a : (0 : Int) ≤ z8) (z8b : z8 ≤ (1709 : Int)) (z8c : z8 = S1 31 0 ((a - (1 : Int))).toNat)
        refine c_Library_viewStamp (v := z8) (show 0 ≤ z8 ∧ z8 < 1710 by omega) (fun (z9 : Int) (q10 : -2147483648 ≤ z9 ∧ z9 < 2147483648) => ?_)
        refine And.intro (fun (h11 : (s ≤ z9 : Prop)) => ?_) (fun (h11 : (z9 < s : Prop)) => ?_)
        ·
          refine And.intro (show 0 ≤ a ∧ a < 1710 by omega) ?_
          refine And.intro (show (0 : Int) ≤ v ∧ v ≤ (1709 : Int) by omega) ?_
          have w12 : (fx_up S1 31 0 (a).toNat v) 26 0 4 = S1 26 0 4 := rfl
          have od : OrdN (fx_up S1 31 0 (a).toNat v) (v + (1 : Int)) := OrdN_step i1 i2 (by omega) (by omega)
          refine And.intro (by decide) (And.intro (show -2147483648 ≤ v + (1 : Int) ∧ v + (1 : Int) < 2147483648 by omega) ?_)
          exact ih.1 (v + (1 : Int)) (fx_up S1 31 0 (a).toNat v) (fxfr_up hf rfl) (by first | omega | assumption | exact OrdN_0 | exact OrdN_le (by assumption) (by omega) | exact fun _ => (by assumption) | exact fun h => absurd h (by omega)) (by first | omega | assumption | exact OrdN_0 | exact OrdN_le (by assumption) (by omega) | exact fun _ => (by assumption) | exact fun h => absurd h (by omega)) (by first | omega | assumption | exact OrdN_0 | exact OrdN_le (by assumption) (by omega) | exact fun _ => (by assumption) | exact fun h => absurd h (by omega)) (by omega)
        ·
          refine And.intro (show -2147483648 ≤ (a - (1 : Int)) ∧ (a - (1 : Int)) < 2147483648 by omega) ?_
          refine And.intro (show 0 ≤ (a - (1 : Int)) ∧ (a - (1 : Int)) < 1710 by omega) ?_
          intro z14 (z14a : (0 : Int) ≤ z14) (z14b : z14 ≤ (1709 : Int)) (z14c : z14 = S1 31 0 ((a - (1 : Int))).toNat)
          have oz : z14 < S1 26 0 4 := OrdN_at i1 z14c (by omega)
          refine And.intro (show 0 ≤ a ∧ a < 1710 by omega) ?_
          refine And.intro (show (0 : Int) ≤ z14 ∧ z14 ≤ (1709 : Int) by omega) ?_
          have w15 : (fx_up S1 31 0 (a).toNat z14) 26 0 4 = S1 26 0 4 := rfl
          have od : OrdN (fx_up S1 31 0 (a).toNat z14) (v + (1 : Int)) := OrdN_step i1 i2 (by omega) (by omega)
          refine And.intro (by decide) (And.intro (show -2147483648 ≤ a + (-1 : Int) ∧ a + (-1 : Int) < 2147483648 by omega) ?_)
          exact ih.2 v s (a + (-1 : Int)) (fx_up S1 31 0 (a).toNat z14) (fxfr_up hf rfl) (by first | omega | assumption | exact OrdN_0 | exact OrdN_le (by assumption) (by omega) | exact fun _ => (by assumption) | exact fun h => absurd h (by omega)) (by first | omega | assumption | exact OrdN_0 | exact OrdN_le (by assumption) (by omega) | exact fun _ => (by assumption) | exact fun h => absurd h (by omega)) (by first | omega | assumption | exact OrdN_0 | exact OrdN_le (by assumption) (by omega) | exact fun _ => (by assumption) | exact fun h => absurd h (by omega)) (by first | omega | assumption | exact OrdN_0 | exact OrdN_le (by assumption) (by omega) | exact fun _ => (by assumption) | exact fun h => absurd h (by omega)) (by omega)
theorem c_Library_sortByStamps {l : Launch} {k : fxK} {S : fxS}  (p0 : S 26 0 4 ≤ 1710) (hk : ∀ (S' : fxS) , (fxfr [(31, 9999)] S S' ∧ (OrdV S')) → k none S') : fC l 164 [.inr (.inr (26, 0))] S k := by
  refine fxe_164 (Nat.le_of_ble_eq_true rfl) (fxz_164 400 ?_)
  refine And.intro (by decide) ?_
  exact (z_Library_sortByStamps p0 hk ((1711 - (0 : Int)) * 2000 + 1999).toNat).1 (0 : Int) S fxfr_rfl (by first | omega | assumption | exact OrdN_0 | exact OrdN_le (by assumption) (by omega) | exact fun _ => (by assumption) | exact fun h => absurd h (by omega)) (by first | omega | assumption | exact OrdN_0 | exact OrdN_le (by assumption) (by omega) | exact fun _ => (by assumption) | exact fun h => absurd h (by omega)) (by first | omega | assumption | exact OrdN_0 | exact OrdN_le (by assumption) (by omega) | exact fun _ => (by assumption) | exact fun h => absurd h (by omega)) (by omega)
theorem z_Library_sortTaken {l : Launch} {k : fxK} {S : fxS} {u : Int} (p0 : OrdV S) (p1 : 0 ≤ u ∧ u ≤ S 26 0 4 ∧ u ≤ 1710) (hk : ∀ (S' : fxS) , (fxfr [(31, 9999)] S S' ∧ (OrdV S')) → k none S') : ∀ m : Nat, (∀ (b : Int) (S1 : fxS), (fxfr [(31, 9999)] S S1) → (1 ≤ b ∧ b ≤ 1710) → (S1 26 0 4 = S 26 0 4) → (OrdV S1) → (1711 - b) * 2000 + 1999 ≤ (m : Int) → fZ l 168 k 2 [some (.inr (.inr (26, 0))), some (.inl u), some (.inl b), none, none] [] S1) ∧ (∀ (b v a : Int) (S1 : fxS), (fxfr [(31, 9999)] S S1) → (1 ≤ b ∧ b < u) → (0 ≤ a ∧ a ≤ b) → (0 ≤ v ∧ v ≤ 1709 ∧ v < S1 26 0 4) → (S1 26 0 4 = S 26 0 4) → (OrdV S1) → (1711 - b) * 2000 + a ≤ (m : Int) → fZ l 168 k 17 [some (.inr (.inr (26, 0))), some (.inl u), some (.inl b), some (.inl v), some (.inl a)] [] S1) := by
  intro m
  induction m with
  | zero =>
    refine ⟨?_, ?_⟩
    · intro b S1 hf i0 i1 i2 hmu
      exfalso
      omega
    · intro b v a S1 hf i0 i1 i2 i3 i4 hmu
      exfalso
      omega
  | succ m ih =>
    refine ⟨?_, ?_⟩
    · intro b S1 hf i0 i1 i2 hmu
      refine fxz_168 400 ?_
      refine And.intro (fun (h1 : (u ≤ b : Prop)) => ?_) (fun (h1 : (b < u : Prop)) => ?_)
      ·
        exact hk S1 ⟨hf, i2⟩
      ·
        refine And.intro (show 0 ≤ b ∧ b < 1710 by omega) ?_
        intro z2 (z2a : (0 : Int) ≤ z2) (z2b : z2 ≤ (1709 : Int)) (z2c : z2 = S1 31 0 (b).toNat)
        have o3 : (0 ≤ b ∧ b < S1 26 0 4) → z2 < S1 26 0 4 := OrdV_at (by assumption) z2c
        refine And.intro (by decide) ?_
        refine And.intro (by decide) ?_
        exact ih.2 b z2 b S1 hf (by omega) (by omega) (by omega) (by omega) i2 (by omega)
    · intro b v a S1 hf i0 i1 i2 i3 i4 hmu
      refine fxz_168 400 ?_
      refine And.intro (fun (h4 : (a ≤ (0 : Int) : Prop)) => ?_) (fun (h4 : ((0 : Int) < a : Prop)) => ?_)
      ·
        refine And.intro (show 0 ≤ a ∧ a < 1710 by omega) ?_
        refine And.intro (show (0 : Int) ≤ v ∧ v ≤ (1709 : Int) by omega) ?_
        have w5 : (fx_up S1 31 0 (a).toNat v) 26 0 4 = S1 26 0 4 := rfl
        have od : OrdV (fx_up S1 31 0 (a).toNat v) := OrdV_up (by assumption) (by omega)
        refine And.intro (by decide) (And.intro (show -2147483648 ≤ b + (1 : Int) ∧ b + (1 : Int) < 2147483648 by omega) ?_)
        exact ih.1 (b + (1 : Int)) (fx_up S1 31 0 (a).toNat v) (fxfr_up hf rfl) (by omega) (by omega) od (by omega)
      ·
        refine And.intro (show -2147483648 ≤ (a - (1 : Int)) ∧ (a - (1 : Int)) < 2147483648 by omega) ?_
        refine And.intro (show 0 ≤ (a - (1 : Int)) ∧ (a - (1 : Int)) < 1710 by omega) ?_
        intro z7 (z7a : (0 : Int) ≤ z7) (z7b : z7 ≤ (1709 : Int)) (z7c : z7 = S1 31 0 ((a - (1 : Int))).toNat)
        have o8 : (0 ≤ (a - (1 : Int)) ∧ (a - (1 : Int)) < S1 26 0 4) → z7 < S1 26 0 4 := OrdV_at (by assumption) z7c
        refine And.intro (fun (h9 : (z7 ≤ v : Prop)) => ?_) (fun (h9 : (v < z7 : Prop)) => ?_)
        ·
          refine And.intro (show 0 ≤ a ∧ a < 1710 by omega) ?_
          refine And.intro (show (0 : Int) ≤ v ∧ v ≤ (1709 : Int) by omega) ?_
          have w10 : (fx_up S1 31 0 (a).toNat v) 26 0 4 = S1 26 0 4 := rfl
          have od : OrdV (fx_up S1 31 0 (a).toNat v) := OrdV_up (by assumption) (by omega)
          refine And.intro (by decide) (And.intro (show -2147483648 ≤ b + (1 : Int) ∧ b + (1 : Int) < 2147483648 by omega) ?_)
          exact ih.1 (b + (1 : Int)) (fx_up S1 31 0 (a).toNat v) (fxfr_up hf rfl) (by omega) (by omega) od (by omega)
        ·
          refine And.intro (show -2147483648 ≤ (a - (1 : Int)) ∧ (a - (1 : Int)) < 2147483648 by omega) ?_
          refine And.intro (show 0 ≤ (a - (1 : Int)) ∧ (a - (1 : Int)) < 1710 by omega) ?_
          intro z12 (z12a : (0 : Int) ≤ z12) (z12b : z12 ≤ (1709 : Int)) (z12c : z12 = S1 31 0 ((a - (1 : Int))).toNat)
          have o13 : (0 ≤ (a - (1 : Int)) ∧ (a - (1 : Int)) < S1 26 0 4) → z12 < S1 26 0 4 := OrdV_at (by assumption) z12c
          refine And.intro (show 0 ≤ a ∧ a < 1710 by omega) ?_
          refine And.intro (show (0 : Int) ≤ z12 ∧ z12 ≤ (1709 : Int) by omega) ?_
          have w14 : (fx_up S1 31 0 (a).toNat z12) 26 0 4 = S1 26 0 4 := rfl
          have od : OrdV (fx_up S1 31 0 (a).toNat z12) := OrdV_up (by assumption) (by omega)
          refine And.intro (by decide) (And.intro (show -2147483648 ≤ a + (-1 : Int) ∧ a + (-1 : Int) < 2147483648 by omega) ?_)
          exact ih.2 b v (a + (-1 : Int)) (fx_up S1 31 0 (a).toNat z12) (fxfr_up hf rfl) (by omega) (by omega) (by omega) (by omega) od (by omega)
theorem c_Library_sortTaken {l : Launch} {k : fxK} {S : fxS} {u : Int} (p0 : OrdV S) (p1 : 0 ≤ u ∧ u ≤ S 26 0 4 ∧ u ≤ 1710) (hk : ∀ (S' : fxS) , (fxfr [(31, 9999)] S S' ∧ (OrdV S')) → k none S') : fC l 168 [.inr (.inr (26, 0)), .inl u] S k := by
  refine fxe_168 (Nat.le_of_ble_eq_true rfl) (fxz_168 400 ?_)
  refine And.intro (by decide) ?_
  exact (z_Library_sortTaken p0 p1 hk ((1711 - (1 : Int)) * 2000 + 1999).toNat).1 (1 : Int) S fxfr_rfl (by omega) (by omega) p0 (by omega)
