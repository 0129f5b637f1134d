/-! contracts of the reference: the writing drive -/
theorem z_StubHouseModel_fileOfRead {l : Launch} {k : fxK} {S : fxS}  (p0 : COL S) (hk : ∀ (r : Int) , (-2 ≤ r ∧ r < 60 ∧ r ≠ -1 ∧ r ≠ 0 ∧ (0 ≤ r → aN S r 0 = 2 ∧ CATR r S)) → k (some (.inl r)) S) : ∀ m : Nat, (∀ (j : Int), (1 ≤ j ∧ j ≤ 60) → 61 - j ≤ (m : Int) → fZ l 270 k 2 [some (.inr (.inr (49, 0))), some (.inl j)] [] S) := by
  intro m
  induction m with
  | zero =>
    intro j  i0 hmu
    exfalso
    omega
  | succ m ih =>
    intro j  i0 hmu
    refine fxz_270 400 ?_
    refine And.intro (fun (h1 : ((60 : Int) ≤ j : Prop)) => ?_) (fun (h1 : (j < (60 : Int) : Prop)) => ?_)
    ·
      exact hk (-2 : Int) (by first | exact ⟨by omega, by omega, by omega, by omega, fun h => absurd h (by omega)⟩ | exact ⟨by omega, by omega, by omega, by omega, fun _ => ⟨by omega, cx (by omega)⟩⟩)
    ·
      refine c_at0 (n := j) p0 (show 0 ≤ j ∧ j < 60 by omega) (fun (z2 : Int) (q3 : z2 = aN S j 0 ∧ 0 ≤ z2 ∧ z2 ≤ 2) => ?_)
      refine And.intro (fun (h4 : (z2 ≠ (2 : Int) : Prop)) => ?_) (fun (h4 : (z2 = (2 : Int) : Prop)) => ?_)
      ·
        refine And.intro (by decide) (And.intro (show -2147483648 ≤ j + (1 : Int) ∧ j + (1 : Int) < 2147483648 by omega) ?_)
        exact ih (j + (1 : Int))  (by omega) (by omega)
      ·
        intro z6 (z6a : (-2 : Int) ≤ z6) (z6b : z6 ≤ (5 : Int)) (z6c : z6 = S 49 0 39)
        intro z7 (z7a : (0 : Int) ≤ z7) (z7b : z7 ≤ (6000 : Int)) (z7c : z7 = S 49 0 48)
        refine c_StubHouseModel_copyAt (f := j) (t := z6) (p := z7) p0 (show 0 ≤ j ∧ j < 60 by omega) (show -2147483648 ≤ z6 ∧ z6 < 2147483648 by omega) (show -2147483648 ≤ z7 ∧ z7 < 2147483648 by omega) (fun (z8 : Int) (q9 : -2 ≤ z8 ∧ z8 ≤ 1 ∧ z8 ≠ -1 ∧ (0 ≤ z8 → z8 < aN S j 5) ∧ (0 ≤ z8 → CAT j z6 z7 S) ∧ (z8 < 0 → ¬ CAT j z6 z7 S)) => ?_)
        have cx : 0 ≤ z8 → CATR j S := fun h => by have e := q9.2.2.2.2.1 h; rwa [show z6 = S 49 0 39 by omega, show z7 = S 49 0 48 by omega] at e
        refine And.intro (fun (h10 : (z8 < (0 : Int) : Prop)) => ?_) (fun (h10 : ((0 : Int) ≤ z8 : Prop)) => ?_)
        ·
          refine And.intro (by decide) (And.intro (show -2147483648 ≤ j + (1 : Int) ∧ j + (1 : Int) < 2147483648 by omega) ?_)
          exact ih (j + (1 : Int))  (by omega) (by omega)
        ·
          exact hk j (by first | exact ⟨by omega, by omega, by omega, by omega, fun h => absurd h (by omega)⟩ | exact ⟨by omega, by omega, by omega, by omega, fun _ => ⟨by omega, cx (by omega)⟩⟩)
theorem c_StubHouseModel_fileOfRead {l : Launch} {k : fxK} {S : fxS}  (p0 : COL S) (hk : ∀ (r : Int) , (-2 ≤ r ∧ r < 60 ∧ r ≠ -1 ∧ r ≠ 0 ∧ (0 ≤ r → aN S r 0 = 2 ∧ CATR r S)) → k (some (.inl r)) S) : fC l 270 [.inr (.inr (49, 0))] S k := by
  refine fxe_270 (Nat.le_of_ble_eq_true rfl) (fxz_270 400 ?_)
  refine And.intro (by decide) ?_
  exact (z_StubHouseModel_fileOfRead p0 hk (61 - (1 : Int)).toNat) (1 : Int)  (by omega) (by omega)
theorem z_StubHouseModel_hasCopyOn {l : Launch} {k : fxK} {S : fxS} {f : Int} {t : Int} (p0 : COL S) (p1 : -2 ≤ f ∧ f < 60) (p2 : -2147483648 ≤ t ∧ t < 2147483648) (hk : ∀ (r : Int) , (0 ≤ r ∧ r ≤ 1) → k (some (.inl r)) S) : ∀ m : Nat, (∀ (j : Int), (0 ≤ j ∧ j ≤ 2) → 3 - j ≤ (m : Int) → fZ l 267 k 2 [some (.inr (.inr (49, 0))), some (.inl f), some (.inl t), some (.inl j)] [] S) := by
  intro m
  induction m with
  | zero =>
    intro j  i0 hmu
    exfalso
    omega
  | succ m ih =>
    intro j  i0 hmu
    refine fxz_267 400 ?_
    refine And.intro (fun (h1 : (f < (0 : Int) : Prop)) => ?_) (fun (h1 : ((0 : Int) ≤ f : Prop)) => ?_)
    ·
      refine And.intro (show 0 ≤ (0 : Int) ∧ (0 : Int) ≤ 1 by omega) ?_
      exact hk (0 : Int) (by omega)
    ·
      refine c_at5 (n := f) p0 (show 0 ≤ f ∧ f < 60 by omega) (fun (z2 : Int) (q3 : z2 = aN S f 5 ∧ 0 ≤ z2 ∧ z2 ≤ 2) => ?_)
      refine And.intro (fun (h4 : (z2 ≤ j : Prop)) => ?_) (fun (h4 : (j < z2 : Prop)) => ?_)
      ·
        refine And.intro (show 0 ≤ (0 : Int) ∧ (0 : Int) ≤ 1 by omega) ?_
        exact hk (0 : Int) (by omega)
      ·
        refine And.intro (show -2147483648 ≤ ((2 : Int) * j) ∧ ((2 : Int) * j) < 2147483648 by omega) ?_
        refine And.intro (show -2147483648 ≤ ((6 : Int) + ((2 : Int) * j)) ∧ ((6 : Int) + ((2 : Int) * j)) < 2147483648 by omega) ?_
        refine c_att (n := f) (w := ((6 : Int) + ((2 : Int) * j))) p0 (show 0 ≤ f ∧ f < 60 by omega) (show ((6 : Int) + ((2 : Int) * j)) = 6 ∨ ((6 : Int) + ((2 : Int) * j)) = 8 by omega) (fun (z5 : Int) (q6 : z5 = aN S f ((6 : Int) + ((2 : Int) * j)) ∧ 0 ≤ z5 ∧ z5 ≤ 5) => ?_)
        refine And.intro (fun (h7 : (z5 ≠ t : Prop)) => ?_) (fun (h7 : (z5 = t : Prop)) => ?_)
        ·
          refine And.intro (by decide) (And.intro (show -2147483648 ≤ j + (1 : Int) ∧ j + (1 : Int) < 2147483648 by omega) ?_)
          exact ih (j + (1 : Int))  (by omega) (by omega)
        ·
          refine And.intro (show 0 ≤ (1 : Int) ∧ (1 : Int) ≤ 1 by omega) ?_
          exact hk (1 : Int) (by omega)
theorem c_StubHouseModel_hasCopyOn {l : Launch} {k : fxK} {S : fxS} {f : Int} {t : Int} (p0 : COL S) (p1 : -2 ≤ f ∧ f < 60) (p2 : -2147483648 ≤ t ∧ t < 2147483648) (hk : ∀ (r : Int) , (0 ≤ r ∧ r ≤ 1) → k (some (.inl r)) S) : fC l 267 [.inr (.inr (49, 0)), .inl f, .inl t] S k := by
  refine fxe_267 (Nat.le_of_ble_eq_true rfl) (fxz_267 400 ?_)
  refine And.intro (by decide) ?_
  exact (z_StubHouseModel_hasCopyOn p0 p1 p2 hk (3 - (0 : Int)).toNat) (0 : Int)  (by omega) (by omega)
theorem c_StubHouseModel_willDo {l : Launch} {k : fxK} {S : fxS} {t : Int} {f : Int} {z : Int} (p0 : COL S) (p1 : 0 ≤ t ∧ t ≤ 5) (p2 : -2 ≤ f ∧ f < 60) (p3 : 0 ≤ z ∧ z ≤ 2000) (hk : ∀ (r : Int) , (0 ≤ r ∧ r ≤ 1 ∧ (r = 1 → ((S 63 0 (t).toNat = 0 → 8 + z ≤ 6000) ∧ (S 63 0 (t).toNat ≠ 0 → S 63 0 (t).toNat + z ≤ 6000)))) → k (some (.inl r)) S) : fC l 268 [.inr (.inr (49, 0)), .inl t, .inl f, .inl z] S k := by
  refine fxe_268 (Nat.le_of_ble_eq_true rfl) (fxz_268 400 ?_)
  refine And.intro (show 0 ≤ t ∧ t < 6 by omega) ?_
  intro z1 (z1a : (0 : Int) ≤ z1) (z1b : z1 ≤ (6000 : Int)) (z1c : z1 = S 63 0 (t).toNat)
  refine And.intro (fun (h2 : (z1 ≠ (0 : Int) : Prop)) => ?_) (fun (h2 : (z1 = (0 : Int) : Prop)) => ?_)
  ·
    refine And.intro (show 0 ≤ t ∧ t < 6 by omega) ?_
    intro z3 (z3a : (0 : Int) ≤ z3) (z3b : z3 ≤ (6000 : Int)) (z3c : z3 = S 63 0 (t).toNat)
    refine And.intro (by decide) ?_
    refine And.intro (show 0 ≤ (1 : Int) ∧ (1 : Int) < 2 by omega) ?_
    intro z4 (z4a : (-2 : Int) ≤ z4) (z4b : z4 ≤ (5 : Int)) (z4c : z4 = S 70 0 1)
    refine And.intro (fun (h5 : (t = z4 : Prop)) => ?_) (fun (h5 : (t ≠ z4 : Prop)) => ?_)
    ·
      refine And.intro (show 0 ≤ (0 : Int) ∧ (0 : Int) ≤ 1 by omega) ?_
      exact hk (0 : Int) (by omega)
    ·
      intro z6 (z6a : (-2 : Int) ≤ z6) (z6b : z6 ≤ (5 : Int)) (z6c : z6 = S 49 0 39)
      refine And.intro (fun (h7 : (t = z6 : Prop)) => ?_) (fun (h7 : (t ≠ z6 : Prop)) => ?_)
      ·
        refine And.intro (show 0 ≤ (0 : Int) ∧ (0 : Int) ≤ 1 by omega) ?_
        exact hk (0 : Int) (by omega)
      ·
        refine c_StubHouseModel_hasCopyOn (f := f) (t := t) p0 (show -2 ≤ f ∧ f < 60 by omega) (show -2147483648 ≤ t ∧ t < 2147483648 by omega) (fun (z8 : Int) (q9 : 0 ≤ z8 ∧ z8 ≤ 1) => ?_)
        refine And.intro (fun (h10 : (z8 ≠ (0 : Int) : Prop)) => ?_) (fun (h10 : (z8 = (0 : Int) : Prop)) => ?_)
        ·
          refine And.intro (show 0 ≤ (0 : Int) ∧ (0 : Int) ≤ 1 by omega) ?_
          exact hk (0 : Int) (by omega)
        ·
          refine And.intro (show -2147483648 ≤ (z3 + z) ∧ (z3 + z) < 2147483648 by omega) ?_
          refine And.intro (fun (h11 : ((6000 : Int) < (z3 + z) : Prop)) => ?_) (fun (h11 : ((z3 + z) ≤ (6000 : Int) : Prop)) => ?_)
          ·
            refine And.intro (show 0 ≤ (0 : Int) ∧ (0 : Int) ≤ 1 by omega) ?_
            exact hk (0 : Int) (by omega)
          ·
            refine And.intro (show 0 ≤ (1 : Int) ∧ (1 : Int) ≤ 1 by omega) ?_
            exact hk (1 : Int) (by omega)
  ·
    refine And.intro (by decide) ?_
    refine And.intro (show 0 ≤ (1 : Int) ∧ (1 : Int) < 2 by omega) ?_
    intro z12 (z12a : (-2 : Int) ≤ z12) (z12b : z12 ≤ (5 : Int)) (z12c : z12 = S 70 0 1)
    refine And.intro (fun (h13 : (t = z12 : Prop)) => ?_) (fun (h13 : (t ≠ z12 : Prop)) => ?_)
    ·
      refine And.intro (show 0 ≤ (0 : Int) ∧ (0 : Int) ≤ 1 by omega) ?_
      exact hk (0 : Int) (by omega)
    ·
      intro z14 (z14a : (-2 : Int) ≤ z14) (z14b : z14 ≤ (5 : Int)) (z14c : z14 = S 49 0 39)
      refine And.intro (fun (h15 : (t = z14 : Prop)) => ?_) (fun (h15 : (t ≠ z14 : Prop)) => ?_)
      ·
        refine And.intro (show 0 ≤ (0 : Int) ∧ (0 : Int) ≤ 1 by omega) ?_
        exact hk (0 : Int) (by omega)
      ·
        refine c_StubHouseModel_hasCopyOn (f := f) (t := t) p0 (show -2 ≤ f ∧ f < 60 by omega) (show -2147483648 ≤ t ∧ t < 2147483648 by omega) (fun (z16 : Int) (q17 : 0 ≤ z16 ∧ z16 ≤ 1) => ?_)
        refine And.intro (fun (h18 : (z16 ≠ (0 : Int) : Prop)) => ?_) (fun (h18 : (z16 = (0 : Int) : Prop)) => ?_)
        ·
          refine And.intro (show 0 ≤ (0 : Int) ∧ (0 : Int) ≤ 1 by omega) ?_
          exact hk (0 : Int) (by omega)
        ·
          refine And.intro (show -2147483648 ≤ ((8 : Int) + z) ∧ ((8 : Int) + z) < 2147483648 by omega) ?_
          refine And.intro (fun (h19 : ((6000 : Int) < ((8 : Int) + z) : Prop)) => ?_) (fun (h19 : (((8 : Int) + z) ≤ (6000 : Int) : Prop)) => ?_)
          ·
            refine And.intro (show 0 ≤ (0 : Int) ∧ (0 : Int) ≤ 1 by omega) ?_
            exact hk (0 : Int) (by omega)
          ·
            refine And.intro (show 0 ≤ (1 : Int) ∧ (1 : Int) ≤ 1 by omega) ?_
            exact hk (1 : Int) (by omega)
theorem z_StubHouseModel_tapeFor {l : Launch} {k : fxK} {S : fxS} {f : Int} {z : Int} (p0 : COL S) (p1 : -2 ≤ f ∧ f < 60) (p2 : 0 ≤ z ∧ z ≤ 2000) (hk : ∀ (r : Int) , (-2 ≤ r ∧ r ≤ 5 ∧ r ≠ -1 ∧ (0 ≤ r → ((S 63 0 (r).toNat = 0 → 8 + z ≤ 6000) ∧ (S 63 0 (r).toNat ≠ 0 → S 63 0 (r).toNat + z ≤ 6000)))) → k (some (.inl r)) S) : ∀ m : Nat, (∀ (t : Int), (0 ≤ t ∧ t ≤ 6) → 7 - t ≤ (m : Int) → fZ l 269 k 26 [some (.inr (.inr (49, 0))), some (.inl f), some (.inl z), none, some (.inl t)] [] S) := by
  intro m
  induction m with
  | zero =>
    intro t  i0 hmu
    exfalso
    omega
  | succ m ih =>
    intro t  i0 hmu
    refine fxz_269 400 ?_
    refine And.intro (fun (h1 : ((6 : Int) ≤ t : Prop)) => ?_) (fun (h1 : (t < (6 : Int) : Prop)) => ?_)
    ·
      exact hk (-2 : Int) (by omega)
    ·
      refine c_StubHouseModel_willDo (t := t) (f := f) (z := z) p0 (show 0 ≤ t ∧ t ≤ 5 by omega) (show -2 ≤ f ∧ f < 60 by omega) (show 0 ≤ z ∧ z ≤ 2000 by omega) (fun (z2 : Int) (q3 : 0 ≤ z2 ∧ z2 ≤ 1 ∧ (z2 = 1 → ((S 63 0 (t).toNat = 0 → 8 + z ≤ 6000) ∧ (S 63 0 (t).toNat ≠ 0 → S 63 0 (t).toNat + z ≤ 6000)))) => ?_)
      refine And.intro (fun (h4 : (z2 = (0 : Int) : Prop)) => ?_) (fun (h4 : (z2 ≠ (0 : Int) : Prop)) => ?_)
      ·
        refine And.intro (by decide) (And.intro (show -2147483648 ≤ t + (1 : Int) ∧ t + (1 : Int) < 2147483648 by omega) ?_)
        exact ih (t + (1 : Int))  (by omega) (by omega)
      ·
        exact hk t (by omega)
theorem c_StubHouseModel_tapeFor {l : Launch} {k : fxK} {S : fxS} {f : Int} {z : Int} (p0 : COL S) (p1 : -2 ≤ f ∧ f < 60) (p2 : 0 ≤ z ∧ z ≤ 2000) (hk : ∀ (r : Int) , (-2 ≤ r ∧ r ≤ 5 ∧ r ≠ -1 ∧ (0 ≤ r → ((S 63 0 (r).toNat = 0 → 8 + z ≤ 6000) ∧ (S 63 0 (r).toNat ≠ 0 → S 63 0 (r).toNat + z ≤ 6000)))) → k (some (.inl r)) S) : fC l 269 [.inr (.inr (49, 0)), .inl f, .inl z] S k := by
  refine fxe_269 (Nat.le_of_ble_eq_true rfl) (fxz_269 400 ?_)
  refine And.intro (show 0 ≤ (0 : Int) ∧ (0 : Int) < 2 by omega) ?_
  intro z6 (z6a : (-2 : Int) ≤ z6) (z6b : z6 ≤ (5 : Int)) (z6c : z6 = S 70 0 0)
  refine And.intro (by decide) ?_
  refine And.intro (fun (h7 : (z6 < (0 : Int) : Prop)) => ?_) (fun (h7 : ((0 : Int) ≤ z6 : Prop)) => ?_)
  ·
    refine And.intro (by decide) ?_
    exact (z_StubHouseModel_tapeFor p0 p1 p2 hk (7 - (0 : Int)).toNat) (0 : Int)  (by omega) (by omega)
  ·
    refine c_StubHouseModel_willDo (t := z6) (f := f) (z := z) p0 (show 0 ≤ z6 ∧ z6 ≤ 5 by omega) (show -2 ≤ f ∧ f < 60 by omega) (show 0 ≤ z ∧ z ≤ 2000 by omega) (fun (z8 : Int) (q9 : 0 ≤ z8 ∧ z8 ≤ 1 ∧ (z8 = 1 → ((S 63 0 (z6).toNat = 0 → 8 + z ≤ 6000) ∧ (S 63 0 (z6).toNat ≠ 0 → S 63 0 (z6).toNat + z ≤ 6000)))) => ?_)
    refine And.intro (fun (h10 : (z8 = (0 : Int) : Prop)) => ?_) (fun (h10 : (z8 ≠ (0 : Int) : Prop)) => ?_)
    ·
      refine And.intro (by decide) ?_
      exact (z_StubHouseModel_tapeFor p0 p1 p2 hk (7 - (0 : Int)).toNat) (0 : Int)  (by omega) (by omega)
    ·
      exact hk z6 (by omega)
theorem c_StubHouseModel_fileSegment {l : Launch} {k : fxK} {S : fxS} {f : Int} (p0 : COL S) (p1 : WTM S) (p2 : 0 ≤ f ∧ f < 60) (hk : ∀ (r : Int) , (r = 25 + 8 * (depF (ovf (S 50 0)) 60 f : Int) + aN S f 3 ∧ (depF (ovf (S 50 0)) 60 f : Int) ≤ 5 ∧ 0 ≤ aN S f 3 ∧ aN S f 3 ≤ 1024) → k (some (.inl r)) S) : fC l 271 [.inr (.inr (49, 0)), .inl f] S k := by
  refine fxe_271 (Nat.le_of_ble_eq_true rfl) (fxz_271 400 ?_)
  refine c_StubHouseModel_depth (n := f) p0 p1 (show 0 ≤ f ∧ f < 60 by omega) (fun (z1 : Int) (q2 : z1 = (depF (ovf (S 50 0)) 60 f : Int) ∧ 0 ≤ z1 ∧ z1 ≤ 5) => ?_)
  refine c_at3 (n := f) p0 (show 0 ≤ f ∧ f < 60 by omega) (fun (z3 : Int) (q4 : z3 = aN S f 3 ∧ 0 ≤ z3 ∧ z3 ≤ 1024) => ?_)
  refine c_StubHouseModel_wholeSize (s := (1 : Int)) (d := z1) (z := z3) (show 0 ≤ z1 ∧ z1 ≤ 255 by omega) (show 0 ≤ z3 ∧ z3 ≤ 65535 by omega) (show -2147483648 ≤ (1 : Int) ∧ (1 : Int) < 2147483648 by omega) (fun (z5 : Int) (q6 : ((1 : Int) = 1 → z5 = 25 + 8 * z1 + z3) ∧ ((1 : Int) ≠ 1 → z5 = 21 + 8 * z1)) => ?_)
  exact hk z5 (by omega)
theorem z_StubHouseModel_dropWaiting {l : Launch} {k : fxK} {S : fxS}  (p0 : COL S) (hk : ∀ (S' : fxS) , (fxfr [(49, 38), (76, 9999)] S S' ∧ (WTG S')) → k none S') : ∀ m : Nat, (∀ (s j : Int) (S1 : fxS), (fxfr [(49, 38), (76, 9999)] S S1) → (0 ≤ s ∧ s ≤ j ∧ j ≤ 20) → (COL S1) → (WJ s S1) → 21 - j ≤ (m : Int) → fZ l 266 k 4 [some (.inr (.inr (49, 0))), some (.inl s), some (.inl j), none] [] S1) := by
  intro m
  induction m with
  | zero =>
    intro s j S1 hf i0 i1 i2 hmu
    exfalso
    omega
  | succ m ih =>
    intro s j S1 hf i0 i1 i2 hmu
    refine fxz_266 400 ?_
    intro z1 (z1a : (0 : Int) ≤ z1) (z1b : z1 ≤ (20 : Int)) (z1c : z1 = S1 49 0 38)
    refine And.intro (fun (h2 : (z1 ≤ j : Prop)) => ?_) (fun (h2 : (j < z1 : Prop)) => ?_)
    ·
      refine And.intro (show (0 : Int) ≤ s ∧ s ≤ (20 : Int) by omega) ?_
      have w3 : (fx_up S1 49 0 38 s) 49 0 38 = s := fx_up_at _ _ _ _ _
      have g4 : COL (fx_up S1 49 0 38 s) := fx_pup COL_stab rfl i1
      have g5 : WJ s (fx_up S1 49 0 38 s) := fx_pup WJ_stab rfl i2
      have wg : WTG (fx_up S1 49 0 38 s) := WTG_of i2
      exact hk (fx_up S1 49 0 38 s) ⟨(fxfr_up hf rfl), wg⟩
    ·
      refine And.intro (show 0 ≤ j ∧ j < 20 by omega) ?_
      intro z6 (z6a : (-2147483648 : Int) ≤ z6) (z6b : z6 ≤ (2147483647 : Int)) (z6c : z6 = S1 76 0 (j).toNat)
      refine c_StubHouseModel_fileOf (d := z6) i1 (show -2147483648 ≤ z6 ∧ z6 < 2147483648 by omega) (fun (z7 : Int) (q8 : -2 ≤ z7 ∧ z7 < 60 ∧ z7 ≠ -1 ∧ z7 ≠ 0 ∧ (0 ≤ z7 → aN S1 z7 0 = 2 ∧ aN S1 z7 2 = z6) ∧ FOF z6 z7 S1) => ?_)
      have fo : 0 ≤ z7 → FOF (S1 76 0 (j).toNat) z7 S1 := fun _ => by have e := q8.2.2.2.2.2; rwa [show z6 = S1 76 0 (j).toNat by omega] at e
      refine And.intro (by decide) ?_
      refine And.intro (fun (h9 : (z7 < (0 : Int) : Prop)) => ?_) (fun (h9 : ((0 : Int) ≤ z7 : Prop)) => ?_)
      ·
        refine And.intro (by decide) (And.intro (show -2147483648 ≤ j + (1 : Int) ∧ j + (1 : Int) < 2147483648 by omega) ?_)
        exact ih s (j + (1 : Int)) S1 hf (by omega) i1 i2 (by omega)
      ·
        refine c_at3 (n := z7) i1 (show 0 ≤ z7 ∧ z7 < 60 by omega) (fun (z11 : Int) (q12 : z11 = aN S1 z7 3 ∧ 0 ≤ z11 ∧ z11 ≤ 1024) => ?_)
        refine And.intro (fun (h13 : (z11 ≤ (0 : Int) : Prop)) => ?_) (fun (h13 : ((0 : Int) < z11 : Prop)) => ?_)
        ·
          refine And.intro (by decide) (And.intro (show -2147483648 ≤ j + (1 : Int) ∧ j + (1 : Int) < 2147483648 by omega) ?_)
          exact ih s (j + (1 : Int)) S1 hf (by omega) i1 i2 (by omega)
        ·
          refine c_StubHouseModel_hasCopies (n := z7) i1 (show 0 ≤ z7 ∧ z7 < 60 by omega) (fun (z15 : Int) (q16 : 0 ≤ z15 ∧ z15 ≤ 1) => ?_)
          refine And.intro (fun (h17 : (z15 ≠ (0 : Int) : Prop)) => ?_) (fun (h17 : (z15 = (0 : Int) : Prop)) => ?_)
          ·
            refine And.intro (by decide) (And.intro (show -2147483648 ≤ j + (1 : Int) ∧ j + (1 : Int) < 2147483648 by omega) ?_)
            exact ih s (j + (1 : Int)) S1 hf (by omega) i1 i2 (by omega)
          ·
            refine c_StubHouseModel_isStub (n := z7) i1 (show 0 ≤ z7 ∧ z7 < 60 by omega) (fun (z19 : Int) (q20 : 0 ≤ z19 ∧ z19 ≤ 1 ∧ (z19 = 1 → 0 < aN S1 z7 3 ∧ aN S1 z7 10 < 0) ∧ (z19 = 0 → aN S1 z7 3 ≤ 0 ∨ 0 ≤ aN S1 z7 10)) => ?_)
            refine And.intro (fun (h21 : (z19 ≠ (0 : Int) : Prop)) => ?_) (fun (h21 : (z19 = (0 : Int) : Prop)) => ?_)
            ·
              refine And.intro (by decide) (And.intro (show -2147483648 ≤ j + (1 : Int) ∧ j + (1 : Int) < 2147483648 by omega) ?_)
              exact ih s (j + (1 : Int)) S1 hf (by omega) i1 i2 (by omega)
            ·
              refine And.intro (show 0 ≤ j ∧ j < 20 by omega) ?_
              intro z23 (z23a : (-2147483648 : Int) ≤ z23) (z23b : z23 ≤ (2147483647 : Int)) (z23c : z23 = S1 76 0 (j).toNat)
              refine And.intro (show 0 ≤ s ∧ s < 20 by omega) ?_
              refine And.intro (show (-2147483648 : Int) ≤ z23 ∧ z23 ≤ (2147483647 : Int) by omega) ?_
              have w24 : (fx_up S1 76 0 (s).toNat z23) 49 0 38 = S1 49 0 38 := rfl
              have g25 : COL (fx_up S1 76 0 (s).toNat z23) := fx_pup COL_stab rfl i1
              have wk : WJ (s + (1 : Int)) (fx_up S1 76 0 (s).toNat z23) := WJ_put2 (j := j) i2 (by omega) (by omega) ⟨z7, fo (by omega), by omega, by omega, by omega, by omega⟩
              refine And.intro (by decide) (And.intro (show -2147483648 ≤ s + (1 : Int) ∧ s + (1 : Int) < 2147483648 by omega) ?_)
              refine And.intro (by decide) (And.intro (show -2147483648 ≤ j + (1 : Int) ∧ j + (1 : Int) < 2147483648 by omega) ?_)
              exact ih (s + (1 : Int)) (j + (1 : Int)) (fx_up S1 76 0 (s).toNat z23) (fxfr_up hf rfl) (by omega) g25 wk (by omega)
theorem c_StubHouseModel_dropWaiting {l : Launch} {k : fxK} {S : fxS}  (p0 : COL S) (hk : ∀ (S' : fxS) , (fxfr [(49, 38), (76, 9999)] S S' ∧ (WTG S')) → k none S') : fC l 266 [.inr (.inr (49, 0))] S k := by
  refine fxe_266 (Nat.le_of_ble_eq_true rfl) (fxz_266 400 ?_)
  refine And.intro (by decide) ?_
  refine And.intro (by decide) ?_
  have w0 : WJ (0 : Int) S := WJ_0
  exact (z_StubHouseModel_dropWaiting p0 hk (21 - (0 : Int)).toNat) (0 : Int) (0 : Int) S fxfr_rfl (by omega) p0 w0 (by omega)
theorem z_put_1 {l : Launch} {k : fxK} {S : fxS} {v : Int} (p0 : 0 ≤ S 49 0 51 ∧ S 49 0 51 + 1 ≤ 1200) (p1 : -2147483648 ≤ v ∧ v < 2147483648) (hk : ∀ (S' : fxS) , (fxfr [(49, 51), (78, 9999)] S S' ∧ (S' 49 0 51 = S 49 0 51 + 1)) → k none S') : ∀ m : Nat, (∀ (j : Int) (S1 : fxS), (fxfr [(49, 51), (78, 9999)] S S1) → (0 ≤ j ∧ j ≤ 1) → (S1 49 0 51 = S 49 0 51 + j) → 9 - j ≤ (m : Int) → fZ l 272 k 2 [some (.inr (.inr (49, 0))), some (.inl v), some (.inl (1 : Int)), some (.inl j)] [] S1) := by
  intro m
  induction m with
  | zero =>
    intro j S1 hf i0 i1 hmu
    exfalso
    omega
  | succ m ih =>
    intro j S1 hf i0 i1 hmu
    refine fxz_272 400 ?_
    refine And.intro (fun (h1 : ((1 : Int) ≤ j : Prop)) => ?_) (fun (h1 : (j < (1 : Int) : Prop)) => ?_)
    ·
      exact hk S1 ⟨hf, by omega⟩
    ·
      intro z2 (z2a : (0 : Int) ≤ z2) (z2b : z2 ≤ (1200 : Int)) (z2c : z2 = S1 49 0 51)
      refine And.intro (show -2147483648 ≤ ((8 : Int) * j) ∧ ((8 : Int) * j) < 2147483648 by omega) ?_
      intro z3 z3a z3b (z3c : z3 = fx_bop 1 v ((8 : Int) * j))
      intro z4 z4a z4b
      refine And.intro (show 0 ≤ z2 ∧ z2 < 1200 by omega) ?_
      intro z5 z5a z5b z5c
      have w6 : (fx_up S1 78 0 (z2).toNat z5) 49 0 51 = S1 49 0 51 := rfl
      intro z7 (z7a : (0 : Int) ≤ z7) (z7b : z7 ≤ (1200 : Int)) (z7c : z7 = S1 49 0 51)
      refine And.intro (show -2147483648 ≤ (z7 + (1 : Int)) ∧ (z7 + (1 : Int)) < 2147483648 by omega) ?_
      refine And.intro (show (0 : Int) ≤ (z7 + (1 : Int)) ∧ (z7 + (1 : Int)) ≤ (1200 : Int) by omega) ?_
      have w8 : (fx_up (fx_up S1 78 0 (z2).toNat z5) 49 0 51 (z7 + (1 : Int))) 49 0 51 = (z7 + (1 : Int)) := fx_up_at _ _ _ _ _
      refine And.intro (by decide) (And.intro (show -2147483648 ≤ j + (1 : Int) ∧ j + (1 : Int) < 2147483648 by omega) ?_)
      exact ih (j + (1 : Int)) (fx_up (fx_up S1 78 0 (z2).toNat z5) 49 0 51 (z7 + (1 : Int))) (fxfr_up (fxfr_up hf rfl) rfl) (by omega) (by omega) (by omega)
theorem c_put_1 {l : Launch} {k : fxK} {S : fxS} {v : Int} (p0 : 0 ≤ S 49 0 51 ∧ S 49 0 51 + 1 ≤ 1200) (p1 : -2147483648 ≤ v ∧ v < 2147483648) (hk : ∀ (S' : fxS) , (fxfr [(49, 51), (78, 9999)] S S' ∧ (S' 49 0 51 = S 49 0 51 + 1)) → k none S') : fC l 272 [.inr (.inr (49, 0)), .inl v, .inl (1 : Int)] S k := by
  refine fxe_272 (Nat.le_of_ble_eq_true rfl) (fxz_272 400 ?_)
  refine And.intro (by decide) ?_
  exact (z_put_1 p0 p1 hk (9 - (0 : Int)).toNat) (0 : Int) S fxfr_rfl (by omega) (by omega) (by omega)
theorem z_put_2 {l : Launch} {k : fxK} {S : fxS} {v : Int} (p0 : 0 ≤ S 49 0 51 ∧ S 49 0 51 + 2 ≤ 1200) (p1 : -2147483648 ≤ v ∧ v < 2147483648) (hk : ∀ (S' : fxS) , (fxfr [(49, 51), (78, 9999)] S S' ∧ (S' 49 0 51 = S 49 0 51 + 2)) → k none S') : ∀ m : Nat, (∀ (j : Int) (S1 : fxS), (fxfr [(49, 51), (78, 9999)] S S1) → (0 ≤ j ∧ j ≤ 2) → (S1 49 0 51 = S 49 0 51 + j) → 9 - j ≤ (m : Int) → fZ l 272 k 2 [some (.inr (.inr (49, 0))), some (.inl v), some (.inl (2 : Int)), some (.inl j)] [] S1) := by
  intro m
  induction m with
  | zero =>
    intro j S1 hf i0 i1 hmu
    exfalso
    omega
  | succ m ih =>
    intro j S1 hf i0 i1 hmu
    refine fxz_272 400 ?_
    refine And.intro (fun (h1 : ((2 : Int) ≤ j : Prop)) => ?_) (fun (h1 : (j < (2 : Int) : Prop)) => ?_)
    ·
      exact hk S1 ⟨hf, by omega⟩
    ·
      intro z2 (z2a : (0 : Int) ≤ z2) (z2b : z2 ≤ (1200 : Int)) (z2c : z2 = S1 49 0 51)
      refine And.intro (show -2147483648 ≤ ((8 : Int) * j) ∧ ((8 : Int) * j) < 2147483648 by omega) ?_
      intro z3 z3a z3b (z3c : z3 = fx_bop 1 v ((8 : Int) * j))
      intro z4 z4a z4b
      refine And.intro (show 0 ≤ z2 ∧ z2 < 1200 by omega) ?_
      intro z5 z5a z5b z5c
      have w6 : (fx_up S1 78 0 (z2).toNat z5) 49 0 51 = S1 49 0 51 := rfl
      intro z7 (z7a : (0 : Int) ≤ z7) (z7b : z7 ≤ (1200 : Int)) (z7c : z7 = S1 49 0 51)
      refine And.intro (show -2147483648 ≤ (z7 + (1 : Int)) ∧ (z7 + (1 : Int)) < 2147483648 by omega) ?_
      refine And.intro (show (0 : Int) ≤ (z7 + (1 : Int)) ∧ (z7 + (1 : Int)) ≤ (1200 : Int) by omega) ?_
      have w8 : (fx_up (fx_up S1 78 0 (z2).toNat z5) 49 0 51 (z7 + (1 : Int))) 49 0 51 = (z7 + (1 : Int)) := fx_up_at _ _ _ _ _
      refine And.intro (by decide) (And.intro (show -2147483648 ≤ j + (1 : Int) ∧ j + (1 : Int) < 2147483648 by omega) ?_)
      exact ih (j + (1 : Int)) (fx_up (fx_up S1 78 0 (z2).toNat z5) 49 0 51 (z7 + (1 : Int))) (fxfr_up (fxfr_up hf rfl) rfl) (by omega) (by omega) (by omega)
theorem c_put_2 {l : Launch} {k : fxK} {S : fxS} {v : Int} (p0 : 0 ≤ S 49 0 51 ∧ S 49 0 51 + 2 ≤ 1200) (p1 : -2147483648 ≤ v ∧ v < 2147483648) (hk : ∀ (S' : fxS) , (fxfr [(49, 51), (78, 9999)] S S' ∧ (S' 49 0 51 = S 49 0 51 + 2)) → k none S') : fC l 272 [.inr (.inr (49, 0)), .inl v, .inl (2 : Int)] S k := by
  refine fxe_272 (Nat.le_of_ble_eq_true rfl) (fxz_272 400 ?_)
  refine And.intro (by decide) ?_
  exact (z_put_2 p0 p1 hk (9 - (0 : Int)).toNat) (0 : Int) S fxfr_rfl (by omega) (by omega) (by omega)
theorem z_put_4 {l : Launch} {k : fxK} {S : fxS} {v : Int} (p0 : 0 ≤ S 49 0 51 ∧ S 49 0 51 + 4 ≤ 1200) (p1 : -2147483648 ≤ v ∧ v < 2147483648) (hk : ∀ (S' : fxS) , (fxfr [(49, 51), (78, 9999)] S S' ∧ (S' 49 0 51 = S 49 0 51 + 4)) → k none S') : ∀ m : Nat, (∀ (j : Int) (S1 : fxS), (fxfr [(49, 51), (78, 9999)] S S1) → (0 ≤ j ∧ j ≤ 4) → (S1 49 0 51 = S 49 0 51 + j) → 9 - j ≤ (m : Int) → fZ l 272 k 2 [some (.inr (.inr (49, 0))), some (.inl v), some (.inl (4 : Int)), some (.inl j)] [] S1) := by
  intro m
  induction m with
  | zero =>
    intro j S1 hf i0 i1 hmu
    exfalso
    omega
  | succ m ih =>
    intro j S1 hf i0 i1 hmu
    refine fxz_272 400 ?_
    refine And.intro (fun (h1 : ((4 : Int) ≤ j : Prop)) => ?_) (fun (h1 : (j < (4 : Int) : Prop)) => ?_)
    ·
      exact hk S1 ⟨hf, by omega⟩
    ·
      intro z2 (z2a : (0 : Int) ≤ z2) (z2b : z2 ≤ (1200 : Int)) (z2c : z2 = S1 49 0 51)
      refine And.intro (show -2147483648 ≤ ((8 : Int) * j) ∧ ((8 : Int) * j) < 2147483648 by omega) ?_
      intro z3 z3a z3b (z3c : z3 = fx_bop 1 v ((8 : Int) * j))
      intro z4 z4a z4b
      refine And.intro (show 0 ≤ z2 ∧ z2 < 1200 by omega) ?_
      intro z5 z5a z5b z5c
      have w6 : (fx_up S1 78 0 (z2).toNat z5) 49 0 51 = S1 49 0 51 := rfl
      intro z7 (z7a : (0 : Int) ≤ z7) (z7b : z7 ≤ (1200 : Int)) (z7c : z7 = S1 49 0 51)
      refine And.intro (show -2147483648 ≤ (z7 + (1 : Int)) ∧ (z7 + (1 : Int)) < 2147483648 by omega) ?_
      refine And.intro (show (0 : Int) ≤ (z7 + (1 : Int)) ∧ (z7 + (1 : Int)) ≤ (1200 : Int) by omega) ?_
      have w8 : (fx_up (fx_up S1 78 0 (z2).toNat z5) 49 0 51 (z7 + (1 : Int))) 49 0 51 = (z7 + (1 : Int)) := fx_up_at _ _ _ _ _
      refine And.intro (by decide) (And.intro (show -2147483648 ≤ j + (1 : Int) ∧ j + (1 : Int) < 2147483648 by omega) ?_)
      exact ih (j + (1 : Int)) (fx_up (fx_up S1 78 0 (z2).toNat z5) 49 0 51 (z7 + (1 : Int))) (fxfr_up (fxfr_up hf rfl) rfl) (by omega) (by omega) (by omega)
theorem c_put_4 {l : Launch} {k : fxK} {S : fxS} {v : Int} (p0 : 0 ≤ S 49 0 51 ∧ S 49 0 51 + 4 ≤ 1200) (p1 : -2147483648 ≤ v ∧ v < 2147483648) (hk : ∀ (S' : fxS) , (fxfr [(49, 51), (78, 9999)] S S' ∧ (S' 49 0 51 = S 49 0 51 + 4)) → k none S') : fC l 272 [.inr (.inr (49, 0)), .inl v, .inl (4 : Int)] S k := by
  refine fxe_272 (Nat.le_of_ble_eq_true rfl) (fxz_272 400 ?_)
  refine And.intro (by decide) ?_
  exact (z_put_4 p0 p1 hk (9 - (0 : Int)).toNat) (0 : Int) S fxfr_rfl (by omega) (by omega) (by omega)
theorem z_StubHouseModel_outCheck {l : Launch} {k : fxK} {S : fxS} {a : Int} (p0 : 0 ≤ a ∧ a ≤ 1200) (hk : ∀ (r : Int) , (-2147483648 ≤ r ∧ r < 2147483648) → k (some (.inl r)) S) : ∀ m : Nat, (∀ (h j : Int), (0 ≤ j ∧ j ≤ 1200) → (-2147483648 ≤ h ∧ h < 2147483648) → 2000 - j ≤ (m : Int) → fZ l 273 k 5 [some (.inr (.inr (49, 0))), none, some (.inl h), some (.inl j)] [] S) := by
  intro m
  induction m with
  | zero =>
    intro h j  i0 i1 hmu
    exfalso
    omega
  | succ m ih =>
    intro h j  i0 i1 hmu
    refine fxz_273 400 ?_
    intro z1 (z1a : (0 : Int) ≤ z1) (z1b : z1 ≤ (1200 : Int)) (z1c : z1 = S 49 0 51)
    refine And.intro (fun (h2 : (z1 ≤ j : Prop)) => ?_) (fun (h2 : (j < z1 : Prop)) => ?_)
    ·
      exact hk h (by omega)
    ·
      refine And.intro (show 0 ≤ j ∧ j < 1200 by omega) ?_
      intro z3 (z3a : (-128 : Int) ≤ z3) (z3b : z3 ≤ (127 : Int)) (z3c : z3 = S 78 0 (j).toNat)
      refine And.intro (show (0 : Int) ≤ (255 : Int) by omega) ?_
      intro z4 (z4a : 0 ≤ z4) (z4b : z4 ≤ (255 : Int)) z4d
      have z4c : z4 = z3 % 256 := z4d rfl
      refine c_StubHouseModel_mixed (h := h) (b := z4) (show -2147483648 ≤ h ∧ h < 2147483648 by omega) (show -2147483648 ≤ z4 ∧ z4 < 2147483648 by omega) (fun (z5 : Int) (q6 : -2147483648 ≤ z5 ∧ z5 < 2147483648) => ?_)
      refine And.intro (by decide) ?_
      refine And.intro (by decide) (And.intro (show -2147483648 ≤ j + (1 : Int) ∧ j + (1 : Int) < 2147483648 by omega) ?_)
      exact ih z5 (j + (1 : Int))  (by omega) (by omega) (by omega)
theorem c_StubHouseModel_outCheck {l : Launch} {k : fxK} {S : fxS} {a : Int} (p0 : 0 ≤ a ∧ a ≤ 1200) (hk : ∀ (r : Int) , (-2147483648 ≤ r ∧ r < 2147483648) → k (some (.inl r)) S) : fC l 273 [.inr (.inr (49, 0)), .inl a] S k := by
  refine fxe_273 (Nat.le_of_ble_eq_true rfl) (fxz_273 400 ?_)
  refine And.intro (by decide) ?_
  refine And.intro (by decide) ?_
  exact (z_StubHouseModel_outCheck p0 hk (2000 - a).toNat) (17 : Int) a  (by omega) (by omega) (by omega)
theorem z_StubHouseModel_putPath {l : Launch} {k : fxK} {S : fxS} {f : Int} (p0 : COL S) (p1 : WTM S) (p2 : -2 ≤ f ∧ f < 60) (p3 : 0 ≤ S 49 0 51 ∧ S 49 0 51 + 40 ≤ 1200) (hk : ∀ (S' : fxS) , (fxfr [(49, 51), (78, 9999)] S S' ∧ ((0 ≤ f → S' 49 0 51 = S 49 0 51 + 8 * (depF (ovf (S 50 0)) 60 f : Int)) ∧ (f < 0 → S' 49 0 51 = S 49 0 51))) → k none S') : ∀ m : Nat, (∀ (c d : Int) (S1 : fxS), (fxfr [(49, 51), (78, 9999)] S S1) → ((0 ≤ f → c = (depF (ovf (S 50 0)) 60 f : Int)) ∧ (f < 0 → c = 0) ∧ 0 ≤ c ∧ c ≤ 5) → (1 ≤ d ∧ d ≤ c + 1) → (S1 49 0 51 = S 49 0 51 + 8 * (d - 1)) → (COL S1) → (WTM S1) → (10 - d) * 1000 + 999 ≤ (m : Int) → fZ l 274 k 16 [some (.inr (.inr (49, 0))), some (.inl f), some (.inl c), some (.inl d), none, none] [] S1) ∧ (∀ (c d u : Int) (S1 : fxS), (fxfr [(49, 51), (78, 9999)] S S1) → ((0 ≤ f → c = (depF (ovf (S 50 0)) 60 f : Int)) ∧ 0 ≤ f ∧ 0 ≤ c ∧ c ≤ 5) → (1 ≤ d ∧ d ≤ c) → (S1 49 0 51 = S 49 0 51 + 8 * (d - 1)) → (0 ≤ u ∧ u < 60 ∧ (depF (ovf (S1 50 0)) 60 u : Int) ≤ 5) → (COL S1) → (WTM S1) → (10 - d) * 1000 + 100 + (depF (ovf (S1 50 0)) 60 u : Int) ≤ (m : Int) → fZ l 274 k 24 [some (.inr (.inr (49, 0))), some (.inl f), some (.inl c), some (.inl d), some (.inl u), none] [] S1) ∧ (∀ (c d u j : Int) (S1 : fxS), (fxfr [(49, 51), (78, 9999)] S S1) → ((0 ≤ f → c = (depF (ovf (S 50 0)) 60 f : Int)) ∧ 0 ≤ f ∧ 0 ≤ c ∧ c ≤ 5) → (1 ≤ d ∧ d ≤ c) → (S1 49 0 51 = S 49 0 51 + 8 * (d - 1) + j) → (0 ≤ u ∧ u < 60) → (0 ≤ j ∧ j ≤ 8) → (COL S1) → (WTM S1) → (10 - d) * 1000 + 50 - j ≤ (m : Int) → fZ l 274 k 49 [some (.inr (.inr (49, 0))), some (.inl f), some (.inl c), some (.inl d), some (.inl u), some (.inl j)] [] S1) := by
  intro m
  induction m with
  | zero =>
    refine ⟨?_, ?_, ?_⟩
    · intro c d S1 hf i0 i1 i2 i3 i4 hmu
      exfalso
      omega
    · intro c d u S1 hf i0 i1 i2 i3 i4 i5 hmu
      exfalso
      omega
    · intro c d u j S1 hf i0 i1 i2 i3 i4 i5 i6 hmu
      exfalso
      omega
  | succ m ih =>
    refine ⟨?_, ?_, ?_⟩
    · intro c d S1 hf i0 i1 i2 i3 i4 hmu
      refine fxz_274 400 ?_
      refine And.intro (fun (h1 : (c < d : Prop)) => ?_) (fun (h1 : (d ≤ c : Prop)) => ?_)
      ·
        exact hk S1 ⟨hf, by omega⟩
      ·
        refine And.intro (by decide) ?_
        have d6 := WTM_dep (n := f) i4 (by omega)
        exact ih.2.1 c d f S1 hf (by omega) (by omega) (by omega) (by omega) i3 i4 (by omega)
    · intro c d u S1 hf i0 i1 i2 i3 i4 i5 hmu
      refine fxz_274 400 ?_
      refine c_StubHouseModel_depth (n := u) i4 i5 (show 0 ≤ u ∧ u < 60 by omega) (fun (z2 : Int) (q3 : z2 = (depF (ovf (S1 50 0)) 60 u : Int) ∧ 0 ≤ z2 ∧ z2 ≤ 5) => ?_)
      have dq := q3.1
      refine And.intro (fun (h4 : (z2 ≤ d : Prop)) => ?_) (fun (h4 : (d < z2 : Prop)) => ?_)
      ·
        refine And.intro (by decide) ?_
        exact ih.2.2 c d u (0 : Int) S1 hf (by omega) (by omega) (by omega) (by omega) (by omega) i4 i5 (by omega)
      ·
        refine c_at1 (n := u) i4 (show 0 ≤ u ∧ u < 60 by omega) (fun (z5 : Int) (q6 : z5 = aN S1 u 1 ∧ -1 ≤ z5 ∧ z5 < 60) => ?_)
        have ch : (depF (ovf (S1 50 0)) 60 u : Int) = 1 + (depF (ovf (S1 50 0)) 60 z5 : Int) := by rw [q6.1]; exact WTM_child i5 (by first | omega | (have e0 := depF_0 (ov := ovf (S1 50 0)) (k := 60) (a := u); omega))
        have rg := WTM_rng (n := u) i5 (by first | omega | (have e0 := depF_0 (ov := ovf (S1 50 0)) (k := 60) (a := u); omega))
        refine And.intro (by decide) ?_
        exact ih.2.1 c d z5 S1 hf (by omega) (by omega) (by omega) (by omega) i4 i5 (by omega)
    · intro c d u j S1 hf i0 i1 i2 i3 i4 i5 i6 hmu
      refine fxz_274 400 ?_
      refine And.intro (fun (h7 : ((8 : Int) ≤ j : Prop)) => ?_) (fun (h7 : (j < (8 : Int) : Prop)) => ?_)
      ·
        refine And.intro (by decide) (And.intro (show -2147483648 ≤ d + (1 : Int) ∧ d + (1 : Int) < 2147483648 by omega) ?_)
        exact ih.1 c (d + (1 : Int)) S1 hf (by omega) (by omega) (by omega) i5 i6 (by omega)
      ·
        refine And.intro (show 0 ≤ u ∧ u < 60 by omega) ?_
        intro z9
        refine And.intro (show -2147483648 ≤ ((8 : Int) * j) ∧ ((8 : Int) * j) < 2147483648 by omega) ?_
        intro z10
        intro z11
        intro z12 z12a z12b
        refine c_put_1 (v := z12) (show 0 ≤ S1 49 0 51 ∧ S1 49 0 51 + 1 ≤ 1200 by omega) (show -2147483648 ≤ z12 ∧ z12 < 2147483648 by omega) (fun (S13 : fxS) ⟨(f14 : fxfr [(49, 51), (78, 9999)] S1 S13), (q15 : S13 49 0 51 = S1 49 0 51 + 1)⟩ => ?_)
        have g16 : COL S13 := fx_pfr COL_stab f14 rfl i5
        have g17 : WTM S13 := fx_pfr WTM_stab f14 rfl i6
        refine And.intro (by decide) (And.intro (show -2147483648 ≤ j + (1 : Int) ∧ j + (1 : Int) < 2147483648 by omega) ?_)
        exact ih.2.2 c d u (j + (1 : Int)) S13 (fxfr_tr hf f14 rfl) (by omega) (by omega) (by omega) (by omega) (by omega) g16 g17 (by omega)
theorem c_StubHouseModel_putPath {l : Launch} {k : fxK} {S : fxS} {f : Int} (p0 : COL S) (p1 : WTM S) (p2 : -2 ≤ f ∧ f < 60) (p3 : 0 ≤ S 49 0 51 ∧ S 49 0 51 + 40 ≤ 1200) (hk : ∀ (S' : fxS) , (fxfr [(49, 51), (78, 9999)] S S' ∧ ((0 ≤ f → S' 49 0 51 = S 49 0 51 + 8 * (depF (ovf (S 50 0)) 60 f : Int)) ∧ (f < 0 → S' 49 0 51 = S 49 0 51))) → k none S') : fC l 274 [.inr (.inr (49, 0)), .inl f] S k := by
  refine fxe_274 (Nat.le_of_ble_eq_true rfl) (fxz_274 400 ?_)
  refine And.intro (fun (h19 : (f < (0 : Int) : Prop)) => ?_) (fun (h19 : ((0 : Int) ≤ f : Prop)) => ?_)
  ·
    refine And.intro (by decide) ?_
    refine And.intro (by decide) ?_
    exact (z_StubHouseModel_putPath p0 p1 p2 p3 hk ((10 - (1 : Int)) * 1000 + 999).toNat).1 (0 : Int) (1 : Int) S fxfr_rfl (by omega) (by omega) (by omega) p0 p1 (by omega)
  ·
    refine c_StubHouseModel_depth (n := f) p0 p1 (show 0 ≤ f ∧ f < 60 by omega) (fun (z20 : Int) (q21 : z20 = (depF (ovf (S 50 0)) 60 f : Int) ∧ 0 ≤ z20 ∧ z20 ≤ 5) => ?_)
    have dq := q21.1
    refine And.intro (by decide) ?_
    refine And.intro (by decide) ?_
    exact (z_StubHouseModel_putPath p0 p1 p2 p3 hk ((10 - (1 : Int)) * 1000 + 999).toNat).1 z20 (1 : Int) S fxfr_rfl (by omega) (by omega) (by omega) p0 p1 (by omega)
theorem z_StubHouseModel_beginWriting {l : Launch} {k : fxK} {S : fxS} {w : Int} {d : Int} {t : Int} (p0 : COL S) (p1 : WTM S) (p2 : INJ S) (p3 : AON S) (p4 : WNR S) (p5 : BWP w d t S) (p6 : 0 ≤ w ∧ w ≤ 2) (p7 : 0 ≤ t ∧ t ≤ 5) (p8 : -2147483648 ≤ d ∧ d < 2147483648) (hk : ∀ (S' : fxS) , (fxfr [(49, 13), (49, 49), (49, 51), (49, 53), (49, 54), (72, 9999), (73, 9999), (78, 9999)] S S' ∧ (S' 72 0 0 = 5 ∧ S 63 0 (t).toNat + S' 49 0 51 ≤ 6000 ∧ S' 49 0 51 ≤ 1200 ∧ S' 72 0 1 = S 72 0 1) ∧ (WNR S')) → k none S') : ∀ m : Nat, (∀ (j : Int) (S1 : fxS), (fxfr [(49, 13), (49, 49), (49, 51), (49, 53), (49, 54), (72, 9999), (73, 9999), (78, 9999)] S S1) → (w = 1) → ((S 63 0 (t).toNat = 0 → S1 49 0 51 = 8 + j) ∧ (S 63 0 (t).toNat ≠ 0 → S1 49 0 51 = j)) → (0 ≤ j ∧ j ≤ S 49 0 45) → (S1 49 0 45 = S 49 0 45 ∧ S1 63 0 (t).toNat = S 63 0 (t).toNat) → (0 ≤ S 49 0 45 ∧ S 49 0 45 ≤ 1089 ∧ ((S 63 0 (t).toNat = 0 → 8 + S 49 0 45 ≤ 6000) ∧ (S 63 0 (t).toNat ≠ 0 → S 63 0 (t).toNat + S 49 0 45 ≤ 6000)) ∧ 0 ≤ S 63 0 (t).toNat) → (S1 72 0 1 = S 72 0 1) → (COL S1) → (WTM S1) → (INJ S1) → (AON S1) → (WNR S1) → 2000 - j ≤ (m : Int) → fZ l 275 k 72 [some (.inr (.inr (49, 0))), none, none, none, none, some (.inl j), none, none, none] [] S1) ∧ (∀ (f z a j : Int) (S1 : fxS), (fxfr [(49, 13), (49, 49), (49, 51), (49, 53), (49, 54), (72, 9999), (73, 9999), (78, 9999)] S S1) → (-2 ≤ f ∧ f < 60 ∧ (f < 0 → z = 0)) → (0 ≤ z ∧ z ≤ 1024) → (S1 49 0 51 = a + j ∧ 0 ≤ j ∧ j ≤ z) → (0 ≤ a ∧ a + z + 4 ≤ 1200) → ((0 ≤ f → S 63 0 (t).toNat + a + z + 4 ≤ 6000) ∧ (f < 0 → S 63 0 (t).toNat + a ≤ 6000)) → (S1 63 0 (t).toNat = S 63 0 (t).toNat) → (S1 72 0 1 = S 72 0 1) → (COL S1) → (WTM S1) → (INJ S1) → (AON S1) → (WNR S1) → (FBC f z S1) → 2000 - j ≤ (m : Int) → fZ l 275 k 266 [some (.inr (.inr (49, 0))), none, none, none, none, some (.inl f), some (.inl z), some (.inl a), some (.inl j)] [] S1) := by
  intro m
  induction m with
  | zero =>
    refine ⟨?_, ?_⟩
    · intro j S1 hf i0 i1 i2 i3 i4 i5 i6 i7 i8 i9 i10 hmu
      exfalso
      omega
    · intro f z a j S1 hf i0 i1 i2 i3 i4 i5 i6 i7 i8 i9 i10 i11 i12 hmu
      exfalso
      omega
  | succ m ih =>
    refine ⟨?_, ?_⟩
    · intro j S1 hf i0 i1 i2 i3 i4 i5 i6 i7 i8 i9 i10 hmu
      refine fxz_275 400 ?_
      intro z1 (z1a : (0 : Int) ≤ z1) (z1b : z1 ≤ (1089 : Int)) (z1c : z1 = S1 49 0 45)
      refine And.intro (fun (h2 : (z1 ≤ j : Prop)) => ?_) (fun (h2 : (j < z1 : Prop)) => ?_)
      ·
        intro z3 (z3a : (0 : Int) ≤ z3) (z3b : z3 ≤ (1200 : Int)) (z3c : z3 = S1 49 0 51)
        refine And.intro (show -2147483648 ≤ (z3 + (63 : Int)) ∧ (z3 + (63 : Int)) < 2147483648 by omega) ?_
        refine And.intro (show 0 ≤ (z3 + (63 : Int)) ∧ 0 < (64 : Int) by omega) ?_
        refine c_begin_0 (w := (5 : Int)) (s := ((z3 + (63 : Int)) / (64 : Int))) i10 (show 0 ≤ (5 : Int) ∧ (5 : Int) ≤ 5 by omega) (show -2147483648 ≤ ((z3 + (63 : Int)) / (64 : Int)) ∧ ((z3 + (63 : Int)) / (64 : Int)) < 2147483648 by omega) (fun (S4 : fxS) ⟨(f5 : fxfr [(72, 9999), (73, 9999)] S1 S4), (q6 : S4 72 0 0 = (5 : Int) ∧ S4 72 0 1 = S1 72 0 1), (g7 : WNR S4)⟩ => ?_)
        have w8 : S4 49 0 51 = S1 49 0 51 := f5 49 0 51 rfl
        have w9 : S4 63 0 (t).toNat = S1 63 0 (t).toNat := f5 63 0 (t).toNat rfl
        have w10 : S4 49 0 45 = S1 49 0 45 := f5 49 0 45 rfl
        have g11 : COL S4 := fx_pfr COL_stab f5 rfl i6
        have g12 : WTM S4 := fx_pfr WTM_stab f5 rfl i7
        have g13 : INJ S4 := fx_pfr INJ_stab f5 rfl i8
        have g14 : AON S4 := fx_pfr AON_stab f5 rfl i9
        exact hk S4 ⟨(fxfr_tr hf f5 rfl), by omega, g7⟩
      ·
        refine And.intro (show 0 ≤ j ∧ j < 1200 by omega) ?_
        intro z15 (z15a : (-128 : Int) ≤ z15) (z15b : z15 ≤ (127 : Int)) (z15c : z15 = S1 77 0 (j).toNat)
        refine c_put_1 (v := z15) (show 0 ≤ S1 49 0 51 ∧ S1 49 0 51 + 1 ≤ 1200 by omega) (show -2147483648 ≤ z15 ∧ z15 < 2147483648 by omega) (fun (S16 : fxS) ⟨(f17 : fxfr [(49, 51), (78, 9999)] S1 S16), (q18 : S16 49 0 51 = S1 49 0 51 + 1)⟩ => ?_)
        have w19 : S16 72 0 0 = S1 72 0 0 := f17 72 0 0 rfl
        have w20 : S16 72 0 1 = S1 72 0 1 := f17 72 0 1 rfl
        have w21 : S16 63 0 (t).toNat = S1 63 0 (t).toNat := f17 63 0 (t).toNat rfl
        have w22 : S16 49 0 45 = S1 49 0 45 := f17 49 0 45 rfl
        have g23 : COL S16 := fx_pfr COL_stab f17 rfl i6
        have g24 : WTM S16 := fx_pfr WTM_stab f17 rfl i7
        have g25 : INJ S16 := fx_pfr INJ_stab f17 rfl i8
        have g26 : AON S16 := fx_pfr AON_stab f17 rfl i9
        have g27 : WNR S16 := fx_pfr WNR_stab f17 rfl i10
        refine And.intro (by decide) (And.intro (show -2147483648 ≤ j + (1 : Int) ∧ j + (1 : Int) < 2147483648 by omega) ?_)
        exact ih.1 (j + (1 : Int)) S16 (fxfr_tr hf f17 rfl) (by omega) (by omega) (by omega) (by omega) (by omega) (by omega) g23 g24 g25 g26 g27 (by omega)
    · intro f z a j S1 hf i0 i1 i2 i3 i4 i5 i6 i7 i8 i9 i10 i11 i12 hmu
      refine fxz_275 400 ?_
      refine And.intro (fun (h29 : (z ≤ j : Prop)) => ?_) (fun (h29 : (j < z : Prop)) => ?_)
      ·
        refine And.intro (fun (h30 : (f < (0 : Int) : Prop)) => ?_) (fun (h30 : ((0 : Int) ≤ f : Prop)) => ?_)
        ·
          intro z31 (z31a : (0 : Int) ≤ z31) (z31b : z31 ≤ (1200 : Int)) (z31c : z31 = S1 49 0 51)
          refine And.intro (show -2147483648 ≤ (z31 + (63 : Int)) ∧ (z31 + (63 : Int)) < 2147483648 by omega) ?_
          refine And.intro (show 0 ≤ (z31 + (63 : Int)) ∧ 0 < (64 : Int) by omega) ?_
          refine c_begin_0 (w := (5 : Int)) (s := ((z31 + (63 : Int)) / (64 : Int))) i11 (show 0 ≤ (5 : Int) ∧ (5 : Int) ≤ 5 by omega) (show -2147483648 ≤ ((z31 + (63 : Int)) / (64 : Int)) ∧ ((z31 + (63 : Int)) / (64 : Int)) < 2147483648 by omega) (fun (S32 : fxS) ⟨(f33 : fxfr [(72, 9999), (73, 9999)] S1 S32), (q34 : S32 72 0 0 = (5 : Int) ∧ S32 72 0 1 = S1 72 0 1), (g35 : WNR S32)⟩ => ?_)
          have w36 : S32 49 0 51 = S1 49 0 51 := f33 49 0 51 rfl
          have w37 : S32 63 0 (t).toNat = S1 63 0 (t).toNat := f33 63 0 (t).toNat rfl
          have w38 : S32 49 0 45 = S1 49 0 45 := f33 49 0 45 rfl
          have g39 : COL S32 := fx_pfr COL_stab f33 rfl i7
          have g40 : WTM S32 := fx_pfr WTM_stab f33 rfl i8
          have g41 : INJ S32 := fx_pfr INJ_stab f33 rfl i9
          have g42 : AON S32 := fx_pfr AON_stab f33 rfl i10
          have g43 : FBC f z S32 := fx_pfr FBC_stab f33 rfl i12
          exact hk S32 ⟨(fxfr_tr hf f33 rfl), by omega, g35⟩
        ·
          refine c_StubHouseModel_outCheck (a := a) (show 0 ≤ a ∧ a ≤ 1200 by omega) (fun (z44 : Int) (q45 : -2147483648 ≤ z44 ∧ z44 < 2147483648) => ?_)
          refine c_put_4 (v := z44) (show 0 ≤ S1 49 0 51 ∧ S1 49 0 51 + 4 ≤ 1200 by omega) (show -2147483648 ≤ z44 ∧ z44 < 2147483648 by omega) (fun (S46 : fxS) ⟨(f47 : fxfr [(49, 51), (78, 9999)] S1 S46), (q48 : S46 49 0 51 = S1 49 0 51 + 4)⟩ => ?_)
          have w49 : S46 72 0 0 = S1 72 0 0 := f47 72 0 0 rfl
          have w50 : S46 72 0 1 = S1 72 0 1 := f47 72 0 1 rfl
          have w51 : S46 63 0 (t).toNat = S1 63 0 (t).toNat := f47 63 0 (t).toNat rfl
          have w52 : S46 49 0 45 = S1 49 0 45 := f47 49 0 45 rfl
          have g53 : COL S46 := fx_pfr COL_stab f47 rfl i7
          have g54 : WTM S46 := fx_pfr WTM_stab f47 rfl i8
          have g55 : INJ S46 := fx_pfr INJ_stab f47 rfl i9
          have g56 : AON S46 := fx_pfr AON_stab f47 rfl i10
          have g57 : WNR S46 := fx_pfr WNR_stab f47 rfl i11
          have g58 : FBC f z S46 := fx_pfr FBC_stab f47 rfl i12
          intro z59 (z59a : (0 : Int) ≤ z59) (z59b : z59 ≤ (1200 : Int)) (z59c : z59 = S46 49 0 51)
          refine And.intro (show -2147483648 ≤ (z59 + (63 : Int)) ∧ (z59 + (63 : Int)) < 2147483648 by omega) ?_
          refine And.intro (show 0 ≤ (z59 + (63 : Int)) ∧ 0 < (64 : Int) by omega) ?_
          refine c_begin_0 (w := (5 : Int)) (s := ((z59 + (63 : Int)) / (64 : Int))) g57 (show 0 ≤ (5 : Int) ∧ (5 : Int) ≤ 5 by omega) (show -2147483648 ≤ ((z59 + (63 : Int)) / (64 : Int)) ∧ ((z59 + (63 : Int)) / (64 : Int)) < 2147483648 by omega) (fun (S60 : fxS) ⟨(f61 : fxfr [(72, 9999), (73, 9999)] S46 S60), (q62 : S60 72 0 0 = (5 : Int) ∧ S60 72 0 1 = S46 72 0 1), (g63 : WNR S60)⟩ => ?_)
          have w64 : S60 49 0 51 = S46 49 0 51 := f61 49 0 51 rfl
          have w65 : S60 63 0 (t).toNat = S46 63 0 (t).toNat := f61 63 0 (t).toNat rfl
          have w66 : S60 49 0 45 = S46 49 0 45 := f61 49 0 45 rfl
          have g67 : COL S60 := fx_pfr COL_stab f61 rfl g53
          have g68 : WTM S60 := fx_pfr WTM_stab f61 rfl g54
          have g69 : INJ S60 := fx_pfr INJ_stab f61 rfl g55
          have g70 : AON S60 := fx_pfr AON_stab f61 rfl g56
          have g71 : FBC f z S60 := fx_pfr FBC_stab f61 rfl g58
          exact hk S60 ⟨(fxfr_tr (fxfr_tr hf f47 rfl) f61 rfl), by omega, g63⟩
      ·
        refine And.intro (show 0 ≤ j ∧ 0 < (32 : Int) by omega) ?_
        refine And.intro (show -2147483648 ≤ ((10 : Int) + (j / (32 : Int))) ∧ ((10 : Int) + (j / (32 : Int))) < 2147483648 by omega) ?_
        refine c_atb (n := f) (w := ((10 : Int) + (j / (32 : Int)))) i7 (show 0 ≤ f ∧ f < 60 by omega) (show 10 ≤ ((10 : Int) + (j / (32 : Int))) ∧ ((10 : Int) + (j / (32 : Int))) < 42 by omega) (fun (z72 : Int) (q73 : z72 = aN S1 f ((10 : Int) + (j / (32 : Int))) ∧ -1 ≤ z72 ∧ z72 ≤ 207) => ?_)
        have kf := i12 (by omega)
        have k3 := kf.2.1
        have rp : 0 ≤ z72 := by rw [q73.1]; exact AON_at i10 (by omega) kf.1 kf.2.2 (by omega) (by omega)
        refine And.intro (show -2147483648 ≤ ((32 : Int) * z72) ∧ ((32 : Int) * z72) < 2147483648 by omega) ?_
        refine And.intro (show 0 ≤ j ∧ 0 < (32 : Int) by omega) ?_
        refine And.intro (show -2147483648 ≤ (((32 : Int) * z72) + (j % (32 : Int))) ∧ (((32 : Int) * z72) + (j % (32 : Int))) < 2147483648 by omega) ?_
        refine And.intro (show 0 ≤ (((32 : Int) * z72) + (j % (32 : Int))) ∧ (((32 : Int) * z72) + (j % (32 : Int))) < 6656 by omega) ?_
        intro z74 (z74a : (-128 : Int) ≤ z74) (z74b : z74 ≤ (127 : Int)) (z74c : z74 = S1 57 0 ((((32 : Int) * z72) + (j % (32 : Int)))).toNat)
        refine c_put_1 (v := z74) (show 0 ≤ S1 49 0 51 ∧ S1 49 0 51 + 1 ≤ 1200 by omega) (show -2147483648 ≤ z74 ∧ z74 < 2147483648 by omega) (fun (S75 : fxS) ⟨(f76 : fxfr [(49, 51), (78, 9999)] S1 S75), (q77 : S75 49 0 51 = S1 49 0 51 + 1)⟩ => ?_)
        have w78 : S75 72 0 0 = S1 72 0 0 := f76 72 0 0 rfl
        have w79 : S75 72 0 1 = S1 72 0 1 := f76 72 0 1 rfl
        have w80 : S75 63 0 (t).toNat = S1 63 0 (t).toNat := f76 63 0 (t).toNat rfl
        have w81 : S75 49 0 45 = S1 49 0 45 := f76 49 0 45 rfl
        have g82 : COL S75 := fx_pfr COL_stab f76 rfl i7
        have g83 : WTM S75 := fx_pfr WTM_stab f76 rfl i8
        have g84 : INJ S75 := fx_pfr INJ_stab f76 rfl i9
        have g85 : AON S75 := fx_pfr AON_stab f76 rfl i10
        have g86 : WNR S75 := fx_pfr WNR_stab f76 rfl i11
        have g87 : FBC f z S75 := fx_pfr FBC_stab f76 rfl i12
        refine And.intro (by decide) (And.intro (show -2147483648 ≤ j + (1 : Int) ∧ j + (1 : Int) < 2147483648 by omega) ?_)
        exact ih.2 f z a (j + (1 : Int)) S75 (fxfr_tr hf f76 rfl) (by omega) (by omega) (by omega) (by omega) (by omega) (by omega) (by omega) g82 g83 g84 g85 g86 g87 (by omega)
theorem c_StubHouseModel_beginWriting {l : Launch} {k : fxK} {S : fxS} {w : Int} {d : Int} {t : Int} (p0 : COL S) (p1 : WTM S) (p2 : INJ S) (p3 : AON S) (p4 : WNR S) (p5 : BWP w d t S) (p6 : 0 ≤ w ∧ w ≤ 2) (p7 : 0 ≤ t ∧ t ≤ 5) (p8 : -2147483648 ≤ d ∧ d < 2147483648) (hk : ∀ (S' : fxS) , (fxfr [(49, 13), (49, 49), (49, 51), (49, 53), (49, 54), (72, 9999), (73, 9999), (78, 9999)] S S' ∧ (S' 72 0 0 = 5 ∧ S 63 0 (t).toNat + S' 49 0 51 ≤ 6000 ∧ S' 49 0 51 ≤ 1200 ∧ S' 72 0 1 = S 72 0 1) ∧ (WNR S')) → k none S') : fC l 275 [.inr (.inr (49, 0)), .inl w, .inl d, .inl t] S k := by
  refine fxe_275 (Nat.le_of_ble_eq_true rfl) (fxz_275 400 ?_)
  refine And.intro (show (0 : Int) ≤ w ∧ w ≤ (2 : Int) by omega) ?_
  have w89 : (fx_up S 49 0 49 w) 49 0 51 = S 49 0 51 := if_neg (fun q => absurd q.2.2 (by decide))
  have w90 : (fx_up S 49 0 49 w) 72 0 0 = S 72 0 0 := rfl
  have w91 : (fx_up S 49 0 49 w) 72 0 1 = S 72 0 1 := rfl
  have w92 : (fx_up S 49 0 49 w) 63 0 (t).toNat = S 63 0 (t).toNat := rfl
  have w93 : (fx_up S 49 0 49 w) 49 0 45 = S 49 0 45 := if_neg (fun q => absurd q.2.2 (by decide))
  have g94 : COL (fx_up S 49 0 49 w) := fx_pup COL_stab rfl p0
  have g95 : WTM (fx_up S 49 0 49 w) := fx_pup WTM_stab rfl p1
  have g96 : INJ (fx_up S 49 0 49 w) := fx_pup INJ_stab rfl p2
  have g97 : AON (fx_up S 49 0 49 w) := fx_pup AON_stab rfl p3
  have g98 : WNR (fx_up S 49 0 49 w) := fx_pup WNR_stab rfl p4
  have g99 : BWP w d t (fx_up S 49 0 49 w) := fx_pup BWP_stab rfl p5
  refine And.intro (show (-2147483648 : Int) ≤ d ∧ d ≤ (2147483647 : Int) by omega) ?_
  have w100 : (fx_up (fx_up S 49 0 49 w) 49 0 53 d) 49 0 51 = (fx_up S 49 0 49 w) 49 0 51 := if_neg (fun q => absurd q.2.2 (by decide))
  have w101 : (fx_up (fx_up S 49 0 49 w) 49 0 53 d) 72 0 0 = (fx_up S 49 0 49 w) 72 0 0 := rfl
  have w102 : (fx_up (fx_up S 49 0 49 w) 49 0 53 d) 72 0 1 = (fx_up S 49 0 49 w) 72 0 1 := rfl
  have w103 : (fx_up (fx_up S 49 0 49 w) 49 0 53 d) 63 0 (t).toNat = (fx_up S 49 0 49 w) 63 0 (t).toNat := rfl
  have w104 : (fx_up (fx_up S 49 0 49 w) 49 0 53 d) 49 0 45 = (fx_up S 49 0 49 w) 49 0 45 := if_neg (fun q => absurd q.2.2 (by decide))
  have g105 : COL (fx_up (fx_up S 49 0 49 w) 49 0 53 d) := fx_pup COL_stab rfl g94
  have g106 : WTM (fx_up (fx_up S 49 0 49 w) 49 0 53 d) := fx_pup WTM_stab rfl g95
  have g107 : INJ (fx_up (fx_up S 49 0 49 w) 49 0 53 d) := fx_pup INJ_stab rfl g96
  have g108 : AON (fx_up (fx_up S 49 0 49 w) 49 0 53 d) := fx_pup AON_stab rfl g97
  have g109 : WNR (fx_up (fx_up S 49 0 49 w) 49 0 53 d) := fx_pup WNR_stab rfl g98
  have g110 : BWP w d t (fx_up (fx_up S 49 0 49 w) 49 0 53 d) := fx_pup BWP_stab rfl g99
  refine And.intro (show (0 : Int) ≤ (0 : Int) ∧ (0 : Int) ≤ (1200 : Int) by omega) ?_
  have w111 : (fx_up (fx_up (fx_up S 49 0 49 w) 49 0 53 d) 49 0 51 (0 : Int)) 49 0 51 = (0 : Int) := fx_up_at _ _ _ _ _
  have w112 : (fx_up (fx_up (fx_up S 49 0 49 w) 49 0 53 d) 49 0 51 (0 : Int)) 72 0 0 = (fx_up (fx_up S 49 0 49 w) 49 0 53 d) 72 0 0 := rfl
  have w113 : (fx_up (fx_up (fx_up S 49 0 49 w) 49 0 53 d) 49 0 51 (0 : Int)) 72 0 1 = (fx_up (fx_up S 49 0 49 w) 49 0 53 d) 72 0 1 := rfl
  have w114 : (fx_up (fx_up (fx_up S 49 0 49 w) 49 0 53 d) 49 0 51 (0 : Int)) 63 0 (t).toNat = (fx_up (fx_up S 49 0 49 w) 49 0 53 d) 63 0 (t).toNat := rfl
  have w115 : (fx_up (fx_up (fx_up S 49 0 49 w) 49 0 53 d) 49 0 51 (0 : Int)) 49 0 45 = (fx_up (fx_up S 49 0 49 w) 49 0 53 d) 49 0 45 := if_neg (fun q => absurd q.2.2 (by decide))
  have g116 : COL (fx_up (fx_up (fx_up S 49 0 49 w) 49 0 53 d) 49 0 51 (0 : Int)) := fx_pup COL_stab rfl g105
  have g117 : WTM (fx_up (fx_up (fx_up S 49 0 49 w) 49 0 53 d) 49 0 51 (0 : Int)) := fx_pup WTM_stab rfl g106
  have g118 : INJ (fx_up (fx_up (fx_up S 49 0 49 w) 49 0 53 d) 49 0 51 (0 : Int)) := fx_pup INJ_stab rfl g107
  have g119 : AON (fx_up (fx_up (fx_up S 49 0 49 w) 49 0 53 d) 49 0 51 (0 : Int)) := fx_pup AON_stab rfl g108
  have g120 : WNR (fx_up (fx_up (fx_up S 49 0 49 w) 49 0 53 d) 49 0 51 (0 : Int)) := fx_pup WNR_stab rfl g109
  have g121 : BWP w d t (fx_up (fx_up (fx_up S 49 0 49 w) 49 0 53 d) 49 0 51 (0 : Int)) := fx_pup BWP_stab rfl g110
  have be : w = 1 → ((S 63 0 (t).toNat = 0 → 8 + S 49 0 45 ≤ 6000) ∧ (S 63 0 (t).toNat ≠ 0 → S 63 0 (t).toNat + S 49 0 45 ≤ 6000)) ∧ 0 ≤ S 49 0 45 ∧ S 49 0 45 ≤ 1089 := p5.2.1
  have b0 : w = 0 → ((S 63 0 (t).toNat = 0 → 8 + (21 : Int) ≤ 6000) ∧ (S 63 0 (t).toNat ≠ 0 → S 63 0 (t).toNat + (21 : Int) ≤ 6000)) := p5.1
  refine And.intro (show 0 ≤ t ∧ t < 6 by omega) ?_
  intro z122 (z122a : (0 : Int) ≤ z122) (z122b : z122 ≤ (6000 : Int)) (z122c : z122 = S 63 0 (t).toNat)
  refine And.intro (fun (h123 : (z122 ≠ (0 : Int) : Prop)) => ?_) (fun (h123 : (z122 = (0 : Int) : Prop)) => ?_)
  ·
    intro z124 (z124a : (0 : Int) ≤ z124) (z124b : z124 ≤ (1200 : Int)) (z124c : z124 = (0 : Int))
    refine And.intro (by decide) ?_
    refine And.intro (fun (h125 : (w ≠ (1 : Int) : Prop)) => ?_) (fun (h125 : (w = (1 : Int) : Prop)) => ?_)
    ·
      refine And.intro (fun (h126 : (w ≠ (2 : Int) : Prop)) => ?_) (fun (h126 : (w = (2 : Int) : Prop)) => ?_)
      ·
        refine And.intro (by decide) ?_
        refine And.intro (fun _ => ?_) (fun h => absurd h (by decide))
        refine And.intro (by decide) ?_
        have fb : FBC (-2 : Int) (0 : Int) (fx_up (fx_up (fx_up S 49 0 49 w) 49 0 53 d) 49 0 51 (0 : Int)) := by first | exact fb0 | exact fun h => absurd h (by omega)
        refine And.intro (fun _ => ?_) (fun h => absurd h (by decide))
        refine And.intro (show (-2147483648 : Int) ≤ (1 : Int) ∧ (1 : Int) ≤ (2147483647 : Int) by omega) ?_
        have w127 : (fx_up (fx_up (fx_up (fx_up S 49 0 49 w) 49 0 53 d) 49 0 51 (0 : Int)) 49 0 54 (1 : Int)) 49 0 51 = (fx_up (fx_up (fx_up S 49 0 49 w) 49 0 53 d) 49 0 51 (0 : Int)) 49 0 51 := if_neg (fun q => absurd q.2.2 (by decide))
        have w128 : (fx_up (fx_up (fx_up (fx_up S 49 0 49 w) 49 0 53 d) 49 0 51 (0 : Int)) 49 0 54 (1 : Int)) 72 0 0 = (fx_up (fx_up (fx_up S 49 0 49 w) 49 0 53 d) 49 0 51 (0 : Int)) 72 0 0 := rfl
        have w129 : (fx_up (fx_up (fx_up (fx_up S 49 0 49 w) 49 0 53 d) 49 0 51 (0 : Int)) 49 0 54 (1 : Int)) 72 0 1 = (fx_up (fx_up (fx_up S 49 0 49 w) 49 0 53 d) 49 0 51 (0 : Int)) 72 0 1 := rfl
        have w130 : (fx_up (fx_up (fx_up (fx_up S 49 0 49 w) 49 0 53 d) 49 0 51 (0 : Int)) 49 0 54 (1 : Int)) 63 0 (t).toNat = (fx_up (fx_up (fx_up S 49 0 49 w) 49 0 53 d) 49 0 51 (0 : Int)) 63 0 (t).toNat := rfl
        have w131 : (fx_up (fx_up (fx_up (fx_up S 49 0 49 w) 49 0 53 d) 49 0 51 (0 : Int)) 49 0 54 (1 : Int)) 49 0 45 = (fx_up (fx_up (fx_up S 49 0 49 w) 49 0 53 d) 49 0 51 (0 : Int)) 49 0 45 := if_neg (fun q => absurd q.2.2 (by decide))
        have g132 : COL (fx_up (fx_up (fx_up (fx_up S 49 0 49 w) 49 0 53 d) 49 0 51 (0 : Int)) 49 0 54 (1 : Int)) := fx_pup COL_stab rfl g116
        have g133 : WTM (fx_up (fx_up (fx_up (fx_up S 49 0 49 w) 49 0 53 d) 49 0 51 (0 : Int)) 49 0 54 (1 : Int)) := fx_pup WTM_stab rfl g117
        have g134 : INJ (fx_up (fx_up (fx_up (fx_up S 49 0 49 w) 49 0 53 d) 49 0 51 (0 : Int)) 49 0 54 (1 : Int)) := fx_pup INJ_stab rfl g118
        have g135 : AON (fx_up (fx_up (fx_up (fx_up S 49 0 49 w) 49 0 53 d) 49 0 51 (0 : Int)) 49 0 54 (1 : Int)) := fx_pup AON_stab rfl g119
        have g136 : WNR (fx_up (fx_up (fx_up (fx_up S 49 0 49 w) 49 0 53 d) 49 0 51 (0 : Int)) 49 0 54 (1 : Int)) := fx_pup WNR_stab rfl g120
        have g137 : BWP w d t (fx_up (fx_up (fx_up (fx_up S 49 0 49 w) 49 0 53 d) 49 0 51 (0 : Int)) 49 0 54 (1 : Int)) := fx_pup BWP_stab rfl g121
        have g138 : FBC (-2 : Int) (0 : Int) (fx_up (fx_up (fx_up (fx_up S 49 0 49 w) 49 0 53 d) 49 0 51 (0 : Int)) 49 0 54 (1 : Int)) := fx_pup FBC_stab rfl fb
        refine c_put_1 (v := (83 : Int)) (show 0 ≤ (0 : Int) ∧ (0 : Int) + 1 ≤ 1200 by omega) (show -2147483648 ≤ (83 : Int) ∧ (83 : Int) < 2147483648 by omega) (fun (S139 : fxS) ⟨(f140 : fxfr [(49, 51), (78, 9999)] (fx_up (fx_up (fx_up (fx_up S 49 0 49 w) 49 0 53 d) 49 0 51 (0 : Int)) 49 0 54 (1 : Int)) S139), (q141 : S139 49 0 51 = (0 : Int) + 1)⟩ => ?_)
        have w142 : S139 72 0 0 = (fx_up (fx_up (fx_up (fx_up S 49 0 49 w) 49 0 53 d) 49 0 51 (0 : Int)) 49 0 54 (1 : Int)) 72 0 0 := f140 72 0 0 rfl
        have w143 : S139 72 0 1 = (fx_up (fx_up (fx_up (fx_up S 49 0 49 w) 49 0 53 d) 49 0 51 (0 : Int)) 49 0 54 (1 : Int)) 72 0 1 := f140 72 0 1 rfl
        have w144 : S139 63 0 (t).toNat = (fx_up (fx_up (fx_up (fx_up S 49 0 49 w) 49 0 53 d) 49 0 51 (0 : Int)) 49 0 54 (1 : Int)) 63 0 (t).toNat := f140 63 0 (t).toNat rfl
        have w145 : S139 49 0 45 = (fx_up (fx_up (fx_up (fx_up S 49 0 49 w) 49 0 53 d) 49 0 51 (0 : Int)) 49 0 54 (1 : Int)) 49 0 45 := f140 49 0 45 rfl
        have g146 : COL S139 := fx_pfr COL_stab f140 rfl g132
        have g147 : WTM S139 := fx_pfr WTM_stab f140 rfl g133
        have g148 : INJ S139 := fx_pfr INJ_stab f140 rfl g134
        have g149 : AON S139 := fx_pfr AON_stab f140 rfl g135
        have g150 : WNR S139 := fx_pfr WNR_stab f140 rfl g136
        have g151 : BWP w d t S139 := fx_pfr BWP_stab f140 rfl g137
        have g152 : FBC (-2 : Int) (0 : Int) S139 := fx_pfr FBC_stab f140 rfl g138
        refine And.intro (fun _ => ?_) (fun h => absurd h (by decide))
        refine c_put_1 (v := (2 : Int)) (show 0 ≤ S139 49 0 51 ∧ S139 49 0 51 + 1 ≤ 1200 by omega) (show -2147483648 ≤ (2 : Int) ∧ (2 : Int) < 2147483648 by omega) (fun (S153 : fxS) ⟨(f154 : fxfr [(49, 51), (78, 9999)] S139 S153), (q155 : S153 49 0 51 = S139 49 0 51 + 1)⟩ => ?_)
        have w156 : S153 72 0 0 = S139 72 0 0 := f154 72 0 0 rfl
        have w157 : S153 72 0 1 = S139 72 0 1 := f154 72 0 1 rfl
        have w158 : S153 63 0 (t).toNat = S139 63 0 (t).toNat := f154 63 0 (t).toNat rfl
        have w159 : S153 49 0 45 = S139 49 0 45 := f154 49 0 45 rfl
        have g160 : COL S153 := fx_pfr COL_stab f154 rfl g146
        have g161 : WTM S153 := fx_pfr WTM_stab f154 rfl g147
        have g162 : INJ S153 := fx_pfr INJ_stab f154 rfl g148
        have g163 : AON S153 := fx_pfr AON_stab f154 rfl g149
        have g164 : WNR S153 := fx_pfr WNR_stab f154 rfl g150
        have g165 : BWP w d t S153 := fx_pfr BWP_stab f154 rfl g151
        have g166 : FBC (-2 : Int) (0 : Int) S153 := fx_pfr FBC_stab f154 rfl g152
        refine c_put_4 (v := d) (show 0 ≤ S153 49 0 51 ∧ S153 49 0 51 + 4 ≤ 1200 by omega) (show -2147483648 ≤ d ∧ d < 2147483648 by omega) (fun (S167 : fxS) ⟨(f168 : fxfr [(49, 51), (78, 9999)] S153 S167), (q169 : S167 49 0 51 = S153 49 0 51 + 4)⟩ => ?_)
        have w170 : S167 72 0 0 = S153 72 0 0 := f168 72 0 0 rfl
        have w171 : S167 72 0 1 = S153 72 0 1 := f168 72 0 1 rfl
        have w172 : S167 63 0 (t).toNat = S153 63 0 (t).toNat := f168 63 0 (t).toNat rfl
        have w173 : S167 49 0 45 = S153 49 0 45 := f168 49 0 45 rfl
        have g174 : COL S167 := fx_pfr COL_stab f168 rfl g160
        have g175 : WTM S167 := fx_pfr WTM_stab f168 rfl g161
        have g176 : INJ S167 := fx_pfr INJ_stab f168 rfl g162
        have g177 : AON S167 := fx_pfr AON_stab f168 rfl g163
        have g178 : WNR S167 := fx_pfr WNR_stab f168 rfl g164
        have g179 : BWP w d t S167 := fx_pfr BWP_stab f168 rfl g165
        have g180 : FBC (-2 : Int) (0 : Int) S167 := fx_pfr FBC_stab f168 rfl g166
        intro z181 (z181a : (-2147483648 : Int) ≤ z181) (z181b : z181 ≤ (2147483647 : Int)) (z181c : z181 = S167 49 0 54)
        refine c_put_4 (v := z181) (show 0 ≤ S167 49 0 51 ∧ S167 49 0 51 + 4 ≤ 1200 by omega) (show -2147483648 ≤ z181 ∧ z181 < 2147483648 by omega) (fun (S182 : fxS) ⟨(f183 : fxfr [(49, 51), (78, 9999)] S167 S182), (q184 : S182 49 0 51 = S167 49 0 51 + 4)⟩ => ?_)
        have w185 : S182 72 0 0 = S167 72 0 0 := f183 72 0 0 rfl
        have w186 : S182 72 0 1 = S167 72 0 1 := f183 72 0 1 rfl
        have w187 : S182 63 0 (t).toNat = S167 63 0 (t).toNat := f183 63 0 (t).toNat rfl
        have w188 : S182 49 0 45 = S167 49 0 45 := f183 49 0 45 rfl
        have g189 : COL S182 := fx_pfr COL_stab f183 rfl g174
        have g190 : WTM S182 := fx_pfr WTM_stab f183 rfl g175
        have g191 : INJ S182 := fx_pfr INJ_stab f183 rfl g176
        have g192 : AON S182 := fx_pfr AON_stab f183 rfl g177
        have g193 : WNR S182 := fx_pfr WNR_stab f183 rfl g178
        have g194 : BWP w d t S182 := fx_pfr BWP_stab f183 rfl g179
        have g195 : FBC (-2 : Int) (0 : Int) S182 := fx_pfr FBC_stab f183 rfl g180
        intro z196 (z196a : (-2147483648 : Int) ≤ z196) (z196b : z196 ≤ (2147483647 : Int)) (z196c : z196 = S182 49 0 13)
        refine c_put_4 (v := z196) (show 0 ≤ S182 49 0 51 ∧ S182 49 0 51 + 4 ≤ 1200 by omega) (show -2147483648 ≤ z196 ∧ z196 < 2147483648 by omega) (fun (S197 : fxS) ⟨(f198 : fxfr [(49, 51), (78, 9999)] S182 S197), (q199 : S197 49 0 51 = S182 49 0 51 + 4)⟩ => ?_)
        have w200 : S197 72 0 0 = S182 72 0 0 := f198 72 0 0 rfl
        have w201 : S197 72 0 1 = S182 72 0 1 := f198 72 0 1 rfl
        have w202 : S197 63 0 (t).toNat = S182 63 0 (t).toNat := f198 63 0 (t).toNat rfl
        have w203 : S197 49 0 45 = S182 49 0 45 := f198 49 0 45 rfl
        have g204 : COL S197 := fx_pfr COL_stab f198 rfl g189
        have g205 : WTM S197 := fx_pfr WTM_stab f198 rfl g190
        have g206 : INJ S197 := fx_pfr INJ_stab f198 rfl g191
        have g207 : AON S197 := fx_pfr AON_stab f198 rfl g192
        have g208 : WNR S197 := fx_pfr WNR_stab f198 rfl g193
        have g209 : BWP w d t S197 := fx_pfr BWP_stab f198 rfl g194
        have g210 : FBC (-2 : Int) (0 : Int) S197 := fx_pfr FBC_stab f198 rfl g195
        intro z211 (z211a : (-2147483648 : Int) ≤ z211) (z211b : z211 ≤ (2147483647 : Int)) (z211c : z211 = S197 49 0 13)
        intro z212 (z212a : -2147483648 ≤ z212) (z212b : z212 < 2147483648) (z212c : -2147483648 ≤ (z211 + (1 : Int)) ∧ (z211 + (1 : Int)) < 2147483648 → z212 = (z211 + (1 : Int)))
        refine And.intro (show (-2147483648 : Int) ≤ z212 ∧ z212 ≤ (2147483647 : Int) by omega) ?_
        have w213 : (fx_up S197 49 0 13 z212) 49 0 51 = S197 49 0 51 := if_neg (fun q => absurd q.2.2 (by decide))
        have w214 : (fx_up S197 49 0 13 z212) 72 0 0 = S197 72 0 0 := rfl
        have w215 : (fx_up S197 49 0 13 z212) 72 0 1 = S197 72 0 1 := rfl
        have w216 : (fx_up S197 49 0 13 z212) 63 0 (t).toNat = S197 63 0 (t).toNat := rfl
        have w217 : (fx_up S197 49 0 13 z212) 49 0 45 = S197 49 0 45 := if_neg (fun q => absurd q.2.2 (by decide))
        have g218 : COL (fx_up S197 49 0 13 z212) := fx_pup COL_stab rfl g204
        have g219 : WTM (fx_up S197 49 0 13 z212) := fx_pup WTM_stab rfl g205
        have g220 : INJ (fx_up S197 49 0 13 z212) := fx_pup INJ_stab rfl g206
        have g221 : AON (fx_up S197 49 0 13 z212) := fx_pup AON_stab rfl g207
        have g222 : WNR (fx_up S197 49 0 13 z212) := fx_pup WNR_stab rfl g208
        have g223 : BWP w d t (fx_up S197 49 0 13 z212) := fx_pup BWP_stab rfl g209
        have g224 : FBC (-2 : Int) (0 : Int) (fx_up S197 49 0 13 z212) := fx_pup FBC_stab rfl g210
        refine And.intro (fun _ => ?_) (fun h => absurd h (by decide))
        refine c_put_1 (v := (0 : Int)) (show 0 ≤ S197 49 0 51 ∧ S197 49 0 51 + 1 ≤ 1200 by omega) (show -2147483648 ≤ (0 : Int) ∧ (0 : Int) < 2147483648 by omega) (fun (S225 : fxS) ⟨(f226 : fxfr [(49, 51), (78, 9999)] (fx_up S197 49 0 13 z212) S225), (q227 : S225 49 0 51 = S197 49 0 51 + 1)⟩ => ?_)
        have w228 : S225 72 0 0 = (fx_up S197 49 0 13 z212) 72 0 0 := f226 72 0 0 rfl
        have w229 : S225 72 0 1 = (fx_up S197 49 0 13 z212) 72 0 1 := f226 72 0 1 rfl
        have w230 : S225 63 0 (t).toNat = (fx_up S197 49 0 13 z212) 63 0 (t).toNat := f226 63 0 (t).toNat rfl
        have w231 : S225 49 0 45 = (fx_up S197 49 0 13 z212) 49 0 45 := f226 49 0 45 rfl
        have g232 : COL S225 := fx_pfr COL_stab f226 rfl g218
        have g233 : WTM S225 := fx_pfr WTM_stab f226 rfl g219
        have g234 : INJ S225 := fx_pfr INJ_stab f226 rfl g220
        have g235 : AON S225 := fx_pfr AON_stab f226 rfl g221
        have g236 : WNR S225 := fx_pfr WNR_stab f226 rfl g222
        have g237 : BWP w d t S225 := fx_pfr BWP_stab f226 rfl g223
        have g238 : FBC (-2 : Int) (0 : Int) S225 := fx_pfr FBC_stab f226 rfl g224
        refine c_StubHouseModel_putPath (f := (-2 : Int)) g232 g233 (show -2 ≤ (-2 : Int) ∧ (-2 : Int) < 60 by omega) (show 0 ≤ S225 49 0 51 ∧ S225 49 0 51 + 40 ≤ 1200 by omega) (fun (S239 : fxS) ⟨(f240 : fxfr [(49, 51), (78, 9999)] S225 S239), (q241 : (0 ≤ (-2 : Int) → S239 49 0 51 = S225 49 0 51 + 8 * (depF (ovf (S225 50 0)) 60 (-2 : Int) : Int)) ∧ ((-2 : Int) < 0 → S239 49 0 51 = S225 49 0 51))⟩ => ?_)
        have w242 : S239 72 0 0 = S225 72 0 0 := f240 72 0 0 rfl
        have w243 : S239 72 0 1 = S225 72 0 1 := f240 72 0 1 rfl
        have w244 : S239 63 0 (t).toNat = S225 63 0 (t).toNat := f240 63 0 (t).toNat rfl
        have w245 : S239 49 0 45 = S225 49 0 45 := f240 49 0 45 rfl
        have g246 : COL S239 := fx_pfr COL_stab f240 rfl g232
        have g247 : WTM S239 := fx_pfr WTM_stab f240 rfl g233
        have g248 : INJ S239 := fx_pfr INJ_stab f240 rfl g234
        have g249 : AON S239 := fx_pfr AON_stab f240 rfl g235
        have g250 : WNR S239 := fx_pfr WNR_stab f240 rfl g236
        have g251 : BWP w d t S239 := fx_pfr BWP_stab f240 rfl g237
        have g252 : FBC (-2 : Int) (0 : Int) S239 := fx_pfr FBC_stab f240 rfl g238
        refine c_put_2 (v := (0 : Int)) (show 0 ≤ S239 49 0 51 ∧ S239 49 0 51 + 2 ≤ 1200 by omega) (show -2147483648 ≤ (0 : Int) ∧ (0 : Int) < 2147483648 by omega) (fun (S253 : fxS) ⟨(f254 : fxfr [(49, 51), (78, 9999)] S239 S253), (q255 : S253 49 0 51 = S239 49 0 51 + 2)⟩ => ?_)
        have w256 : S253 72 0 0 = S239 72 0 0 := f254 72 0 0 rfl
        have w257 : S253 72 0 1 = S239 72 0 1 := f254 72 0 1 rfl
        have w258 : S253 63 0 (t).toNat = S239 63 0 (t).toNat := f254 63 0 (t).toNat rfl
        have w259 : S253 49 0 45 = S239 49 0 45 := f254 49 0 45 rfl
        have g260 : COL S253 := fx_pfr COL_stab f254 rfl g246
        have g261 : WTM S253 := fx_pfr WTM_stab f254 rfl g247
        have g262 : INJ S253 := fx_pfr INJ_stab f254 rfl g248
        have g263 : AON S253 := fx_pfr AON_stab f254 rfl g249
        have g264 : WNR S253 := fx_pfr WNR_stab f254 rfl g250
        have g265 : BWP w d t S253 := fx_pfr BWP_stab f254 rfl g251
        have g266 : FBC (-2 : Int) (0 : Int) S253 := fx_pfr FBC_stab f254 rfl g252
        refine c_StubHouseModel_outCheck (a := z124) (show 0 ≤ z124 ∧ z124 ≤ 1200 by omega) (fun (z267 : Int) (q268 : -2147483648 ≤ z267 ∧ z267 < 2147483648) => ?_)
        refine c_put_4 (v := z267) (show 0 ≤ S253 49 0 51 ∧ S253 49 0 51 + 4 ≤ 1200 by omega) (show -2147483648 ≤ z267 ∧ z267 < 2147483648 by omega) (fun (S269 : fxS) ⟨(f270 : fxfr [(49, 51), (78, 9999)] S253 S269), (q271 : S269 49 0 51 = S253 49 0 51 + 4)⟩ => ?_)
        have w272 : S269 72 0 0 = S253 72 0 0 := f270 72 0 0 rfl
        have w273 : S269 72 0 1 = S253 72 0 1 := f270 72 0 1 rfl
        have w274 : S269 63 0 (t).toNat = S253 63 0 (t).toNat := f270 63 0 (t).toNat rfl
        have w275 : S269 49 0 45 = S253 49 0 45 := f270 49 0 45 rfl
        have g276 : COL S269 := fx_pfr COL_stab f270 rfl g260
        have g277 : WTM S269 := fx_pfr WTM_stab f270 rfl g261
        have g278 : INJ S269 := fx_pfr INJ_stab f270 rfl g262
        have g279 : AON S269 := fx_pfr AON_stab f270 rfl g263
        have g280 : WNR S269 := fx_pfr WNR_stab f270 rfl g264
        have g281 : BWP w d t S269 := fx_pfr BWP_stab f270 rfl g265
        have g282 : FBC (-2 : Int) (0 : Int) S269 := fx_pfr FBC_stab f270 rfl g266
        intro z283 (z283a : (0 : Int) ≤ z283) (z283b : z283 ≤ (1200 : Int)) (z283c : z283 = S269 49 0 51)
        refine And.intro (by decide) ?_
        refine And.intro (by decide) ?_
        exact (z_StubHouseModel_beginWriting p0 p1 p2 p3 p4 p5 p6 p7 p8 hk (2000 - (0 : Int)).toNat).2 (-2 : Int) (0 : Int) z283 (0 : Int) S269 (fxfr_tr (fxfr_tr (fxfr_tr (fxfr_tr (fxfr_up (fxfr_tr (fxfr_tr (fxfr_tr (fxfr_tr (fxfr_tr (fxfr_up (fxfr_up (fxfr_up (fxfr_up fxfr_rfl rfl) rfl) rfl) rfl) f140 rfl) f154 rfl) f168 rfl) f183 rfl) f198 rfl) rfl) f226 rfl) f240 rfl) f254 rfl) f270 rfl) (by omega) (by omega) (by omega) (by omega) (by omega) (by omega) (by omega) g276 g277 g278 g279 g280 g282 (by omega)
      ·
        refine c_StubHouseModel_fileOf (d := d) g116 (show -2147483648 ≤ d ∧ d < 2147483648 by omega) (fun (z284 : Int) (q285 : -2 ≤ z284 ∧ z284 < 60 ∧ z284 ≠ -1 ∧ z284 ≠ 0 ∧ (0 ≤ z284 → aN S z284 0 = 2 ∧ aN S z284 2 = d) ∧ FOF d z284 (fx_up (fx_up (fx_up S 49 0 49 w) 49 0 53 d) 49 0 51 (0 : Int))) => ?_)
        obtain ⟨f0, b1, b2, b3, b4, b5⟩ := g121.2.2 (by omega)
        have fe : z284 = f0 := (FOF_un b1 q285.2.2.2.2.2).symm
        subst fe
        have b6 : aN S z284 0 = 2 ∧ 0 ≤ aN S z284 10 := ⟨b3, b4⟩
        have b7 : ((S 63 0 (t).toNat = 0 → 8 + (25 + 8 * (depF (ovf (S 50 0)) 60 z284 : Int) + aN S z284 3) ≤ 6000) ∧ (S 63 0 (t).toNat ≠ 0 → S 63 0 (t).toNat + (25 + 8 * (depF (ovf (S 50 0)) 60 z284 : Int) + aN S z284 3) ≤ 6000)) := b5
        obtain ⟨dd, hd⟩ : ∃ x : Int, x = (depF (ovf (S 50 0)) 60 z284 : Int) := ⟨_, rfl⟩
        have dp : DPE z284 dd (fx_up (fx_up (fx_up S 49 0 49 w) 49 0 53 d) 49 0 51 (0 : Int)) := (hd.symm : (depF (ovf (S 50 0)) 60 z284 : Int) = dd)
        have d5 := WTM_dep (n := z284) g117 (by omega)
        have d6 : (depF (ovf (S 50 0)) 60 z284 : Int) ≤ 5 := Int.ofNat_le.mpr d5
        refine And.intro (by decide) ?_
        refine And.intro (fun h => absurd h (by omega)) (fun _ => ?_)
        refine c_at3 (n := z284) g116 (show 0 ≤ z284 ∧ z284 < 60 by omega) (fun (z286 : Int) (q287 : z286 = aN S z284 3 ∧ 0 ≤ z286 ∧ z286 ≤ 1024) => ?_)
        have fb0 : FBC z284 z286 (fx_up (fx_up (fx_up S 49 0 49 w) 49 0 53 d) 49 0 51 (0 : Int)) := fun _ => (⟨by omega, by omega, by omega⟩ : aN S z284 0 = 2 ∧ aN S z284 3 = z286 ∧ 0 ≤ aN S z284 10)
        refine And.intro (by decide) ?_
        have fb : FBC z284 z286 (fx_up (fx_up (fx_up S 49 0 49 w) 49 0 53 d) 49 0 51 (0 : Int)) := by first | exact fb0 | exact fun h => absurd h (by omega)
        refine And.intro (fun h => absurd h (by omega)) (fun _ => ?_)
        refine c_at4 (n := z284) g116 (show 0 ≤ z284 ∧ z284 < 60 by omega) (fun (z288 : Int) (q289 : z288 = aN S z284 4 ∧ -2147483648 ≤ z288 ∧ z288 < 2147483648) => ?_)
        refine And.intro (show (-2147483648 : Int) ≤ z288 ∧ z288 ≤ (2147483647 : Int) by omega) ?_
        have w290 : (fx_up (fx_up (fx_up (fx_up S 49 0 49 w) 49 0 53 d) 49 0 51 (0 : Int)) 49 0 54 z288) 49 0 51 = (fx_up (fx_up (fx_up S 49 0 49 w) 49 0 53 d) 49 0 51 (0 : Int)) 49 0 51 := if_neg (fun q => absurd q.2.2 (by decide))
        have w291 : (fx_up (fx_up (fx_up (fx_up S 49 0 49 w) 49 0 53 d) 49 0 51 (0 : Int)) 49 0 54 z288) 72 0 0 = (fx_up (fx_up (fx_up S 49 0 49 w) 49 0 53 d) 49 0 51 (0 : Int)) 72 0 0 := rfl
        have w292 : (fx_up (fx_up (fx_up (fx_up S 49 0 49 w) 49 0 53 d) 49 0 51 (0 : Int)) 49 0 54 z288) 72 0 1 = (fx_up (fx_up (fx_up S 49 0 49 w) 49 0 53 d) 49 0 51 (0 : Int)) 72 0 1 := rfl
        have w293 : (fx_up (fx_up (fx_up (fx_up S 49 0 49 w) 49 0 53 d) 49 0 51 (0 : Int)) 49 0 54 z288) 63 0 (t).toNat = (fx_up (fx_up (fx_up S 49 0 49 w) 49 0 53 d) 49 0 51 (0 : Int)) 63 0 (t).toNat := rfl
        have w294 : (fx_up (fx_up (fx_up (fx_up S 49 0 49 w) 49 0 53 d) 49 0 51 (0 : Int)) 49 0 54 z288) 49 0 45 = (fx_up (fx_up (fx_up S 49 0 49 w) 49 0 53 d) 49 0 51 (0 : Int)) 49 0 45 := if_neg (fun q => absurd q.2.2 (by decide))
        have g295 : COL (fx_up (fx_up (fx_up (fx_up S 49 0 49 w) 49 0 53 d) 49 0 51 (0 : Int)) 49 0 54 z288) := fx_pup COL_stab rfl g116
        have g296 : WTM (fx_up (fx_up (fx_up (fx_up S 49 0 49 w) 49 0 53 d) 49 0 51 (0 : Int)) 49 0 54 z288) := fx_pup WTM_stab rfl g117
        have g297 : INJ (fx_up (fx_up (fx_up (fx_up S 49 0 49 w) 49 0 53 d) 49 0 51 (0 : Int)) 49 0 54 z288) := fx_pup INJ_stab rfl g118
        have g298 : AON (fx_up (fx_up (fx_up (fx_up S 49 0 49 w) 49 0 53 d) 49 0 51 (0 : Int)) 49 0 54 z288) := fx_pup AON_stab rfl g119
        have g299 : WNR (fx_up (fx_up (fx_up (fx_up S 49 0 49 w) 49 0 53 d) 49 0 51 (0 : Int)) 49 0 54 z288) := fx_pup WNR_stab rfl g120
        have g300 : BWP w d t (fx_up (fx_up (fx_up (fx_up S 49 0 49 w) 49 0 53 d) 49 0 51 (0 : Int)) 49 0 54 z288) := fx_pup BWP_stab rfl g121
        have g301 : DPE z284 dd (fx_up (fx_up (fx_up (fx_up S 49 0 49 w) 49 0 53 d) 49 0 51 (0 : Int)) 49 0 54 z288) := fx_pup DPE_stab rfl dp
        have g302 : FBC z284 z286 (fx_up (fx_up (fx_up (fx_up S 49 0 49 w) 49 0 53 d) 49 0 51 (0 : Int)) 49 0 54 z288) := fx_pup FBC_stab rfl fb
        refine c_put_1 (v := (83 : Int)) (show 0 ≤ (0 : Int) ∧ (0 : Int) + 1 ≤ 1200 by omega) (show -2147483648 ≤ (83 : Int) ∧ (83 : Int) < 2147483648 by omega) (fun (S303 : fxS) ⟨(f304 : fxfr [(49, 51), (78, 9999)] (fx_up (fx_up (fx_up (fx_up S 49 0 49 w) 49 0 53 d) 49 0 51 (0 : Int)) 49 0 54 z288) S303), (q305 : S303 49 0 51 = (0 : Int) + 1)⟩ => ?_)
        have w306 : S303 72 0 0 = (fx_up (fx_up (fx_up (fx_up S 49 0 49 w) 49 0 53 d) 49 0 51 (0 : Int)) 49 0 54 z288) 72 0 0 := f304 72 0 0 rfl
        have w307 : S303 72 0 1 = (fx_up (fx_up (fx_up (fx_up S 49 0 49 w) 49 0 53 d) 49 0 51 (0 : Int)) 49 0 54 z288) 72 0 1 := f304 72 0 1 rfl
        have w308 : S303 63 0 (t).toNat = (fx_up (fx_up (fx_up (fx_up S 49 0 49 w) 49 0 53 d) 49 0 51 (0 : Int)) 49 0 54 z288) 63 0 (t).toNat := f304 63 0 (t).toNat rfl
        have w309 : S303 49 0 45 = (fx_up (fx_up (fx_up (fx_up S 49 0 49 w) 49 0 53 d) 49 0 51 (0 : Int)) 49 0 54 z288) 49 0 45 := f304 49 0 45 rfl
        have g310 : COL S303 := fx_pfr COL_stab f304 rfl g295
        have g311 : WTM S303 := fx_pfr WTM_stab f304 rfl g296
        have g312 : INJ S303 := fx_pfr INJ_stab f304 rfl g297
        have g313 : AON S303 := fx_pfr AON_stab f304 rfl g298
        have g314 : WNR S303 := fx_pfr WNR_stab f304 rfl g299
        have g315 : BWP w d t S303 := fx_pfr BWP_stab f304 rfl g300
        have g316 : DPE z284 dd S303 := fx_pfr DPE_stab f304 rfl g301
        have g317 : FBC z284 z286 S303 := fx_pfr FBC_stab f304 rfl g302
        refine And.intro (fun h => absurd h (by omega)) (fun _ => ?_)
        refine c_put_1 (v := (1 : Int)) (show 0 ≤ S303 49 0 51 ∧ S303 49 0 51 + 1 ≤ 1200 by omega) (show -2147483648 ≤ (1 : Int) ∧ (1 : Int) < 2147483648 by omega) (fun (S318 : fxS) ⟨(f319 : fxfr [(49, 51), (78, 9999)] S303 S318), (q320 : S318 49 0 51 = S303 49 0 51 + 1)⟩ => ?_)
        have w321 : S318 72 0 0 = S303 72 0 0 := f319 72 0 0 rfl
        have w322 : S318 72 0 1 = S303 72 0 1 := f319 72 0 1 rfl
        have w323 : S318 63 0 (t).toNat = S303 63 0 (t).toNat := f319 63 0 (t).toNat rfl
        have w324 : S318 49 0 45 = S303 49 0 45 := f319 49 0 45 rfl
        have g325 : COL S318 := fx_pfr COL_stab f319 rfl g310
        have g326 : WTM S318 := fx_pfr WTM_stab f319 rfl g311
        have g327 : INJ S318 := fx_pfr INJ_stab f319 rfl g312
        have g328 : AON S318 := fx_pfr AON_stab f319 rfl g313
        have g329 : WNR S318 := fx_pfr WNR_stab f319 rfl g314
        have g330 : BWP w d t S318 := fx_pfr BWP_stab f319 rfl g315
        have g331 : DPE z284 dd S318 := fx_pfr DPE_stab f319 rfl g316
        have g332 : FBC z284 z286 S318 := fx_pfr FBC_stab f319 rfl g317
        refine c_put_4 (v := d) (show 0 ≤ S318 49 0 51 ∧ S318 49 0 51 + 4 ≤ 1200 by omega) (show -2147483648 ≤ d ∧ d < 2147483648 by omega) (fun (S333 : fxS) ⟨(f334 : fxfr [(49, 51), (78, 9999)] S318 S333), (q335 : S333 49 0 51 = S318 49 0 51 + 4)⟩ => ?_)
        have w336 : S333 72 0 0 = S318 72 0 0 := f334 72 0 0 rfl
        have w337 : S333 72 0 1 = S318 72 0 1 := f334 72 0 1 rfl
        have w338 : S333 63 0 (t).toNat = S318 63 0 (t).toNat := f334 63 0 (t).toNat rfl
        have w339 : S333 49 0 45 = S318 49 0 45 := f334 49 0 45 rfl
        have g340 : COL S333 := fx_pfr COL_stab f334 rfl g325
        have g341 : WTM S333 := fx_pfr WTM_stab f334 rfl g326
        have g342 : INJ S333 := fx_pfr INJ_stab f334 rfl g327
        have g343 : AON S333 := fx_pfr AON_stab f334 rfl g328
        have g344 : WNR S333 := fx_pfr WNR_stab f334 rfl g329
        have g345 : BWP w d t S333 := fx_pfr BWP_stab f334 rfl g330
        have g346 : DPE z284 dd S333 := fx_pfr DPE_stab f334 rfl g331
        have g347 : FBC z284 z286 S333 := fx_pfr FBC_stab f334 rfl g332
        intro z348 (z348a : (-2147483648 : Int) ≤ z348) (z348b : z348 ≤ (2147483647 : Int)) (z348c : z348 = S333 49 0 54)
        refine c_put_4 (v := z348) (show 0 ≤ S333 49 0 51 ∧ S333 49 0 51 + 4 ≤ 1200 by omega) (show -2147483648 ≤ z348 ∧ z348 < 2147483648 by omega) (fun (S349 : fxS) ⟨(f350 : fxfr [(49, 51), (78, 9999)] S333 S349), (q351 : S349 49 0 51 = S333 49 0 51 + 4)⟩ => ?_)
        have w352 : S349 72 0 0 = S333 72 0 0 := f350 72 0 0 rfl
        have w353 : S349 72 0 1 = S333 72 0 1 := f350 72 0 1 rfl
        have w354 : S349 63 0 (t).toNat = S333 63 0 (t).toNat := f350 63 0 (t).toNat rfl
        have w355 : S349 49 0 45 = S333 49 0 45 := f350 49 0 45 rfl
        have g356 : COL S349 := fx_pfr COL_stab f350 rfl g340
        have g357 : WTM S349 := fx_pfr WTM_stab f350 rfl g341
        have g358 : INJ S349 := fx_pfr INJ_stab f350 rfl g342
        have g359 : AON S349 := fx_pfr AON_stab f350 rfl g343
        have g360 : WNR S349 := fx_pfr WNR_stab f350 rfl g344
        have g361 : BWP w d t S349 := fx_pfr BWP_stab f350 rfl g345
        have g362 : DPE z284 dd S349 := fx_pfr DPE_stab f350 rfl g346
        have g363 : FBC z284 z286 S349 := fx_pfr FBC_stab f350 rfl g347
        intro z364 (z364a : (-2147483648 : Int) ≤ z364) (z364b : z364 ≤ (2147483647 : Int)) (z364c : z364 = S349 49 0 13)
        refine c_put_4 (v := z364) (show 0 ≤ S349 49 0 51 ∧ S349 49 0 51 + 4 ≤ 1200 by omega) (show -2147483648 ≤ z364 ∧ z364 < 2147483648 by omega) (fun (S365 : fxS) ⟨(f366 : fxfr [(49, 51), (78, 9999)] S349 S365), (q367 : S365 49 0 51 = S349 49 0 51 + 4)⟩ => ?_)
        have w368 : S365 72 0 0 = S349 72 0 0 := f366 72 0 0 rfl
        have w369 : S365 72 0 1 = S349 72 0 1 := f366 72 0 1 rfl
        have w370 : S365 63 0 (t).toNat = S349 63 0 (t).toNat := f366 63 0 (t).toNat rfl
        have w371 : S365 49 0 45 = S349 49 0 45 := f366 49 0 45 rfl
        have g372 : COL S365 := fx_pfr COL_stab f366 rfl g356
        have g373 : WTM S365 := fx_pfr WTM_stab f366 rfl g357
        have g374 : INJ S365 := fx_pfr INJ_stab f366 rfl g358
        have g375 : AON S365 := fx_pfr AON_stab f366 rfl g359
        have g376 : WNR S365 := fx_pfr WNR_stab f366 rfl g360
        have g377 : BWP w d t S365 := fx_pfr BWP_stab f366 rfl g361
        have g378 : DPE z284 dd S365 := fx_pfr DPE_stab f366 rfl g362
        have g379 : FBC z284 z286 S365 := fx_pfr FBC_stab f366 rfl g363
        intro z380 (z380a : (-2147483648 : Int) ≤ z380) (z380b : z380 ≤ (2147483647 : Int)) (z380c : z380 = S365 49 0 13)
        intro z381 (z381a : -2147483648 ≤ z381) (z381b : z381 < 2147483648) (z381c : -2147483648 ≤ (z380 + (1 : Int)) ∧ (z380 + (1 : Int)) < 2147483648 → z381 = (z380 + (1 : Int)))
        refine And.intro (show (-2147483648 : Int) ≤ z381 ∧ z381 ≤ (2147483647 : Int) by omega) ?_
        have w382 : (fx_up S365 49 0 13 z381) 49 0 51 = S365 49 0 51 := if_neg (fun q => absurd q.2.2 (by decide))
        have w383 : (fx_up S365 49 0 13 z381) 72 0 0 = S365 72 0 0 := rfl
        have w384 : (fx_up S365 49 0 13 z381) 72 0 1 = S365 72 0 1 := rfl
        have w385 : (fx_up S365 49 0 13 z381) 63 0 (t).toNat = S365 63 0 (t).toNat := rfl
        have w386 : (fx_up S365 49 0 13 z381) 49 0 45 = S365 49 0 45 := if_neg (fun q => absurd q.2.2 (by decide))
        have g387 : COL (fx_up S365 49 0 13 z381) := fx_pup COL_stab rfl g372
        have g388 : WTM (fx_up S365 49 0 13 z381) := fx_pup WTM_stab rfl g373
        have g389 : INJ (fx_up S365 49 0 13 z381) := fx_pup INJ_stab rfl g374
        have g390 : AON (fx_up S365 49 0 13 z381) := fx_pup AON_stab rfl g375
        have g391 : WNR (fx_up S365 49 0 13 z381) := fx_pup WNR_stab rfl g376
        have g392 : BWP w d t (fx_up S365 49 0 13 z381) := fx_pup BWP_stab rfl g377
        have g393 : DPE z284 dd (fx_up S365 49 0 13 z381) := fx_pup DPE_stab rfl g378
        have g394 : FBC z284 z286 (fx_up S365 49 0 13 z381) := fx_pup FBC_stab rfl g379
        refine And.intro (fun h => absurd h (by omega)) (fun _ => ?_)
        refine c_StubHouseModel_depth (n := z284) g387 g388 (show 0 ≤ z284 ∧ z284 < 60 by omega) (fun (z395 : Int) (q396 : z395 = (depF (ovf (S365 50 0)) 60 z284 : Int) ∧ 0 ≤ z395 ∧ z395 ≤ 5) => ?_)
        refine c_put_1 (v := z395) (show 0 ≤ S365 49 0 51 ∧ S365 49 0 51 + 1 ≤ 1200 by omega) (show -2147483648 ≤ z395 ∧ z395 < 2147483648 by omega) (fun (S397 : fxS) ⟨(f398 : fxfr [(49, 51), (78, 9999)] (fx_up S365 49 0 13 z381) S397), (q399 : S397 49 0 51 = S365 49 0 51 + 1)⟩ => ?_)
        have w400 : S397 72 0 0 = (fx_up S365 49 0 13 z381) 72 0 0 := f398 72 0 0 rfl
        have w401 : S397 72 0 1 = (fx_up S365 49 0 13 z381) 72 0 1 := f398 72 0 1 rfl
        have w402 : S397 63 0 (t).toNat = (fx_up S365 49 0 13 z381) 63 0 (t).toNat := f398 63 0 (t).toNat rfl
        have w403 : S397 49 0 45 = (fx_up S365 49 0 13 z381) 49 0 45 := f398 49 0 45 rfl
        have g404 : COL S397 := fx_pfr COL_stab f398 rfl g387
        have g405 : WTM S397 := fx_pfr WTM_stab f398 rfl g388
        have g406 : INJ S397 := fx_pfr INJ_stab f398 rfl g389
        have g407 : AON S397 := fx_pfr AON_stab f398 rfl g390
        have g408 : WNR S397 := fx_pfr WNR_stab f398 rfl g391
        have g409 : BWP w d t S397 := fx_pfr BWP_stab f398 rfl g392
        have g410 : DPE z284 dd S397 := fx_pfr DPE_stab f398 rfl g393
        have g411 : FBC z284 z286 S397 := fx_pfr FBC_stab f398 rfl g394
        refine c_StubHouseModel_putPath (f := z284) g404 g405 (show -2 ≤ z284 ∧ z284 < 60 by omega) (show 0 ≤ S397 49 0 51 ∧ S397 49 0 51 + 40 ≤ 1200 by omega) (fun (S412 : fxS) ⟨(f413 : fxfr [(49, 51), (78, 9999)] S397 S412), (q414 : (0 ≤ z284 → S412 49 0 51 = S397 49 0 51 + 8 * (depF (ovf (S397 50 0)) 60 z284 : Int)) ∧ (z284 < 0 → S412 49 0 51 = S397 49 0 51))⟩ => ?_)
        have w415 : S412 72 0 0 = S397 72 0 0 := f413 72 0 0 rfl
        have w416 : S412 72 0 1 = S397 72 0 1 := f413 72 0 1 rfl
        have w417 : S412 63 0 (t).toNat = S397 63 0 (t).toNat := f413 63 0 (t).toNat rfl
        have w418 : S412 49 0 45 = S397 49 0 45 := f413 49 0 45 rfl
        have g419 : COL S412 := fx_pfr COL_stab f413 rfl g404
        have g420 : WTM S412 := fx_pfr WTM_stab f413 rfl g405
        have g421 : INJ S412 := fx_pfr INJ_stab f413 rfl g406
        have g422 : AON S412 := fx_pfr AON_stab f413 rfl g407
        have g423 : WNR S412 := fx_pfr WNR_stab f413 rfl g408
        have g424 : BWP w d t S412 := fx_pfr BWP_stab f413 rfl g409
        have g425 : DPE z284 dd S412 := fx_pfr DPE_stab f413 rfl g410
        have g426 : FBC z284 z286 S412 := fx_pfr FBC_stab f413 rfl g411
        have dq : (depF (ovf (S397 50 0)) 60 z284 : Int) = dd := g410
        refine c_put_2 (v := z286) (show 0 ≤ S412 49 0 51 ∧ S412 49 0 51 + 2 ≤ 1200 by omega) (show -2147483648 ≤ z286 ∧ z286 < 2147483648 by omega) (fun (S427 : fxS) ⟨(f428 : fxfr [(49, 51), (78, 9999)] S412 S427), (q429 : S427 49 0 51 = S412 49 0 51 + 2)⟩ => ?_)
        have w430 : S427 72 0 0 = S412 72 0 0 := f428 72 0 0 rfl
        have w431 : S427 72 0 1 = S412 72 0 1 := f428 72 0 1 rfl
        have w432 : S427 63 0 (t).toNat = S412 63 0 (t).toNat := f428 63 0 (t).toNat rfl
        have w433 : S427 49 0 45 = S412 49 0 45 := f428 49 0 45 rfl
        have g434 : COL S427 := fx_pfr COL_stab f428 rfl g419
        have g435 : WTM S427 := fx_pfr WTM_stab f428 rfl g420
        have g436 : INJ S427 := fx_pfr INJ_stab f428 rfl g421
        have g437 : AON S427 := fx_pfr AON_stab f428 rfl g422
        have g438 : WNR S427 := fx_pfr WNR_stab f428 rfl g423
        have g439 : BWP w d t S427 := fx_pfr BWP_stab f428 rfl g424
        have g440 : DPE z284 dd S427 := fx_pfr DPE_stab f428 rfl g425
        have g441 : FBC z284 z286 S427 := fx_pfr FBC_stab f428 rfl g426
        refine c_StubHouseModel_outCheck (a := z124) (show 0 ≤ z124 ∧ z124 ≤ 1200 by omega) (fun (z442 : Int) (q443 : -2147483648 ≤ z442 ∧ z442 < 2147483648) => ?_)
        refine c_put_4 (v := z442) (show 0 ≤ S427 49 0 51 ∧ S427 49 0 51 + 4 ≤ 1200 by omega) (show -2147483648 ≤ z442 ∧ z442 < 2147483648 by omega) (fun (S444 : fxS) ⟨(f445 : fxfr [(49, 51), (78, 9999)] S427 S444), (q446 : S444 49 0 51 = S427 49 0 51 + 4)⟩ => ?_)
        have w447 : S444 72 0 0 = S427 72 0 0 := f445 72 0 0 rfl
        have w448 : S444 72 0 1 = S427 72 0 1 := f445 72 0 1 rfl
        have w449 : S444 63 0 (t).toNat = S427 63 0 (t).toNat := f445 63 0 (t).toNat rfl
        have w450 : S444 49 0 45 = S427 49 0 45 := f445 49 0 45 rfl
        have g451 : COL S444 := fx_pfr COL_stab f445 rfl g434
        have g452 : WTM S444 := fx_pfr WTM_stab f445 rfl g435
        have g453 : INJ S444 := fx_pfr INJ_stab f445 rfl g436
        have g454 : AON S444 := fx_pfr AON_stab f445 rfl g437
        have g455 : WNR S444 := fx_pfr WNR_stab f445 rfl g438
        have g456 : BWP w d t S444 := fx_pfr BWP_stab f445 rfl g439
        have g457 : DPE z284 dd S444 := fx_pfr DPE_stab f445 rfl g440
        have g458 : FBC z284 z286 S444 := fx_pfr FBC_stab f445 rfl g441
        intro z459 (z459a : (0 : Int) ≤ z459) (z459b : z459 ≤ (1200 : Int)) (z459c : z459 = S444 49 0 51)
        refine And.intro (by decide) ?_
        refine And.intro (by decide) ?_
        exact (z_StubHouseModel_beginWriting p0 p1 p2 p3 p4 p5 p6 p7 p8 hk (2000 - (0 : Int)).toNat).2 z284 z286 z459 (0 : Int) S444 (fxfr_tr (fxfr_tr (fxfr_tr (fxfr_tr (fxfr_up (fxfr_tr (fxfr_tr (fxfr_tr (fxfr_tr (fxfr_tr (fxfr_up (fxfr_up (fxfr_up (fxfr_up fxfr_rfl rfl) rfl) rfl) rfl) f304 rfl) f319 rfl) f334 rfl) f350 rfl) f366 rfl) rfl) f398 rfl) f413 rfl) f428 rfl) f445 rfl) (by omega) (by omega) (by omega) (by omega) (by omega) (by omega) (by omega) g451 g452 g453 g454 g455 g458 (by omega)
    ·
      refine And.intro (by decide) ?_
      exact (z_StubHouseModel_beginWriting p0 p1 p2 p3 p4 p5 p6 p7 p8 hk (2000 - (0 : Int)).toNat).1 (0 : Int) (fx_up (fx_up (fx_up S 49 0 49 w) 49 0 53 d) 49 0 51 (0 : Int)) (fxfr_up (fxfr_up (fxfr_up fxfr_rfl rfl) rfl) rfl) (by omega) (by omega) (by omega) (by omega) (by omega) (by omega) g116 g117 g118 g119 g120 (by omega)
  ·
    refine c_put_1 (v := (84 : Int)) (show 0 ≤ (0 : Int) ∧ (0 : Int) + 1 ≤ 1200 by omega) (show -2147483648 ≤ (84 : Int) ∧ (84 : Int) < 2147483648 by omega) (fun (S460 : fxS) ⟨(f461 : fxfr [(49, 51), (78, 9999)] (fx_up (fx_up (fx_up S 49 0 49 w) 49 0 53 d) 49 0 51 (0 : Int)) S460), (q462 : S460 49 0 51 = (0 : Int) + 1)⟩ => ?_)
    have w463 : S460 72 0 0 = (fx_up (fx_up (fx_up S 49 0 49 w) 49 0 53 d) 49 0 51 (0 : Int)) 72 0 0 := f461 72 0 0 rfl
    have w464 : S460 72 0 1 = (fx_up (fx_up (fx_up S 49 0 49 w) 49 0 53 d) 49 0 51 (0 : Int)) 72 0 1 := f461 72 0 1 rfl
    have w465 : S460 63 0 (t).toNat = (fx_up (fx_up (fx_up S 49 0 49 w) 49 0 53 d) 49 0 51 (0 : Int)) 63 0 (t).toNat := f461 63 0 (t).toNat rfl
    have w466 : S460 49 0 45 = (fx_up (fx_up (fx_up S 49 0 49 w) 49 0 53 d) 49 0 51 (0 : Int)) 49 0 45 := f461 49 0 45 rfl
    have g467 : COL S460 := fx_pfr COL_stab f461 rfl g116
    have g468 : WTM S460 := fx_pfr WTM_stab f461 rfl g117
    have g469 : INJ S460 := fx_pfr INJ_stab f461 rfl g118
    have g470 : AON S460 := fx_pfr AON_stab f461 rfl g119
    have g471 : WNR S460 := fx_pfr WNR_stab f461 rfl g120
    have g472 : BWP w d t S460 := fx_pfr BWP_stab f461 rfl g121
    refine c_put_1 (v := t) (show 0 ≤ S460 49 0 51 ∧ S460 49 0 51 + 1 ≤ 1200 by omega) (show -2147483648 ≤ t ∧ t < 2147483648 by omega) (fun (S473 : fxS) ⟨(f474 : fxfr [(49, 51), (78, 9999)] S460 S473), (q475 : S473 49 0 51 = S460 49 0 51 + 1)⟩ => ?_)
    have w476 : S473 72 0 0 = S460 72 0 0 := f474 72 0 0 rfl
    have w477 : S473 72 0 1 = S460 72 0 1 := f474 72 0 1 rfl
    have w478 : S473 63 0 (t).toNat = S460 63 0 (t).toNat := f474 63 0 (t).toNat rfl
    have w479 : S473 49 0 45 = S460 49 0 45 := f474 49 0 45 rfl
    have g480 : COL S473 := fx_pfr COL_stab f474 rfl g467
    have g481 : WTM S473 := fx_pfr WTM_stab f474 rfl g468
    have g482 : INJ S473 := fx_pfr INJ_stab f474 rfl g469
    have g483 : AON S473 := fx_pfr AON_stab f474 rfl g470
    have g484 : WNR S473 := fx_pfr WNR_stab f474 rfl g471
    have g485 : BWP w d t S473 := fx_pfr BWP_stab f474 rfl g472
    refine And.intro (show 0 ≤ t ∧ t < 6 by omega) ?_
    intro z486 (z486a : (0 : Int) ≤ z486) (z486b : z486 ≤ (65535 : Int)) (z486c : z486 = S473 64 0 (t).toNat)
    refine c_put_2 (v := z486) (show 0 ≤ S473 49 0 51 ∧ S473 49 0 51 + 2 ≤ 1200 by omega) (show -2147483648 ≤ z486 ∧ z486 < 2147483648 by omega) (fun (S487 : fxS) ⟨(f488 : fxfr [(49, 51), (78, 9999)] S473 S487), (q489 : S487 49 0 51 = S473 49 0 51 + 2)⟩ => ?_)
    have w490 : S487 72 0 0 = S473 72 0 0 := f488 72 0 0 rfl
    have w491 : S487 72 0 1 = S473 72 0 1 := f488 72 0 1 rfl
    have w492 : S487 63 0 (t).toNat = S473 63 0 (t).toNat := f488 63 0 (t).toNat rfl
    have w493 : S487 49 0 45 = S473 49 0 45 := f488 49 0 45 rfl
    have g494 : COL S487 := fx_pfr COL_stab f488 rfl g480
    have g495 : WTM S487 := fx_pfr WTM_stab f488 rfl g481
    have g496 : INJ S487 := fx_pfr INJ_stab f488 rfl g482
    have g497 : AON S487 := fx_pfr AON_stab f488 rfl g483
    have g498 : WNR S487 := fx_pfr WNR_stab f488 rfl g484
    have g499 : BWP w d t S487 := fx_pfr BWP_stab f488 rfl g485
    refine c_StubHouseModel_outCheck (a := (0 : Int)) (show 0 ≤ (0 : Int) ∧ (0 : Int) ≤ 1200 by omega) (fun (z500 : Int) (q501 : -2147483648 ≤ z500 ∧ z500 < 2147483648) => ?_)
    refine c_put_4 (v := z500) (show 0 ≤ S487 49 0 51 ∧ S487 49 0 51 + 4 ≤ 1200 by omega) (show -2147483648 ≤ z500 ∧ z500 < 2147483648 by omega) (fun (S502 : fxS) ⟨(f503 : fxfr [(49, 51), (78, 9999)] S487 S502), (q504 : S502 49 0 51 = S487 49 0 51 + 4)⟩ => ?_)
    have w505 : S502 72 0 0 = S487 72 0 0 := f503 72 0 0 rfl
    have w506 : S502 72 0 1 = S487 72 0 1 := f503 72 0 1 rfl
    have w507 : S502 63 0 (t).toNat = S487 63 0 (t).toNat := f503 63 0 (t).toNat rfl
    have w508 : S502 49 0 45 = S487 49 0 45 := f503 49 0 45 rfl
    have g509 : COL S502 := fx_pfr COL_stab f503 rfl g494
    have g510 : WTM S502 := fx_pfr WTM_stab f503 rfl g495
    have g511 : INJ S502 := fx_pfr INJ_stab f503 rfl g496
    have g512 : AON S502 := fx_pfr AON_stab f503 rfl g497
    have g513 : WNR S502 := fx_pfr WNR_stab f503 rfl g498
    have g514 : BWP w d t S502 := fx_pfr BWP_stab f503 rfl g499
    intro z515 (z515a : (0 : Int) ≤ z515) (z515b : z515 ≤ (1200 : Int)) (z515c : z515 = S502 49 0 51)
    refine And.intro (by decide) ?_
    refine And.intro (fun (h516 : (w ≠ (1 : Int) : Prop)) => ?_) (fun (h516 : (w = (1 : Int) : Prop)) => ?_)
    ·
      refine And.intro (fun (h517 : (w ≠ (2 : Int) : Prop)) => ?_) (fun (h517 : (w = (2 : Int) : Prop)) => ?_)
      ·
        refine And.intro (by decide) ?_
        refine And.intro (fun _ => ?_) (fun h => absurd h (by decide))
        refine And.intro (by decide) ?_
        have fb : FBC (-2 : Int) (0 : Int) S502 := by first | exact fb0 | exact fun h => absurd h (by omega)
        refine And.intro (fun _ => ?_) (fun h => absurd h (by decide))
        refine And.intro (show (-2147483648 : Int) ≤ (1 : Int) ∧ (1 : Int) ≤ (2147483647 : Int) by omega) ?_
        have w518 : (fx_up S502 49 0 54 (1 : Int)) 49 0 51 = S502 49 0 51 := if_neg (fun q => absurd q.2.2 (by decide))
        have w519 : (fx_up S502 49 0 54 (1 : Int)) 72 0 0 = S502 72 0 0 := rfl
        have w520 : (fx_up S502 49 0 54 (1 : Int)) 72 0 1 = S502 72 0 1 := rfl
        have w521 : (fx_up S502 49 0 54 (1 : Int)) 63 0 (t).toNat = S502 63 0 (t).toNat := rfl
        have w522 : (fx_up S502 49 0 54 (1 : Int)) 49 0 45 = S502 49 0 45 := if_neg (fun q => absurd q.2.2 (by decide))
        have g523 : COL (fx_up S502 49 0 54 (1 : Int)) := fx_pup COL_stab rfl g509
        have g524 : WTM (fx_up S502 49 0 54 (1 : Int)) := fx_pup WTM_stab rfl g510
        have g525 : INJ (fx_up S502 49 0 54 (1 : Int)) := fx_pup INJ_stab rfl g511
        have g526 : AON (fx_up S502 49 0 54 (1 : Int)) := fx_pup AON_stab rfl g512
        have g527 : WNR (fx_up S502 49 0 54 (1 : Int)) := fx_pup WNR_stab rfl g513
        have g528 : BWP w d t (fx_up S502 49 0 54 (1 : Int)) := fx_pup BWP_stab rfl g514
        have g529 : FBC (-2 : Int) (0 : Int) (fx_up S502 49 0 54 (1 : Int)) := fx_pup FBC_stab rfl fb
        refine c_put_1 (v := (83 : Int)) (show 0 ≤ S502 49 0 51 ∧ S502 49 0 51 + 1 ≤ 1200 by omega) (show -2147483648 ≤ (83 : Int) ∧ (83 : Int) < 2147483648 by omega) (fun (S530 : fxS) ⟨(f531 : fxfr [(49, 51), (78, 9999)] (fx_up S502 49 0 54 (1 : Int)) S530), (q532 : S530 49 0 51 = S502 49 0 51 + 1)⟩ => ?_)
        have w533 : S530 72 0 0 = (fx_up S502 49 0 54 (1 : Int)) 72 0 0 := f531 72 0 0 rfl
        have w534 : S530 72 0 1 = (fx_up S502 49 0 54 (1 : Int)) 72 0 1 := f531 72 0 1 rfl
        have w535 : S530 63 0 (t).toNat = (fx_up S502 49 0 54 (1 : Int)) 63 0 (t).toNat := f531 63 0 (t).toNat rfl
        have w536 : S530 49 0 45 = (fx_up S502 49 0 54 (1 : Int)) 49 0 45 := f531 49 0 45 rfl
        have g537 : COL S530 := fx_pfr COL_stab f531 rfl g523
        have g538 : WTM S530 := fx_pfr WTM_stab f531 rfl g524
        have g539 : INJ S530 := fx_pfr INJ_stab f531 rfl g525
        have g540 : AON S530 := fx_pfr AON_stab f531 rfl g526
        have g541 : WNR S530 := fx_pfr WNR_stab f531 rfl g527
        have g542 : BWP w d t S530 := fx_pfr BWP_stab f531 rfl g528
        have g543 : FBC (-2 : Int) (0 : Int) S530 := fx_pfr FBC_stab f531 rfl g529
        refine And.intro (fun _ => ?_) (fun h => absurd h (by decide))
        refine c_put_1 (v := (2 : Int)) (show 0 ≤ S530 49 0 51 ∧ S530 49 0 51 + 1 ≤ 1200 by omega) (show -2147483648 ≤ (2 : Int) ∧ (2 : Int) < 2147483648 by omega) (fun (S544 : fxS) ⟨(f545 : fxfr [(49, 51), (78, 9999)] S530 S544), (q546 : S544 49 0 51 = S530 49 0 51 + 1)⟩ => ?_)
        have w547 : S544 72 0 0 = S530 72 0 0 := f545 72 0 0 rfl
        have w548 : S544 72 0 1 = S530 72 0 1 := f545 72 0 1 rfl
        have w549 : S544 63 0 (t).toNat = S530 63 0 (t).toNat := f545 63 0 (t).toNat rfl
        have w550 : S544 49 0 45 = S530 49 0 45 := f545 49 0 45 rfl
        have g551 : COL S544 := fx_pfr COL_stab f545 rfl g537
        have g552 : WTM S544 := fx_pfr WTM_stab f545 rfl g538
        have g553 : INJ S544 := fx_pfr INJ_stab f545 rfl g539
        have g554 : AON S544 := fx_pfr AON_stab f545 rfl g540
        have g555 : WNR S544 := fx_pfr WNR_stab f545 rfl g541
        have g556 : BWP w d t S544 := fx_pfr BWP_stab f545 rfl g542
        have g557 : FBC (-2 : Int) (0 : Int) S544 := fx_pfr FBC_stab f545 rfl g543
        refine c_put_4 (v := d) (show 0 ≤ S544 49 0 51 ∧ S544 49 0 51 + 4 ≤ 1200 by omega) (show -2147483648 ≤ d ∧ d < 2147483648 by omega) (fun (S558 : fxS) ⟨(f559 : fxfr [(49, 51), (78, 9999)] S544 S558), (q560 : S558 49 0 51 = S544 49 0 51 + 4)⟩ => ?_)
        have w561 : S558 72 0 0 = S544 72 0 0 := f559 72 0 0 rfl
        have w562 : S558 72 0 1 = S544 72 0 1 := f559 72 0 1 rfl
        have w563 : S558 63 0 (t).toNat = S544 63 0 (t).toNat := f559 63 0 (t).toNat rfl
        have w564 : S558 49 0 45 = S544 49 0 45 := f559 49 0 45 rfl
        have g565 : COL S558 := fx_pfr COL_stab f559 rfl g551
        have g566 : WTM S558 := fx_pfr WTM_stab f559 rfl g552
        have g567 : INJ S558 := fx_pfr INJ_stab f559 rfl g553
        have g568 : AON S558 := fx_pfr AON_stab f559 rfl g554
        have g569 : WNR S558 := fx_pfr WNR_stab f559 rfl g555
        have g570 : BWP w d t S558 := fx_pfr BWP_stab f559 rfl g556
        have g571 : FBC (-2 : Int) (0 : Int) S558 := fx_pfr FBC_stab f559 rfl g557
        intro z572 (z572a : (-2147483648 : Int) ≤ z572) (z572b : z572 ≤ (2147483647 : Int)) (z572c : z572 = S558 49 0 54)
        refine c_put_4 (v := z572) (show 0 ≤ S558 49 0 51 ∧ S558 49 0 51 + 4 ≤ 1200 by omega) (show -2147483648 ≤ z572 ∧ z572 < 2147483648 by omega) (fun (S573 : fxS) ⟨(f574 : fxfr [(49, 51), (78, 9999)] S558 S573), (q575 : S573 49 0 51 = S558 49 0 51 + 4)⟩ => ?_)
        have w576 : S573 72 0 0 = S558 72 0 0 := f574 72 0 0 rfl
        have w577 : S573 72 0 1 = S558 72 0 1 := f574 72 0 1 rfl
        have w578 : S573 63 0 (t).toNat = S558 63 0 (t).toNat := f574 63 0 (t).toNat rfl
        have w579 : S573 49 0 45 = S558 49 0 45 := f574 49 0 45 rfl
        have g580 : COL S573 := fx_pfr COL_stab f574 rfl g565
        have g581 : WTM S573 := fx_pfr WTM_stab f574 rfl g566
        have g582 : INJ S573 := fx_pfr INJ_stab f574 rfl g567
        have g583 : AON S573 := fx_pfr AON_stab f574 rfl g568
        have g584 : WNR S573 := fx_pfr WNR_stab f574 rfl g569
        have g585 : BWP w d t S573 := fx_pfr BWP_stab f574 rfl g570
        have g586 : FBC (-2 : Int) (0 : Int) S573 := fx_pfr FBC_stab f574 rfl g571
        intro z587 (z587a : (-2147483648 : Int) ≤ z587) (z587b : z587 ≤ (2147483647 : Int)) (z587c : z587 = S573 49 0 13)
        refine c_put_4 (v := z587) (show 0 ≤ S573 49 0 51 ∧ S573 49 0 51 + 4 ≤ 1200 by omega) (show -2147483648 ≤ z587 ∧ z587 < 2147483648 by omega) (fun (S588 : fxS) ⟨(f589 : fxfr [(49, 51), (78, 9999)] S573 S588), (q590 : S588 49 0 51 = S573 49 0 51 + 4)⟩ => ?_)
        have w591 : S588 72 0 0 = S573 72 0 0 := f589 72 0 0 rfl
        have w592 : S588 72 0 1 = S573 72 0 1 := f589 72 0 1 rfl
        have w593 : S588 63 0 (t).toNat = S573 63 0 (t).toNat := f589 63 0 (t).toNat rfl
        have w594 : S588 49 0 45 = S573 49 0 45 := f589 49 0 45 rfl
        have g595 : COL S588 := fx_pfr COL_stab f589 rfl g580
        have g596 : WTM S588 := fx_pfr WTM_stab f589 rfl g581
        have g597 : INJ S588 := fx_pfr INJ_stab f589 rfl g582
        have g598 : AON S588 := fx_pfr AON_stab f589 rfl g583
        have g599 : WNR S588 := fx_pfr WNR_stab f589 rfl g584
        have g600 : BWP w d t S588 := fx_pfr BWP_stab f589 rfl g585
        have g601 : FBC (-2 : Int) (0 : Int) S588 := fx_pfr FBC_stab f589 rfl g586
        intro z602 (z602a : (-2147483648 : Int) ≤ z602) (z602b : z602 ≤ (2147483647 : Int)) (z602c : z602 = S588 49 0 13)
        intro z603 (z603a : -2147483648 ≤ z603) (z603b : z603 < 2147483648) (z603c : -2147483648 ≤ (z602 + (1 : Int)) ∧ (z602 + (1 : Int)) < 2147483648 → z603 = (z602 + (1 : Int)))
        refine And.intro (show (-2147483648 : Int) ≤ z603 ∧ z603 ≤ (2147483647 : Int) by omega) ?_
        have w604 : (fx_up S588 49 0 13 z603) 49 0 51 = S588 49 0 51 := if_neg (fun q => absurd q.2.2 (by decide))
        have w605 : (fx_up S588 49 0 13 z603) 72 0 0 = S588 72 0 0 := rfl
        have w606 : (fx_up S588 49 0 13 z603) 72 0 1 = S588 72 0 1 := rfl
        have w607 : (fx_up S588 49 0 13 z603) 63 0 (t).toNat = S588 63 0 (t).toNat := rfl
        have w608 : (fx_up S588 49 0 13 z603) 49 0 45 = S588 49 0 45 := if_neg (fun q => absurd q.2.2 (by decide))
        have g609 : COL (fx_up S588 49 0 13 z603) := fx_pup COL_stab rfl g595
        have g610 : WTM (fx_up S588 49 0 13 z603) := fx_pup WTM_stab rfl g596
        have g611 : INJ (fx_up S588 49 0 13 z603) := fx_pup INJ_stab rfl g597
        have g612 : AON (fx_up S588 49 0 13 z603) := fx_pup AON_stab rfl g598
        have g613 : WNR (fx_up S588 49 0 13 z603) := fx_pup WNR_stab rfl g599
        have g614 : BWP w d t (fx_up S588 49 0 13 z603) := fx_pup BWP_stab rfl g600
        have g615 : FBC (-2 : Int) (0 : Int) (fx_up S588 49 0 13 z603) := fx_pup FBC_stab rfl g601
        refine And.intro (fun _ => ?_) (fun h => absurd h (by decide))
        refine c_put_1 (v := (0 : Int)) (show 0 ≤ S588 49 0 51 ∧ S588 49 0 51 + 1 ≤ 1200 by omega) (show -2147483648 ≤ (0 : Int) ∧ (0 : Int) < 2147483648 by omega) (fun (S616 : fxS) ⟨(f617 : fxfr [(49, 51), (78, 9999)] (fx_up S588 49 0 13 z603) S616), (q618 : S616 49 0 51 = S588 49 0 51 + 1)⟩ => ?_)
        have w619 : S616 72 0 0 = (fx_up S588 49 0 13 z603) 72 0 0 := f617 72 0 0 rfl
        have w620 : S616 72 0 1 = (fx_up S588 49 0 13 z603) 72 0 1 := f617 72 0 1 rfl
        have w621 : S616 63 0 (t).toNat = (fx_up S588 49 0 13 z603) 63 0 (t).toNat := f617 63 0 (t).toNat rfl
        have w622 : S616 49 0 45 = (fx_up S588 49 0 13 z603) 49 0 45 := f617 49 0 45 rfl
        have g623 : COL S616 := fx_pfr COL_stab f617 rfl g609
        have g624 : WTM S616 := fx_pfr WTM_stab f617 rfl g610
        have g625 : INJ S616 := fx_pfr INJ_stab f617 rfl g611
        have g626 : AON S616 := fx_pfr AON_stab f617 rfl g612
        have g627 : WNR S616 := fx_pfr WNR_stab f617 rfl g613
        have g628 : BWP w d t S616 := fx_pfr BWP_stab f617 rfl g614
        have g629 : FBC (-2 : Int) (0 : Int) S616 := fx_pfr FBC_stab f617 rfl g615
        refine c_StubHouseModel_putPath (f := (-2 : Int)) g623 g624 (show -2 ≤ (-2 : Int) ∧ (-2 : Int) < 60 by omega) (show 0 ≤ S616 49 0 51 ∧ S616 49 0 51 + 40 ≤ 1200 by omega) (fun (S630 : fxS) ⟨(f631 : fxfr [(49, 51), (78, 9999)] S616 S630), (q632 : (0 ≤ (-2 : Int) → S630 49 0 51 = S616 49 0 51 + 8 * (depF (ovf (S616 50 0)) 60 (-2 : Int) : Int)) ∧ ((-2 : Int) < 0 → S630 49 0 51 = S616 49 0 51))⟩ => ?_)
        have w633 : S630 72 0 0 = S616 72 0 0 := f631 72 0 0 rfl
        have w634 : S630 72 0 1 = S616 72 0 1 := f631 72 0 1 rfl
        have w635 : S630 63 0 (t).toNat = S616 63 0 (t).toNat := f631 63 0 (t).toNat rfl
        have w636 : S630 49 0 45 = S616 49 0 45 := f631 49 0 45 rfl
        have g637 : COL S630 := fx_pfr COL_stab f631 rfl g623
        have g638 : WTM S630 := fx_pfr WTM_stab f631 rfl g624
        have g639 : INJ S630 := fx_pfr INJ_stab f631 rfl g625
        have g640 : AON S630 := fx_pfr AON_stab f631 rfl g626
        have g641 : WNR S630 := fx_pfr WNR_stab f631 rfl g627
        have g642 : BWP w d t S630 := fx_pfr BWP_stab f631 rfl g628
        have g643 : FBC (-2 : Int) (0 : Int) S630 := fx_pfr FBC_stab f631 rfl g629
        refine c_put_2 (v := (0 : Int)) (show 0 ≤ S630 49 0 51 ∧ S630 49 0 51 + 2 ≤ 1200 by omega) (show -2147483648 ≤ (0 : Int) ∧ (0 : Int) < 2147483648 by omega) (fun (S644 : fxS) ⟨(f645 : fxfr [(49, 51), (78, 9999)] S630 S644), (q646 : S644 49 0 51 = S630 49 0 51 + 2)⟩ => ?_)
        have w647 : S644 72 0 0 = S630 72 0 0 := f645 72 0 0 rfl
        have w648 : S644 72 0 1 = S630 72 0 1 := f645 72 0 1 rfl
        have w649 : S644 63 0 (t).toNat = S630 63 0 (t).toNat := f645 63 0 (t).toNat rfl
        have w650 : S644 49 0 45 = S630 49 0 45 := f645 49 0 45 rfl
        have g651 : COL S644 := fx_pfr COL_stab f645 rfl g637
        have g652 : WTM S644 := fx_pfr WTM_stab f645 rfl g638
        have g653 : INJ S644 := fx_pfr INJ_stab f645 rfl g639
        have g654 : AON S644 := fx_pfr AON_stab f645 rfl g640
        have g655 : WNR S644 := fx_pfr WNR_stab f645 rfl g641
        have g656 : BWP w d t S644 := fx_pfr BWP_stab f645 rfl g642
        have g657 : FBC (-2 : Int) (0 : Int) S644 := fx_pfr FBC_stab f645 rfl g643
        refine c_StubHouseModel_outCheck (a := z515) (show 0 ≤ z515 ∧ z515 ≤ 1200 by omega) (fun (z658 : Int) (q659 : -2147483648 ≤ z658 ∧ z658 < 2147483648) => ?_)
        refine c_put_4 (v := z658) (show 0 ≤ S644 49 0 51 ∧ S644 49 0 51 + 4 ≤ 1200 by omega) (show -2147483648 ≤ z658 ∧ z658 < 2147483648 by omega) (fun (S660 : fxS) ⟨(f661 : fxfr [(49, 51), (78, 9999)] S644 S660), (q662 : S660 49 0 51 = S644 49 0 51 + 4)⟩ => ?_)
        have w663 : S660 72 0 0 = S644 72 0 0 := f661 72 0 0 rfl
        have w664 : S660 72 0 1 = S644 72 0 1 := f661 72 0 1 rfl
        have w665 : S660 63 0 (t).toNat = S644 63 0 (t).toNat := f661 63 0 (t).toNat rfl
        have w666 : S660 49 0 45 = S644 49 0 45 := f661 49 0 45 rfl
        have g667 : COL S660 := fx_pfr COL_stab f661 rfl g651
        have g668 : WTM S660 := fx_pfr WTM_stab f661 rfl g652
        have g669 : INJ S660 := fx_pfr INJ_stab f661 rfl g653
        have g670 : AON S660 := fx_pfr AON_stab f661 rfl g654
        have g671 : WNR S660 := fx_pfr WNR_stab f661 rfl g655
        have g672 : BWP w d t S660 := fx_pfr BWP_stab f661 rfl g656
        have g673 : FBC (-2 : Int) (0 : Int) S660 := fx_pfr FBC_stab f661 rfl g657
        intro z674 (z674a : (0 : Int) ≤ z674) (z674b : z674 ≤ (1200 : Int)) (z674c : z674 = S660 49 0 51)
        refine And.intro (by decide) ?_
        refine And.intro (by decide) ?_
        exact (z_StubHouseModel_beginWriting p0 p1 p2 p3 p4 p5 p6 p7 p8 hk (2000 - (0 : Int)).toNat).2 (-2 : Int) (0 : Int) z674 (0 : Int) S660 (fxfr_tr (fxfr_tr (fxfr_tr (fxfr_tr (fxfr_up (fxfr_tr (fxfr_tr (fxfr_tr (fxfr_tr (fxfr_tr (fxfr_up (fxfr_tr (fxfr_tr (fxfr_tr (fxfr_tr (fxfr_up (fxfr_up (fxfr_up fxfr_rfl rfl) rfl) rfl) f461 rfl) f474 rfl) f488 rfl) f503 rfl) rfl) f531 rfl) f545 rfl) f559 rfl) f574 rfl) f589 rfl) rfl) f617 rfl) f631 rfl) f645 rfl) f661 rfl) (by omega) (by omega) (by omega) (by omega) (by omega) (by omega) (by omega) g667 g668 g669 g670 g671 g673 (by omega)
      ·
        refine c_StubHouseModel_fileOf (d := d) g509 (show -2147483648 ≤ d ∧ d < 2147483648 by omega) (fun (z675 : Int) (q676 : -2 ≤ z675 ∧ z675 < 60 ∧ z675 ≠ -1 ∧ z675 ≠ 0 ∧ (0 ≤ z675 → aN S502 z675 0 = 2 ∧ aN S502 z675 2 = d) ∧ FOF d z675 S502) => ?_)
        obtain ⟨f0, b1, b2, b3, b4, b5⟩ := g514.2.2 (by omega)
        have fe : z675 = f0 := (FOF_un b1 q676.2.2.2.2.2).symm
        subst fe
        have b6 : aN S502 z675 0 = 2 ∧ 0 ≤ aN S502 z675 10 := ⟨b3, b4⟩
        have b7 : ((S502 63 0 (t).toNat = 0 → 8 + (25 + 8 * (depF (ovf (S502 50 0)) 60 z675 : Int) + aN S502 z675 3) ≤ 6000) ∧ (S502 63 0 (t).toNat ≠ 0 → S502 63 0 (t).toNat + (25 + 8 * (depF (ovf (S502 50 0)) 60 z675 : Int) + aN S502 z675 3) ≤ 6000)) := b5
        obtain ⟨dd, hd⟩ : ∃ x : Int, x = (depF (ovf (S502 50 0)) 60 z675 : Int) := ⟨_, rfl⟩
        have dp : DPE z675 dd S502 := (hd.symm : (depF (ovf (S502 50 0)) 60 z675 : Int) = dd)
        have d5 := WTM_dep (n := z675) g510 (by omega)
        have d6 : (depF (ovf (S502 50 0)) 60 z675 : Int) ≤ 5 := Int.ofNat_le.mpr d5
        refine And.intro (by decide) ?_
        refine And.intro (fun h => absurd h (by omega)) (fun _ => ?_)
        refine c_at3 (n := z675) g509 (show 0 ≤ z675 ∧ z675 < 60 by omega) (fun (z677 : Int) (q678 : z677 = aN S502 z675 3 ∧ 0 ≤ z677 ∧ z677 ≤ 1024) => ?_)
        have fb0 : FBC z675 z677 S502 := fun _ => (⟨by omega, by omega, by omega⟩ : aN S502 z675 0 = 2 ∧ aN S502 z675 3 = z677 ∧ 0 ≤ aN S502 z675 10)
        refine And.intro (by decide) ?_
        have fb : FBC z675 z677 S502 := by first | exact fb0 | exact fun h => absurd h (by omega)
        refine And.intro (fun h => absurd h (by omega)) (fun _ => ?_)
        refine c_at4 (n := z675) g509 (show 0 ≤ z675 ∧ z675 < 60 by omega) (fun (z679 : Int) (q680 : z679 = aN S502 z675 4 ∧ -2147483648 ≤ z679 ∧ z679 < 2147483648) => ?_)
        refine And.intro (show (-2147483648 : Int) ≤ z679 ∧ z679 ≤ (2147483647 : Int) by omega) ?_
        have w681 : (fx_up S502 49 0 54 z679) 49 0 51 = S502 49 0 51 := if_neg (fun q => absurd q.2.2 (by decide))
        have w682 : (fx_up S502 49 0 54 z679) 72 0 0 = S502 72 0 0 := rfl
        have w683 : (fx_up S502 49 0 54 z679) 72 0 1 = S502 72 0 1 := rfl
        have w684 : (fx_up S502 49 0 54 z679) 63 0 (t).toNat = S502 63 0 (t).toNat := rfl
        have w685 : (fx_up S502 49 0 54 z679) 49 0 45 = S502 49 0 45 := if_neg (fun q => absurd q.2.2 (by decide))
        have g686 : COL (fx_up S502 49 0 54 z679) := fx_pup COL_stab rfl g509
        have g687 : WTM (fx_up S502 49 0 54 z679) := fx_pup WTM_stab rfl g510
        have g688 : INJ (fx_up S502 49 0 54 z679) := fx_pup INJ_stab rfl g511
        have g689 : AON (fx_up S502 49 0 54 z679) := fx_pup AON_stab rfl g512
        have g690 : WNR (fx_up S502 49 0 54 z679) := fx_pup WNR_stab rfl g513
        have g691 : BWP w d t (fx_up S502 49 0 54 z679) := fx_pup BWP_stab rfl g514
        have g692 : DPE z675 dd (fx_up S502 49 0 54 z679) := fx_pup DPE_stab rfl dp
        have g693 : FBC z675 z677 (fx_up S502 49 0 54 z679) := fx_pup FBC_stab rfl fb
        refine c_put_1 (v := (83 : Int)) (show 0 ≤ S502 49 0 51 ∧ S502 49 0 51 + 1 ≤ 1200 by omega) (show -2147483648 ≤ (83 : Int) ∧ (83 : Int) < 2147483648 by omega) (fun (S694 : fxS) ⟨(f695 : fxfr [(49, 51), (78, 9999)] (fx_up S502 49 0 54 z679) S694), (q696 : S694 49 0 51 = S502 49 0 51 + 1)⟩ => ?_)
        have w697 : S694 72 0 0 = (fx_up S502 49 0 54 z679) 72 0 0 := f695 72 0 0 rfl
        have w698 : S694 72 0 1 = (fx_up S502 49 0 54 z679) 72 0 1 := f695 72 0 1 rfl
        have w699 : S694 63 0 (t).toNat = (fx_up S502 49 0 54 z679) 63 0 (t).toNat := f695 63 0 (t).toNat rfl
        have w700 : S694 49 0 45 = (fx_up S502 49 0 54 z679) 49 0 45 := f695 49 0 45 rfl
        have g701 : COL S694 := fx_pfr COL_stab f695 rfl g686
        have g702 : WTM S694 := fx_pfr WTM_stab f695 rfl g687
        have g703 : INJ S694 := fx_pfr INJ_stab f695 rfl g688
        have g704 : AON S694 := fx_pfr AON_stab f695 rfl g689
        have g705 : WNR S694 := fx_pfr WNR_stab f695 rfl g690
        have g706 : BWP w d t S694 := fx_pfr BWP_stab f695 rfl g691
        have g707 : DPE z675 dd S694 := fx_pfr DPE_stab f695 rfl g692
        have g708 : FBC z675 z677 S694 := fx_pfr FBC_stab f695 rfl g693
        refine And.intro (fun h => absurd h (by omega)) (fun _ => ?_)
        refine c_put_1 (v := (1 : Int)) (show 0 ≤ S694 49 0 51 ∧ S694 49 0 51 + 1 ≤ 1200 by omega) (show -2147483648 ≤ (1 : Int) ∧ (1 : Int) < 2147483648 by omega) (fun (S709 : fxS) ⟨(f710 : fxfr [(49, 51), (78, 9999)] S694 S709), (q711 : S709 49 0 51 = S694 49 0 51 + 1)⟩ => ?_)
        have w712 : S709 72 0 0 = S694 72 0 0 := f710 72 0 0 rfl
        have w713 : S709 72 0 1 = S694 72 0 1 := f710 72 0 1 rfl
        have w714 : S709 63 0 (t).toNat = S694 63 0 (t).toNat := f710 63 0 (t).toNat rfl
        have w715 : S709 49 0 45 = S694 49 0 45 := f710 49 0 45 rfl
        have g716 : COL S709 := fx_pfr COL_stab f710 rfl g701
        have g717 : WTM S709 := fx_pfr WTM_stab f710 rfl g702
        have g718 : INJ S709 := fx_pfr INJ_stab f710 rfl g703
        have g719 : AON S709 := fx_pfr AON_stab f710 rfl g704
        have g720 : WNR S709 := fx_pfr WNR_stab f710 rfl g705
        have g721 : BWP w d t S709 := fx_pfr BWP_stab f710 rfl g706
        have g722 : DPE z675 dd S709 := fx_pfr DPE_stab f710 rfl g707
        have g723 : FBC z675 z677 S709 := fx_pfr FBC_stab f710 rfl g708
        refine c_put_4 (v := d) (show 0 ≤ S709 49 0 51 ∧ S709 49 0 51 + 4 ≤ 1200 by omega) (show -2147483648 ≤ d ∧ d < 2147483648 by omega) (fun (S724 : fxS) ⟨(f725 : fxfr [(49, 51), (78, 9999)] S709 S724), (q726 : S724 49 0 51 = S709 49 0 51 + 4)⟩ => ?_)
        have w727 : S724 72 0 0 = S709 72 0 0 := f725 72 0 0 rfl
        have w728 : S724 72 0 1 = S709 72 0 1 := f725 72 0 1 rfl
        have w729 : S724 63 0 (t).toNat = S709 63 0 (t).toNat := f725 63 0 (t).toNat rfl
        have w730 : S724 49 0 45 = S709 49 0 45 := f725 49 0 45 rfl
        have g731 : COL S724 := fx_pfr COL_stab f725 rfl g716
        have g732 : WTM S724 := fx_pfr WTM_stab f725 rfl g717
        have g733 : INJ S724 := fx_pfr INJ_stab f725 rfl g718
        have g734 : AON S724 := fx_pfr AON_stab f725 rfl g719
        have g735 : WNR S724 := fx_pfr WNR_stab f725 rfl g720
        have g736 : BWP w d t S724 := fx_pfr BWP_stab f725 rfl g721
        have g737 : DPE z675 dd S724 := fx_pfr DPE_stab f725 rfl g722
        have g738 : FBC z675 z677 S724 := fx_pfr FBC_stab f725 rfl g723
        intro z739 (z739a : (-2147483648 : Int) ≤ z739) (z739b : z739 ≤ (2147483647 : Int)) (z739c : z739 = S724 49 0 54)
        refine c_put_4 (v := z739) (show 0 ≤ S724 49 0 51 ∧ S724 49 0 51 + 4 ≤ 1200 by omega) (show -2147483648 ≤ z739 ∧ z739 < 2147483648 by omega) (fun (S740 : fxS) ⟨(f741 : fxfr [(49, 51), (78, 9999)] S724 S740), (q742 : S740 49 0 51 = S724 49 0 51 + 4)⟩ => ?_)
        have w743 : S740 72 0 0 = S724 72 0 0 := f741 72 0 0 rfl
        have w744 : S740 72 0 1 = S724 72 0 1 := f741 72 0 1 rfl
        have w745 : S740 63 0 (t).toNat = S724 63 0 (t).toNat := f741 63 0 (t).toNat rfl
        have w746 : S740 49 0 45 = S724 49 0 45 := f741 49 0 45 rfl
        have g747 : COL S740 := fx_pfr COL_stab f741 rfl g731
        have g748 : WTM S740 := fx_pfr WTM_stab f741 rfl g732
        have g749 : INJ S740 := fx_pfr INJ_stab f741 rfl g733
        have g750 : AON S740 := fx_pfr AON_stab f741 rfl g734
        have g751 : WNR S740 := fx_pfr WNR_stab f741 rfl g735
        have g752 : BWP w d t S740 := fx_pfr BWP_stab f741 rfl g736
        have g753 : DPE z675 dd S740 := fx_pfr DPE_stab f741 rfl g737
        have g754 : FBC z675 z677 S740 := fx_pfr FBC_stab f741 rfl g738
        intro z755 (z755a : (-2147483648 : Int) ≤ z755) (z755b : z755 ≤ (2147483647 : Int)) (z755c : z755 = S740 49 0 13)
        refine c_put_4 (v := z755) (show 0 ≤ S740 49 0 51 ∧ S740 49 0 51 + 4 ≤ 1200 by omega) (show -2147483648 ≤ z755 ∧ z755 < 2147483648 by omega) (fun (S756 : fxS) ⟨(f757 : fxfr [(49, 51), (78, 9999)] S740 S756), (q758 : S756 49 0 51 = S740 49 0 51 + 4)⟩ => ?_)
        have w759 : S756 72 0 0 = S740 72 0 0 := f757 72 0 0 rfl
        have w760 : S756 72 0 1 = S740 72 0 1 := f757 72 0 1 rfl
        have w761 : S756 63 0 (t).toNat = S740 63 0 (t).toNat := f757 63 0 (t).toNat rfl
        have w762 : S756 49 0 45 = S740 49 0 45 := f757 49 0 45 rfl
        have g763 : COL S756 := fx_pfr COL_stab f757 rfl g747
        have g764 : WTM S756 := fx_pfr WTM_stab f757 rfl g748
        have g765 : INJ S756 := fx_pfr INJ_stab f757 rfl g749
        have g766 : AON S756 := fx_pfr AON_stab f757 rfl g750
        have g767 : WNR S756 := fx_pfr WNR_stab f757 rfl g751
        have g768 : BWP w d t S756 := fx_pfr BWP_stab f757 rfl g752
        have g769 : DPE z675 dd S756 := fx_pfr DPE_stab f757 rfl g753
        have g770 : FBC z675 z677 S756 := fx_pfr FBC_stab f757 rfl g754
        intro z771 (z771a : (-2147483648 : Int) ≤ z771) (z771b : z771 ≤ (2147483647 : Int)) (z771c : z771 = S756 49 0 13)
        intro z772 (z772a : -2147483648 ≤ z772) (z772b : z772 < 2147483648) (z772c : -2147483648 ≤ (z771 + (1 : Int)) ∧ (z771 + (1 : Int)) < 2147483648 → z772 = (z771 + (1 : Int)))
        refine And.intro (show (-2147483648 : Int) ≤ z772 ∧ z772 ≤ (2147483647 : Int) by omega) ?_
        have w773 : (fx_up S756 49 0 13 z772) 49 0 51 = S756 49 0 51 := if_neg (fun q => absurd q.2.2 (by decide))
        have w774 : (fx_up S756 49 0 13 z772) 72 0 0 = S756 72 0 0 := rfl
        have w775 : (fx_up S756 49 0 13 z772) 72 0 1 = S756 72 0 1 := rfl
        have w776 : (fx_up S756 49 0 13 z772) 63 0 (t).toNat = S756 63 0 (t).toNat := rfl
        have w777 : (fx_up S756 49 0 13 z772) 49 0 45 = S756 49 0 45 := if_neg (fun q => absurd q.2.2 (by decide))
        have g778 : COL (fx_up S756 49 0 13 z772) := fx_pup COL_stab rfl g763
        have g779 : WTM (fx_up S756 49 0 13 z772) := fx_pup WTM_stab rfl g764
        have g780 : INJ (fx_up S756 49 0 13 z772) := fx_pup INJ_stab rfl g765
        have g781 : AON (fx_up S756 49 0 13 z772) := fx_pup AON_stab rfl g766
        have g782 : WNR (fx_up S756 49 0 13 z772) := fx_pup WNR_stab rfl g767
        have g783 : BWP w d t (fx_up S756 49 0 13 z772) := fx_pup BWP_stab rfl g768
        have g784 : DPE z675 dd (fx_up S756 49 0 13 z772) := fx_pup DPE_stab rfl g769
        have g785 : FBC z675 z677 (fx_up S756 49 0 13 z772) := fx_pup FBC_stab rfl g770
        refine And.intro (fun h => absurd h (by omega)) (fun _ => ?_)
        refine c_StubHouseModel_depth (n := z675) g778 g779 (show 0 ≤ z675 ∧ z675 < 60 by omega) (fun (z786 : Int) (q787 : z786 = (depF (ovf (S756 50 0)) 60 z675 : Int) ∧ 0 ≤ z786 ∧ z786 ≤ 5) => ?_)
        refine c_put_1 (v := z786) (show 0 ≤ S756 49 0 51 ∧ S756 49 0 51 + 1 ≤ 1200 by omega) (show -2147483648 ≤ z786 ∧ z786 < 2147483648 by omega) (fun (S788 : fxS) ⟨(f789 : fxfr [(49, 51), (78, 9999)] (fx_up S756 49 0 13 z772) S788), (q790 : S788 49 0 51 = S756 49 0 51 + 1)⟩ => ?_)
        have w791 : S788 72 0 0 = (fx_up S756 49 0 13 z772) 72 0 0 := f789 72 0 0 rfl
        have w792 : S788 72 0 1 = (fx_up S756 49 0 13 z772) 72 0 1 := f789 72 0 1 rfl
        have w793 : S788 63 0 (t).toNat = (fx_up S756 49 0 13 z772) 63 0 (t).toNat := f789 63 0 (t).toNat rfl
        have w794 : S788 49 0 45 = (fx_up S756 49 0 13 z772) 49 0 45 := f789 49 0 45 rfl
        have g795 : COL S788 := fx_pfr COL_stab f789 rfl g778
        have g796 : WTM S788 := fx_pfr WTM_stab f789 rfl g779
        have g797 : INJ S788 := fx_pfr INJ_stab f789 rfl g780
        have g798 : AON S788 := fx_pfr AON_stab f789 rfl g781
        have g799 : WNR S788 := fx_pfr WNR_stab f789 rfl g782
        have g800 : BWP w d t S788 := fx_pfr BWP_stab f789 rfl g783
        have g801 : DPE z675 dd S788 := fx_pfr DPE_stab f789 rfl g784
        have g802 : FBC z675 z677 S788 := fx_pfr FBC_stab f789 rfl g785
        refine c_StubHouseModel_putPath (f := z675) g795 g796 (show -2 ≤ z675 ∧ z675 < 60 by omega) (show 0 ≤ S788 49 0 51 ∧ S788 49 0 51 + 40 ≤ 1200 by omega) (fun (S803 : fxS) ⟨(f804 : fxfr [(49, 51), (78, 9999)] S788 S803), (q805 : (0 ≤ z675 → S803 49 0 51 = S788 49 0 51 + 8 * (depF (ovf (S788 50 0)) 60 z675 : Int)) ∧ (z675 < 0 → S803 49 0 51 = S788 49 0 51))⟩ => ?_)
        have w806 : S803 72 0 0 = S788 72 0 0 := f804 72 0 0 rfl
        have w807 : S803 72 0 1 = S788 72 0 1 := f804 72 0 1 rfl
        have w808 : S803 63 0 (t).toNat = S788 63 0 (t).toNat := f804 63 0 (t).toNat rfl
        have w809 : S803 49 0 45 = S788 49 0 45 := f804 49 0 45 rfl
        have g810 : COL S803 := fx_pfr COL_stab f804 rfl g795
        have g811 : WTM S803 := fx_pfr WTM_stab f804 rfl g796
        have g812 : INJ S803 := fx_pfr INJ_stab f804 rfl g797
        have g813 : AON S803 := fx_pfr AON_stab f804 rfl g798
        have g814 : WNR S803 := fx_pfr WNR_stab f804 rfl g799
        have g815 : BWP w d t S803 := fx_pfr BWP_stab f804 rfl g800
        have g816 : DPE z675 dd S803 := fx_pfr DPE_stab f804 rfl g801
        have g817 : FBC z675 z677 S803 := fx_pfr FBC_stab f804 rfl g802
        have dq : (depF (ovf (S788 50 0)) 60 z675 : Int) = dd := g801
        refine c_put_2 (v := z677) (show 0 ≤ S803 49 0 51 ∧ S803 49 0 51 + 2 ≤ 1200 by omega) (show -2147483648 ≤ z677 ∧ z677 < 2147483648 by omega) (fun (S818 : fxS) ⟨(f819 : fxfr [(49, 51), (78, 9999)] S803 S818), (q820 : S818 49 0 51 = S803 49 0 51 + 2)⟩ => ?_)
        have w821 : S818 72 0 0 = S803 72 0 0 := f819 72 0 0 rfl
        have w822 : S818 72 0 1 = S803 72 0 1 := f819 72 0 1 rfl
        have w823 : S818 63 0 (t).toNat = S803 63 0 (t).toNat := f819 63 0 (t).toNat rfl
        have w824 : S818 49 0 45 = S803 49 0 45 := f819 49 0 45 rfl
        have g825 : COL S818 := fx_pfr COL_stab f819 rfl g810
        have g826 : WTM S818 := fx_pfr WTM_stab f819 rfl g811
        have g827 : INJ S818 := fx_pfr INJ_stab f819 rfl g812
        have g828 : AON S818 := fx_pfr AON_stab f819 rfl g813
        have g829 : WNR S818 := fx_pfr WNR_stab f819 rfl g814
        have g830 : BWP w d t S818 := fx_pfr BWP_stab f819 rfl g815
        have g831 : DPE z675 dd S818 := fx_pfr DPE_stab f819 rfl g816
        have g832 : FBC z675 z677 S818 := fx_pfr FBC_stab f819 rfl g817
        refine c_StubHouseModel_outCheck (a := z515) (show 0 ≤ z515 ∧ z515 ≤ 1200 by omega) (fun (z833 : Int) (q834 : -2147483648 ≤ z833 ∧ z833 < 2147483648) => ?_)
        refine c_put_4 (v := z833) (show 0 ≤ S818 49 0 51 ∧ S818 49 0 51 + 4 ≤ 1200 by omega) (show -2147483648 ≤ z833 ∧ z833 < 2147483648 by omega) (fun (S835 : fxS) ⟨(f836 : fxfr [(49, 51), (78, 9999)] S818 S835), (q837 : S835 49 0 51 = S818 49 0 51 + 4)⟩ => ?_)
        have w838 : S835 72 0 0 = S818 72 0 0 := f836 72 0 0 rfl
        have w839 : S835 72 0 1 = S818 72 0 1 := f836 72 0 1 rfl
        have w840 : S835 63 0 (t).toNat = S818 63 0 (t).toNat := f836 63 0 (t).toNat rfl
        have w841 : S835 49 0 45 = S818 49 0 45 := f836 49 0 45 rfl
        have g842 : COL S835 := fx_pfr COL_stab f836 rfl g825
        have g843 : WTM S835 := fx_pfr WTM_stab f836 rfl g826
        have g844 : INJ S835 := fx_pfr INJ_stab f836 rfl g827
        have g845 : AON S835 := fx_pfr AON_stab f836 rfl g828
        have g846 : WNR S835 := fx_pfr WNR_stab f836 rfl g829
        have g847 : BWP w d t S835 := fx_pfr BWP_stab f836 rfl g830
        have g848 : DPE z675 dd S835 := fx_pfr DPE_stab f836 rfl g831
        have g849 : FBC z675 z677 S835 := fx_pfr FBC_stab f836 rfl g832
        intro z850 (z850a : (0 : Int) ≤ z850) (z850b : z850 ≤ (1200 : Int)) (z850c : z850 = S835 49 0 51)
        refine And.intro (by decide) ?_
        refine And.intro (by decide) ?_
        exact (z_StubHouseModel_beginWriting p0 p1 p2 p3 p4 p5 p6 p7 p8 hk (2000 - (0 : Int)).toNat).2 z675 z677 z850 (0 : Int) S835 (fxfr_tr (fxfr_tr (fxfr_tr (fxfr_tr (fxfr_up (fxfr_tr (fxfr_tr (fxfr_tr (fxfr_tr (fxfr_tr (fxfr_up (fxfr_tr (fxfr_tr (fxfr_tr (fxfr_tr (fxfr_up (fxfr_up (fxfr_up fxfr_rfl rfl) rfl) rfl) f461 rfl) f474 rfl) f488 rfl) f503 rfl) rfl) f695 rfl) f710 rfl) f725 rfl) f741 rfl) f757 rfl) rfl) f789 rfl) f804 rfl) f819 rfl) f836 rfl) (by omega) (by omega) (by omega) (by omega) (by omega) (by omega) (by omega) g842 g843 g844 g845 g846 g849 (by omega)
    ·
      refine And.intro (by decide) ?_
      exact (z_StubHouseModel_beginWriting p0 p1 p2 p3 p4 p5 p6 p7 p8 hk (2000 - (0 : Int)).toNat).1 (0 : Int) S502 (fxfr_tr (fxfr_tr (fxfr_tr (fxfr_tr (fxfr_up (fxfr_up (fxfr_up fxfr_rfl rfl) rfl) rfl) f461 rfl) f474 rfl) f488 rfl) f503 rfl) (by omega) (by omega) (by omega) (by omega) (by omega) (by omega) g509 g510 g511 g512 g513 (by omega)
