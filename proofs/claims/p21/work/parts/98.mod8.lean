/-! contracts of the reference: the reading drive -/
theorem c_StubHouseModel_hasRoom {l : Launch} {k : fxK} {S : fxS} {f : Int} (p0 : COL S) (p1 : 0 ≤ f ∧ f < 60) (hk : ∀ (r : Int) , (0 ≤ r ∧ r ≤ 1 ∧ (r = 1 → (aN S f 3 + 31) / 32 ≤ fcn (S 56 0) 0 48 ∨ (aN S f 3 + 31) / 32 ≤ fcn (S 56 0) 48 160)) → k (some (.inl r)) S) : fC l 255 [.inr (.inr (49, 0)), .inl f] S k := by
  refine fxe_255 (Nat.le_of_ble_eq_true rfl) (fxz_255 400 ?_)
  refine c_StubHouseModel_blocks (n := f) p0 (show 0 ≤ f ∧ f < 60 by omega) (fun (z1 : Int) (q2 : z1 = (aN S f 3 + 31) / 32 ∧ 0 ≤ z1 ∧ z1 ≤ 32) => ?_)
  refine And.intro (by decide) ?_
  refine c_freeIn_0_48   (fun (z3 : Int) (q4 : z3 = fcn (S 56 0) 0 48 ∧ 0 ≤ z3 ∧ z3 ≤ 208) => ?_)
  refine And.intro (fun (h5 : (z1 ≤ z3 : Prop)) => ?_) (fun (h5 : (z3 < z1 : Prop)) => ?_)
  ·
    refine And.intro (show 0 ≤ (1 : Int) ∧ (1 : Int) ≤ 1 by omega) ?_
    exact hk (1 : Int) (by omega)
  ·
    refine c_freeIn_48_208   (fun (z6 : Int) (q7 : z6 = fcn (S 56 0) 48 160 ∧ 0 ≤ z6 ∧ z6 ≤ 208) => ?_)
    refine And.intro (fun (h8 : (z6 < z1 : Prop)) => ?_) (fun (h8 : (z1 ≤ z6 : Prop)) => ?_)
    ·
      refine And.intro (show 0 ≤ (0 : Int) ∧ (0 : Int) ≤ 1 by omega) ?_
      exact hk (0 : Int) (by omega)
    ·
      refine And.intro (show 0 ≤ (1 : Int) ∧ (1 : Int) ≤ 1 by omega) ?_
      exact hk (1 : Int) (by omega)
theorem c_StubHouseModel_isNearer {l : Launch} {k : fxK} {S : fxS} {a : Int} {b : Int} (p0 : -2147483648 ≤ a ∧ a < 2147483648) (p1 : -2147483648 ≤ b ∧ b < 2147483648) (hk : ∀ (r : Int) , (0 ≤ r ∧ r ≤ 1) → k (some (.inl r)) S) : fC l 256 [.inr (.inr (49, 0)), .inl a, .inl b] S k := by
  refine fxe_256 (Nat.le_of_ble_eq_true rfl) (fxz_256 400 ?_)
  refine And.intro (show 0 ≤ (1 : Int) ∧ (1 : Int) < 2 by omega) ?_
  intro z1 (z1a : (0 : Int) ≤ z1) (z1b : z1 ≤ (7100 : Int)) (z1c : z1 = S 71 0 1)
  refine And.intro (fun (h2 : (a < z1 : Prop)) => ?_) (fun (h2 : (z1 ≤ a : Prop)) => ?_)
  ·
    refine And.intro (by decide) ?_
    refine And.intro (show 0 ≤ (1 : Int) ∧ (1 : Int) < 2 by omega) ?_
    intro z3 (z3a : (0 : Int) ≤ z3) (z3b : z3 ≤ (7100 : Int)) (z3c : z3 = S 71 0 1)
    refine And.intro (fun (h4 : (b < z3 : Prop)) => ?_) (fun (h4 : (z3 ≤ b : Prop)) => ?_)
    ·
      refine And.intro (by decide) ?_
      refine And.intro (fun h => absurd h (by decide)) (fun _ => ?_)
      refine And.intro (fun (h5 : (b ≤ a : Prop)) => ?_) (fun (h5 : (a < b : Prop)) => ?_)
      ·
        refine And.intro (show 0 ≤ (0 : Int) ∧ (0 : Int) ≤ 1 by omega) ?_
        exact hk (0 : Int) (by omega)
      ·
        refine And.intro (show 0 ≤ (1 : Int) ∧ (1 : Int) ≤ 1 by omega) ?_
        exact hk (1 : Int) (by omega)
    ·
      refine And.intro (by decide) ?_
      refine And.intro (fun _ => ?_) (fun h => absurd h (by decide))
      refine And.intro (show 0 ≤ (0 : Int) ∧ (0 : Int) ≤ 1 by omega) ?_
      exact hk (0 : Int) (by omega)
  ·
    refine And.intro (by decide) ?_
    refine And.intro (show 0 ≤ (1 : Int) ∧ (1 : Int) < 2 by omega) ?_
    intro z6 (z6a : (0 : Int) ≤ z6) (z6b : z6 ≤ (7100 : Int)) (z6c : z6 = S 71 0 1)
    refine And.intro (fun (h7 : (b < z6 : Prop)) => ?_) (fun (h7 : (z6 ≤ b : Prop)) => ?_)
    ·
      refine And.intro (by decide) ?_
      refine And.intro (fun _ => ?_) (fun h => absurd h (by decide))
      refine And.intro (show 0 ≤ (1 : Int) ∧ (1 : Int) ≤ 1 by omega) ?_
      exact hk (1 : Int) (by omega)
    ·
      refine And.intro (by decide) ?_
      refine And.intro (fun h => absurd h (by decide)) (fun _ => ?_)
      refine And.intro (fun (h8 : (b ≤ a : Prop)) => ?_) (fun (h8 : (a < b : Prop)) => ?_)
      ·
        refine And.intro (show 0 ≤ (0 : Int) ∧ (0 : Int) ≤ 1 by omega) ?_
        exact hk (0 : Int) (by omega)
      ·
        refine And.intro (show 0 ≤ (1 : Int) ∧ (1 : Int) ≤ 1 by omega) ?_
        exact hk (1 : Int) (by omega)
theorem c_begin_0 {l : Launch} {k : fxK} {S : fxS} {w : Int} {s : Int} (p0 : WNR S) (p1 : 0 ≤ w ∧ w ≤ 5) (p2 : -2147483648 ≤ s ∧ s < 2147483648) (hk : ∀ (S' : fxS) , (fxfr [(72, 9999), (73, 9999)] S S' ∧ (S' 72 0 0 = w ∧ S' 72 0 1 = S 72 0 1) ∧ (WNR S')) → k none S') : fC l 257 [.inr (.inr (49, 0)), .inl (0 : Int), .inl w, .inl s] S k := by
  refine fxe_257 (Nat.le_of_ble_eq_true rfl) (fxz_257 400 ?_)
  refine And.intro (show 0 ≤ (0 : Int) ∧ (0 : Int) < 2 by omega) ?_
  refine And.intro (show (0 : Int) ≤ w ∧ w ≤ (5 : Int) by omega) ?_
  have w1 : (fx_up S 72 0 0 w) 72 0 0 = w := fx_up_at _ _ _ _ _
  have w2 : (fx_up S 72 0 0 w) 72 0 1 = S 72 0 1 := if_neg (fun q => absurd q.2.2 (by decide))
  have g3 : WNR (fx_up S 72 0 0 w) := WNR_72 p0
  refine And.intro (show 0 ≤ (0 : Int) ∧ (0 : Int) < 2 by omega) ?_
  refine And.intro (show (-2147483648 : Int) ≤ s ∧ s ≤ (2147483647 : Int) by omega) ?_
  have w4 : (fx_up (fx_up S 72 0 0 w) 73 0 0 s) 72 0 0 = (fx_up S 72 0 0 w) 72 0 0 := rfl
  have w5 : (fx_up (fx_up S 72 0 0 w) 73 0 0 s) 72 0 1 = (fx_up S 72 0 0 w) 72 0 1 := rfl
  have g6 : WNR (fx_up (fx_up S 72 0 0 w) 73 0 0 s) := fx_pup WNR_stab rfl g3
  exact hk (fx_up (fx_up S 72 0 0 w) 73 0 0 s) ⟨(fxfr_up (fxfr_up fxfr_rfl rfl) rfl), by omega, g6⟩
theorem c_begin_1 {l : Launch} {k : fxK} {S : fxS} {w : Int} {s : Int} (p0 : WNW S) (p1 : 0 ≤ w ∧ w ≤ 5) (p2 : -2147483648 ≤ s ∧ s < 2147483648) (hk : ∀ (S' : fxS) , (fxfr [(72, 9999), (73, 9999)] S S' ∧ (S' 72 0 1 = w ∧ S' 72 0 0 = S 72 0 0) ∧ (WNW S')) → k none S') : fC l 257 [.inr (.inr (49, 0)), .inl (1 : Int), .inl w, .inl s] S k := by
  refine fxe_257 (Nat.le_of_ble_eq_true rfl) (fxz_257 400 ?_)
  refine And.intro (show 0 ≤ (1 : Int) ∧ (1 : Int) < 2 by omega) ?_
  refine And.intro (show (0 : Int) ≤ w ∧ w ≤ (5 : Int) by omega) ?_
  have w1 : (fx_up S 72 0 1 w) 72 0 0 = S 72 0 0 := if_neg (fun q => absurd q.2.2 (by decide))
  have w2 : (fx_up S 72 0 1 w) 72 0 1 = w := fx_up_at _ _ _ _ _
  have g3 : WNW (fx_up S 72 0 1 w) := WNW_72 p0
  refine And.intro (show 0 ≤ (1 : Int) ∧ (1 : Int) < 2 by omega) ?_
  refine And.intro (show (-2147483648 : Int) ≤ s ∧ s ≤ (2147483647 : Int) by omega) ?_
  have w4 : (fx_up (fx_up S 72 0 1 w) 73 0 1 s) 72 0 0 = (fx_up S 72 0 1 w) 72 0 0 := rfl
  have w5 : (fx_up (fx_up S 72 0 1 w) 73 0 1 s) 72 0 1 = (fx_up S 72 0 1 w) 72 0 1 := rfl
  have g6 : WNW (fx_up (fx_up S 72 0 1 w) 73 0 1 s) := fx_pup WNW_stab rfl g3
  exact hk (fx_up (fx_up S 72 0 1 w) 73 0 1 s) ⟨(fxfr_up (fxfr_up fxfr_rfl rfl) rfl), by omega, g6⟩
theorem c_mount_0 {l : Launch} {k : fxK} {S : fxS} {t : Int} (p0 : WNR S) (p1 : 0 ≤ t ∧ t ≤ 5) (hk : ∀ (S' : fxS) , (fxfr [(70, 9999), (71, 9999), (72, 9999), (73, 9999)] S S' ∧ (S' 72 0 0 = 1 ∧ S' 72 0 1 = S 72 0 1 ∧ S' 70 0 1 = S 70 0 1) ∧ (WNR S')) → k none S') : fC l 264 [.inr (.inr (49, 0)), .inl (0 : Int), .inl t] S k := by
  refine fxe_264 (Nat.le_of_ble_eq_true rfl) (fxz_264 400 ?_)
  refine And.intro (show 0 ≤ (0 : Int) ∧ (0 : Int) < 2 by omega) ?_
  refine And.intro (show (-2 : Int) ≤ t ∧ t ≤ (5 : Int) by omega) ?_
  have w1 : (fx_up S 70 0 0 t) 72 0 0 = S 72 0 0 := rfl
  have w2 : (fx_up S 70 0 0 t) 72 0 1 = S 72 0 1 := rfl
  have w3 : (fx_up S 70 0 0 t) 70 0 0 = t := fx_up_at _ _ _ _ _
  have w4 : (fx_up S 70 0 0 t) 70 0 1 = S 70 0 1 := if_neg (fun q => absurd q.2.2 (by decide))
  have g5 : WNR (fx_up S 70 0 0 t) := WNR_70 p0
  refine And.intro (show 0 ≤ (0 : Int) ∧ (0 : Int) < 2 by omega) ?_
  refine And.intro (show (0 : Int) ≤ (0 : Int) ∧ (0 : Int) ≤ (7100 : Int) by omega) ?_
  have w6 : (fx_up (fx_up S 70 0 0 t) 71 0 0 (0 : Int)) 72 0 0 = (fx_up S 70 0 0 t) 72 0 0 := rfl
  have w7 : (fx_up (fx_up S 70 0 0 t) 71 0 0 (0 : Int)) 72 0 1 = (fx_up S 70 0 0 t) 72 0 1 := rfl
  have w8 : (fx_up (fx_up S 70 0 0 t) 71 0 0 (0 : Int)) 70 0 0 = (fx_up S 70 0 0 t) 70 0 0 := rfl
  have w9 : (fx_up (fx_up S 70 0 0 t) 71 0 0 (0 : Int)) 70 0 1 = (fx_up S 70 0 0 t) 70 0 1 := rfl
  have g10 : WNR (fx_up (fx_up S 70 0 0 t) 71 0 0 (0 : Int)) := fx_pup WNR_stab rfl g5
  refine c_begin_0 (w := (1 : Int)) (s := (3 : Int)) g10 (show 0 ≤ (1 : Int) ∧ (1 : Int) ≤ 5 by omega) (show -2147483648 ≤ (3 : Int) ∧ (3 : Int) < 2147483648 by omega) (fun (S11 : fxS) ⟨(f12 : fxfr [(72, 9999), (73, 9999)] (fx_up (fx_up S 70 0 0 t) 71 0 0 (0 : Int)) S11), (q13 : S11 72 0 0 = (1 : Int) ∧ S11 72 0 1 = S 72 0 1), (g14 : WNR S11)⟩ => ?_)
  have w15 : S11 70 0 0 = (fx_up (fx_up S 70 0 0 t) 71 0 0 (0 : Int)) 70 0 0 := f12 70 0 0 rfl
  have w16 : S11 70 0 1 = (fx_up (fx_up S 70 0 0 t) 71 0 0 (0 : Int)) 70 0 1 := f12 70 0 1 rfl
  exact hk S11 ⟨(fxfr_tr (fxfr_up (fxfr_up fxfr_rfl rfl) rfl) f12 rfl), by omega, g14⟩
theorem c_mount_1 {l : Launch} {k : fxK} {S : fxS} {t : Int} (p0 : WNW S) (p1 : 0 ≤ t ∧ t ≤ 5) (hk : ∀ (S' : fxS) , (fxfr [(70, 9999), (71, 9999), (72, 9999), (73, 9999)] S S' ∧ (S' 72 0 1 = 1 ∧ S' 72 0 0 = S 72 0 0 ∧ S' 70 0 0 = S 70 0 0) ∧ (WNW S')) → k none S') : fC l 264 [.inr (.inr (49, 0)), .inl (1 : Int), .inl t] S k := by
  refine fxe_264 (Nat.le_of_ble_eq_true rfl) (fxz_264 400 ?_)
  refine And.intro (show 0 ≤ (1 : Int) ∧ (1 : Int) < 2 by omega) ?_
  refine And.intro (show (-2 : Int) ≤ t ∧ t ≤ (5 : Int) by omega) ?_
  have w1 : (fx_up S 70 0 1 t) 72 0 0 = S 72 0 0 := rfl
  have w2 : (fx_up S 70 0 1 t) 72 0 1 = S 72 0 1 := rfl
  have w3 : (fx_up S 70 0 1 t) 70 0 0 = S 70 0 0 := if_neg (fun q => absurd q.2.2 (by decide))
  have w4 : (fx_up S 70 0 1 t) 70 0 1 = t := fx_up_at _ _ _ _ _
  have g5 : WNW (fx_up S 70 0 1 t) := WNW_70 p0
  refine And.intro (show 0 ≤ (1 : Int) ∧ (1 : Int) < 2 by omega) ?_
  refine And.intro (show (0 : Int) ≤ (0 : Int) ∧ (0 : Int) ≤ (7100 : Int) by omega) ?_
  have w6 : (fx_up (fx_up S 70 0 1 t) 71 0 1 (0 : Int)) 72 0 0 = (fx_up S 70 0 1 t) 72 0 0 := rfl
  have w7 : (fx_up (fx_up S 70 0 1 t) 71 0 1 (0 : Int)) 72 0 1 = (fx_up S 70 0 1 t) 72 0 1 := rfl
  have w8 : (fx_up (fx_up S 70 0 1 t) 71 0 1 (0 : Int)) 70 0 0 = (fx_up S 70 0 1 t) 70 0 0 := rfl
  have w9 : (fx_up (fx_up S 70 0 1 t) 71 0 1 (0 : Int)) 70 0 1 = (fx_up S 70 0 1 t) 70 0 1 := rfl
  have g10 : WNW (fx_up (fx_up S 70 0 1 t) 71 0 1 (0 : Int)) := fx_pup WNW_stab rfl g5
  refine c_begin_1 (w := (1 : Int)) (s := (3 : Int)) g10 (show 0 ≤ (1 : Int) ∧ (1 : Int) ≤ 5 by omega) (show -2147483648 ≤ (3 : Int) ∧ (3 : Int) < 2147483648 by omega) (fun (S11 : fxS) ⟨(f12 : fxfr [(72, 9999), (73, 9999)] (fx_up (fx_up S 70 0 1 t) 71 0 1 (0 : Int)) S11), (q13 : S11 72 0 1 = (1 : Int) ∧ S11 72 0 0 = S 72 0 0), (g14 : WNW S11)⟩ => ?_)
  have w15 : S11 70 0 0 = (fx_up (fx_up S 70 0 1 t) 71 0 1 (0 : Int)) 70 0 0 := f12 70 0 0 rfl
  have w16 : S11 70 0 1 = (fx_up (fx_up S 70 0 1 t) 71 0 1 (0 : Int)) 70 0 1 := f12 70 0 1 rfl
  exact hk S11 ⟨(fxfr_tr (fxfr_up (fxfr_up fxfr_rfl rfl) rfl) f12 rfl), by omega, g14⟩
theorem c_wind_0 {l : Launch} {k : fxK} {S : fxS} {p : Int} (p0 : WNR S) (p1 : 0 ≤ p ∧ p ≤ 7100) (hk : ∀ (S' : fxS) , (fxfr [(72, 9999), (73, 9999), (74, 9999)] S S' ∧ (S' 72 0 0 = 3 ∧ S' 72 0 1 = S 72 0 1) ∧ (WNR S')) → k none S') : fC l 258 [.inr (.inr (49, 0)), .inl (0 : Int), .inl p] S k := by
  refine fxe_258 (Nat.le_of_ble_eq_true rfl) (fxz_258 400 ?_)
  refine And.intro (show 0 ≤ (0 : Int) ∧ (0 : Int) < 2 by omega) ?_
  refine And.intro (show (0 : Int) ≤ p ∧ p ≤ (7100 : Int) by omega) ?_
  have w1 : (fx_up S 74 0 0 p) 72 0 0 = S 72 0 0 := rfl
  have w2 : (fx_up S 74 0 0 p) 72 0 1 = S 72 0 1 := rfl
  have g3 : WNR (fx_up S 74 0 0 p) := fx_pup WNR_stab rfl p0
  refine And.intro (show 0 ≤ (0 : Int) ∧ (0 : Int) < 2 by omega) ?_
  intro z4 (z4a : (0 : Int) ≤ z4) (z4b : z4 ≤ (7100 : Int)) (z4c : z4 = S 71 0 0)
  refine And.intro (fun (h5 : (p ≤ z4 : Prop)) => ?_) (fun (h5 : (z4 < p : Prop)) => ?_)
  ·
    refine And.intro (show 0 ≤ (0 : Int) ∧ (0 : Int) < 2 by omega) ?_
    intro z6 (z6a : (0 : Int) ≤ z6) (z6b : z6 ≤ (7100 : Int)) (z6c : z6 = S 71 0 0)
    refine And.intro (show -2147483648 ≤ (z6 - p) ∧ (z6 - p) < 2147483648 by omega) ?_
    refine And.intro (by decide) ?_
    refine And.intro (show -2147483648 ≤ ((z6 - p) + (255 : Int)) ∧ ((z6 - p) + (255 : Int)) < 2147483648 by omega) ?_
    refine And.intro (show 0 ≤ ((z6 - p) + (255 : Int)) ∧ 0 < (256 : Int) by omega) ?_
    refine c_begin_0 (w := (3 : Int)) (s := (((z6 - p) + (255 : Int)) / (256 : Int))) g3 (show 0 ≤ (3 : Int) ∧ (3 : Int) ≤ 5 by omega) (show -2147483648 ≤ (((z6 - p) + (255 : Int)) / (256 : Int)) ∧ (((z6 - p) + (255 : Int)) / (256 : Int)) < 2147483648 by omega) (fun (S7 : fxS) ⟨(f8 : fxfr [(72, 9999), (73, 9999)] (fx_up S 74 0 0 p) S7), (q9 : S7 72 0 0 = (3 : Int) ∧ S7 72 0 1 = S 72 0 1), (g10 : WNR S7)⟩ => ?_)
    exact hk S7 ⟨(fxfr_tr (fxfr_up fxfr_rfl rfl) f8 rfl), by omega, g10⟩
  ·
    refine And.intro (show 0 ≤ (0 : Int) ∧ (0 : Int) < 2 by omega) ?_
    intro z11 (z11a : (0 : Int) ≤ z11) (z11b : z11 ≤ (7100 : Int)) (z11c : z11 = S 71 0 0)
    refine And.intro (show -2147483648 ≤ (p - z11) ∧ (p - z11) < 2147483648 by omega) ?_
    refine And.intro (by decide) ?_
    refine And.intro (show -2147483648 ≤ ((p - z11) + (255 : Int)) ∧ ((p - z11) + (255 : Int)) < 2147483648 by omega) ?_
    refine And.intro (show 0 ≤ ((p - z11) + (255 : Int)) ∧ 0 < (256 : Int) by omega) ?_
    refine c_begin_0 (w := (3 : Int)) (s := (((p - z11) + (255 : Int)) / (256 : Int))) g3 (show 0 ≤ (3 : Int) ∧ (3 : Int) ≤ 5 by omega) (show -2147483648 ≤ (((p - z11) + (255 : Int)) / (256 : Int)) ∧ (((p - z11) + (255 : Int)) / (256 : Int)) < 2147483648 by omega) (fun (S12 : fxS) ⟨(f13 : fxfr [(72, 9999), (73, 9999)] (fx_up S 74 0 0 p) S12), (q14 : S12 72 0 0 = (3 : Int) ∧ S12 72 0 1 = S 72 0 1), (g15 : WNR S12)⟩ => ?_)
    exact hk S12 ⟨(fxfr_tr (fxfr_up fxfr_rfl rfl) f13 rfl), by omega, g15⟩
theorem c_wind_1 {l : Launch} {k : fxK} {S : fxS} {p : Int} (p0 : WNW S) (p1 : 0 ≤ p ∧ p ≤ 7100) (hk : ∀ (S' : fxS) , (fxfr [(72, 9999), (73, 9999), (74, 9999)] S S' ∧ (S' 72 0 1 = 3 ∧ S' 72 0 0 = S 72 0 0) ∧ (WNW S')) → k none S') : fC l 258 [.inr (.inr (49, 0)), .inl (1 : Int), .inl p] S k := by
  refine fxe_258 (Nat.le_of_ble_eq_true rfl) (fxz_258 400 ?_)
  refine And.intro (show 0 ≤ (1 : Int) ∧ (1 : Int) < 2 by omega) ?_
  refine And.intro (show (0 : Int) ≤ p ∧ p ≤ (7100 : Int) by omega) ?_
  have w1 : (fx_up S 74 0 1 p) 72 0 0 = S 72 0 0 := rfl
  have w2 : (fx_up S 74 0 1 p) 72 0 1 = S 72 0 1 := rfl
  have g3 : WNW (fx_up S 74 0 1 p) := fx_pup WNW_stab rfl p0
  refine And.intro (show 0 ≤ (1 : Int) ∧ (1 : Int) < 2 by omega) ?_
  intro z4 (z4a : (0 : Int) ≤ z4) (z4b : z4 ≤ (7100 : Int)) (z4c : z4 = S 71 0 1)
  refine And.intro (fun (h5 : (p ≤ z4 : Prop)) => ?_) (fun (h5 : (z4 < p : Prop)) => ?_)
  ·
    refine And.intro (show 0 ≤ (1 : Int) ∧ (1 : Int) < 2 by omega) ?_
    intro z6 (z6a : (0 : Int) ≤ z6) (z6b : z6 ≤ (7100 : Int)) (z6c : z6 = S 71 0 1)
    refine And.intro (show -2147483648 ≤ (z6 - p) ∧ (z6 - p) < 2147483648 by omega) ?_
    refine And.intro (by decide) ?_
    refine And.intro (show -2147483648 ≤ ((z6 - p) + (255 : Int)) ∧ ((z6 - p) + (255 : Int)) < 2147483648 by omega) ?_
    refine And.intro (show 0 ≤ ((z6 - p) + (255 : Int)) ∧ 0 < (256 : Int) by omega) ?_
    refine c_begin_1 (w := (3 : Int)) (s := (((z6 - p) + (255 : Int)) / (256 : Int))) g3 (show 0 ≤ (3 : Int) ∧ (3 : Int) ≤ 5 by omega) (show -2147483648 ≤ (((z6 - p) + (255 : Int)) / (256 : Int)) ∧ (((z6 - p) + (255 : Int)) / (256 : Int)) < 2147483648 by omega) (fun (S7 : fxS) ⟨(f8 : fxfr [(72, 9999), (73, 9999)] (fx_up S 74 0 1 p) S7), (q9 : S7 72 0 1 = (3 : Int) ∧ S7 72 0 0 = S 72 0 0), (g10 : WNW S7)⟩ => ?_)
    exact hk S7 ⟨(fxfr_tr (fxfr_up fxfr_rfl rfl) f8 rfl), by omega, g10⟩
  ·
    refine And.intro (show 0 ≤ (1 : Int) ∧ (1 : Int) < 2 by omega) ?_
    intro z11 (z11a : (0 : Int) ≤ z11) (z11b : z11 ≤ (7100 : Int)) (z11c : z11 = S 71 0 1)
    refine And.intro (show -2147483648 ≤ (p - z11) ∧ (p - z11) < 2147483648 by omega) ?_
    refine And.intro (by decide) ?_
    refine And.intro (show -2147483648 ≤ ((p - z11) + (255 : Int)) ∧ ((p - z11) + (255 : Int)) < 2147483648 by omega) ?_
    refine And.intro (show 0 ≤ ((p - z11) + (255 : Int)) ∧ 0 < (256 : Int) by omega) ?_
    refine c_begin_1 (w := (3 : Int)) (s := (((p - z11) + (255 : Int)) / (256 : Int))) g3 (show 0 ≤ (3 : Int) ∧ (3 : Int) ≤ 5 by omega) (show -2147483648 ≤ (((p - z11) + (255 : Int)) / (256 : Int)) ∧ (((p - z11) + (255 : Int)) / (256 : Int)) < 2147483648 by omega) (fun (S12 : fxS) ⟨(f13 : fxfr [(72, 9999), (73, 9999)] (fx_up S 74 0 1 p) S12), (q14 : S12 72 0 1 = (3 : Int) ∧ S12 72 0 0 = S 72 0 0), (g15 : WNW S12)⟩ => ?_)
    exact hk S12 ⟨(fxfr_tr (fxfr_up fxfr_rfl rfl) f13 rfl), by omega, g15⟩
theorem c_StubHouseModel_beginReading {l : Launch} {k : fxK} {S : fxS} {d : Int} {p : Int} {z : Int} (p0 : WNW S) (p1 : 0 ≤ p ∧ p ≤ 6000) (p2 : 0 ≤ z ∧ z ≤ 1024) (p3 : -2147483648 ≤ d ∧ d < 2147483648) (hk : ∀ (S' : fxS) , (fxfr [(49, 40), (49, 41), (72, 9999), (73, 9999), (74, 9999)] S S' ∧ (S' 72 0 1 = 4 ∧ S' 72 0 0 = S 72 0 0) ∧ (WNW S')) → k none S') : fC l 259 [.inr (.inr (49, 0)), .inl d, .inl p, .inl z] S k := by
  refine fxe_259 (Nat.le_of_ble_eq_true rfl) (fxz_259 400 ?_)
  refine And.intro (show (-2147483648 : Int) ≤ d ∧ d ≤ (2147483647 : Int) by omega) ?_
  have w1 : (fx_up S 49 0 40 d) 72 0 0 = S 72 0 0 := rfl
  have w2 : (fx_up S 49 0 40 d) 72 0 1 = S 72 0 1 := rfl
  have g3 : WNW (fx_up S 49 0 40 d) := fx_pup WNW_stab rfl p0
  refine And.intro (show (0 : Int) ≤ p ∧ p ≤ (6000 : Int) by omega) ?_
  have w4 : (fx_up (fx_up S 49 0 40 d) 49 0 41 p) 72 0 0 = (fx_up S 49 0 40 d) 72 0 0 := rfl
  have w5 : (fx_up (fx_up S 49 0 40 d) 49 0 41 p) 72 0 1 = (fx_up S 49 0 40 d) 72 0 1 := rfl
  have g6 : WNW (fx_up (fx_up S 49 0 40 d) 49 0 41 p) := fx_pup WNW_stab rfl g3
  refine And.intro (show -2147483648 ≤ (p + (25 : Int)) ∧ (p + (25 : Int)) < 2147483648 by omega) ?_
  refine And.intro (show -2147483648 ≤ ((p + (25 : Int)) + z) ∧ ((p + (25 : Int)) + z) < 2147483648 by omega) ?_
  refine And.intro (show 0 ≤ (1 : Int) ∧ (1 : Int) < 2 by omega) ?_
  refine And.intro (show (0 : Int) ≤ ((p + (25 : Int)) + z) ∧ ((p + (25 : Int)) + z) ≤ (7100 : Int) by omega) ?_
  have w7 : (fx_up (fx_up (fx_up S 49 0 40 d) 49 0 41 p) 74 0 1 ((p + (25 : Int)) + z)) 72 0 0 = (fx_up (fx_up S 49 0 40 d) 49 0 41 p) 72 0 0 := rfl
  have w8 : (fx_up (fx_up (fx_up S 49 0 40 d) 49 0 41 p) 74 0 1 ((p + (25 : Int)) + z)) 72 0 1 = (fx_up (fx_up S 49 0 40 d) 49 0 41 p) 72 0 1 := rfl
  have g9 : WNW (fx_up (fx_up (fx_up S 49 0 40 d) 49 0 41 p) 74 0 1 ((p + (25 : Int)) + z)) := fx_pup WNW_stab rfl g6
  refine And.intro (show -2147483648 ≤ (z + (63 : Int)) ∧ (z + (63 : Int)) < 2147483648 by omega) ?_
  refine And.intro (show 0 ≤ (z + (63 : Int)) ∧ 0 < (64 : Int) by omega) ?_
  refine And.intro (show -2147483648 ≤ ((1 : Int) + ((z + (63 : Int)) / (64 : Int))) ∧ ((1 : Int) + ((z + (63 : Int)) / (64 : Int))) < 2147483648 by omega) ?_
  refine c_begin_1 (w := (4 : Int)) (s := ((1 : Int) + ((z + (63 : Int)) / (64 : Int)))) g9 (show 0 ≤ (4 : Int) ∧ (4 : Int) ≤ 5 by omega) (show -2147483648 ≤ ((1 : Int) + ((z + (63 : Int)) / (64 : Int))) ∧ ((1 : Int) + ((z + (63 : Int)) / (64 : Int))) < 2147483648 by omega) (fun (S10 : fxS) ⟨(f11 : fxfr [(72, 9999), (73, 9999)] (fx_up (fx_up (fx_up S 49 0 40 d) 49 0 41 p) 74 0 1 ((p + (25 : Int)) + z)) S10), (q12 : S10 72 0 1 = (4 : Int) ∧ S10 72 0 0 = S 72 0 0), (g13 : WNW S10)⟩ => ?_)
  exact hk S10 ⟨(fxfr_tr (fxfr_up (fxfr_up (fxfr_up fxfr_rfl rfl) rfl) rfl) f11 rfl), by omega, g13⟩
theorem z_StubHouseModel_waitsToBeRead {l : Launch} {k : fxK} {S : fxS} {d : Int} (p0 : -2147483648 ≤ d ∧ d < 2147483648) (hk : ∀ (r : Int) , (0 ≤ r ∧ r ≤ 1) → k (some (.inl r)) S) : ∀ m : Nat, (∀ (j : Int), (0 ≤ j ∧ j ≤ 60) → 61 - j ≤ (m : Int) → fZ l 279 k 2 [some (.inr (.inr (49, 0))), some (.inl d), some (.inl j)] [] S) := by
  intro m
  induction m with
  | zero =>
    intro j  i0 hmu
    exfalso
    omega
  | succ m ih =>
    intro j  i0 hmu
    refine fxz_279 400 ?_
    intro z1 (z1a : (0 : Int) ≤ z1) (z1b : z1 ≤ (60 : Int)) (z1c : z1 = S 49 0 36)
    refine And.intro (fun (h2 : (z1 ≤ j : Prop)) => ?_) (fun (h2 : (j < z1 : Prop)) => ?_)
    ·
      refine And.intro (show 0 ≤ (0 : Int) ∧ (0 : Int) ≤ 1 by omega) ?_
      exact hk (0 : Int) (by omega)
    ·
      refine And.intro (show 0 ≤ j ∧ j < 60 by omega) ?_
      intro z3 (z3a : (-2147483648 : Int) ≤ z3) (z3b : z3 ≤ (2147483647 : Int)) (z3c : z3 = S 75 0 (j).toNat)
      refine And.intro (fun (h4 : (z3 ≠ d : Prop)) => ?_) (fun (h4 : (z3 = d : Prop)) => ?_)
      ·
        refine And.intro (by decide) (And.intro (show -2147483648 ≤ j + (1 : Int) ∧ j + (1 : Int) < 2147483648 by omega) ?_)
        exact ih (j + (1 : Int))  (by omega) (by omega)
      ·
        refine And.intro (show 0 ≤ (1 : Int) ∧ (1 : Int) ≤ 1 by omega) ?_
        exact hk (1 : Int) (by omega)
theorem c_StubHouseModel_waitsToBeRead {l : Launch} {k : fxK} {S : fxS} {d : Int} (p0 : -2147483648 ≤ d ∧ d < 2147483648) (hk : ∀ (r : Int) , (0 ≤ r ∧ r ≤ 1) → k (some (.inl r)) S) : fC l 279 [.inr (.inr (49, 0)), .inl d] S k := by
  refine fxe_279 (Nat.le_of_ble_eq_true rfl) (fxz_279 400 ?_)
  refine And.intro (by decide) ?_
  exact (z_StubHouseModel_waitsToBeRead p0 hk (61 - (0 : Int)).toNat) (0 : Int)  (by omega) (by omega)
theorem z_StubHouseModel_reclaimOn {l : Launch} {k : fxK} {S : fxS}  (p0 : COL S) (p1 : WTM S) (p2 : INJ S) (p3 : AON S) (p4 : USE S) (p5 : SNP S) (p6 : REC S) (p7 : SGM S) (p8 : WNW S) (p9 : 0 ≤ S 49 0 39) (p10 : 0 ≤ S 70 0 1) (p11 : S 72 0 1 = 0) (hk : ∀ (S' : fxS) , (fxfr [(49, 7), (49, 39), (49, 40), (49, 41), (50, 9999), (53, 9999), (55, 9999), (56, 9999), (58, 9999), (63, 9999), (64, 9999), (65, 9999), (66, 9999), (67, 9999), (71, 9999), (72, 9999), (73, 9999), (74, 9999)] S S' ∧ (S' 72 0 1 ≠ 5 ∧ (S' 72 0 1 = 4 → 0 ≤ S' 70 0 1)) ∧ (COL S') ∧ (WTM S') ∧ (INJ S') ∧ (AON S') ∧ (USE S') ∧ (SNP S') ∧ (REC S') ∧ (SGM S') ∧ (WNW S')) → k none S') : ∀ m : Nat, (∀ (t i : Int) (S1 : fxS), (fxfr [(49, 7), (49, 39), (49, 40), (49, 41), (50, 9999), (53, 9999), (55, 9999), (56, 9999), (58, 9999), (63, 9999), (64, 9999), (65, 9999), (66, 9999), (67, 9999), (71, 9999), (72, 9999), (73, 9999), (74, 9999)] S S1) → (0 ≤ t ∧ t ≤ 5) → (0 ≤ i ∧ i ≤ 285) → (S1 72 0 1 = 0 ∧ 0 ≤ S1 70 0 1) → (COL S1) → (WTM S1) → (INJ S1) → (AON S1) → (USE S1) → (SNP S1) → (REC S1) → (SGM S1) → (WNW S1) → 100000 - i ≤ (m : Int) → fZ l 263 k 12 [some (.inr (.inr (49, 0))), some (.inl t), some (.inl i), none, none] [] S1) ∧ (∀ (t n : Int) (S1 : fxS), (fxfr [(49, 7), (49, 39), (49, 40), (49, 41), (50, 9999), (53, 9999), (55, 9999), (56, 9999), (58, 9999), (63, 9999), (64, 9999), (65, 9999), (66, 9999), (67, 9999), (71, 9999), (72, 9999), (73, 9999), (74, 9999)] S S1) → (0 ≤ t ∧ t ≤ 5) → (1 ≤ n ∧ n ≤ 60) → (S1 72 0 1 = 0 ∧ 0 ≤ S1 70 0 1) → (COL S1) → (WTM S1) → (INJ S1) → (AON S1) → (USE S1) → (SNP S1) → (REC S1) → (SGM S1) → (WNW S1) → (61 - n) * 100 + 99 ≤ (m : Int) → fZ l 263 k 140 [some (.inr (.inr (49, 0))), some (.inl t), none, some (.inl n), none] [] S1) ∧ (∀ (t n i : Int) (S1 : fxS), (fxfr [(49, 7), (49, 39), (49, 40), (49, 41), (50, 9999), (53, 9999), (55, 9999), (56, 9999), (58, 9999), (63, 9999), (64, 9999), (65, 9999), (66, 9999), (67, 9999), (71, 9999), (72, 9999), (73, 9999), (74, 9999)] S S1) → (0 ≤ t ∧ t ≤ 5) → (1 ≤ n ∧ n < 60) → (-1 ≤ i ∧ i ≤ 1) → (S1 72 0 1 = 0 ∧ 0 ≤ S1 70 0 1) → (COL S1) → (WTM S1) → (INJ S1) → (AON S1) → (USE S1) → (SNP S1) → (REC S1) → (SGM S1) → (WNW S1) → (61 - n) * 100 + i + 1 ≤ (m : Int) → fZ l 263 k 149 [some (.inr (.inr (49, 0))), some (.inl t), none, some (.inl n), some (.inl i)] [] S1) := by
  intro m
  induction m with
  | zero =>
    refine ⟨?_, ?_, ?_⟩
    · intro t i S1 hf i0 i1 i2 i3 i4 i5 i6 i7 i8 i9 i10 i11 hmu
      exfalso
      omega
    · intro t n S1 hf i0 i1 i2 i3 i4 i5 i6 i7 i8 i9 i10 i11 hmu
      exfalso
      omega
    · intro t n i S1 hf i0 i1 i2 i3 i4 i5 i6 i7 i8 i9 i10 i11 i12 hmu
      exfalso
      omega
  | succ m ih =>
    refine ⟨?_, ?_, ?_⟩
    · intro t i S1 hf i0 i1 i2 i3 i4 i5 i6 i7 i8 i9 i10 i11 hmu
      refine fxz_263 400 ?_
      refine And.intro (show 0 ≤ t ∧ t < 6 by omega) ?_
      intro z1 (z1a : (0 : Int) ≤ z1) (z1b : z1 ≤ (285 : Int)) (z1c : z1 = S1 66 0 (t).toNat)
      refine And.intro (fun (h2 : (z1 ≤ i : Prop)) => ?_) (fun (h2 : (i < z1 : Prop)) => ?_)
      ·
        refine c_StubHouseModel_syncAll  i3 i4 i5 i6 i7 (fun (z3 : Int) (S4 : fxS) ⟨(f5 : fxfr [(49, 7), (53, 9999), (56, 9999), (58, 9999)] S1 S4), (q6 : 0 ≤ z3 ∧ z3 ≤ 200 ∧ S4 49 0 7 = 0), (g7 : SNP S4), (g8 : USE S4), (g9 : UZ S1 S4)⟩ => ?_)
        have w10 : S4 72 0 0 = S1 72 0 0 := f5 72 0 0 rfl
        have w11 : S4 72 0 1 = S1 72 0 1 := f5 72 0 1 rfl
        have w12 : S4 70 0 0 = S1 70 0 0 := f5 70 0 0 rfl
        have w13 : S4 70 0 1 = S1 70 0 1 := f5 70 0 1 rfl
        have g14 : COL S4 := fx_pfr COL_stab f5 rfl i3
        have g15 : WTM S4 := fx_pfr WTM_stab f5 rfl i4
        have g16 : INJ S4 := fx_pfr INJ_stab f5 rfl i5
        have g17 : AON S4 := fx_pfr AON_stab f5 rfl i6
        have g18 : REC S4 := fx_pfr REC_stab f5 rfl i9
        have g19 : SGM S4 := fx_pfr SGM_stab f5 rfl i10
        have g20 : WNW S4 := fx_pfr WNW_stab f5 rfl i11
        refine And.intro (by decide) ?_
        refine And.intro (show 0 ≤ t ∧ t < 6 by omega) ?_
        refine And.intro (show (0 : Int) ≤ (0 : Int) ∧ (0 : Int) ≤ (6000 : Int) by omega) ?_
        have w21 : (fx_up S4 63 0 (t).toNat (0 : Int)) 72 0 0 = S4 72 0 0 := rfl
        have w22 : (fx_up S4 63 0 (t).toNat (0 : Int)) 72 0 1 = S4 72 0 1 := rfl
        have w23 : (fx_up S4 63 0 (t).toNat (0 : Int)) 70 0 0 = S4 70 0 0 := rfl
        have w24 : (fx_up S4 63 0 (t).toNat (0 : Int)) 70 0 1 = S4 70 0 1 := rfl
        have w25 : (fx_up S4 63 0 (t).toNat (0 : Int)) 49 0 7 = S4 49 0 7 := rfl
        have g26 : COL (fx_up S4 63 0 (t).toNat (0 : Int)) := fx_pup COL_stab rfl g14
        have g27 : WTM (fx_up S4 63 0 (t).toNat (0 : Int)) := fx_pup WTM_stab rfl g15
        have g28 : INJ (fx_up S4 63 0 (t).toNat (0 : Int)) := fx_pup INJ_stab rfl g16
        have g29 : AON (fx_up S4 63 0 (t).toNat (0 : Int)) := fx_pup AON_stab rfl g17
        have g30 : USE (fx_up S4 63 0 (t).toNat (0 : Int)) := fx_pup USE_stab rfl g8
        have g31 : SNP (fx_up S4 63 0 (t).toNat (0 : Int)) := fx_pup SNP_stab rfl g7
        have g32 : REC (fx_up S4 63 0 (t).toNat (0 : Int)) := fx_pup REC_stab rfl g18
        have g33 : SGM (fx_up S4 63 0 (t).toNat (0 : Int)) := fx_pup SGM_stab rfl g19
        have g34 : WNW (fx_up S4 63 0 (t).toNat (0 : Int)) := WNW_63 g20
        have g35 : UZ S1 (fx_up S4 63 0 (t).toNat (0 : Int)) := fx_pup UZ_stab rfl g9
        refine And.intro (show 0 ≤ t ∧ t < 6 by omega) ?_
        refine And.intro (show (0 : Int) ≤ (0 : Int) ∧ (0 : Int) ≤ (1 : Int) by omega) ?_
        have w36 : (fx_up (fx_up S4 63 0 (t).toNat (0 : Int)) 67 0 (t).toNat (0 : Int)) 72 0 0 = (fx_up S4 63 0 (t).toNat (0 : Int)) 72 0 0 := rfl
        have w37 : (fx_up (fx_up S4 63 0 (t).toNat (0 : Int)) 67 0 (t).toNat (0 : Int)) 72 0 1 = (fx_up S4 63 0 (t).toNat (0 : Int)) 72 0 1 := rfl
        have w38 : (fx_up (fx_up S4 63 0 (t).toNat (0 : Int)) 67 0 (t).toNat (0 : Int)) 70 0 0 = (fx_up S4 63 0 (t).toNat (0 : Int)) 70 0 0 := rfl
        have w39 : (fx_up (fx_up S4 63 0 (t).toNat (0 : Int)) 67 0 (t).toNat (0 : Int)) 70 0 1 = (fx_up S4 63 0 (t).toNat (0 : Int)) 70 0 1 := rfl
        have w40 : (fx_up (fx_up S4 63 0 (t).toNat (0 : Int)) 67 0 (t).toNat (0 : Int)) 49 0 7 = (fx_up S4 63 0 (t).toNat (0 : Int)) 49 0 7 := rfl
        have g41 : COL (fx_up (fx_up S4 63 0 (t).toNat (0 : Int)) 67 0 (t).toNat (0 : Int)) := fx_pup COL_stab rfl g26
        have g42 : WTM (fx_up (fx_up S4 63 0 (t).toNat (0 : Int)) 67 0 (t).toNat (0 : Int)) := fx_pup WTM_stab rfl g27
        have g43 : INJ (fx_up (fx_up S4 63 0 (t).toNat (0 : Int)) 67 0 (t).toNat (0 : Int)) := fx_pup INJ_stab rfl g28
        have g44 : AON (fx_up (fx_up S4 63 0 (t).toNat (0 : Int)) 67 0 (t).toNat (0 : Int)) := fx_pup AON_stab rfl g29
        have g45 : USE (fx_up (fx_up S4 63 0 (t).toNat (0 : Int)) 67 0 (t).toNat (0 : Int)) := fx_pup USE_stab rfl g30
        have g46 : SNP (fx_up (fx_up S4 63 0 (t).toNat (0 : Int)) 67 0 (t).toNat (0 : Int)) := fx_pup SNP_stab rfl g31
        have g47 : REC (fx_up (fx_up S4 63 0 (t).toNat (0 : Int)) 67 0 (t).toNat (0 : Int)) := fx_pup REC_stab rfl g32
        have g48 : SGM (fx_up (fx_up S4 63 0 (t).toNat (0 : Int)) 67 0 (t).toNat (0 : Int)) := fx_pup SGM_stab rfl g33
        have g49 : WNW (fx_up (fx_up S4 63 0 (t).toNat (0 : Int)) 67 0 (t).toNat (0 : Int)) := fx_pup WNW_stab rfl g34
        have g50 : UZ S1 (fx_up (fx_up S4 63 0 (t).toNat (0 : Int)) 67 0 (t).toNat (0 : Int)) := fx_pup UZ_stab rfl g35
        refine And.intro (show 0 ≤ t ∧ t < 6 by omega) ?_
        intro z51 (z51a : (0 : Int) ≤ z51) (z51b : z51 ≤ (65535 : Int)) (z51c : z51 = S4 64 0 (t).toNat)
        refine And.intro (show -2147483648 ≤ (z51 + (1 : Int)) ∧ (z51 + (1 : Int)) < 2147483648 by omega) ?_
        refine And.intro (show 0 ≤ (z51 + (1 : Int)) ∧ 0 < (65536 : Int) by omega) ?_
        refine And.intro (show 0 ≤ t ∧ t < 6 by omega) ?_
        refine And.intro (show (0 : Int) ≤ ((z51 + (1 : Int)) % (65536 : Int)) ∧ ((z51 + (1 : Int)) % (65536 : Int)) ≤ (65535 : Int) by omega) ?_
        have w52 : (fx_up (fx_up (fx_up S4 63 0 (t).toNat (0 : Int)) 67 0 (t).toNat (0 : Int)) 64 0 (t).toNat ((z51 + (1 : Int)) % (65536 : Int))) 72 0 0 = (fx_up (fx_up S4 63 0 (t).toNat (0 : Int)) 67 0 (t).toNat (0 : Int)) 72 0 0 := rfl
        have w53 : (fx_up (fx_up (fx_up S4 63 0 (t).toNat (0 : Int)) 67 0 (t).toNat (0 : Int)) 64 0 (t).toNat ((z51 + (1 : Int)) % (65536 : Int))) 72 0 1 = (fx_up (fx_up S4 63 0 (t).toNat (0 : Int)) 67 0 (t).toNat (0 : Int)) 72 0 1 := rfl
        have w54 : (fx_up (fx_up (fx_up S4 63 0 (t).toNat (0 : Int)) 67 0 (t).toNat (0 : Int)) 64 0 (t).toNat ((z51 + (1 : Int)) % (65536 : Int))) 70 0 0 = (fx_up (fx_up S4 63 0 (t).toNat (0 : Int)) 67 0 (t).toNat (0 : Int)) 70 0 0 := rfl
        have w55 : (fx_up (fx_up (fx_up S4 63 0 (t).toNat (0 : Int)) 67 0 (t).toNat (0 : Int)) 64 0 (t).toNat ((z51 + (1 : Int)) % (65536 : Int))) 70 0 1 = (fx_up (fx_up S4 63 0 (t).toNat (0 : Int)) 67 0 (t).toNat (0 : Int)) 70 0 1 := rfl
        have w56 : (fx_up (fx_up (fx_up S4 63 0 (t).toNat (0 : Int)) 67 0 (t).toNat (0 : Int)) 64 0 (t).toNat ((z51 + (1 : Int)) % (65536 : Int))) 49 0 7 = (fx_up (fx_up S4 63 0 (t).toNat (0 : Int)) 67 0 (t).toNat (0 : Int)) 49 0 7 := rfl
        have g57 : COL (fx_up (fx_up (fx_up S4 63 0 (t).toNat (0 : Int)) 67 0 (t).toNat (0 : Int)) 64 0 (t).toNat ((z51 + (1 : Int)) % (65536 : Int))) := fx_pup COL_stab rfl g41
        have g58 : WTM (fx_up (fx_up (fx_up S4 63 0 (t).toNat (0 : Int)) 67 0 (t).toNat (0 : Int)) 64 0 (t).toNat ((z51 + (1 : Int)) % (65536 : Int))) := fx_pup WTM_stab rfl g42
        have g59 : INJ (fx_up (fx_up (fx_up S4 63 0 (t).toNat (0 : Int)) 67 0 (t).toNat (0 : Int)) 64 0 (t).toNat ((z51 + (1 : Int)) % (65536 : Int))) := fx_pup INJ_stab rfl g43
        have g60 : AON (fx_up (fx_up (fx_up S4 63 0 (t).toNat (0 : Int)) 67 0 (t).toNat (0 : Int)) 64 0 (t).toNat ((z51 + (1 : Int)) % (65536 : Int))) := fx_pup AON_stab rfl g44
        have g61 : USE (fx_up (fx_up (fx_up S4 63 0 (t).toNat (0 : Int)) 67 0 (t).toNat (0 : Int)) 64 0 (t).toNat ((z51 + (1 : Int)) % (65536 : Int))) := fx_pup USE_stab rfl g45
        have g62 : SNP (fx_up (fx_up (fx_up S4 63 0 (t).toNat (0 : Int)) 67 0 (t).toNat (0 : Int)) 64 0 (t).toNat ((z51 + (1 : Int)) % (65536 : Int))) := fx_pup SNP_stab rfl g46
        have g63 : REC (fx_up (fx_up (fx_up S4 63 0 (t).toNat (0 : Int)) 67 0 (t).toNat (0 : Int)) 64 0 (t).toNat ((z51 + (1 : Int)) % (65536 : Int))) := fx_pup REC_stab rfl g47
        have g64 : SGM (fx_up (fx_up (fx_up S4 63 0 (t).toNat (0 : Int)) 67 0 (t).toNat (0 : Int)) 64 0 (t).toNat ((z51 + (1 : Int)) % (65536 : Int))) := fx_pup SGM_stab rfl g48
        have g65 : WNW (fx_up (fx_up (fx_up S4 63 0 (t).toNat (0 : Int)) 67 0 (t).toNat (0 : Int)) 64 0 (t).toNat ((z51 + (1 : Int)) % (65536 : Int))) := fx_pup WNW_stab rfl g49
        have g66 : UZ S1 (fx_up (fx_up (fx_up S4 63 0 (t).toNat (0 : Int)) 67 0 (t).toNat (0 : Int)) 64 0 (t).toNat ((z51 + (1 : Int)) % (65536 : Int))) := fx_pup UZ_stab rfl g50
        refine And.intro (show 0 ≤ (1 : Int) ∧ (1 : Int) < 2 by omega) ?_
        refine And.intro (show (0 : Int) ≤ (0 : Int) ∧ (0 : Int) ≤ (7100 : Int) by omega) ?_
        have w67 : (fx_up (fx_up (fx_up (fx_up S4 63 0 (t).toNat (0 : Int)) 67 0 (t).toNat (0 : Int)) 64 0 (t).toNat ((z51 + (1 : Int)) % (65536 : Int))) 71 0 1 (0 : Int)) 72 0 0 = (fx_up (fx_up (fx_up S4 63 0 (t).toNat (0 : Int)) 67 0 (t).toNat (0 : Int)) 64 0 (t).toNat ((z51 + (1 : Int)) % (65536 : Int))) 72 0 0 := rfl
        have w68 : (fx_up (fx_up (fx_up (fx_up S4 63 0 (t).toNat (0 : Int)) 67 0 (t).toNat (0 : Int)) 64 0 (t).toNat ((z51 + (1 : Int)) % (65536 : Int))) 71 0 1 (0 : Int)) 72 0 1 = (fx_up (fx_up (fx_up S4 63 0 (t).toNat (0 : Int)) 67 0 (t).toNat (0 : Int)) 64 0 (t).toNat ((z51 + (1 : Int)) % (65536 : Int))) 72 0 1 := rfl
        have w69 : (fx_up (fx_up (fx_up (fx_up S4 63 0 (t).toNat (0 : Int)) 67 0 (t).toNat (0 : Int)) 64 0 (t).toNat ((z51 + (1 : Int)) % (65536 : Int))) 71 0 1 (0 : Int)) 70 0 0 = (fx_up (fx_up (fx_up S4 63 0 (t).toNat (0 : Int)) 67 0 (t).toNat (0 : Int)) 64 0 (t).toNat ((z51 + (1 : Int)) % (65536 : Int))) 70 0 0 := rfl
        have w70 : (fx_up (fx_up (fx_up (fx_up S4 63 0 (t).toNat (0 : Int)) 67 0 (t).toNat (0 : Int)) 64 0 (t).toNat ((z51 + (1 : Int)) % (65536 : Int))) 71 0 1 (0 : Int)) 70 0 1 = (fx_up (fx_up (fx_up S4 63 0 (t).toNat (0 : Int)) 67 0 (t).toNat (0 : Int)) 64 0 (t).toNat ((z51 + (1 : Int)) % (65536 : Int))) 70 0 1 := rfl
        have w71 : (fx_up (fx_up (fx_up (fx_up S4 63 0 (t).toNat (0 : Int)) 67 0 (t).toNat (0 : Int)) 64 0 (t).toNat ((z51 + (1 : Int)) % (65536 : Int))) 71 0 1 (0 : Int)) 49 0 7 = (fx_up (fx_up (fx_up S4 63 0 (t).toNat (0 : Int)) 67 0 (t).toNat (0 : Int)) 64 0 (t).toNat ((z51 + (1 : Int)) % (65536 : Int))) 49 0 7 := rfl
        have g72 : COL (fx_up (fx_up (fx_up (fx_up S4 63 0 (t).toNat (0 : Int)) 67 0 (t).toNat (0 : Int)) 64 0 (t).toNat ((z51 + (1 : Int)) % (65536 : Int))) 71 0 1 (0 : Int)) := fx_pup COL_stab rfl g57
        have g73 : WTM (fx_up (fx_up (fx_up (fx_up S4 63 0 (t).toNat (0 : Int)) 67 0 (t).toNat (0 : Int)) 64 0 (t).toNat ((z51 + (1 : Int)) % (65536 : Int))) 71 0 1 (0 : Int)) := fx_pup WTM_stab rfl g58
        have g74 : INJ (fx_up (fx_up (fx_up (fx_up S4 63 0 (t).toNat (0 : Int)) 67 0 (t).toNat (0 : Int)) 64 0 (t).toNat ((z51 + (1 : Int)) % (65536 : Int))) 71 0 1 (0 : Int)) := fx_pup INJ_stab rfl g59
        have g75 : AON (fx_up (fx_up (fx_up (fx_up S4 63 0 (t).toNat (0 : Int)) 67 0 (t).toNat (0 : Int)) 64 0 (t).toNat ((z51 + (1 : Int)) % (65536 : Int))) 71 0 1 (0 : Int)) := fx_pup AON_stab rfl g60
        have g76 : USE (fx_up (fx_up (fx_up (fx_up S4 63 0 (t).toNat (0 : Int)) 67 0 (t).toNat (0 : Int)) 64 0 (t).toNat ((z51 + (1 : Int)) % (65536 : Int))) 71 0 1 (0 : Int)) := fx_pup USE_stab rfl g61
        have g77 : SNP (fx_up (fx_up (fx_up (fx_up S4 63 0 (t).toNat (0 : Int)) 67 0 (t).toNat (0 : Int)) 64 0 (t).toNat ((z51 + (1 : Int)) % (65536 : Int))) 71 0 1 (0 : Int)) := fx_pup SNP_stab rfl g62
        have g78 : REC (fx_up (fx_up (fx_up (fx_up S4 63 0 (t).toNat (0 : Int)) 67 0 (t).toNat (0 : Int)) 64 0 (t).toNat ((z51 + (1 : Int)) % (65536 : Int))) 71 0 1 (0 : Int)) := fx_pup REC_stab rfl g63
        have g79 : SGM (fx_up (fx_up (fx_up (fx_up S4 63 0 (t).toNat (0 : Int)) 67 0 (t).toNat (0 : Int)) 64 0 (t).toNat ((z51 + (1 : Int)) % (65536 : Int))) 71 0 1 (0 : Int)) := fx_pup SGM_stab rfl g64
        have g80 : WNW (fx_up (fx_up (fx_up (fx_up S4 63 0 (t).toNat (0 : Int)) 67 0 (t).toNat (0 : Int)) 64 0 (t).toNat ((z51 + (1 : Int)) % (65536 : Int))) 71 0 1 (0 : Int)) := fx_pup WNW_stab rfl g65
        have g81 : UZ S1 (fx_up (fx_up (fx_up (fx_up S4 63 0 (t).toNat (0 : Int)) 67 0 (t).toNat (0 : Int)) 64 0 (t).toNat ((z51 + (1 : Int)) % (65536 : Int))) 71 0 1 (0 : Int)) := fx_pup UZ_stab rfl g66
        refine And.intro (show (-2 : Int) ≤ (-2 : Int) ∧ (-2 : Int) ≤ (5 : Int) by omega) ?_
        have w82 : (fx_up (fx_up (fx_up (fx_up (fx_up S4 63 0 (t).toNat (0 : Int)) 67 0 (t).toNat (0 : Int)) 64 0 (t).toNat ((z51 + (1 : Int)) % (65536 : Int))) 71 0 1 (0 : Int)) 49 0 39 (-2 : Int)) 72 0 0 = (fx_up (fx_up (fx_up (fx_up S4 63 0 (t).toNat (0 : Int)) 67 0 (t).toNat (0 : Int)) 64 0 (t).toNat ((z51 + (1 : Int)) % (65536 : Int))) 71 0 1 (0 : Int)) 72 0 0 := rfl
        have w83 : (fx_up (fx_up (fx_up (fx_up (fx_up S4 63 0 (t).toNat (0 : Int)) 67 0 (t).toNat (0 : Int)) 64 0 (t).toNat ((z51 + (1 : Int)) % (65536 : Int))) 71 0 1 (0 : Int)) 49 0 39 (-2 : Int)) 72 0 1 = (fx_up (fx_up (fx_up (fx_up S4 63 0 (t).toNat (0 : Int)) 67 0 (t).toNat (0 : Int)) 64 0 (t).toNat ((z51 + (1 : Int)) % (65536 : Int))) 71 0 1 (0 : Int)) 72 0 1 := rfl
        have w84 : (fx_up (fx_up (fx_up (fx_up (fx_up S4 63 0 (t).toNat (0 : Int)) 67 0 (t).toNat (0 : Int)) 64 0 (t).toNat ((z51 + (1 : Int)) % (65536 : Int))) 71 0 1 (0 : Int)) 49 0 39 (-2 : Int)) 70 0 0 = (fx_up (fx_up (fx_up (fx_up S4 63 0 (t).toNat (0 : Int)) 67 0 (t).toNat (0 : Int)) 64 0 (t).toNat ((z51 + (1 : Int)) % (65536 : Int))) 71 0 1 (0 : Int)) 70 0 0 := rfl
        have w85 : (fx_up (fx_up (fx_up (fx_up (fx_up S4 63 0 (t).toNat (0 : Int)) 67 0 (t).toNat (0 : Int)) 64 0 (t).toNat ((z51 + (1 : Int)) % (65536 : Int))) 71 0 1 (0 : Int)) 49 0 39 (-2 : Int)) 70 0 1 = (fx_up (fx_up (fx_up (fx_up S4 63 0 (t).toNat (0 : Int)) 67 0 (t).toNat (0 : Int)) 64 0 (t).toNat ((z51 + (1 : Int)) % (65536 : Int))) 71 0 1 (0 : Int)) 70 0 1 := rfl
        have w86 : (fx_up (fx_up (fx_up (fx_up (fx_up S4 63 0 (t).toNat (0 : Int)) 67 0 (t).toNat (0 : Int)) 64 0 (t).toNat ((z51 + (1 : Int)) % (65536 : Int))) 71 0 1 (0 : Int)) 49 0 39 (-2 : Int)) 49 0 7 = (fx_up (fx_up (fx_up (fx_up S4 63 0 (t).toNat (0 : Int)) 67 0 (t).toNat (0 : Int)) 64 0 (t).toNat ((z51 + (1 : Int)) % (65536 : Int))) 71 0 1 (0 : Int)) 49 0 7 := if_neg (fun q => absurd q.2.2 (by decide))
        have g87 : COL (fx_up (fx_up (fx_up (fx_up (fx_up S4 63 0 (t).toNat (0 : Int)) 67 0 (t).toNat (0 : Int)) 64 0 (t).toNat ((z51 + (1 : Int)) % (65536 : Int))) 71 0 1 (0 : Int)) 49 0 39 (-2 : Int)) := fx_pup COL_stab rfl g72
        have g88 : WTM (fx_up (fx_up (fx_up (fx_up (fx_up S4 63 0 (t).toNat (0 : Int)) 67 0 (t).toNat (0 : Int)) 64 0 (t).toNat ((z51 + (1 : Int)) % (65536 : Int))) 71 0 1 (0 : Int)) 49 0 39 (-2 : Int)) := fx_pup WTM_stab rfl g73
        have g89 : INJ (fx_up (fx_up (fx_up (fx_up (fx_up S4 63 0 (t).toNat (0 : Int)) 67 0 (t).toNat (0 : Int)) 64 0 (t).toNat ((z51 + (1 : Int)) % (65536 : Int))) 71 0 1 (0 : Int)) 49 0 39 (-2 : Int)) := fx_pup INJ_stab rfl g74
        have g90 : AON (fx_up (fx_up (fx_up (fx_up (fx_up S4 63 0 (t).toNat (0 : Int)) 67 0 (t).toNat (0 : Int)) 64 0 (t).toNat ((z51 + (1 : Int)) % (65536 : Int))) 71 0 1 (0 : Int)) 49 0 39 (-2 : Int)) := fx_pup AON_stab rfl g75
        have g91 : USE (fx_up (fx_up (fx_up (fx_up (fx_up S4 63 0 (t).toNat (0 : Int)) 67 0 (t).toNat (0 : Int)) 64 0 (t).toNat ((z51 + (1 : Int)) % (65536 : Int))) 71 0 1 (0 : Int)) 49 0 39 (-2 : Int)) := fx_pup USE_stab rfl g76
        have g92 : SNP (fx_up (fx_up (fx_up (fx_up (fx_up S4 63 0 (t).toNat (0 : Int)) 67 0 (t).toNat (0 : Int)) 64 0 (t).toNat ((z51 + (1 : Int)) % (65536 : Int))) 71 0 1 (0 : Int)) 49 0 39 (-2 : Int)) := fx_pup SNP_stab rfl g77
        have g93 : REC (fx_up (fx_up (fx_up (fx_up (fx_up S4 63 0 (t).toNat (0 : Int)) 67 0 (t).toNat (0 : Int)) 64 0 (t).toNat ((z51 + (1 : Int)) % (65536 : Int))) 71 0 1 (0 : Int)) 49 0 39 (-2 : Int)) := fx_pup REC_stab rfl g78
        have g94 : SGM (fx_up (fx_up (fx_up (fx_up (fx_up S4 63 0 (t).toNat (0 : Int)) 67 0 (t).toNat (0 : Int)) 64 0 (t).toNat ((z51 + (1 : Int)) % (65536 : Int))) 71 0 1 (0 : Int)) 49 0 39 (-2 : Int)) := fx_pup SGM_stab rfl g79
        have g95 : WNW (fx_up (fx_up (fx_up (fx_up (fx_up S4 63 0 (t).toNat (0 : Int)) 67 0 (t).toNat (0 : Int)) 64 0 (t).toNat ((z51 + (1 : Int)) % (65536 : Int))) 71 0 1 (0 : Int)) 49 0 39 (-2 : Int)) := fx_pup WNW_stab rfl g80
        have g96 : UZ S1 (fx_up (fx_up (fx_up (fx_up (fx_up S4 63 0 (t).toNat (0 : Int)) 67 0 (t).toNat (0 : Int)) 64 0 (t).toNat ((z51 + (1 : Int)) % (65536 : Int))) 71 0 1 (0 : Int)) 49 0 39 (-2 : Int)) := fx_pup UZ_stab rfl g81
        refine And.intro (by decide) ?_
        exact ih.2.1 t (1 : Int) (fx_up (fx_up (fx_up (fx_up (fx_up S4 63 0 (t).toNat (0 : Int)) 67 0 (t).toNat (0 : Int)) 64 0 (t).toNat ((z51 + (1 : Int)) % (65536 : Int))) 71 0 1 (0 : Int)) 49 0 39 (-2 : Int)) (fxfr_up (fxfr_up (fxfr_up (fxfr_up (fxfr_up (fxfr_tr hf f5 rfl) rfl) rfl) rfl) rfl) rfl) (by omega) (by omega) (by omega) g87 g88 g89 g90 g91 g92 g93 g94 g95 (by omega)
      ·
        refine c_StubHouseModel_seg (t := t) (i := i) (w := (0 : Int)) (show 0 ≤ t ∧ t ≤ 5 by omega) (show 0 ≤ i ∧ i < 300 by omega) (show 0 ≤ (0 : Int) ∧ (0 : Int) < 8 by omega) (fun (z97 : Int) (q98 : z97 = sgN S1 (300 * t + i) (0 : Int) ∧ -2147483648 ≤ z97 ∧ z97 < 2147483648) => ?_)
        have sg := SGM_at (t := t) (i := i) i10 (by omega) (by omega)
        refine And.intro (by decide) ?_
        intro z99 (z99a : (0 : Int) ≤ z99) (z99b : z99 ≤ (6000 : Int)) (z99c : z99 = S1 49 0 42)
        refine And.intro (fun (h100 : (z97 ≤ z99 : Prop)) => ?_) (fun (h100 : (z99 < z97 : Prop)) => ?_)
        ·
          refine And.intro (by decide) (And.intro (show -2147483648 ≤ i + (1 : Int) ∧ i + (1 : Int) < 2147483648 by omega) ?_)
          exact ih.1 t (i + (1 : Int)) S1 hf (by omega) (by omega) (by omega) i3 i4 i5 i6 i7 i8 i9 i10 i11 (by omega)
        ·
          refine c_StubHouseModel_isLive (t := t) (i := i) i3 i10 (show 0 ≤ t ∧ t ≤ 5 by omega) (show 0 ≤ i ∧ i < 300 by omega) (fun (z102 : Int) (S103 : fxS) ⟨(f104 : fxfr [(65, 9999), (66, 9999), (67, 9999)] S1 S103), (q105 : 0 ≤ z102 ∧ z102 ≤ 1), (g106 : SGM S103), (g107 : KPA S1 S103)⟩ => ?_)
          have w108 : S103 72 0 0 = S1 72 0 0 := f104 72 0 0 rfl
          have w109 : S103 72 0 1 = S1 72 0 1 := f104 72 0 1 rfl
          have w110 : S103 70 0 0 = S1 70 0 0 := f104 70 0 0 rfl
          have w111 : S103 70 0 1 = S1 70 0 1 := f104 70 0 1 rfl
          have w112 : S103 49 0 7 = S1 49 0 7 := f104 49 0 7 rfl
          have g113 : COL S103 := fx_pfr COL_stab f104 rfl i3
          have g114 : WTM S103 := fx_pfr WTM_stab f104 rfl i4
          have g115 : INJ S103 := fx_pfr INJ_stab f104 rfl i5
          have g116 : AON S103 := fx_pfr AON_stab f104 rfl i6
          have g117 : USE S103 := fx_pfr USE_stab f104 rfl i7
          have g118 : SNP S103 := fx_pfr SNP_stab f104 rfl i8
          have g119 : REC S103 := fx_pfr REC_stab f104 rfl i9
          have g120 : WNW S103 := fx_pfr WNW_stab f104 rfl i11
          refine And.intro (fun (h121 : (z102 = (0 : Int) : Prop)) => ?_) (fun (h121 : (z102 ≠ (0 : Int) : Prop)) => ?_)
          ·
            refine And.intro (by decide) (And.intro (show -2147483648 ≤ i + (1 : Int) ∧ i + (1 : Int) < 2147483648 by omega) ?_)
            exact ih.1 t (i + (1 : Int)) S103 (fxfr_tr hf f104 rfl) (by omega) (by omega) (by omega) g113 g114 g115 g116 g117 g118 g119 g106 g120 (by omega)
          ·
            refine And.intro (show 0 ≤ (1 : Int) ∧ (1 : Int) < 2 by omega) ?_
            intro z123 (z123a : (0 : Int) ≤ z123) (z123b : z123 ≤ (7100 : Int)) (z123c : z123 = S103 71 0 1)
            refine And.intro (fun (h124 : (z123 = z97 : Prop)) => ?_) (fun (h124 : (z123 ≠ z97 : Prop)) => ?_)
            ·
              refine c_StubHouseModel_seg (t := t) (i := i) (w := (6 : Int)) (show 0 ≤ t ∧ t ≤ 5 by omega) (show 0 ≤ i ∧ i < 300 by omega) (show 0 ≤ (6 : Int) ∧ (6 : Int) < 8 by omega) (fun (z125 : Int) (q126 : z125 = sgN S103 (300 * t + i) (6 : Int) ∧ -2147483648 ≤ z125 ∧ z125 < 2147483648) => ?_)
              have sg := SGM_at (t := t) (i := i) g106 (by omega) (by omega)
              refine c_StubHouseModel_beginReading (d := (-2 : Int)) (p := z97) (z := z125) g120 (show 0 ≤ z97 ∧ z97 ≤ 6000 by omega) (show 0 ≤ z125 ∧ z125 ≤ 1024 by omega) (show -2147483648 ≤ (-2 : Int) ∧ (-2 : Int) < 2147483648 by omega) (fun (S127 : fxS) ⟨(f128 : fxfr [(49, 40), (49, 41), (72, 9999), (73, 9999), (74, 9999)] S103 S127), (q129 : S127 72 0 1 = 4 ∧ S127 72 0 0 = S103 72 0 0), (g130 : WNW S127)⟩ => ?_)
              have w131 : S127 70 0 0 = S103 70 0 0 := f128 70 0 0 rfl
              have w132 : S127 70 0 1 = S103 70 0 1 := f128 70 0 1 rfl
              have w133 : S127 49 0 7 = S103 49 0 7 := f128 49 0 7 rfl
              have g134 : COL S127 := fx_pfr COL_stab f128 rfl g113
              have g135 : WTM S127 := fx_pfr WTM_stab f128 rfl g114
              have g136 : INJ S127 := fx_pfr INJ_stab f128 rfl g115
              have g137 : AON S127 := fx_pfr AON_stab f128 rfl g116
              have g138 : USE S127 := fx_pfr USE_stab f128 rfl g117
              have g139 : SNP S127 := fx_pfr SNP_stab f128 rfl g118
              have g140 : REC S127 := fx_pfr REC_stab f128 rfl g119
              have g141 : SGM S127 := fx_pfr SGM_stab f128 rfl g106
              exact hk S127 ⟨(fxfr_tr (fxfr_tr hf f104 rfl) f128 rfl), by omega, g134, g135, g136, g137, g138, g139, g140, g141, g130⟩
            ·
              refine c_wind_1 (p := z97) g120 (show 0 ≤ z97 ∧ z97 ≤ 7100 by omega) (fun (S142 : fxS) ⟨(f143 : fxfr [(72, 9999), (73, 9999), (74, 9999)] S103 S142), (q144 : S142 72 0 1 = 3 ∧ S142 72 0 0 = S103 72 0 0), (g145 : WNW S142)⟩ => ?_)
              have w146 : S142 70 0 0 = S103 70 0 0 := f143 70 0 0 rfl
              have w147 : S142 70 0 1 = S103 70 0 1 := f143 70 0 1 rfl
              have w148 : S142 49 0 7 = S103 49 0 7 := f143 49 0 7 rfl
              have g149 : COL S142 := fx_pfr COL_stab f143 rfl g113
              have g150 : WTM S142 := fx_pfr WTM_stab f143 rfl g114
              have g151 : INJ S142 := fx_pfr INJ_stab f143 rfl g115
              have g152 : AON S142 := fx_pfr AON_stab f143 rfl g116
              have g153 : USE S142 := fx_pfr USE_stab f143 rfl g117
              have g154 : SNP S142 := fx_pfr SNP_stab f143 rfl g118
              have g155 : REC S142 := fx_pfr REC_stab f143 rfl g119
              have g156 : SGM S142 := fx_pfr SGM_stab f143 rfl g106
              exact hk S142 ⟨(fxfr_tr (fxfr_tr hf f104 rfl) f143 rfl), by omega, g149, g150, g151, g152, g153, g154, g155, g156, g145⟩
    · intro t n S1 hf i0 i1 i2 i3 i4 i5 i6 i7 i8 i9 i10 i11 hmu
      refine fxz_263 400 ?_
      refine And.intro (fun (h157 : ((60 : Int) ≤ n : Prop)) => ?_) (fun (h157 : (n < (60 : Int) : Prop)) => ?_)
      ·
        exact hk S1 ⟨hf, by omega, i3, i4, i5, i6, i7, i8, i9, i10, i11⟩
      ·
        refine And.intro (by decide) ?_
        exact ih.2.2 t n (1 : Int) S1 hf (by omega) (by omega) (by omega) (by omega) i3 i4 i5 i6 i7 i8 i9 i10 i11 (by omega)
    · intro t n i S1 hf i0 i1 i2 i3 i4 i5 i6 i7 i8 i9 i10 i11 i12 hmu
      refine fxz_263 400 ?_
      refine And.intro (fun (h158 : (i < (0 : Int) : Prop)) => ?_) (fun (h158 : ((0 : Int) ≤ i : Prop)) => ?_)
      ·
        refine And.intro (by decide) (And.intro (show -2147483648 ≤ n + (1 : Int) ∧ n + (1 : Int) < 2147483648 by omega) ?_)
        exact ih.2.1 t (n + (1 : Int)) S1 hf (by omega) (by omega) (by omega) i4 i5 i6 i7 i8 i9 i10 i11 i12 (by omega)
      ·
        refine c_at0 (n := n) i4 (show 0 ≤ n ∧ n < 60 by omega) (fun (z160 : Int) (q161 : z160 = aN S1 n 0 ∧ 0 ≤ z160 ∧ z160 ≤ 2) => ?_)
        refine And.intro (fun (h162 : (z160 ≠ (2 : Int) : Prop)) => ?_) (fun (h162 : (z160 = (2 : Int) : Prop)) => ?_)
        ·
          refine And.intro (by decide) (And.intro (show -2147483648 ≤ n + (1 : Int) ∧ n + (1 : Int) < 2147483648 by omega) ?_)
          exact ih.2.1 t (n + (1 : Int)) S1 hf (by omega) (by omega) (by omega) i4 i5 i6 i7 i8 i9 i10 i11 i12 (by omega)
        ·
          refine c_at5 (n := n) i4 (show 0 ≤ n ∧ n < 60 by omega) (fun (z164 : Int) (q165 : z164 = aN S1 n 5 ∧ 0 ≤ z164 ∧ z164 ≤ 2) => ?_)
          refine And.intro (fun (h166 : (z164 ≤ i : Prop)) => ?_) (fun (h166 : (i < z164 : Prop)) => ?_)
          ·
            refine And.intro (by decide) (And.intro (show -2147483648 ≤ i + (-1 : Int) ∧ i + (-1 : Int) < 2147483648 by omega) ?_)
            exact ih.2.2 t n (i + (-1 : Int)) S1 hf (by omega) (by omega) (by omega) (by omega) i4 i5 i6 i7 i8 i9 i10 i11 i12 (by omega)
          ·
            refine And.intro (show -2147483648 ≤ ((2 : Int) * i) ∧ ((2 : Int) * i) < 2147483648 by omega) ?_
            refine And.intro (show -2147483648 ≤ ((6 : Int) + ((2 : Int) * i)) ∧ ((6 : Int) + ((2 : Int) * i)) < 2147483648 by omega) ?_
            refine c_att (n := n) (w := ((6 : Int) + ((2 : Int) * i))) i4 (show 0 ≤ n ∧ n < 60 by omega) (show ((6 : Int) + ((2 : Int) * i)) = 6 ∨ ((6 : Int) + ((2 : Int) * i)) = 8 by omega) (fun (z168 : Int) (q169 : z168 = aN S1 n ((6 : Int) + ((2 : Int) * i)) ∧ 0 ≤ z168 ∧ z168 ≤ 5) => ?_)
            refine And.intro (fun (h170 : (z168 ≠ t : Prop)) => ?_) (fun (h170 : (z168 = t : Prop)) => ?_)
            ·
              refine And.intro (by decide) (And.intro (show -2147483648 ≤ i + (-1 : Int) ∧ i + (-1 : Int) < 2147483648 by omega) ?_)
              exact ih.2.2 t n (i + (-1 : Int)) S1 hf (by omega) (by omega) (by omega) (by omega) i4 i5 i6 i7 i8 i9 i10 i11 i12 (by omega)
            ·
              refine c_StubHouseModel_ahead  i4 i5 i6 i7 i8 i9 (fun (S172 : fxS) ⟨(f173 : fxfr [(49, 7), (53, 9999), (56, 9999), (58, 9999)] S1 S172), (q174 : 0 ≤ S172 49 0 7 ∧ S172 49 0 7 ≤ 199), (g175 : SNP S172), (g176 : USE S172), (g177 : UZ S1 S172)⟩ => ?_)
              have w178 : aN S172 n (5 : Int) = aN S1 n (5 : Int) := (aN_fr f173 rfl)
              have w179 : S172 72 0 0 = S1 72 0 0 := f173 72 0 0 rfl
              have w180 : S172 72 0 1 = S1 72 0 1 := f173 72 0 1 rfl
              have w181 : S172 70 0 0 = S1 70 0 0 := f173 70 0 0 rfl
              have w182 : S172 70 0 1 = S1 70 0 1 := f173 70 0 1 rfl
              have g183 : COL S172 := fx_pfr COL_stab f173 rfl i4
              have g184 : WTM S172 := fx_pfr WTM_stab f173 rfl i5
              have g185 : INJ S172 := fx_pfr INJ_stab f173 rfl i6
              have g186 : AON S172 := fx_pfr AON_stab f173 rfl i7
              have g187 : REC S172 := fx_pfr REC_stab f173 rfl i10
              have g188 : SGM S172 := fx_pfr SGM_stab f173 rfl i11
              have g189 : WNW S172 := fx_pfr WNW_stab f173 rfl i12
              refine c_StubHouseModel_drop (f := n) (i := i) g183 g184 g185 g186 g176 g187 (show 0 ≤ n ∧ n < 60 by omega) (show 0 ≤ i ∧ i ≤ 1 by omega) (show 1 ≤ aN S172 n 5 by omega) (fun (S190 : fxS) ⟨(f191 : fxfr [(50, 9999)] S172 S190), (g192 : COL S190), (g193 : WTM S190), (g194 : INJ S190), (g195 : AON S190), (g196 : USE S190), (g197 : REC S190)⟩ => ?_)
              have w198 : S190 72 0 0 = S172 72 0 0 := f191 72 0 0 rfl
              have w199 : S190 72 0 1 = S172 72 0 1 := f191 72 0 1 rfl
              have w200 : S190 70 0 0 = S172 70 0 0 := f191 70 0 0 rfl
              have w201 : S190 70 0 1 = S172 70 0 1 := f191 70 0 1 rfl
              have w202 : S190 49 0 7 = S172 49 0 7 := f191 49 0 7 rfl
              have g203 : SNP S190 := fx_pfr SNP_stab f191 rfl g175
              have g204 : SGM S190 := fx_pfr SGM_stab f191 rfl g188
              have g205 : WNW S190 := fx_pfr WNW_stab f191 rfl g189
              have g206 : UZ S1 S190 := fx_pfr UZ_stab f191 rfl g177
              refine c_StubHouseModel_record (e := (12 : Int)) g192 g193 g194 g195 g203 (show S190 49 0 7 ≤ 199 by omega) (show 0 ≤ (12 : Int) ∧ (12 : Int) ≤ 1000 by omega) (fun (S207 : fxS) ⟨(f208 : fxfr [(49, 7), (53, 9999), (55, 9999)] S190 S207), (g209 : SNP S207)⟩ => ?_)
              have w210 : aN S207 n (5 : Int) = aN S190 n (5 : Int) := (aN_fr f208 rfl)
              have w211 : S207 72 0 0 = S190 72 0 0 := f208 72 0 0 rfl
              have w212 : S207 72 0 1 = S190 72 0 1 := f208 72 0 1 rfl
              have w213 : S207 70 0 0 = S190 70 0 0 := f208 70 0 0 rfl
              have w214 : S207 70 0 1 = S190 70 0 1 := f208 70 0 1 rfl
              have g215 : COL S207 := fx_pfr COL_stab f208 rfl g192
              have g216 : WTM S207 := fx_pfr WTM_stab f208 rfl g193
              have g217 : INJ S207 := fx_pfr INJ_stab f208 rfl g194
              have g218 : AON S207 := fx_pfr AON_stab f208 rfl g195
              have g219 : USE S207 := fx_pfr USE_stab f208 rfl g196
              have g220 : REC S207 := fx_pfr REC_stab f208 rfl g197
              have g221 : SGM S207 := fx_pfr SGM_stab f208 rfl g204
              have g222 : WNW S207 := fx_pfr WNW_stab f208 rfl g205
              have g223 : UZ S1 S207 := fx_pfr UZ_stab f208 rfl g206
              refine And.intro (by decide) (And.intro (show -2147483648 ≤ i + (-1 : Int) ∧ i + (-1 : Int) < 2147483648 by omega) ?_)
              exact ih.2.2 t n (i + (-1 : Int)) S207 (fxfr_tr (fxfr_tr (fxfr_tr hf f173 rfl) f191 rfl) f208 rfl) (by omega) (by omega) (by omega) (by omega) g215 g216 g217 g218 g219 g209 g220 g221 g222 (by omega)
theorem c_StubHouseModel_reclaimOn {l : Launch} {k : fxK} {S : fxS}  (p0 : COL S) (p1 : WTM S) (p2 : INJ S) (p3 : AON S) (p4 : USE S) (p5 : SNP S) (p6 : REC S) (p7 : SGM S) (p8 : WNW S) (p9 : 0 ≤ S 49 0 39) (p10 : 0 ≤ S 70 0 1) (p11 : S 72 0 1 = 0) (hk : ∀ (S' : fxS) , (fxfr [(49, 7), (49, 39), (49, 40), (49, 41), (50, 9999), (53, 9999), (55, 9999), (56, 9999), (58, 9999), (63, 9999), (64, 9999), (65, 9999), (66, 9999), (67, 9999), (71, 9999), (72, 9999), (73, 9999), (74, 9999)] S S' ∧ (S' 72 0 1 ≠ 5 ∧ (S' 72 0 1 = 4 → 0 ≤ S' 70 0 1)) ∧ (COL S') ∧ (WTM S') ∧ (INJ S') ∧ (AON S') ∧ (USE S') ∧ (SNP S') ∧ (REC S') ∧ (SGM S') ∧ (WNW S')) → k none S') : fC l 263 [.inr (.inr (49, 0))] S k := by
  refine fxe_263 (Nat.le_of_ble_eq_true rfl) (fxz_263 400 ?_)
  intro z225 (z225a : (-2 : Int) ≤ z225) (z225b : z225 ≤ (5 : Int)) (z225c : z225 = S 49 0 39)
  refine And.intro (by decide) ?_
  refine c_StubHouseModel_scan (t := z225) p7 (show 0 ≤ z225 ∧ z225 ≤ 5 by omega) (fun (S226 : fxS) ⟨(f227 : fxfr [(65, 9999), (66, 9999), (67, 9999)] S S226), (q228 : S226 67 0 (z225).toNat = 1), (g229 : SGM S226), (g230 : KPA S S226)⟩ => ?_)
  have w231 : S226 72 0 0 = S 72 0 0 := f227 72 0 0 rfl
  have w232 : S226 72 0 1 = S 72 0 1 := f227 72 0 1 rfl
  have w233 : S226 70 0 0 = S 70 0 0 := f227 70 0 0 rfl
  have w234 : S226 70 0 1 = S 70 0 1 := f227 70 0 1 rfl
  have w235 : S226 49 0 7 = S 49 0 7 := f227 49 0 7 rfl
  have g236 : COL S226 := fx_pfr COL_stab f227 rfl p0
  have g237 : WTM S226 := fx_pfr WTM_stab f227 rfl p1
  have g238 : INJ S226 := fx_pfr INJ_stab f227 rfl p2
  have g239 : AON S226 := fx_pfr AON_stab f227 rfl p3
  have g240 : USE S226 := fx_pfr USE_stab f227 rfl p4
  have g241 : SNP S226 := fx_pfr SNP_stab f227 rfl p5
  have g242 : REC S226 := fx_pfr REC_stab f227 rfl p6
  have g243 : WNW S226 := fx_pfr WNW_stab f227 rfl p8
  refine And.intro (by decide) ?_
  exact (z_StubHouseModel_reclaimOn p0 p1 p2 p3 p4 p5 p6 p7 p8 p9 p10 p11 hk (100000 - (0 : Int)).toNat).1 z225 (0 : Int) S226 (fxfr_tr fxfr_rfl f227 rfl) (by omega) (by omega) (by omega) g236 g237 g238 g239 g240 g241 g242 g229 g243 (by omega)
theorem z_StubHouseModel_readerBegins {l : Launch} {k : fxK} {S : fxS}  (p0 : COL S) (p1 : WTM S) (p2 : INJ S) (p3 : AON S) (p4 : USE S) (p5 : SNP S) (p6 : REC S) (p7 : SGM S) (p8 : WNW S) (p9 : S 72 0 1 = 0) (hk : ∀ (S' : fxS) , (fxfr [(49, 7), (49, 39), (49, 40), (49, 41), (49, 55), (50, 9999), (53, 9999), (55, 9999), (56, 9999), (58, 9999), (63, 9999), (64, 9999), (65, 9999), (66, 9999), (67, 9999), (70, 9999), (71, 9999), (72, 9999), (73, 9999), (74, 9999)] S S' ∧ (S' 72 0 1 ≠ 5 ∧ (S' 72 0 1 = 4 → 0 ≤ S' 70 0 1)) ∧ (COL S') ∧ (WTM S') ∧ (INJ S') ∧ (AON S') ∧ (USE S') ∧ (SNP S') ∧ (REC S') ∧ (SGM S') ∧ (WNW S')) → k none S') : ∀ m : Nat, (∀ (b a o j : Int) (S1 : fxS), (fxfr [(49, 7), (49, 39), (49, 40), (49, 41), (49, 55), (50, 9999), (53, 9999), (55, 9999), (56, 9999), (58, 9999), (63, 9999), (64, 9999), (65, 9999), (66, 9999), (67, 9999), (70, 9999), (71, 9999), (72, 9999), (73, 9999), (74, 9999)] S S1) → (-2 ≤ b ∧ b < 60 ∧ (0 ≤ b → 0 ≤ o)) → (-2 ≤ a ∧ a ≤ 5) → (o = S1 70 0 1 ∧ -2 ≤ o ∧ o ≤ 5) → (0 ≤ j ∧ j ≤ 60) → (S1 72 0 1 = 0) → (COL S1) → (WTM S1) → (INJ S1) → (AON S1) → (USE S1) → (SNP S1) → (REC S1) → (SGM S1) → (WNW S1) → 61 - j ≤ (m : Int) → fZ l 265 k 16 [some (.inr (.inr (49, 0))), some (.inl b), some (.inl a), some (.inl o), some (.inl j), none] [] S1) := by
  intro m
  induction m with
  | zero =>
    intro b a o j S1 hf i0 i1 i2 i3 i4 i5 i6 i7 i8 i9 i10 i11 i12 i13 hmu
    exfalso
    omega
  | succ m ih =>
    intro b a o j S1 hf i0 i1 i2 i3 i4 i5 i6 i7 i8 i9 i10 i11 i12 i13 hmu
    refine fxz_265 400 ?_
    intro z1 (z1a : (0 : Int) ≤ z1) (z1b : z1 ≤ (60 : Int)) (z1c : z1 = S1 49 0 36)
    refine And.intro (fun (h2 : (z1 ≤ j : Prop)) => ?_) (fun (h2 : (j < z1 : Prop)) => ?_)
    ·
      refine And.intro (fun (h3 : (b < (0 : Int) : Prop)) => ?_) (fun (h3 : ((0 : Int) ≤ b : Prop)) => ?_)
      ·
        refine And.intro (by decide) ?_
        refine And.intro (fun (h4 : ((0 : Int) ≤ a : Prop)) => ?_) (fun (h4 : (a < (0 : Int) : Prop)) => ?_)
        ·
          refine And.intro (fun (h5 : (a < (0 : Int) : Prop)) => ?_) (fun (h5 : ((0 : Int) ≤ a : Prop)) => ?_)
          ·
            refine And.intro (fun (h6 : (o < (0 : Int) : Prop)) => ?_) (fun (h6 : ((0 : Int) ≤ o : Prop)) => ?_)
            ·
              exact hk S1 ⟨hf, by omega, i5, i6, i7, i8, i9, i10, i11, i12, i13⟩
            ·
              intro z7 (z7a : (-2 : Int) ≤ z7) (z7b : z7 ≤ (5 : Int)) (z7c : z7 = S1 49 0 39)
              refine And.intro (fun (h8 : (o = z7 : Prop)) => ?_) (fun (h8 : (o ≠ z7 : Prop)) => ?_)
              ·
                exact hk S1 ⟨hf, by omega, i5, i6, i7, i8, i9, i10, i11, i12, i13⟩
              ·
                refine c_begin_1 (w := (2 : Int)) (s := (2 : Int)) i13 (show 0 ≤ (2 : Int) ∧ (2 : Int) ≤ 5 by omega) (show -2147483648 ≤ (2 : Int) ∧ (2 : Int) < 2147483648 by omega) (fun (S9 : fxS) ⟨(f10 : fxfr [(72, 9999), (73, 9999)] S1 S9), (q11 : S9 72 0 1 = (2 : Int) ∧ S9 72 0 0 = S1 72 0 0), (g12 : WNW S9)⟩ => ?_)
                have w13 : S9 70 0 0 = S1 70 0 0 := f10 70 0 0 rfl
                have w14 : S9 70 0 1 = S1 70 0 1 := f10 70 0 1 rfl
                have w15 : S9 49 0 39 = S1 49 0 39 := f10 49 0 39 rfl
                have g16 : COL S9 := fx_pfr COL_stab f10 rfl i5
                have g17 : WTM S9 := fx_pfr WTM_stab f10 rfl i6
                have g18 : INJ S9 := fx_pfr INJ_stab f10 rfl i7
                have g19 : AON S9 := fx_pfr AON_stab f10 rfl i8
                have g20 : USE S9 := fx_pfr USE_stab f10 rfl i9
                have g21 : SNP S9 := fx_pfr SNP_stab f10 rfl i10
                have g22 : REC S9 := fx_pfr REC_stab f10 rfl i11
                have g23 : SGM S9 := fx_pfr SGM_stab f10 rfl i12
                exact hk S9 ⟨(fxfr_tr hf f10 rfl), by omega, g16, g17, g18, g19, g20, g21, g22, g23, g12⟩
          ·
            refine And.intro (fun (h24 : (o < (0 : Int) : Prop)) => ?_) (fun (h24 : ((0 : Int) ≤ o : Prop)) => ?_)
            ·
              refine And.intro (show 0 ≤ (0 : Int) ∧ (0 : Int) < 2 by omega) ?_
              intro z25 (z25a : (-2 : Int) ≤ z25) (z25b : z25 ≤ (5 : Int)) (z25c : z25 = S1 70 0 0)
              refine And.intro (fun (h26 : (z25 ≠ a : Prop)) => ?_) (fun (h26 : (z25 = a : Prop)) => ?_)
              ·
                refine c_mount_1 (t := a) i13 (show 0 ≤ a ∧ a ≤ 5 by omega) (fun (S27 : fxS) ⟨(f28 : fxfr [(70, 9999), (71, 9999), (72, 9999), (73, 9999)] S1 S27), (q29 : S27 72 0 1 = 1 ∧ S27 72 0 0 = S1 72 0 0 ∧ S27 70 0 0 = S1 70 0 0), (g30 : WNW S27)⟩ => ?_)
                have w31 : S27 49 0 39 = S1 49 0 39 := f28 49 0 39 rfl
                have g32 : COL S27 := fx_pfr COL_stab f28 rfl i5
                have g33 : WTM S27 := fx_pfr WTM_stab f28 rfl i6
                have g34 : INJ S27 := fx_pfr INJ_stab f28 rfl i7
                have g35 : AON S27 := fx_pfr AON_stab f28 rfl i8
                have g36 : USE S27 := fx_pfr USE_stab f28 rfl i9
                have g37 : SNP S27 := fx_pfr SNP_stab f28 rfl i10
                have g38 : REC S27 := fx_pfr REC_stab f28 rfl i11
                have g39 : SGM S27 := fx_pfr SGM_stab f28 rfl i12
                exact hk S27 ⟨(fxfr_tr hf f28 rfl), by omega, g32, g33, g34, g35, g36, g37, g38, g39, g30⟩
              ·
                refine And.intro (show (0 : Int) ≤ (1 : Int) ∧ (1 : Int) ≤ (1 : Int) by omega) ?_
                have w40 : (fx_up S1 49 0 55 (1 : Int)) 72 0 0 = S1 72 0 0 := rfl
                have w41 : (fx_up S1 49 0 55 (1 : Int)) 72 0 1 = S1 72 0 1 := rfl
                have w42 : (fx_up S1 49 0 55 (1 : Int)) 70 0 0 = S1 70 0 0 := rfl
                have w43 : (fx_up S1 49 0 55 (1 : Int)) 70 0 1 = S1 70 0 1 := rfl
                have w44 : (fx_up S1 49 0 55 (1 : Int)) 49 0 39 = S1 49 0 39 := if_neg (fun q => absurd q.2.2 (by decide))
                have g45 : COL (fx_up S1 49 0 55 (1 : Int)) := fx_pup COL_stab rfl i5
                have g46 : WTM (fx_up S1 49 0 55 (1 : Int)) := fx_pup WTM_stab rfl i6
                have g47 : INJ (fx_up S1 49 0 55 (1 : Int)) := fx_pup INJ_stab rfl i7
                have g48 : AON (fx_up S1 49 0 55 (1 : Int)) := fx_pup AON_stab rfl i8
                have g49 : USE (fx_up S1 49 0 55 (1 : Int)) := fx_pup USE_stab rfl i9
                have g50 : SNP (fx_up S1 49 0 55 (1 : Int)) := fx_pup SNP_stab rfl i10
                have g51 : REC (fx_up S1 49 0 55 (1 : Int)) := fx_pup REC_stab rfl i11
                have g52 : SGM (fx_up S1 49 0 55 (1 : Int)) := fx_pup SGM_stab rfl i12
                have g53 : WNW (fx_up S1 49 0 55 (1 : Int)) := fx_pup WNW_stab rfl i13
                exact hk (fx_up S1 49 0 55 (1 : Int)) ⟨(fxfr_up hf rfl), by omega, g45, g46, g47, g48, g49, g50, g51, g52, g53⟩
            ·
              refine c_begin_1 (w := (2 : Int)) (s := (2 : Int)) i13 (show 0 ≤ (2 : Int) ∧ (2 : Int) ≤ 5 by omega) (show -2147483648 ≤ (2 : Int) ∧ (2 : Int) < 2147483648 by omega) (fun (S54 : fxS) ⟨(f55 : fxfr [(72, 9999), (73, 9999)] S1 S54), (q56 : S54 72 0 1 = (2 : Int) ∧ S54 72 0 0 = S1 72 0 0), (g57 : WNW S54)⟩ => ?_)
              have w58 : S54 70 0 0 = S1 70 0 0 := f55 70 0 0 rfl
              have w59 : S54 70 0 1 = S1 70 0 1 := f55 70 0 1 rfl
              have w60 : S54 49 0 39 = S1 49 0 39 := f55 49 0 39 rfl
              have g61 : COL S54 := fx_pfr COL_stab f55 rfl i5
              have g62 : WTM S54 := fx_pfr WTM_stab f55 rfl i6
              have g63 : INJ S54 := fx_pfr INJ_stab f55 rfl i7
              have g64 : AON S54 := fx_pfr AON_stab f55 rfl i8
              have g65 : USE S54 := fx_pfr USE_stab f55 rfl i9
              have g66 : SNP S54 := fx_pfr SNP_stab f55 rfl i10
              have g67 : REC S54 := fx_pfr REC_stab f55 rfl i11
              have g68 : SGM S54 := fx_pfr SGM_stab f55 rfl i12
              exact hk S54 ⟨(fxfr_tr hf f55 rfl), by omega, g61, g62, g63, g64, g65, g66, g67, g68, g57⟩
        ·
          intro z69 (z69a : (-2 : Int) ≤ z69) (z69b : z69 ≤ (5 : Int)) (z69c : z69 = S1 49 0 39)
          refine And.intro (fun (h70 : (z69 < (0 : Int) : Prop)) => ?_) (fun (h70 : ((0 : Int) ≤ z69 : Prop)) => ?_)
          ·
            refine And.intro (fun (h71 : (a < (0 : Int) : Prop)) => ?_) (fun (h71 : ((0 : Int) ≤ a : Prop)) => ?_)
            ·
              refine And.intro (fun (h72 : (o < (0 : Int) : Prop)) => ?_) (fun (h72 : ((0 : Int) ≤ o : Prop)) => ?_)
              ·
                exact hk S1 ⟨hf, by omega, i5, i6, i7, i8, i9, i10, i11, i12, i13⟩
              ·
                intro z73 (z73a : (-2 : Int) ≤ z73) (z73b : z73 ≤ (5 : Int)) (z73c : z73 = S1 49 0 39)
                obtain rfl : z69 = z73 := by omega
                refine And.intro (fun (h74 : (o = z69 : Prop)) => ?_) (fun (h74 : (o ≠ z69 : Prop)) => ?_)
                ·
                  exact hk S1 ⟨hf, by omega, i5, i6, i7, i8, i9, i10, i11, i12, i13⟩
                ·
                  refine c_begin_1 (w := (2 : Int)) (s := (2 : Int)) i13 (show 0 ≤ (2 : Int) ∧ (2 : Int) ≤ 5 by omega) (show -2147483648 ≤ (2 : Int) ∧ (2 : Int) < 2147483648 by omega) (fun (S75 : fxS) ⟨(f76 : fxfr [(72, 9999), (73, 9999)] S1 S75), (q77 : S75 72 0 1 = (2 : Int) ∧ S75 72 0 0 = S1 72 0 0), (g78 : WNW S75)⟩ => ?_)
                  have w79 : S75 70 0 0 = S1 70 0 0 := f76 70 0 0 rfl
                  have w80 : S75 70 0 1 = S1 70 0 1 := f76 70 0 1 rfl
                  have w81 : S75 49 0 39 = S1 49 0 39 := f76 49 0 39 rfl
                  have g82 : COL S75 := fx_pfr COL_stab f76 rfl i5
                  have g83 : WTM S75 := fx_pfr WTM_stab f76 rfl i6
                  have g84 : INJ S75 := fx_pfr INJ_stab f76 rfl i7
                  have g85 : AON S75 := fx_pfr AON_stab f76 rfl i8
                  have g86 : USE S75 := fx_pfr USE_stab f76 rfl i9
                  have g87 : SNP S75 := fx_pfr SNP_stab f76 rfl i10
                  have g88 : REC S75 := fx_pfr REC_stab f76 rfl i11
                  have g89 : SGM S75 := fx_pfr SGM_stab f76 rfl i12
                  exact hk S75 ⟨(fxfr_tr hf f76 rfl), by omega, g82, g83, g84, g85, g86, g87, g88, g89, g78⟩
            ·
              refine And.intro (fun (h90 : (o < (0 : Int) : Prop)) => ?_) (fun (h90 : ((0 : Int) ≤ o : Prop)) => ?_)
              ·
                refine And.intro (show 0 ≤ (0 : Int) ∧ (0 : Int) < 2 by omega) ?_
                intro z91 (z91a : (-2 : Int) ≤ z91) (z91b : z91 ≤ (5 : Int)) (z91c : z91 = S1 70 0 0)
                refine And.intro (fun (h92 : (z91 ≠ a : Prop)) => ?_) (fun (h92 : (z91 = a : Prop)) => ?_)
                ·
                  refine c_mount_1 (t := a) i13 (show 0 ≤ a ∧ a ≤ 5 by omega) (fun (S93 : fxS) ⟨(f94 : fxfr [(70, 9999), (71, 9999), (72, 9999), (73, 9999)] S1 S93), (q95 : S93 72 0 1 = 1 ∧ S93 72 0 0 = S1 72 0 0 ∧ S93 70 0 0 = S1 70 0 0), (g96 : WNW S93)⟩ => ?_)
                  have w97 : S93 49 0 39 = S1 49 0 39 := f94 49 0 39 rfl
                  have g98 : COL S93 := fx_pfr COL_stab f94 rfl i5
                  have g99 : WTM S93 := fx_pfr WTM_stab f94 rfl i6
                  have g100 : INJ S93 := fx_pfr INJ_stab f94 rfl i7
                  have g101 : AON S93 := fx_pfr AON_stab f94 rfl i8
                  have g102 : USE S93 := fx_pfr USE_stab f94 rfl i9
                  have g103 : SNP S93 := fx_pfr SNP_stab f94 rfl i10
                  have g104 : REC S93 := fx_pfr REC_stab f94 rfl i11
                  have g105 : SGM S93 := fx_pfr SGM_stab f94 rfl i12
                  exact hk S93 ⟨(fxfr_tr hf f94 rfl), by omega, g98, g99, g100, g101, g102, g103, g104, g105, g96⟩
                ·
                  refine And.intro (show (0 : Int) ≤ (1 : Int) ∧ (1 : Int) ≤ (1 : Int) by omega) ?_
                  have w106 : (fx_up S1 49 0 55 (1 : Int)) 72 0 0 = S1 72 0 0 := rfl
                  have w107 : (fx_up S1 49 0 55 (1 : Int)) 72 0 1 = S1 72 0 1 := rfl
                  have w108 : (fx_up S1 49 0 55 (1 : Int)) 70 0 0 = S1 70 0 0 := rfl
                  have w109 : (fx_up S1 49 0 55 (1 : Int)) 70 0 1 = S1 70 0 1 := rfl
                  have w110 : (fx_up S1 49 0 55 (1 : Int)) 49 0 39 = S1 49 0 39 := if_neg (fun q => absurd q.2.2 (by decide))
                  have g111 : COL (fx_up S1 49 0 55 (1 : Int)) := fx_pup COL_stab rfl i5
                  have g112 : WTM (fx_up S1 49 0 55 (1 : Int)) := fx_pup WTM_stab rfl i6
                  have g113 : INJ (fx_up S1 49 0 55 (1 : Int)) := fx_pup INJ_stab rfl i7
                  have g114 : AON (fx_up S1 49 0 55 (1 : Int)) := fx_pup AON_stab rfl i8
                  have g115 : USE (fx_up S1 49 0 55 (1 : Int)) := fx_pup USE_stab rfl i9
                  have g116 : SNP (fx_up S1 49 0 55 (1 : Int)) := fx_pup SNP_stab rfl i10
                  have g117 : REC (fx_up S1 49 0 55 (1 : Int)) := fx_pup REC_stab rfl i11
                  have g118 : SGM (fx_up S1 49 0 55 (1 : Int)) := fx_pup SGM_stab rfl i12
                  have g119 : WNW (fx_up S1 49 0 55 (1 : Int)) := fx_pup WNW_stab rfl i13
                  exact hk (fx_up S1 49 0 55 (1 : Int)) ⟨(fxfr_up hf rfl), by omega, g111, g112, g113, g114, g115, g116, g117, g118, g119⟩
              ·
                refine c_begin_1 (w := (2 : Int)) (s := (2 : Int)) i13 (show 0 ≤ (2 : Int) ∧ (2 : Int) ≤ 5 by omega) (show -2147483648 ≤ (2 : Int) ∧ (2 : Int) < 2147483648 by omega) (fun (S120 : fxS) ⟨(f121 : fxfr [(72, 9999), (73, 9999)] S1 S120), (q122 : S120 72 0 1 = (2 : Int) ∧ S120 72 0 0 = S1 72 0 0), (g123 : WNW S120)⟩ => ?_)
                have w124 : S120 70 0 0 = S1 70 0 0 := f121 70 0 0 rfl
                have w125 : S120 70 0 1 = S1 70 0 1 := f121 70 0 1 rfl
                have w126 : S120 49 0 39 = S1 49 0 39 := f121 49 0 39 rfl
                have g127 : COL S120 := fx_pfr COL_stab f121 rfl i5
                have g128 : WTM S120 := fx_pfr WTM_stab f121 rfl i6
                have g129 : INJ S120 := fx_pfr INJ_stab f121 rfl i7
                have g130 : AON S120 := fx_pfr AON_stab f121 rfl i8
                have g131 : USE S120 := fx_pfr USE_stab f121 rfl i9
                have g132 : SNP S120 := fx_pfr SNP_stab f121 rfl i10
                have g133 : REC S120 := fx_pfr REC_stab f121 rfl i11
                have g134 : SGM S120 := fx_pfr SGM_stab f121 rfl i12
                exact hk S120 ⟨(fxfr_tr hf f121 rfl), by omega, g127, g128, g129, g130, g131, g132, g133, g134, g123⟩
          ·
            intro z135 (z135a : (0 : Int) ≤ z135) (z135b : z135 ≤ (1 : Int)) (z135c : z135 = S1 49 0 43)
            refine And.intro (fun (h136 : (z135 ≠ (0 : Int) : Prop)) => ?_) (fun (h136 : (z135 = (0 : Int) : Prop)) => ?_)
            ·
              refine And.intro (fun (h137 : (a < (0 : Int) : Prop)) => ?_) (fun (h137 : ((0 : Int) ≤ a : Prop)) => ?_)
              ·
                refine And.intro (fun (h138 : (o < (0 : Int) : Prop)) => ?_) (fun (h138 : ((0 : Int) ≤ o : Prop)) => ?_)
                ·
                  exact hk S1 ⟨hf, by omega, i5, i6, i7, i8, i9, i10, i11, i12, i13⟩
                ·
                  intro z139 (z139a : (-2 : Int) ≤ z139) (z139b : z139 ≤ (5 : Int)) (z139c : z139 = S1 49 0 39)
                  obtain rfl : z69 = z139 := by omega
                  refine And.intro (fun (h140 : (o = z69 : Prop)) => ?_) (fun (h140 : (o ≠ z69 : Prop)) => ?_)
                  ·
                    exact hk S1 ⟨hf, by omega, i5, i6, i7, i8, i9, i10, i11, i12, i13⟩
                  ·
                    refine c_begin_1 (w := (2 : Int)) (s := (2 : Int)) i13 (show 0 ≤ (2 : Int) ∧ (2 : Int) ≤ 5 by omega) (show -2147483648 ≤ (2 : Int) ∧ (2 : Int) < 2147483648 by omega) (fun (S141 : fxS) ⟨(f142 : fxfr [(72, 9999), (73, 9999)] S1 S141), (q143 : S141 72 0 1 = (2 : Int) ∧ S141 72 0 0 = S1 72 0 0), (g144 : WNW S141)⟩ => ?_)
                    have w145 : S141 70 0 0 = S1 70 0 0 := f142 70 0 0 rfl
                    have w146 : S141 70 0 1 = S1 70 0 1 := f142 70 0 1 rfl
                    have w147 : S141 49 0 39 = S1 49 0 39 := f142 49 0 39 rfl
                    have g148 : COL S141 := fx_pfr COL_stab f142 rfl i5
                    have g149 : WTM S141 := fx_pfr WTM_stab f142 rfl i6
                    have g150 : INJ S141 := fx_pfr INJ_stab f142 rfl i7
                    have g151 : AON S141 := fx_pfr AON_stab f142 rfl i8
                    have g152 : USE S141 := fx_pfr USE_stab f142 rfl i9
                    have g153 : SNP S141 := fx_pfr SNP_stab f142 rfl i10
                    have g154 : REC S141 := fx_pfr REC_stab f142 rfl i11
                    have g155 : SGM S141 := fx_pfr SGM_stab f142 rfl i12
                    exact hk S141 ⟨(fxfr_tr hf f142 rfl), by omega, g148, g149, g150, g151, g152, g153, g154, g155, g144⟩
              ·
                refine And.intro (fun (h156 : (o < (0 : Int) : Prop)) => ?_) (fun (h156 : ((0 : Int) ≤ o : Prop)) => ?_)
                ·
                  refine And.intro (show 0 ≤ (0 : Int) ∧ (0 : Int) < 2 by omega) ?_
                  intro z157 (z157a : (-2 : Int) ≤ z157) (z157b : z157 ≤ (5 : Int)) (z157c : z157 = S1 70 0 0)
                  refine And.intro (fun (h158 : (z157 ≠ a : Prop)) => ?_) (fun (h158 : (z157 = a : Prop)) => ?_)
                  ·
                    refine c_mount_1 (t := a) i13 (show 0 ≤ a ∧ a ≤ 5 by omega) (fun (S159 : fxS) ⟨(f160 : fxfr [(70, 9999), (71, 9999), (72, 9999), (73, 9999)] S1 S159), (q161 : S159 72 0 1 = 1 ∧ S159 72 0 0 = S1 72 0 0 ∧ S159 70 0 0 = S1 70 0 0), (g162 : WNW S159)⟩ => ?_)
                    have w163 : S159 49 0 39 = S1 49 0 39 := f160 49 0 39 rfl
                    have g164 : COL S159 := fx_pfr COL_stab f160 rfl i5
                    have g165 : WTM S159 := fx_pfr WTM_stab f160 rfl i6
                    have g166 : INJ S159 := fx_pfr INJ_stab f160 rfl i7
                    have g167 : AON S159 := fx_pfr AON_stab f160 rfl i8
                    have g168 : USE S159 := fx_pfr USE_stab f160 rfl i9
                    have g169 : SNP S159 := fx_pfr SNP_stab f160 rfl i10
                    have g170 : REC S159 := fx_pfr REC_stab f160 rfl i11
                    have g171 : SGM S159 := fx_pfr SGM_stab f160 rfl i12
                    exact hk S159 ⟨(fxfr_tr hf f160 rfl), by omega, g164, g165, g166, g167, g168, g169, g170, g171, g162⟩
                  ·
                    refine And.intro (show (0 : Int) ≤ (1 : Int) ∧ (1 : Int) ≤ (1 : Int) by omega) ?_
                    have w172 : (fx_up S1 49 0 55 (1 : Int)) 72 0 0 = S1 72 0 0 := rfl
                    have w173 : (fx_up S1 49 0 55 (1 : Int)) 72 0 1 = S1 72 0 1 := rfl
                    have w174 : (fx_up S1 49 0 55 (1 : Int)) 70 0 0 = S1 70 0 0 := rfl
                    have w175 : (fx_up S1 49 0 55 (1 : Int)) 70 0 1 = S1 70 0 1 := rfl
                    have w176 : (fx_up S1 49 0 55 (1 : Int)) 49 0 39 = S1 49 0 39 := if_neg (fun q => absurd q.2.2 (by decide))
                    have g177 : COL (fx_up S1 49 0 55 (1 : Int)) := fx_pup COL_stab rfl i5
                    have g178 : WTM (fx_up S1 49 0 55 (1 : Int)) := fx_pup WTM_stab rfl i6
                    have g179 : INJ (fx_up S1 49 0 55 (1 : Int)) := fx_pup INJ_stab rfl i7
                    have g180 : AON (fx_up S1 49 0 55 (1 : Int)) := fx_pup AON_stab rfl i8
                    have g181 : USE (fx_up S1 49 0 55 (1 : Int)) := fx_pup USE_stab rfl i9
                    have g182 : SNP (fx_up S1 49 0 55 (1 : Int)) := fx_pup SNP_stab rfl i10
                    have g183 : REC (fx_up S1 49 0 55 (1 : Int)) := fx_pup REC_stab rfl i11
                    have g184 : SGM (fx_up S1 49 0 55 (1 : Int)) := fx_pup SGM_stab rfl i12
                    have g185 : WNW (fx_up S1 49 0 55 (1 : Int)) := fx_pup WNW_stab rfl i13
                    exact hk (fx_up S1 49 0 55 (1 : Int)) ⟨(fxfr_up hf rfl), by omega, g177, g178, g179, g180, g181, g182, g183, g184, g185⟩
                ·
                  refine c_begin_1 (w := (2 : Int)) (s := (2 : Int)) i13 (show 0 ≤ (2 : Int) ∧ (2 : Int) ≤ 5 by omega) (show -2147483648 ≤ (2 : Int) ∧ (2 : Int) < 2147483648 by omega) (fun (S186 : fxS) ⟨(f187 : fxfr [(72, 9999), (73, 9999)] S1 S186), (q188 : S186 72 0 1 = (2 : Int) ∧ S186 72 0 0 = S1 72 0 0), (g189 : WNW S186)⟩ => ?_)
                  have w190 : S186 70 0 0 = S1 70 0 0 := f187 70 0 0 rfl
                  have w191 : S186 70 0 1 = S1 70 0 1 := f187 70 0 1 rfl
                  have w192 : S186 49 0 39 = S1 49 0 39 := f187 49 0 39 rfl
                  have g193 : COL S186 := fx_pfr COL_stab f187 rfl i5
                  have g194 : WTM S186 := fx_pfr WTM_stab f187 rfl i6
                  have g195 : INJ S186 := fx_pfr INJ_stab f187 rfl i7
                  have g196 : AON S186 := fx_pfr AON_stab f187 rfl i8
                  have g197 : USE S186 := fx_pfr USE_stab f187 rfl i9
                  have g198 : SNP S186 := fx_pfr SNP_stab f187 rfl i10
                  have g199 : REC S186 := fx_pfr REC_stab f187 rfl i11
                  have g200 : SGM S186 := fx_pfr SGM_stab f187 rfl i12
                  exact hk S186 ⟨(fxfr_tr hf f187 rfl), by omega, g193, g194, g195, g196, g197, g198, g199, g200, g189⟩
            ·
              intro z201 (z201a : (-2 : Int) ≤ z201) (z201b : z201 ≤ (5 : Int)) (z201c : z201 = S1 49 0 39)
              obtain rfl : z69 = z201 := by omega
              refine And.intro (by decide) ?_
              refine And.intro (fun (h202 : (z69 ≠ o : Prop)) => ?_) (fun (h202 : (z69 = o : Prop)) => ?_)
              ·
                refine And.intro (fun (h203 : (z69 < (0 : Int) : Prop)) => ?_) (fun (h203 : ((0 : Int) ≤ z69 : Prop)) => ?_)
                ·
                  refine And.intro (fun (h204 : (o < (0 : Int) : Prop)) => ?_) (fun (h204 : ((0 : Int) ≤ o : Prop)) => ?_)
                  ·
                    exact hk S1 ⟨hf, by omega, i5, i6, i7, i8, i9, i10, i11, i12, i13⟩
                  ·
                    intro z205 (z205a : (-2 : Int) ≤ z205) (z205b : z205 ≤ (5 : Int)) (z205c : z205 = S1 49 0 39)
                    obtain rfl : z69 = z205 := by omega
                    refine And.intro (fun (h206 : (o = z69 : Prop)) => ?_) (fun (h206 : (o ≠ z69 : Prop)) => ?_)
                    ·
                      exact hk S1 ⟨hf, by omega, i5, i6, i7, i8, i9, i10, i11, i12, i13⟩
                    ·
                      refine c_begin_1 (w := (2 : Int)) (s := (2 : Int)) i13 (show 0 ≤ (2 : Int) ∧ (2 : Int) ≤ 5 by omega) (show -2147483648 ≤ (2 : Int) ∧ (2 : Int) < 2147483648 by omega) (fun (S207 : fxS) ⟨(f208 : fxfr [(72, 9999), (73, 9999)] S1 S207), (q209 : S207 72 0 1 = (2 : Int) ∧ S207 72 0 0 = S1 72 0 0), (g210 : WNW S207)⟩ => ?_)
                      have w211 : S207 70 0 0 = S1 70 0 0 := f208 70 0 0 rfl
                      have w212 : S207 70 0 1 = S1 70 0 1 := f208 70 0 1 rfl
                      have w213 : S207 49 0 39 = S1 49 0 39 := f208 49 0 39 rfl
                      have g214 : COL S207 := fx_pfr COL_stab f208 rfl i5
                      have g215 : WTM S207 := fx_pfr WTM_stab f208 rfl i6
                      have g216 : INJ S207 := fx_pfr INJ_stab f208 rfl i7
                      have g217 : AON S207 := fx_pfr AON_stab f208 rfl i8
                      have g218 : USE S207 := fx_pfr USE_stab f208 rfl i9
                      have g219 : SNP S207 := fx_pfr SNP_stab f208 rfl i10
                      have g220 : REC S207 := fx_pfr REC_stab f208 rfl i11
                      have g221 : SGM S207 := fx_pfr SGM_stab f208 rfl i12
                      exact hk S207 ⟨(fxfr_tr hf f208 rfl), by omega, g214, g215, g216, g217, g218, g219, g220, g221, g210⟩
                ·
                  refine And.intro (fun (h222 : (o < (0 : Int) : Prop)) => ?_) (fun (h222 : ((0 : Int) ≤ o : Prop)) => ?_)
                  ·
                    refine And.intro (show 0 ≤ (0 : Int) ∧ (0 : Int) < 2 by omega) ?_
                    intro z223 (z223a : (-2 : Int) ≤ z223) (z223b : z223 ≤ (5 : Int)) (z223c : z223 = S1 70 0 0)
                    refine And.intro (fun (h224 : (z223 ≠ z69 : Prop)) => ?_) (fun (h224 : (z223 = z69 : Prop)) => ?_)
                    ·
                      refine c_mount_1 (t := z69) i13 (show 0 ≤ z69 ∧ z69 ≤ 5 by omega) (fun (S225 : fxS) ⟨(f226 : fxfr [(70, 9999), (71, 9999), (72, 9999), (73, 9999)] S1 S225), (q227 : S225 72 0 1 = 1 ∧ S225 72 0 0 = S1 72 0 0 ∧ S225 70 0 0 = S1 70 0 0), (g228 : WNW S225)⟩ => ?_)
                      have w229 : S225 49 0 39 = S1 49 0 39 := f226 49 0 39 rfl
                      have g230 : COL S225 := fx_pfr COL_stab f226 rfl i5
                      have g231 : WTM S225 := fx_pfr WTM_stab f226 rfl i6
                      have g232 : INJ S225 := fx_pfr INJ_stab f226 rfl i7
                      have g233 : AON S225 := fx_pfr AON_stab f226 rfl i8
                      have g234 : USE S225 := fx_pfr USE_stab f226 rfl i9
                      have g235 : SNP S225 := fx_pfr SNP_stab f226 rfl i10
                      have g236 : REC S225 := fx_pfr REC_stab f226 rfl i11
                      have g237 : SGM S225 := fx_pfr SGM_stab f226 rfl i12
                      exact hk S225 ⟨(fxfr_tr hf f226 rfl), by omega, g230, g231, g232, g233, g234, g235, g236, g237, g228⟩
                    ·
                      refine And.intro (show (0 : Int) ≤ (1 : Int) ∧ (1 : Int) ≤ (1 : Int) by omega) ?_
                      have w238 : (fx_up S1 49 0 55 (1 : Int)) 72 0 0 = S1 72 0 0 := rfl
                      have w239 : (fx_up S1 49 0 55 (1 : Int)) 72 0 1 = S1 72 0 1 := rfl
                      have w240 : (fx_up S1 49 0 55 (1 : Int)) 70 0 0 = S1 70 0 0 := rfl
                      have w241 : (fx_up S1 49 0 55 (1 : Int)) 70 0 1 = S1 70 0 1 := rfl
                      have w242 : (fx_up S1 49 0 55 (1 : Int)) 49 0 39 = S1 49 0 39 := if_neg (fun q => absurd q.2.2 (by decide))
                      have g243 : COL (fx_up S1 49 0 55 (1 : Int)) := fx_pup COL_stab rfl i5
                      have g244 : WTM (fx_up S1 49 0 55 (1 : Int)) := fx_pup WTM_stab rfl i6
                      have g245 : INJ (fx_up S1 49 0 55 (1 : Int)) := fx_pup INJ_stab rfl i7
                      have g246 : AON (fx_up S1 49 0 55 (1 : Int)) := fx_pup AON_stab rfl i8
                      have g247 : USE (fx_up S1 49 0 55 (1 : Int)) := fx_pup USE_stab rfl i9
                      have g248 : SNP (fx_up S1 49 0 55 (1 : Int)) := fx_pup SNP_stab rfl i10
                      have g249 : REC (fx_up S1 49 0 55 (1 : Int)) := fx_pup REC_stab rfl i11
                      have g250 : SGM (fx_up S1 49 0 55 (1 : Int)) := fx_pup SGM_stab rfl i12
                      have g251 : WNW (fx_up S1 49 0 55 (1 : Int)) := fx_pup WNW_stab rfl i13
                      exact hk (fx_up S1 49 0 55 (1 : Int)) ⟨(fxfr_up hf rfl), by omega, g243, g244, g245, g246, g247, g248, g249, g250, g251⟩
                  ·
                    refine c_begin_1 (w := (2 : Int)) (s := (2 : Int)) i13 (show 0 ≤ (2 : Int) ∧ (2 : Int) ≤ 5 by omega) (show -2147483648 ≤ (2 : Int) ∧ (2 : Int) < 2147483648 by omega) (fun (S252 : fxS) ⟨(f253 : fxfr [(72, 9999), (73, 9999)] S1 S252), (q254 : S252 72 0 1 = (2 : Int) ∧ S252 72 0 0 = S1 72 0 0), (g255 : WNW S252)⟩ => ?_)
                    have w256 : S252 70 0 0 = S1 70 0 0 := f253 70 0 0 rfl
                    have w257 : S252 70 0 1 = S1 70 0 1 := f253 70 0 1 rfl
                    have w258 : S252 49 0 39 = S1 49 0 39 := f253 49 0 39 rfl
                    have g259 : COL S252 := fx_pfr COL_stab f253 rfl i5
                    have g260 : WTM S252 := fx_pfr WTM_stab f253 rfl i6
                    have g261 : INJ S252 := fx_pfr INJ_stab f253 rfl i7
                    have g262 : AON S252 := fx_pfr AON_stab f253 rfl i8
                    have g263 : USE S252 := fx_pfr USE_stab f253 rfl i9
                    have g264 : SNP S252 := fx_pfr SNP_stab f253 rfl i10
                    have g265 : REC S252 := fx_pfr REC_stab f253 rfl i11
                    have g266 : SGM S252 := fx_pfr SGM_stab f253 rfl i12
                    exact hk S252 ⟨(fxfr_tr hf f253 rfl), by omega, g259, g260, g261, g262, g263, g264, g265, g266, g255⟩
              ·
                refine c_StubHouseModel_reclaimOn  i5 i6 i7 i8 i9 i10 i11 i12 i13 (show 0 ≤ S1 49 0 39 by omega) (show 0 ≤ S1 70 0 1 by omega) (show S1 72 0 1 = 0 by omega) (fun (S267 : fxS) ⟨(f268 : fxfr [(49, 7), (49, 39), (49, 40), (49, 41), (50, 9999), (53, 9999), (55, 9999), (56, 9999), (58, 9999), (63, 9999), (64, 9999), (65, 9999), (66, 9999), (67, 9999), (71, 9999), (72, 9999), (73, 9999), (74, 9999)] S1 S267), (q269 : S267 72 0 1 ≠ 5 ∧ (S267 72 0 1 = 4 → 0 ≤ S267 70 0 1)), (g270 : COL S267), (g271 : WTM S267), (g272 : INJ S267), (g273 : AON S267), (g274 : USE S267), (g275 : SNP S267), (g276 : REC S267), (g277 : SGM S267), (g278 : WNW S267)⟩ => ?_)
                have w279 : S267 70 0 0 = S1 70 0 0 := f268 70 0 0 rfl
                have w280 : S267 70 0 1 = S1 70 0 1 := f268 70 0 1 rfl
                exact hk S267 ⟨(fxfr_tr hf f268 rfl), by omega, g270, g271, g272, g273, g274, g275, g276, g277, g278⟩
      ·
        refine c_at7 (n := b) i5 (show 0 ≤ b ∧ b < 60 by omega) (fun (z281 : Int) (q282 : z281 = aN S1 b 7 ∧ 0 ≤ z281 ∧ z281 ≤ 6000) => ?_)
        refine And.intro (by decide) ?_
        refine And.intro (show 0 ≤ (1 : Int) ∧ (1 : Int) < 2 by omega) ?_
        intro z283 (z283a : (0 : Int) ≤ z283) (z283b : z283 ≤ (7100 : Int)) (z283c : z283 = S1 71 0 1)
        refine And.intro (fun (h284 : (z283 = z281 : Prop)) => ?_) (fun (h284 : (z283 ≠ z281 : Prop)) => ?_)
        ·
          refine c_at2 (n := b) i5 (show 0 ≤ b ∧ b < 60 by omega) (fun (z285 : Int) (q286 : z285 = aN S1 b 2 ∧ -2147483648 ≤ z285 ∧ z285 < 2147483648) => ?_)
          refine c_at3 (n := b) i5 (show 0 ≤ b ∧ b < 60 by omega) (fun (z287 : Int) (q288 : z287 = aN S1 b 3 ∧ 0 ≤ z287 ∧ z287 ≤ 1024) => ?_)
          refine c_StubHouseModel_beginReading (d := z285) (p := z281) (z := z287) i13 (show 0 ≤ z281 ∧ z281 ≤ 6000 by omega) (show 0 ≤ z287 ∧ z287 ≤ 1024 by omega) (show -2147483648 ≤ z285 ∧ z285 < 2147483648 by omega) (fun (S289 : fxS) ⟨(f290 : fxfr [(49, 40), (49, 41), (72, 9999), (73, 9999), (74, 9999)] S1 S289), (q291 : S289 72 0 1 = 4 ∧ S289 72 0 0 = S1 72 0 0), (g292 : WNW S289)⟩ => ?_)
          have w293 : S289 70 0 0 = S1 70 0 0 := f290 70 0 0 rfl
          have w294 : S289 70 0 1 = S1 70 0 1 := f290 70 0 1 rfl
          have w295 : S289 49 0 39 = S1 49 0 39 := f290 49 0 39 rfl
          have g296 : COL S289 := fx_pfr COL_stab f290 rfl i5
          have g297 : WTM S289 := fx_pfr WTM_stab f290 rfl i6
          have g298 : INJ S289 := fx_pfr INJ_stab f290 rfl i7
          have g299 : AON S289 := fx_pfr AON_stab f290 rfl i8
          have g300 : USE S289 := fx_pfr USE_stab f290 rfl i9
          have g301 : SNP S289 := fx_pfr SNP_stab f290 rfl i10
          have g302 : REC S289 := fx_pfr REC_stab f290 rfl i11
          have g303 : SGM S289 := fx_pfr SGM_stab f290 rfl i12
          exact hk S289 ⟨(fxfr_tr hf f290 rfl), by omega, g296, g297, g298, g299, g300, g301, g302, g303, g292⟩
        ·
          refine c_wind_1 (p := z281) i13 (show 0 ≤ z281 ∧ z281 ≤ 7100 by omega) (fun (S304 : fxS) ⟨(f305 : fxfr [(72, 9999), (73, 9999), (74, 9999)] S1 S304), (q306 : S304 72 0 1 = 3 ∧ S304 72 0 0 = S1 72 0 0), (g307 : WNW S304)⟩ => ?_)
          have w308 : S304 70 0 0 = S1 70 0 0 := f305 70 0 0 rfl
          have w309 : S304 70 0 1 = S1 70 0 1 := f305 70 0 1 rfl
          have w310 : S304 49 0 39 = S1 49 0 39 := f305 49 0 39 rfl
          have g311 : COL S304 := fx_pfr COL_stab f305 rfl i5
          have g312 : WTM S304 := fx_pfr WTM_stab f305 rfl i6
          have g313 : INJ S304 := fx_pfr INJ_stab f305 rfl i7
          have g314 : AON S304 := fx_pfr AON_stab f305 rfl i8
          have g315 : USE S304 := fx_pfr USE_stab f305 rfl i9
          have g316 : SNP S304 := fx_pfr SNP_stab f305 rfl i10
          have g317 : REC S304 := fx_pfr REC_stab f305 rfl i11
          have g318 : SGM S304 := fx_pfr SGM_stab f305 rfl i12
          exact hk S304 ⟨(fxfr_tr hf f305 rfl), by omega, g311, g312, g313, g314, g315, g316, g317, g318, g307⟩
    ·
      refine And.intro (show 0 ≤ j ∧ j < 60 by omega) ?_
      intro z319 (z319a : (-2147483648 : Int) ≤ z319) (z319b : z319 ≤ (2147483647 : Int)) (z319c : z319 = S1 75 0 (j).toNat)
      refine c_StubHouseModel_fileOf (d := z319) i5 (show -2147483648 ≤ z319 ∧ z319 < 2147483648 by omega) (fun (z320 : Int) (q321 : -2 ≤ z320 ∧ z320 < 60 ∧ z320 ≠ -1 ∧ z320 ≠ 0 ∧ (0 ≤ z320 → aN S1 z320 0 = 2 ∧ aN S1 z320 2 = z319) ∧ FOF z319 z320 S1) => ?_)
      have fr : 1 ≤ z320 ∧ z320 < 60 := FIL_of (d := z319) (by have e := i11.2 (j).toNat (by omega); rwa [show S1 75 0 (j).toNat = z319 by omega] at e) q321.2.2.2.2.2
      refine And.intro (by decide) ?_
      refine c_StubHouseModel_hasRoom (f := z320) i5 (show 0 ≤ z320 ∧ z320 < 60 by omega) (fun (z322 : Int) (q323 : 0 ≤ z322 ∧ z322 ≤ 1 ∧ (z322 = 1 → (aN S1 z320 3 + 31) / 32 ≤ fcn (S1 56 0) 0 48 ∨ (aN S1 z320 3 + 31) / 32 ≤ fcn (S1 56 0) 48 160)) => ?_)
      refine And.intro (fun (h324 : (z322 = (0 : Int) : Prop)) => ?_) (fun (h324 : (z322 ≠ (0 : Int) : Prop)) => ?_)
      ·
        refine And.intro (by decide) (And.intro (show -2147483648 ≤ j + (1 : Int) ∧ j + (1 : Int) < 2147483648 by omega) ?_)
        exact ih b a o (j + (1 : Int)) S1 hf (by omega) (by omega) (by omega) (by omega) (by omega) i5 i6 i7 i8 i9 i10 i11 i12 i13 (by omega)
      ·
        refine And.intro (fun (h326 : ((0 : Int) ≤ a : Prop)) => ?_) (fun (h326 : (a < (0 : Int) : Prop)) => ?_)
        ·
          refine And.intro (by decide) ?_
          refine c_at6 (n := z320) i5 (show 0 ≤ z320 ∧ z320 < 60 by omega) (fun (z327 : Int) (q328 : z327 = aN S1 z320 6 ∧ 0 ≤ z327 ∧ z327 ≤ 5) => ?_)
          refine And.intro (fun (h329 : (z327 ≠ o : Prop)) => ?_) (fun (h329 : (z327 = o : Prop)) => ?_)
          ·
            refine And.intro (by decide) (And.intro (show -2147483648 ≤ j + (1 : Int) ∧ j + (1 : Int) < 2147483648 by omega) ?_)
            exact ih b a o (j + (1 : Int)) S1 hf (by omega) (by omega) (by omega) (by omega) (by omega) i5 i6 i7 i8 i9 i10 i11 i12 i13 (by omega)
          ·
            refine And.intro (fun (h331 : (b < (0 : Int) : Prop)) => ?_) (fun (h331 : ((0 : Int) ≤ b : Prop)) => ?_)
            ·
              refine And.intro (by decide) ?_
              refine And.intro (by decide) (And.intro (show -2147483648 ≤ j + (1 : Int) ∧ j + (1 : Int) < 2147483648 by omega) ?_)
              exact ih z320 a o (j + (1 : Int)) S1 hf (by omega) (by omega) (by omega) (by omega) (by omega) i5 i6 i7 i8 i9 i10 i11 i12 i13 (by omega)
            ·
              refine c_at7 (n := z320) i5 (show 0 ≤ z320 ∧ z320 < 60 by omega) (fun (z333 : Int) (q334 : z333 = aN S1 z320 7 ∧ 0 ≤ z333 ∧ z333 ≤ 6000) => ?_)
              refine c_at7 (n := b) i5 (show 0 ≤ b ∧ b < 60 by omega) (fun (z335 : Int) (q336 : z335 = aN S1 b 7 ∧ 0 ≤ z335 ∧ z335 ≤ 6000) => ?_)
              refine c_StubHouseModel_isNearer (a := z333) (b := z335) (show -2147483648 ≤ z333 ∧ z333 < 2147483648 by omega) (show -2147483648 ≤ z335 ∧ z335 < 2147483648 by omega) (fun (z337 : Int) (q338 : 0 ≤ z337 ∧ z337 ≤ 1) => ?_)
              refine And.intro (fun (h339 : (z337 = (0 : Int) : Prop)) => ?_) (fun (h339 : (z337 ≠ (0 : Int) : Prop)) => ?_)
              ·
                refine And.intro (by decide) ?_
                refine And.intro (by decide) (And.intro (show -2147483648 ≤ j + (1 : Int) ∧ j + (1 : Int) < 2147483648 by omega) ?_)
                exact ih b a o (j + (1 : Int)) S1 hf (by omega) (by omega) (by omega) (by omega) (by omega) i5 i6 i7 i8 i9 i10 i11 i12 i13 (by omega)
              ·
                refine And.intro (by decide) ?_
                refine And.intro (by decide) (And.intro (show -2147483648 ≤ j + (1 : Int) ∧ j + (1 : Int) < 2147483648 by omega) ?_)
                exact ih z320 a o (j + (1 : Int)) S1 hf (by omega) (by omega) (by omega) (by omega) (by omega) i5 i6 i7 i8 i9 i10 i11 i12 i13 (by omega)
        ·
          refine c_at6 (n := z320) i5 (show 0 ≤ z320 ∧ z320 < 60 by omega) (fun (z342 : Int) (q343 : z342 = aN S1 z320 6 ∧ 0 ≤ z342 ∧ z342 ≤ 5) => ?_)
          refine And.intro (by decide) ?_
          refine c_at6 (n := z320) i5 (show 0 ≤ z320 ∧ z320 < 60 by omega) (fun (z344 : Int) (q345 : z344 = aN S1 z320 6 ∧ 0 ≤ z344 ∧ z344 ≤ 5) => ?_)
          refine And.intro (fun (h346 : (z344 ≠ o : Prop)) => ?_) (fun (h346 : (z344 = o : Prop)) => ?_)
          ·
            refine And.intro (by decide) (And.intro (show -2147483648 ≤ j + (1 : Int) ∧ j + (1 : Int) < 2147483648 by omega) ?_)
            exact ih b z342 o (j + (1 : Int)) S1 hf (by omega) (by omega) (by omega) (by omega) (by omega) i5 i6 i7 i8 i9 i10 i11 i12 i13 (by omega)
          ·
            refine And.intro (fun (h348 : (b < (0 : Int) : Prop)) => ?_) (fun (h348 : ((0 : Int) ≤ b : Prop)) => ?_)
            ·
              refine And.intro (by decide) ?_
              refine And.intro (by decide) (And.intro (show -2147483648 ≤ j + (1 : Int) ∧ j + (1 : Int) < 2147483648 by omega) ?_)
              exact ih z320 z342 o (j + (1 : Int)) S1 hf (by omega) (by omega) (by omega) (by omega) (by omega) i5 i6 i7 i8 i9 i10 i11 i12 i13 (by omega)
            ·
              refine c_at7 (n := z320) i5 (show 0 ≤ z320 ∧ z320 < 60 by omega) (fun (z350 : Int) (q351 : z350 = aN S1 z320 7 ∧ 0 ≤ z350 ∧ z350 ≤ 6000) => ?_)
              refine c_at7 (n := b) i5 (show 0 ≤ b ∧ b < 60 by omega) (fun (z352 : Int) (q353 : z352 = aN S1 b 7 ∧ 0 ≤ z352 ∧ z352 ≤ 6000) => ?_)
              refine c_StubHouseModel_isNearer (a := z350) (b := z352) (show -2147483648 ≤ z350 ∧ z350 < 2147483648 by omega) (show -2147483648 ≤ z352 ∧ z352 < 2147483648 by omega) (fun (z354 : Int) (q355 : 0 ≤ z354 ∧ z354 ≤ 1) => ?_)
              refine And.intro (fun (h356 : (z354 = (0 : Int) : Prop)) => ?_) (fun (h356 : (z354 ≠ (0 : Int) : Prop)) => ?_)
              ·
                refine And.intro (by decide) ?_
                refine And.intro (by decide) (And.intro (show -2147483648 ≤ j + (1 : Int) ∧ j + (1 : Int) < 2147483648 by omega) ?_)
                exact ih b z342 o (j + (1 : Int)) S1 hf (by omega) (by omega) (by omega) (by omega) (by omega) i5 i6 i7 i8 i9 i10 i11 i12 i13 (by omega)
              ·
                refine And.intro (by decide) ?_
                refine And.intro (by decide) (And.intro (show -2147483648 ≤ j + (1 : Int) ∧ j + (1 : Int) < 2147483648 by omega) ?_)
                exact ih z320 z342 o (j + (1 : Int)) S1 hf (by omega) (by omega) (by omega) (by omega) (by omega) i5 i6 i7 i8 i9 i10 i11 i12 i13 (by omega)
theorem c_StubHouseModel_readerBegins {l : Launch} {k : fxK} {S : fxS}  (p0 : COL S) (p1 : WTM S) (p2 : INJ S) (p3 : AON S) (p4 : USE S) (p5 : SNP S) (p6 : REC S) (p7 : SGM S) (p8 : WNW S) (p9 : S 72 0 1 = 0) (hk : ∀ (S' : fxS) , (fxfr [(49, 7), (49, 39), (49, 40), (49, 41), (49, 55), (50, 9999), (53, 9999), (55, 9999), (56, 9999), (58, 9999), (63, 9999), (64, 9999), (65, 9999), (66, 9999), (67, 9999), (70, 9999), (71, 9999), (72, 9999), (73, 9999), (74, 9999)] S S' ∧ (S' 72 0 1 ≠ 5 ∧ (S' 72 0 1 = 4 → 0 ≤ S' 70 0 1)) ∧ (COL S') ∧ (WTM S') ∧ (INJ S') ∧ (AON S') ∧ (USE S') ∧ (SNP S') ∧ (REC S') ∧ (SGM S') ∧ (WNW S')) → k none S') : fC l 265 [.inr (.inr (49, 0))] S k := by
  refine fxe_265 (Nat.le_of_ble_eq_true rfl) (fxz_265 400 ?_)
  refine And.intro (by decide) ?_
  refine And.intro (by decide) ?_
  refine And.intro (show 0 ≤ (1 : Int) ∧ (1 : Int) < 2 by omega) ?_
  intro z359 (z359a : (-2 : Int) ≤ z359) (z359b : z359 ≤ (5 : Int)) (z359c : z359 = S 70 0 1)
  refine And.intro (by decide) ?_
  refine And.intro (by decide) ?_
  exact (z_StubHouseModel_readerBegins p0 p1 p2 p3 p4 p5 p6 p7 p8 p9 hk (61 - (0 : Int)).toNat) (-2 : Int) (-2 : Int) z359 (0 : Int) S fxfr_rfl (by omega) (by omega) (by omega) (by omega) (by omega) p0 p1 p2 p3 p4 p5 p6 p7 p8 (by omega)
theorem z_StubHouseModel_reclaimRead {l : Launch} {k : fxK} {S : fxS} {t : Int} (p0 : COL S) (p1 : SGM S) (p2 : 0 ≤ t ∧ t ≤ 5) (hk : ∀ (S' : fxS) , (fxfr [(49, 42), (49, 43), (49, 45), (49, 46), (49, 47), (49, 48), (65, 9999), (66, 9999), (67, 9999), (77, 9999)] S S' ∧ (SGM S')) → k none S') : ∀ m : Nat, (∀ (i : Int) (S1 : fxS), (fxfr [(49, 42), (49, 43), (49, 45), (49, 46), (49, 47), (49, 48), (65, 9999), (66, 9999), (67, 9999), (77, 9999)] S S1) → (0 ≤ i ∧ i ≤ 285) → (S1 67 0 (t).toNat = 1) → (COL S1) → (SGM S1) → (300 - i) * 2000 + 1999 ≤ (m : Int) → fZ l 278 k 24 [some (.inr (.inr (49, 0))), some (.inl t), some (.inl i), none] [] S1) ∧ (∀ (i j : Int) (S1 : fxS), (fxfr [(49, 42), (49, 43), (49, 45), (49, 46), (49, 47), (49, 48), (65, 9999), (66, 9999), (67, 9999), (77, 9999)] S S1) → (0 ≤ i ∧ i < 285) → (S1 67 0 (t).toNat = 1) → (0 ≤ S1 49 0 41 ∧ S1 49 0 41 + S1 49 0 45 ≤ 6000) → (0 ≤ j ∧ j ≤ 1089) → (COL S1) → (SGM S1) → (300 - i) * 2000 + 1100 - j ≤ (m : Int) → fZ l 278 k 120 [some (.inr (.inr (49, 0))), some (.inl t), some (.inl i), some (.inl j)] [] S1) := by
  intro m
  induction m with
  | zero =>
    refine ⟨?_, ?_⟩
    · intro i S1 hf i0 i1 i2 i3 hmu
      exfalso
      omega
    · intro i j S1 hf i0 i1 i2 i3 i4 i5 hmu
      exfalso
      omega
  | succ m ih =>
    refine ⟨?_, ?_⟩
    · intro i S1 hf i0 i1 i2 i3 hmu
      refine fxz_278 400 ?_
      refine And.intro (show 0 ≤ t ∧ t < 6 by omega) ?_
      intro z1 (z1a : (0 : Int) ≤ z1) (z1b : z1 ≤ (285 : Int)) (z1c : z1 = S1 66 0 (t).toNat)
      refine And.intro (fun (h2 : (z1 ≤ i : Prop)) => ?_) (fun (h2 : (i < z1 : Prop)) => ?_)
      ·
        exact hk S1 ⟨hf, i3⟩
      ·
        refine c_StubHouseModel_seg (t := t) (i := i) (w := (0 : Int)) (show 0 ≤ t ∧ t ≤ 5 by omega) (show 0 ≤ i ∧ i < 300 by omega) (show 0 ≤ (0 : Int) ∧ (0 : Int) < 8 by omega) (fun (z3 : Int) (q4 : z3 = sgN S1 (300 * t + i) (0 : Int) ∧ -2147483648 ≤ z3 ∧ z3 < 2147483648) => ?_)
        intro z5 (z5a : (0 : Int) ≤ z5) (z5b : z5 ≤ (6000 : Int)) (z5c : z5 = S1 49 0 41)
        refine And.intro (fun (h6 : (z3 ≠ z5 : Prop)) => ?_) (fun (h6 : (z3 = z5 : Prop)) => ?_)
        ·
          refine And.intro (by decide) (And.intro (show -2147483648 ≤ i + (1 : Int) ∧ i + (1 : Int) < 2147483648 by omega) ?_)
          exact ih.1 (i + (1 : Int)) S1 hf (by omega) (by omega) i2 i3 (by omega)
        ·
          refine c_StubHouseModel_isLive (t := t) (i := i) i2 i3 (show 0 ≤ t ∧ t ≤ 5 by omega) (show 0 ≤ i ∧ i < 300 by omega) (fun (z8 : Int) (S9 : fxS) ⟨(f10 : fxfr [(65, 9999), (66, 9999), (67, 9999)] S1 S9), (q11 : 0 ≤ z8 ∧ z8 ≤ 1), (g12 : SGM S9), (g13 : KPA S1 S9)⟩ => ?_)
          have w14 : S9 49 0 41 = S1 49 0 41 := f10 49 0 41 rfl
          have w15 : S9 49 0 45 = S1 49 0 45 := f10 49 0 45 rfl
          have g16 : COL S9 := fx_pfr COL_stab f10 rfl i2
          have kp := (by assumption : KPA S1 S9) t (by omega) (by omega) (by omega)
          have k0 : sgN S9 (300 * t + i) 0 = sgN S1 (300 * t + i) 0 := kp.2 i 0 (by omega) (by omega) (by omega) (by omega)
          have k1 := kp.1
          have sg := SGM_at (t := t) (i := i) g12 (by omega) (by omega)
          refine And.intro (fun (h17 : (z8 = (0 : Int) : Prop)) => ?_) (fun (h17 : (z8 ≠ (0 : Int) : Prop)) => ?_)
          ·
            refine And.intro (by decide) (And.intro (show -2147483648 ≤ i + (1 : Int) ∧ i + (1 : Int) < 2147483648 by omega) ?_)
            exact ih.1 (i + (1 : Int)) S9 (fxfr_tr hf f10 rfl) (by omega) (by omega) g16 g12 (by omega)
          ·
            refine And.intro (show (0 : Int) ≤ (1 : Int) ∧ (1 : Int) ≤ (1 : Int) by omega) ?_
            have w19 : (fx_up S9 49 0 43 (1 : Int)) 49 0 41 = S9 49 0 41 := if_neg (fun q => absurd q.2.2 (by decide))
            have w20 : (fx_up S9 49 0 43 (1 : Int)) 49 0 45 = S9 49 0 45 := if_neg (fun q => absurd q.2.2 (by decide))
            have w21 : (fx_up S9 49 0 43 (1 : Int)) 67 0 (t).toNat = S9 67 0 (t).toNat := rfl
            have g22 : COL (fx_up S9 49 0 43 (1 : Int)) := fx_pup COL_stab rfl g16
            have g23 : SGM (fx_up S9 49 0 43 (1 : Int)) := fx_pup SGM_stab rfl g12
            refine c_StubHouseModel_seg (t := t) (i := i) (w := (1 : Int)) (show 0 ≤ t ∧ t ≤ 5 by omega) (show 0 ≤ i ∧ i < 300 by omega) (show 0 ≤ (1 : Int) ∧ (1 : Int) < 8 by omega) (fun (z24 : Int) (q25 : z24 = sgN S9 (300 * t + i) (1 : Int) ∧ -2147483648 ≤ z24 ∧ z24 < 2147483648) => ?_)
            refine And.intro (show (0 : Int) ≤ z24 ∧ z24 ≤ (2 : Int) by omega) ?_
            have w26 : (fx_up (fx_up S9 49 0 43 (1 : Int)) 49 0 46 z24) 49 0 41 = (fx_up S9 49 0 43 (1 : Int)) 49 0 41 := if_neg (fun q => absurd q.2.2 (by decide))
            have w27 : (fx_up (fx_up S9 49 0 43 (1 : Int)) 49 0 46 z24) 49 0 45 = (fx_up S9 49 0 43 (1 : Int)) 49 0 45 := if_neg (fun q => absurd q.2.2 (by decide))
            have w28 : (fx_up (fx_up S9 49 0 43 (1 : Int)) 49 0 46 z24) 67 0 (t).toNat = (fx_up S9 49 0 43 (1 : Int)) 67 0 (t).toNat := rfl
            have g29 : COL (fx_up (fx_up S9 49 0 43 (1 : Int)) 49 0 46 z24) := fx_pup COL_stab rfl g22
            have g30 : SGM (fx_up (fx_up S9 49 0 43 (1 : Int)) 49 0 46 z24) := fx_pup SGM_stab rfl g23
            refine c_StubHouseModel_seg (t := t) (i := i) (w := (2 : Int)) (show 0 ≤ t ∧ t ≤ 5 by omega) (show 0 ≤ i ∧ i < 300 by omega) (show 0 ≤ (2 : Int) ∧ (2 : Int) < 8 by omega) (fun (z31 : Int) (q32 : z31 = sgN S9 (300 * t + i) (2 : Int) ∧ -2147483648 ≤ z31 ∧ z31 < 2147483648) => ?_)
            refine And.intro (show (-2147483648 : Int) ≤ z31 ∧ z31 ≤ (2147483647 : Int) by omega) ?_
            have w33 : (fx_up (fx_up (fx_up S9 49 0 43 (1 : Int)) 49 0 46 z24) 49 0 47 z31) 49 0 41 = (fx_up (fx_up S9 49 0 43 (1 : Int)) 49 0 46 z24) 49 0 41 := if_neg (fun q => absurd q.2.2 (by decide))
            have w34 : (fx_up (fx_up (fx_up S9 49 0 43 (1 : Int)) 49 0 46 z24) 49 0 47 z31) 49 0 45 = (fx_up (fx_up S9 49 0 43 (1 : Int)) 49 0 46 z24) 49 0 45 := if_neg (fun q => absurd q.2.2 (by decide))
            have w35 : (fx_up (fx_up (fx_up S9 49 0 43 (1 : Int)) 49 0 46 z24) 49 0 47 z31) 67 0 (t).toNat = (fx_up (fx_up S9 49 0 43 (1 : Int)) 49 0 46 z24) 67 0 (t).toNat := rfl
            have g36 : COL (fx_up (fx_up (fx_up S9 49 0 43 (1 : Int)) 49 0 46 z24) 49 0 47 z31) := fx_pup COL_stab rfl g29
            have g37 : SGM (fx_up (fx_up (fx_up S9 49 0 43 (1 : Int)) 49 0 46 z24) 49 0 47 z31) := fx_pup SGM_stab rfl g30
            intro z38 (z38a : (0 : Int) ≤ z38) (z38b : z38 ≤ (6000 : Int)) (z38c : z38 = S9 49 0 41)
            refine And.intro (show (0 : Int) ≤ z38 ∧ z38 ≤ (6000 : Int) by omega) ?_
            have w39 : (fx_up (fx_up (fx_up (fx_up S9 49 0 43 (1 : Int)) 49 0 46 z24) 49 0 47 z31) 49 0 48 z38) 49 0 41 = (fx_up (fx_up (fx_up S9 49 0 43 (1 : Int)) 49 0 46 z24) 49 0 47 z31) 49 0 41 := if_neg (fun q => absurd q.2.2 (by decide))
            have w40 : (fx_up (fx_up (fx_up (fx_up S9 49 0 43 (1 : Int)) 49 0 46 z24) 49 0 47 z31) 49 0 48 z38) 49 0 45 = (fx_up (fx_up (fx_up S9 49 0 43 (1 : Int)) 49 0 46 z24) 49 0 47 z31) 49 0 45 := if_neg (fun q => absurd q.2.2 (by decide))
            have w41 : (fx_up (fx_up (fx_up (fx_up S9 49 0 43 (1 : Int)) 49 0 46 z24) 49 0 47 z31) 49 0 48 z38) 67 0 (t).toNat = (fx_up (fx_up (fx_up S9 49 0 43 (1 : Int)) 49 0 46 z24) 49 0 47 z31) 67 0 (t).toNat := rfl
            have g42 : COL (fx_up (fx_up (fx_up (fx_up S9 49 0 43 (1 : Int)) 49 0 46 z24) 49 0 47 z31) 49 0 48 z38) := fx_pup COL_stab rfl g36
            have g43 : SGM (fx_up (fx_up (fx_up (fx_up S9 49 0 43 (1 : Int)) 49 0 46 z24) 49 0 47 z31) 49 0 48 z38) := fx_pup SGM_stab rfl g37
            intro z44 (z44a : (0 : Int) ≤ z44) (z44b : z44 ≤ (2 : Int)) (z44c : z44 = z24)
            refine c_StubHouseModel_seg (t := t) (i := i) (w := (5 : Int)) (show 0 ≤ t ∧ t ≤ 5 by omega) (show 0 ≤ i ∧ i < 300 by omega) (show 0 ≤ (5 : Int) ∧ (5 : Int) < 8 by omega) (fun (z45 : Int) (q46 : z45 = sgN S9 (300 * t + i) (5 : Int) ∧ -2147483648 ≤ z45 ∧ z45 < 2147483648) => ?_)
            refine c_StubHouseModel_seg (t := t) (i := i) (w := (6 : Int)) (show 0 ≤ t ∧ t ≤ 5 by omega) (show 0 ≤ i ∧ i < 300 by omega) (show 0 ≤ (6 : Int) ∧ (6 : Int) < 8 by omega) (fun (z47 : Int) (q48 : z47 = sgN S9 (300 * t + i) (6 : Int) ∧ -2147483648 ≤ z47 ∧ z47 < 2147483648) => ?_)
            refine c_StubHouseModel_wholeSize (s := z44) (d := z45) (z := z47) (show 0 ≤ z45 ∧ z45 ≤ 255 by omega) (show 0 ≤ z47 ∧ z47 ≤ 65535 by omega) (show -2147483648 ≤ z44 ∧ z44 < 2147483648 by omega) (fun (z49 : Int) (q50 : (z44 = 1 → z49 = 25 + 8 * z45 + z47) ∧ (z44 ≠ 1 → z49 = 21 + 8 * z45)) => ?_)
            refine And.intro (show (0 : Int) ≤ z49 ∧ z49 ≤ (1089 : Int) by omega) ?_
            have w51 : (fx_up (fx_up (fx_up (fx_up (fx_up S9 49 0 43 (1 : Int)) 49 0 46 z24) 49 0 47 z31) 49 0 48 z38) 49 0 45 z49) 49 0 41 = (fx_up (fx_up (fx_up (fx_up S9 49 0 43 (1 : Int)) 49 0 46 z24) 49 0 47 z31) 49 0 48 z38) 49 0 41 := if_neg (fun q => absurd q.2.2 (by decide))
            have w52 : (fx_up (fx_up (fx_up (fx_up (fx_up S9 49 0 43 (1 : Int)) 49 0 46 z24) 49 0 47 z31) 49 0 48 z38) 49 0 45 z49) 49 0 45 = z49 := fx_up_at _ _ _ _ _
            have w53 : (fx_up (fx_up (fx_up (fx_up (fx_up S9 49 0 43 (1 : Int)) 49 0 46 z24) 49 0 47 z31) 49 0 48 z38) 49 0 45 z49) 67 0 (t).toNat = (fx_up (fx_up (fx_up (fx_up S9 49 0 43 (1 : Int)) 49 0 46 z24) 49 0 47 z31) 49 0 48 z38) 67 0 (t).toNat := rfl
            have g54 : COL (fx_up (fx_up (fx_up (fx_up (fx_up S9 49 0 43 (1 : Int)) 49 0 46 z24) 49 0 47 z31) 49 0 48 z38) 49 0 45 z49) := fx_pup COL_stab rfl g42
            have g55 : SGM (fx_up (fx_up (fx_up (fx_up (fx_up S9 49 0 43 (1 : Int)) 49 0 46 z24) 49 0 47 z31) 49 0 48 z38) 49 0 45 z49) := fx_pup SGM_stab rfl g43
            refine And.intro (by decide) ?_
            exact ih.2 i (0 : Int) (fx_up (fx_up (fx_up (fx_up (fx_up S9 49 0 43 (1 : Int)) 49 0 46 z24) 49 0 47 z31) 49 0 48 z38) 49 0 45 z49) (fxfr_up (fxfr_up (fxfr_up (fxfr_up (fxfr_up (fxfr_tr hf f10 rfl) rfl) rfl) rfl) rfl) rfl) (by omega) (by omega) (by omega) (by omega) g54 g55 (by omega)
    · intro i j S1 hf i0 i1 i2 i3 i4 i5 hmu
      refine fxz_278 400 ?_
      intro z56 (z56a : (0 : Int) ≤ z56) (z56b : z56 ≤ (1089 : Int)) (z56c : z56 = S1 49 0 45)
      refine And.intro (fun (h57 : (z56 ≤ j : Prop)) => ?_) (fun (h57 : (j < z56 : Prop)) => ?_)
      ·
        refine And.intro (by decide) (And.intro (show -2147483648 ≤ i + (1 : Int) ∧ i + (1 : Int) < 2147483648 by omega) ?_)
        exact ih.1 (i + (1 : Int)) S1 hf (by omega) (by omega) i4 i5 (by omega)
      ·
        refine And.intro (show -2147483648 ≤ ((6000 : Int) * t) ∧ ((6000 : Int) * t) < 2147483648 by omega) ?_
        intro z59 (z59a : (0 : Int) ≤ z59) (z59b : z59 ≤ (6000 : Int)) (z59c : z59 = S1 49 0 41)
        refine And.intro (show -2147483648 ≤ (((6000 : Int) * t) + z59) ∧ (((6000 : Int) * t) + z59) < 2147483648 by omega) ?_
        refine And.intro (show -2147483648 ≤ ((((6000 : Int) * t) + z59) + j) ∧ ((((6000 : Int) * t) + z59) + j) < 2147483648 by omega) ?_
        refine And.intro (show 0 ≤ ((((6000 : Int) * t) + z59) + j) ∧ ((((6000 : Int) * t) + z59) + j) < 36000 by omega) ?_
        intro z60 (z60a : (-128 : Int) ≤ z60) (z60b : z60 ≤ (127 : Int)) (z60c : z60 = S1 62 0 (((((6000 : Int) * t) + z59) + j)).toNat)
        refine And.intro (show 0 ≤ j ∧ j < 1200 by omega) ?_
        intro z61 z61a z61b z61c
        have w62 : (fx_up S1 77 0 (j).toNat z61) 49 0 41 = S1 49 0 41 := rfl
        have w63 : (fx_up S1 77 0 (j).toNat z61) 49 0 45 = S1 49 0 45 := rfl
        have w64 : (fx_up S1 77 0 (j).toNat z61) 67 0 (t).toNat = S1 67 0 (t).toNat := rfl
        have g65 : COL (fx_up S1 77 0 (j).toNat z61) := fx_pup COL_stab rfl i4
        have g66 : SGM (fx_up S1 77 0 (j).toNat z61) := fx_pup SGM_stab rfl i5
        refine And.intro (by decide) (And.intro (show -2147483648 ≤ j + (1 : Int) ∧ j + (1 : Int) < 2147483648 by omega) ?_)
        exact ih.2 i (j + (1 : Int)) (fx_up S1 77 0 (j).toNat z61) (fxfr_up hf rfl) (by omega) (by omega) (by omega) (by omega) g65 g66 (by omega)
theorem c_StubHouseModel_reclaimRead {l : Launch} {k : fxK} {S : fxS} {t : Int} (p0 : COL S) (p1 : SGM S) (p2 : 0 ≤ t ∧ t ≤ 5) (hk : ∀ (S' : fxS) , (fxfr [(49, 42), (49, 43), (49, 45), (49, 46), (49, 47), (49, 48), (65, 9999), (66, 9999), (67, 9999), (77, 9999)] S S' ∧ (SGM S')) → k none S') : fC l 278 [.inr (.inr (49, 0)), .inl t] S k := by
  refine fxe_278 (Nat.le_of_ble_eq_true rfl) (fxz_278 400 ?_)
  refine c_StubHouseModel_scan (t := t) p1 (show 0 ≤ t ∧ t ≤ 5 by omega) (fun (S68 : fxS) ⟨(f69 : fxfr [(65, 9999), (66, 9999), (67, 9999)] S S68), (q70 : S68 67 0 (t).toNat = 1), (g71 : SGM S68), (g72 : KPA S S68)⟩ => ?_)
  have w73 : S68 49 0 41 = S 49 0 41 := f69 49 0 41 rfl
  have w74 : S68 49 0 45 = S 49 0 45 := f69 49 0 45 rfl
  have g75 : COL S68 := fx_pfr COL_stab f69 rfl p0
  intro z76 (z76a : (0 : Int) ≤ z76) (z76b : z76 ≤ (6000 : Int)) (z76c : z76 = S68 49 0 41)
  refine And.intro (show (0 : Int) ≤ z76 ∧ z76 ≤ (6000 : Int) by omega) ?_
  have w77 : (fx_up S68 49 0 42 z76) 49 0 41 = S68 49 0 41 := if_neg (fun q => absurd q.2.2 (by decide))
  have w78 : (fx_up S68 49 0 42 z76) 49 0 45 = S68 49 0 45 := if_neg (fun q => absurd q.2.2 (by decide))
  have w79 : (fx_up S68 49 0 42 z76) 67 0 (t).toNat = S68 67 0 (t).toNat := rfl
  have g80 : COL (fx_up S68 49 0 42 z76) := fx_pup COL_stab rfl g75
  have g81 : SGM (fx_up S68 49 0 42 z76) := fx_pup SGM_stab rfl g71
  intro z82 (z82a : (-2 : Int) ≤ z82) (z82b : z82 ≤ (5 : Int)) (z82c : z82 = S68 49 0 39)
  refine And.intro (fun (h83 : (z82 = t : Prop)) => ?_) (fun (h83 : (z82 ≠ t : Prop)) => ?_)
  ·
    refine And.intro (by decide) ?_
    exact (z_StubHouseModel_reclaimRead p0 p1 p2 hk ((300 - (0 : Int)) * 2000 + 1999).toNat).1 (0 : Int) (fx_up S68 49 0 42 z76) (fxfr_up (fxfr_tr fxfr_rfl f69 rfl) rfl) (by omega) (by omega) g80 g81 (by omega)
  ·
    exact hk (fx_up S68 49 0 42 z76) ⟨(fxfr_up (fxfr_tr fxfr_rfl f69 rfl) rfl), g81⟩
theorem z_StubHouseModel_readDone {l : Launch} {k : fxK} {S : fxS}  (p0 : COL S) (p1 : WTM S) (p2 : INJ S) (p3 : AON S) (p4 : USE S) (p5 : SNP S) (p6 : REC S) (p7 : SGM S) (p8 : 0 ≤ S 70 0 1) (hk : ∀ (S' : fxS) , (fxfr [(49, 7), (49, 42), (49, 43), (49, 45), (49, 46), (49, 47), (49, 48), (50, 9999), (52, 9999), (53, 9999), (55, 9999), (56, 9999), (57, 9999), (58, 9999), (65, 9999), (66, 9999), (67, 9999), (71, 9999), (77, 9999)] S S' ∧ (COL S') ∧ (WTM S') ∧ (INJ S') ∧ (AON S') ∧ (USE S') ∧ (SNP S') ∧ (REC S') ∧ (SGM S')) → k none S') : ∀ m : Nat, (∀ (t f c b p j : Int) (S1 : fxS), (fxfr [(49, 7), (49, 42), (49, 43), (49, 45), (49, 46), (49, 47), (49, 48), (50, 9999), (52, 9999), (53, 9999), (55, 9999), (56, 9999), (57, 9999), (58, 9999), (65, 9999), (66, 9999), (67, 9999), (71, 9999), (77, 9999)] S S1) → (0 ≤ t ∧ t ≤ 5) → (0 ≤ f ∧ f < 60) → (c = (aN S1 f 3 + 31) / 32 ∧ 0 ≤ aN S1 f 3 ∧ aN S1 f 3 ≤ 1024) → (0 ≤ b ∧ b ≤ 1) → ((b = 1 → c - j ≤ fcn (S1 56 0) 0 48) ∧ (b = 0 → c - j ≤ fcn (S1 56 0) 48 160)) → (0 ≤ p ∧ p + aN S1 f 3 ≤ 6000) → (0 ≤ j ∧ j ≤ c) → (aN S1 f 0 = 2) → (0 ≤ S1 49 0 7 ∧ S1 49 0 7 ≤ 199) → (COL S1) → (WTM S1) → (INJ S1) → (USE S1) → (SNP S1) → (REC S1) → (SGM S1) → (AONX f (32 * j) S1) → (100 - j) * 100 + 99 ≤ (m : Int) → fZ l 280 k 176 [some (.inr (.inr (49, 0))), some (.inl t), some (.inl f), none, none, some (.inl c), some (.inl b), some (.inl p), some (.inl j), none, none] [] S1) ∧ (∀ (t f c b p j x y : Int) (S1 : fxS), (fxfr [(49, 7), (49, 42), (49, 43), (49, 45), (49, 46), (49, 47), (49, 48), (50, 9999), (52, 9999), (53, 9999), (55, 9999), (56, 9999), (57, 9999), (58, 9999), (65, 9999), (66, 9999), (67, 9999), (71, 9999), (77, 9999)] S S1) → (0 ≤ t ∧ t ≤ 5) → (0 ≤ f ∧ f < 60) → (c = (aN S1 f 3 + 31) / 32 ∧ 0 ≤ aN S1 f 3 ∧ aN S1 f 3 ≤ 1024) → (0 ≤ b ∧ b ≤ 1) → ((b = 1 → c - j - 1 ≤ fcn (S1 56 0) 0 48) ∧ (b = 0 → c - j - 1 ≤ fcn (S1 56 0) 48 160)) → (0 ≤ p ∧ p + aN S1 f 3 ≤ 6000) → (0 ≤ j ∧ j < c) → (aN S1 f 0 = 2) → (0 ≤ S1 49 0 7 ∧ S1 49 0 7 ≤ 199) → (0 ≤ x ∧ x < 208) → (0 ≤ y ∧ y ≤ 32) → (COL S1) → (WTM S1) → (INJ S1) → (USE S1) → (SNP S1) → (REC S1) → (SGM S1) → (AONX f (32 * (j + (1 : Int))) S1) → (100 - j) * 100 + 50 - y ≤ (m : Int) → fZ l 280 k 224 [some (.inr (.inr (49, 0))), some (.inl t), some (.inl f), none, none, some (.inl c), some (.inl b), some (.inl p), some (.inl j), some (.inl x), some (.inl y)] [] S1) := by
  intro m
  induction m with
  | zero =>
    refine ⟨?_, ?_⟩
    · intro t f c b p j S1 hf i0 i1 i2 i3 i4 i5 i6 i7 i8 i9 i10 i11 i12 i13 i14 i15 i16 hmu
      exfalso
      omega
    · intro t f c b p j x y S1 hf i0 i1 i2 i3 i4 i5 i6 i7 i8 i9 i10 i11 i12 i13 i14 i15 i16 i17 i18 hmu
      exfalso
      omega
  | succ m ih =>
    refine ⟨?_, ?_⟩
    · intro t f c b p j S1 hf i0 i1 i2 i3 i4 i5 i6 i7 i8 i9 i10 i11 i12 i13 i14 i15 i16 hmu
      refine fxz_280 400 ?_
      refine And.intro (fun (h1 : (c ≤ j : Prop)) => ?_) (fun (h1 : (j < c : Prop)) => ?_)
      ·
        intro z2 (z2a : (-2147483648 : Int) ≤ z2) (z2b : z2 ≤ (2147483647 : Int)) (z2c : z2 = S1 49 0 11)
        refine And.intro (show 0 ≤ f ∧ f < 60 by omega) ?_
        refine And.intro (show (-2147483648 : Int) ≤ z2 ∧ z2 ≤ (2147483647 : Int) by omega) ?_
        have w3 : fcn ((fx_up S1 52 0 (f).toNat z2) 56 0) 0 48 = fcn (S1 56 0) 0 48 := rfl
        have w4 : fcn ((fx_up S1 52 0 (f).toNat z2) 56 0) 48 160 = fcn (S1 56 0) 48 160 := rfl
        have w5 : aN (fx_up S1 52 0 (f).toNat z2) f (0 : Int) = aN S1 f (0 : Int) := (aN_o rfl)
        have w6 : aN (fx_up S1 52 0 (f).toNat z2) f (3 : Int) = aN S1 f (3 : Int) := (aN_o rfl)
        have w7 : (fx_up S1 52 0 (f).toNat z2) 70 0 1 = S1 70 0 1 := rfl
        have w8 : (fx_up S1 52 0 (f).toNat z2) 49 0 41 = S1 49 0 41 := rfl
        have w9 : (fx_up S1 52 0 (f).toNat z2) 49 0 7 = S1 49 0 7 := rfl
        have g10 : COL (fx_up S1 52 0 (f).toNat z2) := fx_pup COL_stab rfl i9
        have g11 : WTM (fx_up S1 52 0 (f).toNat z2) := fx_pup WTM_stab rfl i10
        have g12 : INJ (fx_up S1 52 0 (f).toNat z2) := fx_pup INJ_stab rfl i11
        have g13 : USE (fx_up S1 52 0 (f).toNat z2) := fx_pup USE_stab rfl i12
        have g14 : SNP (fx_up S1 52 0 (f).toNat z2) := fx_pup SNP_stab rfl i13
        have g15 : REC (fx_up S1 52 0 (f).toNat z2) := fx_pup REC_stab rfl i14
        have g16 : SGM (fx_up S1 52 0 (f).toNat z2) := fx_pup SGM_stab rfl i15
        have g17 : AONX f (32 * j) (fx_up S1 52 0 (f).toNat z2) := fx_pup AONX_stab rfl i16
        have ao : AON (fx_up S1 52 0 (f).toNat z2) := AONX_end g17 (by omega)
        refine And.intro (show -2147483648 ≤ ((4 : Int) * c) ∧ ((4 : Int) * c) < 2147483648 by omega) ?_
        refine And.intro (show -2147483648 ≤ ((8 : Int) + ((4 : Int) * c)) ∧ ((8 : Int) + ((4 : Int) * c)) < 2147483648 by omega) ?_
        refine c_StubHouseModel_record (e := ((8 : Int) + ((4 : Int) * c))) g10 g11 g12 ao g14 (show S1 49 0 7 ≤ 199 by omega) (show 0 ≤ ((8 : Int) + ((4 : Int) * c)) ∧ ((8 : Int) + ((4 : Int) * c)) ≤ 1000 by omega) (fun (S18 : fxS) ⟨(f19 : fxfr [(49, 7), (53, 9999), (55, 9999)] (fx_up S1 52 0 (f).toNat z2) S18), (g20 : SNP S18)⟩ => ?_)
        have w21 : aN S18 f (0 : Int) = aN S1 f (0 : Int) := (aN_fr f19 rfl).trans (aN_o rfl)
        have w22 : aN S18 f (3 : Int) = aN S1 f (3 : Int) := (aN_fr f19 rfl).trans (aN_o rfl)
        have w23 : S18 70 0 1 = (fx_up S1 52 0 (f).toNat z2) 70 0 1 := f19 70 0 1 rfl
        have w24 : S18 49 0 41 = (fx_up S1 52 0 (f).toNat z2) 49 0 41 := f19 49 0 41 rfl
        have g25 : COL S18 := fx_pfr COL_stab f19 rfl g10
        have g26 : WTM S18 := fx_pfr WTM_stab f19 rfl g11
        have g27 : INJ S18 := fx_pfr INJ_stab f19 rfl g12
        have g28 : USE S18 := fx_pfr USE_stab f19 rfl g13
        have g29 : REC S18 := fx_pfr REC_stab f19 rfl g15
        have g30 : SGM S18 := fx_pfr SGM_stab f19 rfl g16
        have g31 : AONX f (32 * j) S18 := fx_pfr AONX_stab f19 rfl g17
        have g32 : AON S18 := fx_pfr AON_stab f19 rfl ao
        exact hk S18 ⟨(fxfr_tr (fxfr_up hf rfl) f19 rfl), g25, g26, g27, g32, g28, g20, g29, g30⟩
      ·
        refine And.intro (fun (h33 : (b = (0 : Int) : Prop)) => ?_) (fun (h33 : (b ≠ (0 : Int) : Prop)) => ?_)
        ·
          refine c_give_48_208  i12 (fun (z34 : Int) (S35 : fxS) ⟨(f36 : fxfr [(56, 9999)] S1 S35), (q37 : -2 ≤ z34 ∧ z34 < 208 ∧ z34 ≠ -1 ∧ (0 ≤ z34 → 48 ≤ z34 ∧ S1 56 0 (z34).toNat = 0) ∧ (z34 < 0 → fcn (S1 56 0) 48 160 ≤ 0)), (g38 : USE S35), (g39 : UP1 z34 S1 S35)⟩ => ?_)
          have w40 : aN S35 f (0 : Int) = aN S1 f (0 : Int) := (aN_fr f36 rfl)
          have w41 : aN S35 f (3 : Int) = aN S1 f (3 : Int) := (aN_fr f36 rfl)
          have w42 : S35 70 0 1 = S1 70 0 1 := f36 70 0 1 rfl
          have w43 : S35 49 0 41 = S1 49 0 41 := f36 49 0 41 rfl
          have w44 : S35 49 0 7 = S1 49 0 7 := f36 49 0 7 rfl
          have g45 : COL S35 := fx_pfr COL_stab f36 rfl i9
          have g46 : WTM S35 := fx_pfr WTM_stab f36 rfl i10
          have g47 : INJ S35 := fx_pfr INJ_stab f36 rfl i11
          have g48 : SNP S35 := fx_pfr SNP_stab f36 rfl i13
          have g49 : REC S35 := fx_pfr REC_stab f36 rfl i14
          have g50 : SGM S35 := fx_pfr SGM_stab f36 rfl i15
          have g51 : AONX f (32 * j) S35 := fx_pfr AONX_stab f36 rfl i16
          have nl : NLB z34 S35 := fx_pfr NLB_stab f36 rfl (NLB_of i12 (by omega))
          have u1 : UP1 z34 S1 S35 := by assumption
          have fc : fcn (S35 56 0) 48 160 = fcn (S1 56 0) 48 160 - 1 := UP1_fcn u1 (by omega) (by omega) (by omega)
          refine And.intro (by decide) ?_
          refine And.intro (show -2147483648 ≤ ((10 : Int) + j) ∧ ((10 : Int) + j) < 2147483648 by omega) ?_
          refine c_set (n := f) (w := ((10 : Int) + j)) (v := z34) (show 0 ≤ f ∧ f < 60 by omega) (show 0 ≤ ((10 : Int) + j) ∧ ((10 : Int) + j) < 42 by omega) (show -2147483648 ≤ z34 ∧ z34 < 2147483648 by omega) ?_
          have w52 : fcn ((fx_up S35 50 0 (42 * f + ((10 : Int) + j)).toNat z34) 56 0) 0 48 = fcn (S35 56 0) 0 48 := rfl
          have w53 : fcn ((fx_up S35 50 0 (42 * f + ((10 : Int) + j)).toNat z34) 56 0) 48 160 = fcn (S35 56 0) 48 160 := rfl
          have w54 : (fx_up S35 50 0 (42 * f + ((10 : Int) + j)).toNat z34) 70 0 1 = S35 70 0 1 := rfl
          have w55 : (fx_up S35 50 0 (42 * f + ((10 : Int) + j)).toNat z34) 49 0 41 = S35 49 0 41 := rfl
          have w56 : (fx_up S35 50 0 (42 * f + ((10 : Int) + j)).toNat z34) 49 0 7 = S35 49 0 7 := rfl
          have w57 : aN (fx_up S35 50 0 (42 * f + ((10 : Int) + j)).toNat z34) f (0 : Int) = aN S35 f (0 : Int) := (aN_ne (S := S35) (by omega) (by omega) (by omega))
          have w58 : aN (fx_up S35 50 0 (42 * f + ((10 : Int) + j)).toNat z34) f (3 : Int) = aN S35 f (3 : Int) := (aN_ne (S := S35) (by omega) (by omega) (by omega))
          have g59 : COL (fx_up S35 50 0 (42 * f + ((10 : Int) + j)).toNat z34) := COL_set g45 (by omega) (by omega) (by omega)
          have g60 : WTM (fx_up S35 50 0 (42 * f + ((10 : Int) + j)).toNat z34) := WTM_set g46 (by omega) (by omega)
          have g61 : SNP (fx_up S35 50 0 (42 * f + ((10 : Int) + j)).toNat z34) := fx_pup SNP_stab rfl g48
          have g62 : REC (fx_up S35 50 0 (42 * f + ((10 : Int) + j)).toNat z34) := REC_set g49 (by omega) (by omega)
          have g63 : SGM (fx_up S35 50 0 (42 * f + ((10 : Int) + j)).toNat z34) := fx_pup SGM_stab rfl g50
          have g64 : UP1 z34 S1 (fx_up S35 50 0 (42 * f + ((10 : Int) + j)).toNat z34) := fx_pup UP1_stab rfl u1
          have ij : INJ (fx_up S35 50 0 (42 * f + ((10 : Int) + j)).toNat z34) := INJ_rnw g47 nl (by omega) (by omega)
          have us : USE (fx_up S35 50 0 (42 * f + ((10 : Int) + j)).toNat z34) := USE_rnw g38 (u1.2 (by omega)) (by omega) (by omega)
          have ax : AONX f (32 * (j + (1 : Int))) (fx_up S35 50 0 (42 * f + ((10 : Int) + j)).toNat z34) := AONX_in g51 (by omega) (by omega) (by omega)
          refine And.intro (by decide) ?_
          exact ih.2 t f c b p j z34 (0 : Int) (fx_up S35 50 0 (42 * f + ((10 : Int) + j)).toNat z34) (fxfr_up (fxfr_tr hf f36 rfl) rfl) (by omega) (by omega) (by omega) (by omega) (by omega) (by omega) (by omega) (by omega) (by omega) (by omega) (by omega) g59 g60 ij us g61 g62 g63 ax (by omega)
        ·
          refine c_give_0_48  i12 (fun (z65 : Int) (S66 : fxS) ⟨(f67 : fxfr [(56, 9999)] S1 S66), (q68 : -2 ≤ z65 ∧ z65 < 48 ∧ z65 ≠ -1 ∧ (0 ≤ z65 → 0 ≤ z65 ∧ S1 56 0 (z65).toNat = 0) ∧ (z65 < 0 → fcn (S1 56 0) 0 48 ≤ 0)), (g69 : USE S66), (g70 : UP1 z65 S1 S66)⟩ => ?_)
          have w71 : aN S66 f (0 : Int) = aN S1 f (0 : Int) := (aN_fr f67 rfl)
          have w72 : aN S66 f (3 : Int) = aN S1 f (3 : Int) := (aN_fr f67 rfl)
          have w73 : S66 70 0 1 = S1 70 0 1 := f67 70 0 1 rfl
          have w74 : S66 49 0 41 = S1 49 0 41 := f67 49 0 41 rfl
          have w75 : S66 49 0 7 = S1 49 0 7 := f67 49 0 7 rfl
          have g76 : COL S66 := fx_pfr COL_stab f67 rfl i9
          have g77 : WTM S66 := fx_pfr WTM_stab f67 rfl i10
          have g78 : INJ S66 := fx_pfr INJ_stab f67 rfl i11
          have g79 : SNP S66 := fx_pfr SNP_stab f67 rfl i13
          have g80 : REC S66 := fx_pfr REC_stab f67 rfl i14
          have g81 : SGM S66 := fx_pfr SGM_stab f67 rfl i15
          have g82 : AONX f (32 * j) S66 := fx_pfr AONX_stab f67 rfl i16
          have nl : NLB z65 S66 := fx_pfr NLB_stab f67 rfl (NLB_of i12 (by omega))
          have u1 : UP1 z65 S1 S66 := by assumption
          have fc : fcn (S66 56 0) 0 48 = fcn (S1 56 0) 0 48 - 1 := UP1_fcn u1 (by omega) (by omega) (by omega)
          refine And.intro (by decide) ?_
          refine And.intro (show -2147483648 ≤ ((10 : Int) + j) ∧ ((10 : Int) + j) < 2147483648 by omega) ?_
          refine c_set (n := f) (w := ((10 : Int) + j)) (v := z65) (show 0 ≤ f ∧ f < 60 by omega) (show 0 ≤ ((10 : Int) + j) ∧ ((10 : Int) + j) < 42 by omega) (show -2147483648 ≤ z65 ∧ z65 < 2147483648 by omega) ?_
          have w83 : fcn ((fx_up S66 50 0 (42 * f + ((10 : Int) + j)).toNat z65) 56 0) 0 48 = fcn (S66 56 0) 0 48 := rfl
          have w84 : fcn ((fx_up S66 50 0 (42 * f + ((10 : Int) + j)).toNat z65) 56 0) 48 160 = fcn (S66 56 0) 48 160 := rfl
          have w85 : (fx_up S66 50 0 (42 * f + ((10 : Int) + j)).toNat z65) 70 0 1 = S66 70 0 1 := rfl
          have w86 : (fx_up S66 50 0 (42 * f + ((10 : Int) + j)).toNat z65) 49 0 41 = S66 49 0 41 := rfl
          have w87 : (fx_up S66 50 0 (42 * f + ((10 : Int) + j)).toNat z65) 49 0 7 = S66 49 0 7 := rfl
          have w88 : aN (fx_up S66 50 0 (42 * f + ((10 : Int) + j)).toNat z65) f (0 : Int) = aN S66 f (0 : Int) := (aN_ne (S := S66) (by omega) (by omega) (by omega))
          have w89 : aN (fx_up S66 50 0 (42 * f + ((10 : Int) + j)).toNat z65) f (3 : Int) = aN S66 f (3 : Int) := (aN_ne (S := S66) (by omega) (by omega) (by omega))
          have g90 : COL (fx_up S66 50 0 (42 * f + ((10 : Int) + j)).toNat z65) := COL_set g76 (by omega) (by omega) (by omega)
          have g91 : WTM (fx_up S66 50 0 (42 * f + ((10 : Int) + j)).toNat z65) := WTM_set g77 (by omega) (by omega)
          have g92 : SNP (fx_up S66 50 0 (42 * f + ((10 : Int) + j)).toNat z65) := fx_pup SNP_stab rfl g79
          have g93 : REC (fx_up S66 50 0 (42 * f + ((10 : Int) + j)).toNat z65) := REC_set g80 (by omega) (by omega)
          have g94 : SGM (fx_up S66 50 0 (42 * f + ((10 : Int) + j)).toNat z65) := fx_pup SGM_stab rfl g81
          have g95 : UP1 z65 S1 (fx_up S66 50 0 (42 * f + ((10 : Int) + j)).toNat z65) := fx_pup UP1_stab rfl u1
          have ij : INJ (fx_up S66 50 0 (42 * f + ((10 : Int) + j)).toNat z65) := INJ_rnw g78 nl (by omega) (by omega)
          have us : USE (fx_up S66 50 0 (42 * f + ((10 : Int) + j)).toNat z65) := USE_rnw g69 (u1.2 (by omega)) (by omega) (by omega)
          have ax : AONX f (32 * (j + (1 : Int))) (fx_up S66 50 0 (42 * f + ((10 : Int) + j)).toNat z65) := AONX_in g82 (by omega) (by omega) (by omega)
          refine And.intro (by decide) ?_
          exact ih.2 t f c b p j z65 (0 : Int) (fx_up S66 50 0 (42 * f + ((10 : Int) + j)).toNat z65) (fxfr_up (fxfr_tr hf f67 rfl) rfl) (by omega) (by omega) (by omega) (by omega) (by omega) (by omega) (by omega) (by omega) (by omega) (by omega) (by omega) g90 g91 ij us g92 g93 g94 ax (by omega)
    · intro t f c b p j x y S1 hf i0 i1 i2 i3 i4 i5 i6 i7 i8 i9 i10 i11 i12 i13 i14 i15 i16 i17 i18 hmu
      refine fxz_280 400 ?_
      refine And.intro (fun (h96 : ((32 : Int) ≤ y : Prop)) => ?_) (fun (h96 : (y < (32 : Int) : Prop)) => ?_)
      ·
        refine And.intro (by decide) (And.intro (show -2147483648 ≤ j + (1 : Int) ∧ j + (1 : Int) < 2147483648 by omega) ?_)
        exact ih.1 t f c b p (j + (1 : Int)) S1 hf (by omega) (by omega) (by omega) (by omega) (by omega) (by omega) (by omega) (by omega) (by omega) i11 i12 i13 i14 i15 i16 i17 i18 (by omega)
      ·
        refine And.intro (show -2147483648 ≤ ((32 : Int) * x) ∧ ((32 : Int) * x) < 2147483648 by omega) ?_
        refine And.intro (show -2147483648 ≤ (((32 : Int) * x) + y) ∧ (((32 : Int) * x) + y) < 2147483648 by omega) ?_
        refine And.intro (show -2147483648 ≤ ((32 : Int) * j) ∧ ((32 : Int) * j) < 2147483648 by omega) ?_
        refine And.intro (show -2147483648 ≤ (((32 : Int) * j) + y) ∧ (((32 : Int) * j) + y) < 2147483648 by omega) ?_
        refine c_at3 (n := f) i11 (show 0 ≤ f ∧ f < 60 by omega) (fun (z98 : Int) (q99 : z98 = aN S1 f 3 ∧ 0 ≤ z98 ∧ z98 ≤ 1024) => ?_)
        refine And.intro (fun (h100 : (z98 ≤ (((32 : Int) * j) + y) : Prop)) => ?_) (fun (h100 : ((((32 : Int) * j) + y) < z98 : Prop)) => ?_)
        ·
          refine And.intro (show 0 ≤ (((32 : Int) * x) + y) ∧ (((32 : Int) * x) + y) < 6656 by omega) ?_
          intro z101 z101a z101b z101c
          have w102 : fcn ((fx_up S1 57 0 ((((32 : Int) * x) + y)).toNat z101) 56 0) 0 48 = fcn (S1 56 0) 0 48 := rfl
          have w103 : fcn ((fx_up S1 57 0 ((((32 : Int) * x) + y)).toNat z101) 56 0) 48 160 = fcn (S1 56 0) 48 160 := rfl
          have w104 : aN (fx_up S1 57 0 ((((32 : Int) * x) + y)).toNat z101) f (0 : Int) = aN S1 f (0 : Int) := (aN_o rfl)
          have w105 : aN (fx_up S1 57 0 ((((32 : Int) * x) + y)).toNat z101) f (3 : Int) = aN S1 f (3 : Int) := (aN_o rfl)
          have w106 : (fx_up S1 57 0 ((((32 : Int) * x) + y)).toNat z101) 70 0 1 = S1 70 0 1 := rfl
          have w107 : (fx_up S1 57 0 ((((32 : Int) * x) + y)).toNat z101) 49 0 41 = S1 49 0 41 := rfl
          have w108 : (fx_up S1 57 0 ((((32 : Int) * x) + y)).toNat z101) 49 0 7 = S1 49 0 7 := rfl
          have g109 : COL (fx_up S1 57 0 ((((32 : Int) * x) + y)).toNat z101) := fx_pup COL_stab rfl i11
          have g110 : WTM (fx_up S1 57 0 ((((32 : Int) * x) + y)).toNat z101) := fx_pup WTM_stab rfl i12
          have g111 : INJ (fx_up S1 57 0 ((((32 : Int) * x) + y)).toNat z101) := fx_pup INJ_stab rfl i13
          have g112 : USE (fx_up S1 57 0 ((((32 : Int) * x) + y)).toNat z101) := fx_pup USE_stab rfl i14
          have g113 : SNP (fx_up S1 57 0 ((((32 : Int) * x) + y)).toNat z101) := fx_pup SNP_stab rfl i15
          have g114 : REC (fx_up S1 57 0 ((((32 : Int) * x) + y)).toNat z101) := fx_pup REC_stab rfl i16
          have g115 : SGM (fx_up S1 57 0 ((((32 : Int) * x) + y)).toNat z101) := fx_pup SGM_stab rfl i17
          have g116 : AONX f (32 * (j + (1 : Int))) (fx_up S1 57 0 ((((32 : Int) * x) + y)).toNat z101) := fx_pup AONX_stab rfl i18
          refine And.intro (by decide) (And.intro (show -2147483648 ≤ y + (1 : Int) ∧ y + (1 : Int) < 2147483648 by omega) ?_)
          exact ih.2 t f c b p j x (y + (1 : Int)) (fx_up S1 57 0 ((((32 : Int) * x) + y)).toNat z101) (fxfr_up hf rfl) (by omega) (by omega) (by omega) (by omega) (by omega) (by omega) (by omega) (by omega) (by omega) (by omega) (by omega) g109 g110 g111 g112 g113 g114 g115 g116 (by omega)
        ·
          refine And.intro (show -2147483648 ≤ ((6000 : Int) * t) ∧ ((6000 : Int) * t) < 2147483648 by omega) ?_
          refine And.intro (show -2147483648 ≤ (((6000 : Int) * t) + p) ∧ (((6000 : Int) * t) + p) < 2147483648 by omega) ?_
          refine And.intro (show -2147483648 ≤ ((32 : Int) * j) ∧ ((32 : Int) * j) < 2147483648 by omega) ?_
          refine And.intro (show -2147483648 ≤ ((((6000 : Int) * t) + p) + ((32 : Int) * j)) ∧ ((((6000 : Int) * t) + p) + ((32 : Int) * j)) < 2147483648 by omega) ?_
          refine And.intro (show -2147483648 ≤ (((((6000 : Int) * t) + p) + ((32 : Int) * j)) + y) ∧ (((((6000 : Int) * t) + p) + ((32 : Int) * j)) + y) < 2147483648 by omega) ?_
          refine And.intro (show 0 ≤ (((((6000 : Int) * t) + p) + ((32 : Int) * j)) + y) ∧ (((((6000 : Int) * t) + p) + ((32 : Int) * j)) + y) < 36000 by omega) ?_
          intro z118 (z118a : (-128 : Int) ≤ z118) (z118b : z118 ≤ (127 : Int)) (z118c : z118 = S1 62 0 ((((((6000 : Int) * t) + p) + ((32 : Int) * j)) + y)).toNat)
          refine And.intro (show 0 ≤ (((32 : Int) * x) + y) ∧ (((32 : Int) * x) + y) < 6656 by omega) ?_
          intro z119 z119a z119b z119c
          have w120 : fcn ((fx_up S1 57 0 ((((32 : Int) * x) + y)).toNat z119) 56 0) 0 48 = fcn (S1 56 0) 0 48 := rfl
          have w121 : fcn ((fx_up S1 57 0 ((((32 : Int) * x) + y)).toNat z119) 56 0) 48 160 = fcn (S1 56 0) 48 160 := rfl
          have w122 : aN (fx_up S1 57 0 ((((32 : Int) * x) + y)).toNat z119) f (0 : Int) = aN S1 f (0 : Int) := (aN_o rfl)
          have w123 : aN (fx_up S1 57 0 ((((32 : Int) * x) + y)).toNat z119) f (3 : Int) = aN S1 f (3 : Int) := (aN_o rfl)
          have w124 : (fx_up S1 57 0 ((((32 : Int) * x) + y)).toNat z119) 70 0 1 = S1 70 0 1 := rfl
          have w125 : (fx_up S1 57 0 ((((32 : Int) * x) + y)).toNat z119) 49 0 41 = S1 49 0 41 := rfl
          have w126 : (fx_up S1 57 0 ((((32 : Int) * x) + y)).toNat z119) 49 0 7 = S1 49 0 7 := rfl
          have g127 : COL (fx_up S1 57 0 ((((32 : Int) * x) + y)).toNat z119) := fx_pup COL_stab rfl i11
          have g128 : WTM (fx_up S1 57 0 ((((32 : Int) * x) + y)).toNat z119) := fx_pup WTM_stab rfl i12
          have g129 : INJ (fx_up S1 57 0 ((((32 : Int) * x) + y)).toNat z119) := fx_pup INJ_stab rfl i13
          have g130 : USE (fx_up S1 57 0 ((((32 : Int) * x) + y)).toNat z119) := fx_pup USE_stab rfl i14
          have g131 : SNP (fx_up S1 57 0 ((((32 : Int) * x) + y)).toNat z119) := fx_pup SNP_stab rfl i15
          have g132 : REC (fx_up S1 57 0 ((((32 : Int) * x) + y)).toNat z119) := fx_pup REC_stab rfl i16
          have g133 : SGM (fx_up S1 57 0 ((((32 : Int) * x) + y)).toNat z119) := fx_pup SGM_stab rfl i17
          have g134 : AONX f (32 * (j + (1 : Int))) (fx_up S1 57 0 ((((32 : Int) * x) + y)).toNat z119) := fx_pup AONX_stab rfl i18
          refine And.intro (by decide) (And.intro (show -2147483648 ≤ y + (1 : Int) ∧ y + (1 : Int) < 2147483648 by omega) ?_)
          exact ih.2 t f c b p j x (y + (1 : Int)) (fx_up S1 57 0 ((((32 : Int) * x) + y)).toNat z119) (fxfr_up hf rfl) (by omega) (by omega) (by omega) (by omega) (by omega) (by omega) (by omega) (by omega) (by omega) (by omega) (by omega) g127 g128 g129 g130 g131 g132 g133 g134 (by omega)
theorem c_StubHouseModel_readDone {l : Launch} {k : fxK} {S : fxS}  (p0 : COL S) (p1 : WTM S) (p2 : INJ S) (p3 : AON S) (p4 : USE S) (p5 : SNP S) (p6 : REC S) (p7 : SGM S) (p8 : 0 ≤ S 70 0 1) (hk : ∀ (S' : fxS) , (fxfr [(49, 7), (49, 42), (49, 43), (49, 45), (49, 46), (49, 47), (49, 48), (50, 9999), (52, 9999), (53, 9999), (55, 9999), (56, 9999), (57, 9999), (58, 9999), (65, 9999), (66, 9999), (67, 9999), (71, 9999), (77, 9999)] S S' ∧ (COL S') ∧ (WTM S') ∧ (INJ S') ∧ (AON S') ∧ (USE S') ∧ (SNP S') ∧ (REC S') ∧ (SGM S')) → k none S') : fC l 280 [.inr (.inr (49, 0))] S k := by
  refine fxe_280 (Nat.le_of_ble_eq_true rfl) (fxz_280 400 ?_)
  refine And.intro (show 0 ≤ (1 : Int) ∧ (1 : Int) < 2 by omega) ?_
  intro z136 (z136a : (0 : Int) ≤ z136) (z136b : z136 ≤ (7100 : Int)) (z136c : z136 = S 74 0 1)
  refine And.intro (show 0 ≤ (1 : Int) ∧ (1 : Int) < 2 by omega) ?_
  refine And.intro (show (0 : Int) ≤ z136 ∧ z136 ≤ (7100 : Int) by omega) ?_
  have w137 : fcn ((fx_up S 71 0 1 z136) 56 0) 0 48 = fcn (S 56 0) 0 48 := rfl
  have w138 : fcn ((fx_up S 71 0 1 z136) 56 0) 48 160 = fcn (S 56 0) 48 160 := rfl
  have w139 : (fx_up S 71 0 1 z136) 70 0 1 = S 70 0 1 := rfl
  have w140 : (fx_up S 71 0 1 z136) 49 0 41 = S 49 0 41 := rfl
  have w141 : (fx_up S 71 0 1 z136) 49 0 7 = S 49 0 7 := rfl
  have g142 : COL (fx_up S 71 0 1 z136) := fx_pup COL_stab rfl p0
  have g143 : WTM (fx_up S 71 0 1 z136) := fx_pup WTM_stab rfl p1
  have g144 : INJ (fx_up S 71 0 1 z136) := fx_pup INJ_stab rfl p2
  have g145 : AON (fx_up S 71 0 1 z136) := fx_pup AON_stab rfl p3
  have g146 : USE (fx_up S 71 0 1 z136) := fx_pup USE_stab rfl p4
  have g147 : SNP (fx_up S 71 0 1 z136) := fx_pup SNP_stab rfl p5
  have g148 : REC (fx_up S 71 0 1 z136) := fx_pup REC_stab rfl p6
  have g149 : SGM (fx_up S 71 0 1 z136) := fx_pup SGM_stab rfl p7
  refine And.intro (show 0 ≤ (1 : Int) ∧ (1 : Int) < 2 by omega) ?_
  intro z150 (z150a : (-2 : Int) ≤ z150) (z150b : z150 ≤ (5 : Int)) (z150c : z150 = S 70 0 1)
  refine And.intro (by decide) ?_
  intro z151 (z151a : (-2147483648 : Int) ≤ z151) (z151b : z151 ≤ (2147483647 : Int)) (z151c : z151 = S 49 0 40)
  refine And.intro (fun (h152 : ((0 : Int) ≤ z151 : Prop)) => ?_) (fun (h152 : (z151 < (0 : Int) : Prop)) => ?_)
  ·
    intro z153 (z153a : (-2147483648 : Int) ≤ z153) (z153b : z153 ≤ (2147483647 : Int)) (z153c : z153 = S 49 0 40)
    obtain rfl : z151 = z153 := by omega
    refine c_StubHouseModel_fileOf (d := z151) g142 (show -2147483648 ≤ z151 ∧ z151 < 2147483648 by omega) (fun (z154 : Int) (q155 : -2 ≤ z154 ∧ z154 < 60 ∧ z154 ≠ -1 ∧ z154 ≠ 0 ∧ (0 ≤ z154 → aN S z154 0 = 2 ∧ aN S z154 2 = z151) ∧ FOF z151 z154 (fx_up S 71 0 1 z136)) => ?_)
    refine And.intro (by decide) ?_
    refine And.intro (fun (h156 : (z154 < (0 : Int) : Prop)) => ?_) (fun (h156 : ((0 : Int) ≤ z154 : Prop)) => ?_)
    ·
      exact hk (fx_up S 71 0 1 z136) ⟨(fxfr_up fxfr_rfl rfl), g142, g143, g144, g145, g146, g147, g148, g149⟩
    ·
      intro z157 (z157a : (-2147483648 : Int) ≤ z157) (z157b : z157 ≤ (2147483647 : Int)) (z157c : z157 = S 49 0 40)
      obtain rfl : z151 = z157 := by omega
      refine c_StubHouseModel_waitsToBeRead (d := z151) (show -2147483648 ≤ z151 ∧ z151 < 2147483648 by omega) (fun (z158 : Int) (q159 : 0 ≤ z158 ∧ z158 ≤ 1) => ?_)
      refine And.intro (fun (h160 : (z158 = (0 : Int) : Prop)) => ?_) (fun (h160 : (z158 ≠ (0 : Int) : Prop)) => ?_)
      ·
        exact hk (fx_up S 71 0 1 z136) ⟨(fxfr_up fxfr_rfl rfl), g142, g143, g144, g145, g146, g147, g148, g149⟩
      ·
        refine c_StubHouseModel_isStub (n := z154) g142 (show 0 ≤ z154 ∧ z154 < 60 by omega) (fun (z161 : Int) (q162 : 0 ≤ z161 ∧ z161 ≤ 1 ∧ (z161 = 1 → 0 < aN S z154 3 ∧ aN S z154 10 < 0) ∧ (z161 = 0 → aN S z154 3 ≤ 0 ∨ 0 ≤ aN S z154 10)) => ?_)
        refine And.intro (fun (h163 : (z161 ≠ (0 : Int) : Prop)) => ?_) (fun (h163 : (z161 = (0 : Int) : Prop)) => ?_)
        ·
          intro z164 (z164a : (0 : Int) ≤ z164) (z164b : z164 ≤ (6000 : Int)) (z164c : z164 = S 49 0 41)
          refine c_StubHouseModel_copyAt (f := z154) (t := z150) (p := z164) g142 (show 0 ≤ z154 ∧ z154 < 60 by omega) (show -2147483648 ≤ z150 ∧ z150 < 2147483648 by omega) (show -2147483648 ≤ z164 ∧ z164 < 2147483648 by omega) (fun (z165 : Int) (q166 : -2 ≤ z165 ∧ z165 ≤ 1 ∧ z165 ≠ -1 ∧ (0 ≤ z165 → z165 < aN S z154 5) ∧ (0 ≤ z165 → CAT z154 z150 z164 (fx_up S 71 0 1 z136)) ∧ (z165 < 0 → ¬ CAT z154 z150 z164 (fx_up S 71 0 1 z136))) => ?_)
          have cp : 0 ≤ z165 → CPS z154 (fx_up S 71 0 1 z136) := fun h => (by have e := q166.2.2.2.1 h; omega : 1 ≤ aN S z154 5)
          refine And.intro (by decide) ?_
          refine And.intro (fun (h167 : ((0 : Int) ≤ z165 : Prop)) => ?_) (fun (h167 : (z165 < (0 : Int) : Prop)) => ?_)
          ·
            have cq : CPS z154 (fx_up S 71 0 1 z136) := cp (by omega)
            have kv : AV z154 0 2 (fx_up S 71 0 1 z136) := (by omega : aN S z154 0 = 2)
            intro z168 (z168a : (0 : Int) ≤ z168) (z168b : z168 ≤ (6000 : Int)) (z168c : z168 = S 49 0 41)
            obtain rfl : z164 = z168 := by omega
            refine c_StubHouseModel_fits (f := z154) (t := z150) (p := z164) g142 g149 (show 0 ≤ z154 ∧ z154 < 60 by omega) (show 0 ≤ z150 ∧ z150 ≤ 5 by omega) (show -2147483648 ≤ z164 ∧ z164 < 2147483648 by omega) (fun (z169 : Int) (S170 : fxS) ⟨(f171 : fxfr [(65, 9999), (66, 9999), (67, 9999)] (fx_up S 71 0 1 z136) S170), (q172 : -2 ≤ z169 ∧ z169 ≤ 284 ∧ z169 ≠ -1 ∧ (0 ≤ z169 → sgN S170 (300 * z150 + z169) 0 = z164 ∧ sgN S170 (300 * z150 + z169) 1 = 1 ∧ sgN S170 (300 * z150 + z169) 6 = aN S170 z154 3)), (g173 : SGM S170), (g174 : KPA (fx_up S 71 0 1 z136) S170)⟩ => ?_)
            have w175 : S170 70 0 1 = (fx_up S 71 0 1 z136) 70 0 1 := f171 70 0 1 rfl
            have w176 : S170 49 0 41 = (fx_up S 71 0 1 z136) 49 0 41 := f171 49 0 41 rfl
            have w177 : S170 49 0 7 = (fx_up S 71 0 1 z136) 49 0 7 := f171 49 0 7 rfl
            have g178 : COL S170 := fx_pfr COL_stab f171 rfl g142
            have g179 : WTM S170 := fx_pfr WTM_stab f171 rfl g143
            have g180 : INJ S170 := fx_pfr INJ_stab f171 rfl g144
            have g181 : AON S170 := fx_pfr AON_stab f171 rfl g145
            have g182 : USE S170 := fx_pfr USE_stab f171 rfl g146
            have g183 : SNP S170 := fx_pfr SNP_stab f171 rfl g147
            have g184 : REC S170 := fx_pfr REC_stab f171 rfl g148
            have g185 : CPS z154 S170 := fx_pfr CPS_stab f171 rfl cq
            have g186 : AV z154 0 2 S170 := fx_pfr AV_stab f171 rfl kv
            have sg := SGM_at (t := z150) (i := z169) g173 (by omega)
            refine And.intro (by decide) ?_
            refine And.intro (fun (h187 : ((0 : Int) ≤ z169 : Prop)) => ?_) (fun (h187 : (z169 < (0 : Int) : Prop)) => ?_)
            ·
              refine c_StubHouseModel_hasRoom (f := z154) g178 (show 0 ≤ z154 ∧ z154 < 60 by omega) (fun (z188 : Int) (q189 : 0 ≤ z188 ∧ z188 ≤ 1 ∧ (z188 = 1 → (aN S170 z154 3 + 31) / 32 ≤ fcn (S170 56 0) 0 48 ∨ (aN S170 z154 3 + 31) / 32 ≤ fcn (S170 56 0) 48 160)) => ?_)
              refine And.intro (fun (h190 : (z188 = (0 : Int) : Prop)) => ?_) (fun (h190 : (z188 ≠ (0 : Int) : Prop)) => ?_)
              ·
                exact hk S170 ⟨(fxfr_tr (fxfr_up fxfr_rfl rfl) f171 rfl), g178, g179, g180, g181, g182, g183, g184, g173⟩
              ·
                refine c_StubHouseModel_ahead  g178 g179 g180 g181 g182 g183 (fun (S191 : fxS) ⟨(f192 : fxfr [(49, 7), (53, 9999), (56, 9999), (58, 9999)] S170 S191), (q193 : 0 ≤ S191 49 0 7 ∧ S191 49 0 7 ≤ 199), (g194 : SNP S191), (g195 : USE S191), (g196 : UZ S170 S191)⟩ => ?_)
                have w197 : S191 70 0 1 = S170 70 0 1 := f192 70 0 1 rfl
                have w198 : S191 49 0 41 = S170 49 0 41 := f192 49 0 41 rfl
                have g199 : COL S191 := fx_pfr COL_stab f192 rfl g178
                have g200 : WTM S191 := fx_pfr WTM_stab f192 rfl g179
                have g201 : INJ S191 := fx_pfr INJ_stab f192 rfl g180
                have g202 : AON S191 := fx_pfr AON_stab f192 rfl g181
                have g203 : REC S191 := fx_pfr REC_stab f192 rfl g184
                have g204 : SGM S191 := fx_pfr SGM_stab f192 rfl g173
                have g205 : CPS z154 S191 := fx_pfr CPS_stab f192 rfl g185
                have g206 : AV z154 0 2 S191 := fx_pfr AV_stab f192 rfl g186
                have f1 : fcn (S170 56 0) 0 48 ≤ fcn (S191 56 0) 0 48 := UZ_fcn (by assumption : UZ S170 S191)
                have f2 : fcn (S170 56 0) 48 160 ≤ fcn (S191 56 0) 48 160 := UZ_fcn (by assumption : UZ S170 S191)
                have k2 : aN S191 z154 0 = 2 := g206
                have e3 : aN S191 z154 3 = aN S170 z154 3 := aN_fr f192 rfl
                have r5 : sgN S191 (300 * z150 + z169) 5 = sgN S170 (300 * z150 + z169) 5 := f192 65 0 _ rfl
                refine c_StubHouseModel_blocks (n := z154) g199 (show 0 ≤ z154 ∧ z154 < 60 by omega) (fun (z207 : Int) (q208 : z207 = (aN S191 z154 3 + 31) / 32 ∧ 0 ≤ z207 ∧ z207 ≤ 32) => ?_)
                refine And.intro (by decide) ?_
                refine c_freeIn_0_48   (fun (z209 : Int) (q210 : z209 = fcn (S191 56 0) 0 48 ∧ 0 ≤ z209 ∧ z209 ≤ 208) => ?_)
                refine And.intro (fun (h211 : (z209 < z207 : Prop)) => ?_) (fun (h211 : (z207 ≤ z209 : Prop)) => ?_)
                ·
                  refine And.intro (by decide) ?_
                  intro z212 (z212a : (0 : Int) ≤ z212) (z212b : z212 ≤ (6000 : Int)) (z212c : z212 = S191 49 0 41)
                  obtain rfl : z164 = z212 := by omega
                  refine c_StubHouseModel_seg (t := z150) (i := z169) (w := (5 : Int)) (show 0 ≤ z150 ∧ z150 ≤ 5 by omega) (show 0 ≤ z169 ∧ z169 < 300 by omega) (show 0 ≤ (5 : Int) ∧ (5 : Int) < 8 by omega) (fun (z213 : Int) (q214 : z213 = sgN S191 (300 * z150 + z169) (5 : Int) ∧ -2147483648 ≤ z213 ∧ z213 < 2147483648) => ?_)
                  have sg := SGM_at (t := z150) (i := z169) g204 (by omega) (by omega)
                  refine c_StubHouseModel_headSize (d := z213) (show 0 ≤ z213 ∧ z213 ≤ 255 by omega) (fun (z215 : Int) (q216 : z215 = 21 + 8 * z213) => ?_)
                  refine And.intro (show -2147483648 ≤ (z164 + z215) ∧ (z164 + z215) < 2147483648 by omega) ?_
                  refine And.intro (by decide) ?_
                  refine And.intro (by decide) ?_
                  have ax : AONX z154 (32 * (0 : Int)) S191 := AONX_0 g202 (by omega)
                  exact (z_StubHouseModel_readDone p0 p1 p2 p3 p4 p5 p6 p7 p8 hk ((100 - (0 : Int)) * 100 + 99).toNat).1 z150 z154 z207 (0 : Int) (z164 + z215) (0 : Int) S191 (fxfr_tr (fxfr_tr (fxfr_up fxfr_rfl rfl) f171 rfl) f192 rfl) (by omega) (by omega) (by omega) (by omega) (by omega) (by omega) (by omega) (by omega) (by omega) g199 g200 g201 g195 g194 g203 g204 ax (by omega)
                ·
                  refine And.intro (by decide) ?_
                  intro z217 (z217a : (0 : Int) ≤ z217) (z217b : z217 ≤ (6000 : Int)) (z217c : z217 = S191 49 0 41)
                  obtain rfl : z164 = z217 := by omega
                  refine c_StubHouseModel_seg (t := z150) (i := z169) (w := (5 : Int)) (show 0 ≤ z150 ∧ z150 ≤ 5 by omega) (show 0 ≤ z169 ∧ z169 < 300 by omega) (show 0 ≤ (5 : Int) ∧ (5 : Int) < 8 by omega) (fun (z218 : Int) (q219 : z218 = sgN S191 (300 * z150 + z169) (5 : Int) ∧ -2147483648 ≤ z218 ∧ z218 < 2147483648) => ?_)
                  have sg := SGM_at (t := z150) (i := z169) g204 (by omega) (by omega)
                  refine c_StubHouseModel_headSize (d := z218) (show 0 ≤ z218 ∧ z218 ≤ 255 by omega) (fun (z220 : Int) (q221 : z220 = 21 + 8 * z218) => ?_)
                  refine And.intro (show -2147483648 ≤ (z164 + z220) ∧ (z164 + z220) < 2147483648 by omega) ?_
                  refine And.intro (by decide) ?_
                  refine And.intro (by decide) ?_
                  have ax : AONX z154 (32 * (0 : Int)) S191 := AONX_0 g202 (by omega)
                  exact (z_StubHouseModel_readDone p0 p1 p2 p3 p4 p5 p6 p7 p8 hk ((100 - (0 : Int)) * 100 + 99).toNat).1 z150 z154 z207 (1 : Int) (z164 + z220) (0 : Int) S191 (fxfr_tr (fxfr_tr (fxfr_up fxfr_rfl rfl) f171 rfl) f192 rfl) (by omega) (by omega) (by omega) (by omega) (by omega) (by omega) (by omega) (by omega) (by omega) g199 g200 g201 g195 g194 g203 g204 ax (by omega)
            ·
              refine c_StubHouseModel_ahead  g178 g179 g180 g181 g182 g183 (fun (S222 : fxS) ⟨(f223 : fxfr [(49, 7), (53, 9999), (56, 9999), (58, 9999)] S170 S222), (q224 : 0 ≤ S222 49 0 7 ∧ S222 49 0 7 ≤ 199), (g225 : SNP S222), (g226 : USE S222), (g227 : UZ S170 S222)⟩ => ?_)
              have w228 : S222 70 0 1 = S170 70 0 1 := f223 70 0 1 rfl
              have w229 : S222 49 0 41 = S170 49 0 41 := f223 49 0 41 rfl
              have g230 : COL S222 := fx_pfr COL_stab f223 rfl g178
              have g231 : WTM S222 := fx_pfr WTM_stab f223 rfl g179
              have g232 : INJ S222 := fx_pfr INJ_stab f223 rfl g180
              have g233 : AON S222 := fx_pfr AON_stab f223 rfl g181
              have g234 : REC S222 := fx_pfr REC_stab f223 rfl g184
              have g235 : SGM S222 := fx_pfr SGM_stab f223 rfl g173
              have g236 : CPS z154 S222 := fx_pfr CPS_stab f223 rfl g185
              have g237 : AV z154 0 2 S222 := fx_pfr AV_stab f223 rfl g186
              have c1 : 1 ≤ aN S222 z154 5 := g236
              refine c_StubHouseModel_drop (f := z154) (i := z165) g230 g231 g232 g233 g226 g234 (show 0 ≤ z154 ∧ z154 < 60 by omega) (show 0 ≤ z165 ∧ z165 ≤ 1 by omega) (show 1 ≤ aN S222 z154 5 by omega) (fun (S238 : fxS) ⟨(f239 : fxfr [(50, 9999)] S222 S238), (g240 : COL S238), (g241 : WTM S238), (g242 : INJ S238), (g243 : AON S238), (g244 : USE S238), (g245 : REC S238)⟩ => ?_)
              have w246 : S238 70 0 1 = S222 70 0 1 := f239 70 0 1 rfl
              have w247 : S238 49 0 41 = S222 49 0 41 := f239 49 0 41 rfl
              have w248 : S238 49 0 7 = S222 49 0 7 := f239 49 0 7 rfl
              have g249 : SNP S238 := fx_pfr SNP_stab f239 rfl g225
              have g250 : SGM S238 := fx_pfr SGM_stab f239 rfl g235
              have g251 : UZ S170 S238 := fx_pfr UZ_stab f239 rfl g227
              refine c_StubHouseModel_record (e := (12 : Int)) g240 g241 g242 g243 g249 (show S238 49 0 7 ≤ 199 by omega) (show 0 ≤ (12 : Int) ∧ (12 : Int) ≤ 1000 by omega) (fun (S252 : fxS) ⟨(f253 : fxfr [(49, 7), (53, 9999), (55, 9999)] S238 S252), (g254 : SNP S252)⟩ => ?_)
              have w255 : S252 70 0 1 = S238 70 0 1 := f253 70 0 1 rfl
              have w256 : S252 49 0 41 = S238 49 0 41 := f253 49 0 41 rfl
              have g257 : COL S252 := fx_pfr COL_stab f253 rfl g240
              have g258 : WTM S252 := fx_pfr WTM_stab f253 rfl g241
              have g259 : INJ S252 := fx_pfr INJ_stab f253 rfl g242
              have g260 : AON S252 := fx_pfr AON_stab f253 rfl g243
              have g261 : USE S252 := fx_pfr USE_stab f253 rfl g244
              have g262 : REC S252 := fx_pfr REC_stab f253 rfl g245
              have g263 : SGM S252 := fx_pfr SGM_stab f253 rfl g250
              have g264 : UZ S170 S252 := fx_pfr UZ_stab f253 rfl g251
              exact hk S252 ⟨(fxfr_tr (fxfr_tr (fxfr_tr (fxfr_tr (fxfr_up fxfr_rfl rfl) f171 rfl) f223 rfl) f239 rfl) f253 rfl), g257, g258, g259, g260, g261, g254, g262, g263⟩
          ·
            exact hk (fx_up S 71 0 1 z136) ⟨(fxfr_up fxfr_rfl rfl), g142, g143, g144, g145, g146, g147, g148, g149⟩
        ·
          exact hk (fx_up S 71 0 1 z136) ⟨(fxfr_up fxfr_rfl rfl), g142, g143, g144, g145, g146, g147, g148, g149⟩
  ·
    refine c_StubHouseModel_reclaimRead (t := z150) g142 g149 (show 0 ≤ z150 ∧ z150 ≤ 5 by omega) (fun (S265 : fxS) ⟨(f266 : fxfr [(49, 42), (49, 43), (49, 45), (49, 46), (49, 47), (49, 48), (65, 9999), (66, 9999), (67, 9999), (77, 9999)] (fx_up S 71 0 1 z136) S265), (g267 : SGM S265)⟩ => ?_)
    have w268 : S265 70 0 1 = (fx_up S 71 0 1 z136) 70 0 1 := f266 70 0 1 rfl
    have w269 : S265 49 0 41 = (fx_up S 71 0 1 z136) 49 0 41 := f266 49 0 41 rfl
    have w270 : S265 49 0 7 = (fx_up S 71 0 1 z136) 49 0 7 := f266 49 0 7 rfl
    have g271 : COL S265 := fx_pfr COL_stab f266 rfl g142
    have g272 : WTM S265 := fx_pfr WTM_stab f266 rfl g143
    have g273 : INJ S265 := fx_pfr INJ_stab f266 rfl g144
    have g274 : AON S265 := fx_pfr AON_stab f266 rfl g145
    have g275 : USE S265 := fx_pfr USE_stab f266 rfl g146
    have g276 : SNP S265 := fx_pfr SNP_stab f266 rfl g147
    have g277 : REC S265 := fx_pfr REC_stab f266 rfl g148
    exact hk S265 ⟨(fxfr_tr (fxfr_up fxfr_rfl rfl) f266 rfl), g271, g272, g273, g274, g275, g276, g277, g267⟩
