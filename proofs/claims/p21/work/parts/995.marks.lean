/-! contracts: marks of both, with their answers -/
theorem c_marksC {l : Launch} {k : fxK} {S : fxS} {s : Int} {h : Int} {lo : Int} (p0 : -2147483648 ≤ s ∧ s < 2147483648) (p1 : -2147483648 ≤ h ∧ h < 2147483648) (p2 : -2147483648 ≤ lo ∧ lo < 2147483648) (hk : ∀ (r : Int) (S' : fxS) , (fxfr [(45, 9999), (46, 9999)] S S' ∧ ((s = 0 ∧ 0 ≤ h ∧ h ≤ 48 ∧ 0 ≤ lo ∧ lo ≤ h → r = S 45 0 0 ∧ S' 45 0 0 = h ∧ S' 45 0 1 = S 45 0 1) ∧ (s = 1 ∧ 0 ≤ h ∧ h ≤ 160 ∧ 0 ≤ lo ∧ lo ≤ h → r = S 45 0 1 ∧ S' 45 0 1 = h ∧ S' 45 0 0 = S 45 0 0) ∧ ((¬ (s = 0 ∧ 0 ≤ h ∧ h ≤ 48 ∧ 0 ≤ lo ∧ lo ≤ h) ∧ ¬ (s = 1 ∧ 0 ≤ h ∧ h ≤ 160 ∧ 0 ≤ lo ∧ lo ≤ h)) → r = -1 ∧ S' 45 0 0 = S 45 0 0 ∧ S' 45 0 1 = S 45 0 1))) → k (some (.inl r)) S') : fC l 131 [.inr (.inr (0, 0)), .inl s, .inl h, .inl lo] S k := by
  refine fxe_131 (Nat.le_of_ble_eq_true rfl) (fxz_131 400 ?_)
  refine And.intro (fun (h1 : (s = (0 : Int) : Prop)) => ?_) (fun (h1 : (s ≠ (0 : Int) : Prop)) => ?_)
  ·
    refine And.intro (fun (h2 : (s ≠ (0 : Int) : Prop)) => ?_) (fun (h2 : (s = (0 : Int) : Prop)) => ?_)
    ·
      refine And.intro (by decide) ?_
      refine And.intro (fun (h3 : (h < (0 : Int) : Prop)) => ?_) (fun (h3 : ((0 : Int) ≤ h : Prop)) => ?_)
      ·
        exact hk (-1 : Int) S ⟨fxfr_rfl, by omega⟩
      ·
        refine And.intro (fun (h4 : ((160 : Int) < h : Prop)) => ?_) (fun (h4 : (h ≤ (160 : Int) : Prop)) => ?_)
        ·
          exact hk (-1 : Int) S ⟨fxfr_rfl, by omega⟩
        ·
          refine And.intro (fun (h5 : (lo < (0 : Int) : Prop)) => ?_) (fun (h5 : ((0 : Int) ≤ lo : Prop)) => ?_)
          ·
            exact hk (-1 : Int) S ⟨fxfr_rfl, by omega⟩
          ·
            refine And.intro (fun (h6 : (lo ≤ h : Prop)) => ?_) (fun (h6 : (h < lo : Prop)) => ?_)
            ·
              refine And.intro (show 0 ≤ s ∧ s < 2 by omega) ?_
              intro z7 (z7a : (0 : Int) ≤ z7) (z7b : z7 ≤ (160 : Int)) (z7c : z7 = S 45 0 (s).toNat)
              have c0 : (s = 0 → z7 = S 45 0 0) ∧ (s = 1 → z7 = S 45 0 1) := ⟨fun q => by rw [z7c, q]; rfl, fun q => by rw [z7c, q]; rfl⟩
              refine And.intro (by decide) ?_
              refine And.intro (show 0 ≤ s ∧ s < 2 by omega) ?_
              refine And.intro (show (0 : Int) ≤ h ∧ h ≤ (160 : Int) by omega) ?_
              have u0 : (s = 0 → (fx_up S 45 0 (s).toNat h) 45 0 0 = h) ∧ (s ≠ 0 → (fx_up S 45 0 (s).toNat h) 45 0 0 = S 45 0 0) := up_lit (k := 0) (by omega)
              have u1 : (s = 1 → (fx_up S 45 0 (s).toNat h) 45 0 1 = h) ∧ (s ≠ 1 → (fx_up S 45 0 (s).toNat h) 45 0 1 = S 45 0 1) := up_lit (k := 1) (by omega)
              refine And.intro (show 0 ≤ s ∧ s < 2 by omega) ?_
              refine And.intro (show (0 : Int) ≤ lo ∧ lo ≤ (160 : Int) by omega) ?_
              have w8 : (fx_up (fx_up S 45 0 (s).toNat h) 46 0 (s).toNat lo) 45 0 0 = (fx_up S 45 0 (s).toNat h) 45 0 0 := rfl
              have w9 : (fx_up (fx_up S 45 0 (s).toNat h) 46 0 (s).toNat lo) 45 0 1 = (fx_up S 45 0 (s).toNat h) 45 0 1 := rfl
              exact hk z7 (fx_up (fx_up S 45 0 (s).toNat h) 46 0 (s).toNat lo) ⟨(fxfr_up (fxfr_up fxfr_rfl rfl) rfl), by omega⟩
            ·
              exact hk (-1 : Int) S ⟨fxfr_rfl, by omega⟩
    ·
      refine And.intro (by decide) ?_
      refine And.intro (fun (h10 : (h < (0 : Int) : Prop)) => ?_) (fun (h10 : ((0 : Int) ≤ h : Prop)) => ?_)
      ·
        exact hk (-1 : Int) S ⟨fxfr_rfl, by omega⟩
      ·
        refine And.intro (fun (h11 : ((48 : Int) < h : Prop)) => ?_) (fun (h11 : (h ≤ (48 : Int) : Prop)) => ?_)
        ·
          exact hk (-1 : Int) S ⟨fxfr_rfl, by omega⟩
        ·
          refine And.intro (fun (h12 : (lo < (0 : Int) : Prop)) => ?_) (fun (h12 : ((0 : Int) ≤ lo : Prop)) => ?_)
          ·
            exact hk (-1 : Int) S ⟨fxfr_rfl, by omega⟩
          ·
            refine And.intro (fun (h13 : (lo ≤ h : Prop)) => ?_) (fun (h13 : (h < lo : Prop)) => ?_)
            ·
              refine And.intro (show 0 ≤ s ∧ s < 2 by omega) ?_
              intro z14 (z14a : (0 : Int) ≤ z14) (z14b : z14 ≤ (160 : Int)) (z14c : z14 = S 45 0 (s).toNat)
              have c0 : (s = 0 → z14 = S 45 0 0) ∧ (s = 1 → z14 = S 45 0 1) := ⟨fun q => by rw [z14c, q]; rfl, fun q => by rw [z14c, q]; rfl⟩
              refine And.intro (by decide) ?_
              refine And.intro (show 0 ≤ s ∧ s < 2 by omega) ?_
              refine And.intro (show (0 : Int) ≤ h ∧ h ≤ (160 : Int) by omega) ?_
              have u0 : (s = 0 → (fx_up S 45 0 (s).toNat h) 45 0 0 = h) ∧ (s ≠ 0 → (fx_up S 45 0 (s).toNat h) 45 0 0 = S 45 0 0) := up_lit (k := 0) (by omega)
              have u1 : (s = 1 → (fx_up S 45 0 (s).toNat h) 45 0 1 = h) ∧ (s ≠ 1 → (fx_up S 45 0 (s).toNat h) 45 0 1 = S 45 0 1) := up_lit (k := 1) (by omega)
              refine And.intro (show 0 ≤ s ∧ s < 2 by omega) ?_
              refine And.intro (show (0 : Int) ≤ lo ∧ lo ≤ (160 : Int) by omega) ?_
              have w15 : (fx_up (fx_up S 45 0 (s).toNat h) 46 0 (s).toNat lo) 45 0 0 = (fx_up S 45 0 (s).toNat h) 45 0 0 := rfl
              have w16 : (fx_up (fx_up S 45 0 (s).toNat h) 46 0 (s).toNat lo) 45 0 1 = (fx_up S 45 0 (s).toNat h) 45 0 1 := rfl
              exact hk z14 (fx_up (fx_up S 45 0 (s).toNat h) 46 0 (s).toNat lo) ⟨(fxfr_up (fxfr_up fxfr_rfl rfl) rfl), by omega⟩
            ·
              exact hk (-1 : Int) S ⟨fxfr_rfl, by omega⟩
  ·
    refine And.intro (fun (h17 : (s = (1 : Int) : Prop)) => ?_) (fun (h17 : (s ≠ (1 : Int) : Prop)) => ?_)
    ·
      refine And.intro (fun (h18 : (s ≠ (0 : Int) : Prop)) => ?_) (fun (h18 : (s = (0 : Int) : Prop)) => ?_)
      ·
        refine And.intro (by decide) ?_
        refine And.intro (fun (h19 : (h < (0 : Int) : Prop)) => ?_) (fun (h19 : ((0 : Int) ≤ h : Prop)) => ?_)
        ·
          exact hk (-1 : Int) S ⟨fxfr_rfl, by omega⟩
        ·
          refine And.intro (fun (h20 : ((160 : Int) < h : Prop)) => ?_) (fun (h20 : (h ≤ (160 : Int) : Prop)) => ?_)
          ·
            exact hk (-1 : Int) S ⟨fxfr_rfl, by omega⟩
          ·
            refine And.intro (fun (h21 : (lo < (0 : Int) : Prop)) => ?_) (fun (h21 : ((0 : Int) ≤ lo : Prop)) => ?_)
            ·
              exact hk (-1 : Int) S ⟨fxfr_rfl, by omega⟩
            ·
              refine And.intro (fun (h22 : (lo ≤ h : Prop)) => ?_) (fun (h22 : (h < lo : Prop)) => ?_)
              ·
                refine And.intro (show 0 ≤ s ∧ s < 2 by omega) ?_
                intro z23 (z23a : (0 : Int) ≤ z23) (z23b : z23 ≤ (160 : Int)) (z23c : z23 = S 45 0 (s).toNat)
                have c0 : (s = 0 → z23 = S 45 0 0) ∧ (s = 1 → z23 = S 45 0 1) := ⟨fun q => by rw [z23c, q]; rfl, fun q => by rw [z23c, q]; rfl⟩
                refine And.intro (by decide) ?_
                refine And.intro (show 0 ≤ s ∧ s < 2 by omega) ?_
                refine And.intro (show (0 : Int) ≤ h ∧ h ≤ (160 : Int) by omega) ?_
                have u0 : (s = 0 → (fx_up S 45 0 (s).toNat h) 45 0 0 = h) ∧ (s ≠ 0 → (fx_up S 45 0 (s).toNat h) 45 0 0 = S 45 0 0) := up_lit (k := 0) (by omega)
                have u1 : (s = 1 → (fx_up S 45 0 (s).toNat h) 45 0 1 = h) ∧ (s ≠ 1 → (fx_up S 45 0 (s).toNat h) 45 0 1 = S 45 0 1) := up_lit (k := 1) (by omega)
                refine And.intro (show 0 ≤ s ∧ s < 2 by omega) ?_
                refine And.intro (show (0 : Int) ≤ lo ∧ lo ≤ (160 : Int) by omega) ?_
                have w24 : (fx_up (fx_up S 45 0 (s).toNat h) 46 0 (s).toNat lo) 45 0 0 = (fx_up S 45 0 (s).toNat h) 45 0 0 := rfl
                have w25 : (fx_up (fx_up S 45 0 (s).toNat h) 46 0 (s).toNat lo) 45 0 1 = (fx_up S 45 0 (s).toNat h) 45 0 1 := rfl
                exact hk z23 (fx_up (fx_up S 45 0 (s).toNat h) 46 0 (s).toNat lo) ⟨(fxfr_up (fxfr_up fxfr_rfl rfl) rfl), by omega⟩
              ·
                exact hk (-1 : Int) S ⟨fxfr_rfl, by omega⟩
      ·
        refine And.intro (by decide) ?_
        refine And.intro (fun (h26 : (h < (0 : Int) : Prop)) => ?_) (fun (h26 : ((0 : Int) ≤ h : Prop)) => ?_)
        ·
          exact hk (-1 : Int) S ⟨fxfr_rfl, by omega⟩
        ·
          refine And.intro (fun (h27 : ((48 : Int) < h : Prop)) => ?_) (fun (h27 : (h ≤ (48 : Int) : Prop)) => ?_)
          ·
            exact hk (-1 : Int) S ⟨fxfr_rfl, by omega⟩
          ·
            refine And.intro (fun (h28 : (lo < (0 : Int) : Prop)) => ?_) (fun (h28 : ((0 : Int) ≤ lo : Prop)) => ?_)
            ·
              exact hk (-1 : Int) S ⟨fxfr_rfl, by omega⟩
            ·
              refine And.intro (fun (h29 : (lo ≤ h : Prop)) => ?_) (fun (h29 : (h < lo : Prop)) => ?_)
              ·
                refine And.intro (show 0 ≤ s ∧ s < 2 by omega) ?_
                intro z30 (z30a : (0 : Int) ≤ z30) (z30b : z30 ≤ (160 : Int)) (z30c : z30 = S 45 0 (s).toNat)
                have c0 : (s = 0 → z30 = S 45 0 0) ∧ (s = 1 → z30 = S 45 0 1) := ⟨fun q => by rw [z30c, q]; rfl, fun q => by rw [z30c, q]; rfl⟩
                refine And.intro (by decide) ?_
                refine And.intro (show 0 ≤ s ∧ s < 2 by omega) ?_
                refine And.intro (show (0 : Int) ≤ h ∧ h ≤ (160 : Int) by omega) ?_
                have u0 : (s = 0 → (fx_up S 45 0 (s).toNat h) 45 0 0 = h) ∧ (s ≠ 0 → (fx_up S 45 0 (s).toNat h) 45 0 0 = S 45 0 0) := up_lit (k := 0) (by omega)
                have u1 : (s = 1 → (fx_up S 45 0 (s).toNat h) 45 0 1 = h) ∧ (s ≠ 1 → (fx_up S 45 0 (s).toNat h) 45 0 1 = S 45 0 1) := up_lit (k := 1) (by omega)
                refine And.intro (show 0 ≤ s ∧ s < 2 by omega) ?_
                refine And.intro (show (0 : Int) ≤ lo ∧ lo ≤ (160 : Int) by omega) ?_
                have w31 : (fx_up (fx_up S 45 0 (s).toNat h) 46 0 (s).toNat lo) 45 0 0 = (fx_up S 45 0 (s).toNat h) 45 0 0 := rfl
                have w32 : (fx_up (fx_up S 45 0 (s).toNat h) 46 0 (s).toNat lo) 45 0 1 = (fx_up S 45 0 (s).toNat h) 45 0 1 := rfl
                exact hk z30 (fx_up (fx_up S 45 0 (s).toNat h) 46 0 (s).toNat lo) ⟨(fxfr_up (fxfr_up fxfr_rfl rfl) rfl), by omega⟩
              ·
                exact hk (-1 : Int) S ⟨fxfr_rfl, by omega⟩
    ·
      exact hk (-1 : Int) S ⟨fxfr_rfl, by omega⟩
theorem c_marksM {l : Launch} {k : fxK} {S : fxS} {s : Int} {h : Int} {lo : Int} (p0 : -2147483648 ≤ s ∧ s < 2147483648) (p1 : -2147483648 ≤ h ∧ h < 2147483648) (p2 : -2147483648 ≤ lo ∧ lo < 2147483648) (hk : ∀ (r : Int) (S' : fxS) , (fxfr [(49, 0), (60, 9999), (61, 9999)] S S' ∧ ((s = 0 ∧ 0 ≤ h ∧ h ≤ 48 ∧ 0 ≤ lo ∧ lo ≤ h → r = S 60 0 0 ∧ S' 60 0 0 = h ∧ S' 60 0 1 = S 60 0 1) ∧ (s = 1 ∧ 0 ≤ h ∧ h ≤ 160 ∧ 0 ≤ lo ∧ lo ≤ h → r = S 60 0 1 ∧ S' 60 0 1 = h ∧ S' 60 0 0 = S 60 0 0) ∧ ((¬ (s = 0 ∧ 0 ≤ h ∧ h ≤ 48 ∧ 0 ≤ lo ∧ lo ≤ h) ∧ ¬ (s = 1 ∧ 0 ≤ h ∧ h ≤ 160 ∧ 0 ≤ lo ∧ lo ≤ h)) → r = -1 ∧ S' 60 0 0 = S 60 0 0 ∧ S' 60 0 1 = S 60 0 1))) → k (some (.inl r)) S') : fC l 132 [.inr (.inr (49, 0)), .inl s, .inl h, .inl lo] S k := by
  refine fxe_132 (Nat.le_of_ble_eq_true rfl) (fxz_132 400 ?_)
  refine And.intro (show (-2147483648 : Int) ≤ (0 : Int) ∧ (0 : Int) ≤ (2147483647 : Int) by omega) ?_
  have w1 : (fx_up S 49 0 0 (0 : Int)) 60 0 0 = S 60 0 0 := rfl
  have w2 : (fx_up S 49 0 0 (0 : Int)) 60 0 1 = S 60 0 1 := rfl
  refine c_StubHouseModel_in (x := s) (a := (0 : Int)) (b := (1 : Int))  (fun (z3 : Int) (q4 : 0 ≤ z3 ∧ z3 ≤ 1 ∧ (z3 = 1 → (0 : Int) ≤ s ∧ s ≤ (1 : Int)) ∧ (z3 = 0 → s < (0 : Int) ∨ (1 : Int) < s)) => ?_)
  refine And.intro (fun (h5 : (z3 = (0 : Int) : Prop)) => ?_) (fun (h5 : (z3 ≠ (0 : Int) : Prop)) => ?_)
  ·
    exact hk (-1 : Int) (fx_up S 49 0 0 (0 : Int)) ⟨(fxfr_up fxfr_rfl rfl), by omega⟩
  ·
    refine And.intro (fun (h6 : (s ≠ (0 : Int) : Prop)) => ?_) (fun (h6 : (s = (0 : Int) : Prop)) => ?_)
    ·
      refine c_StubHouseModel_in (x := h) (a := (0 : Int)) (b := (160 : Int))  (fun (z7 : Int) (q8 : 0 ≤ z7 ∧ z7 ≤ 1 ∧ (z7 = 1 → (0 : Int) ≤ h ∧ h ≤ (160 : Int)) ∧ (z7 = 0 → h < (0 : Int) ∨ (160 : Int) < h)) => ?_)
      refine And.intro (fun (h9 : (z7 = (0 : Int) : Prop)) => ?_) (fun (h9 : (z7 ≠ (0 : Int) : Prop)) => ?_)
      ·
        exact hk (-1 : Int) (fx_up S 49 0 0 (0 : Int)) ⟨(fxfr_up fxfr_rfl rfl), by omega⟩
      ·
        refine c_StubHouseModel_in (x := lo) (a := (0 : Int)) (b := h)  (fun (z10 : Int) (q11 : 0 ≤ z10 ∧ z10 ≤ 1 ∧ (z10 = 1 → (0 : Int) ≤ lo ∧ lo ≤ h) ∧ (z10 = 0 → lo < (0 : Int) ∨ h < lo)) => ?_)
        refine And.intro (fun (h12 : (z10 ≠ (0 : Int) : Prop)) => ?_) (fun (h12 : (z10 = (0 : Int) : Prop)) => ?_)
        ·
          refine And.intro (show 0 ≤ s ∧ s < 2 by omega) ?_
          intro z13 (z13a : (0 : Int) ≤ z13) (z13b : z13 ≤ (160 : Int)) (z13c : z13 = S 60 0 (s).toNat)
          have c0 : (s = 0 → z13 = S 60 0 0) ∧ (s = 1 → z13 = S 60 0 1) := ⟨fun q => by rw [z13c, q]; rfl, fun q => by rw [z13c, q]; rfl⟩
          refine And.intro (by decide) ?_
          refine And.intro (show 0 ≤ s ∧ s < 2 by omega) ?_
          refine And.intro (show (0 : Int) ≤ h ∧ h ≤ (160 : Int) by omega) ?_
          have u0 : (s = 0 → (fx_up (fx_up S 49 0 0 (0 : Int)) 60 0 (s).toNat h) 60 0 0 = h) ∧ (s ≠ 0 → (fx_up (fx_up S 49 0 0 (0 : Int)) 60 0 (s).toNat h) 60 0 0 = S 60 0 0) := up_lit (k := 0) (by omega)
          have u1 : (s = 1 → (fx_up (fx_up S 49 0 0 (0 : Int)) 60 0 (s).toNat h) 60 0 1 = h) ∧ (s ≠ 1 → (fx_up (fx_up S 49 0 0 (0 : Int)) 60 0 (s).toNat h) 60 0 1 = S 60 0 1) := up_lit (k := 1) (by omega)
          refine And.intro (show 0 ≤ s ∧ s < 2 by omega) ?_
          refine And.intro (show (0 : Int) ≤ lo ∧ lo ≤ (160 : Int) by omega) ?_
          have w14 : (fx_up (fx_up (fx_up S 49 0 0 (0 : Int)) 60 0 (s).toNat h) 61 0 (s).toNat lo) 60 0 0 = (fx_up (fx_up S 49 0 0 (0 : Int)) 60 0 (s).toNat h) 60 0 0 := rfl
          have w15 : (fx_up (fx_up (fx_up S 49 0 0 (0 : Int)) 60 0 (s).toNat h) 61 0 (s).toNat lo) 60 0 1 = (fx_up (fx_up S 49 0 0 (0 : Int)) 60 0 (s).toNat h) 60 0 1 := rfl
          exact hk z13 (fx_up (fx_up (fx_up S 49 0 0 (0 : Int)) 60 0 (s).toNat h) 61 0 (s).toNat lo) ⟨(fxfr_up (fxfr_up (fxfr_up fxfr_rfl rfl) rfl) rfl), by omega⟩
        ·
          exact hk (-1 : Int) (fx_up S 49 0 0 (0 : Int)) ⟨(fxfr_up fxfr_rfl rfl), by omega⟩
    ·
      refine c_StubHouseModel_in (x := h) (a := (0 : Int)) (b := (48 : Int))  (fun (z16 : Int) (q17 : 0 ≤ z16 ∧ z16 ≤ 1 ∧ (z16 = 1 → (0 : Int) ≤ h ∧ h ≤ (48 : Int)) ∧ (z16 = 0 → h < (0 : Int) ∨ (48 : Int) < h)) => ?_)
      refine And.intro (fun (h18 : (z16 = (0 : Int) : Prop)) => ?_) (fun (h18 : (z16 ≠ (0 : Int) : Prop)) => ?_)
      ·
        exact hk (-1 : Int) (fx_up S 49 0 0 (0 : Int)) ⟨(fxfr_up fxfr_rfl rfl), by omega⟩
      ·
        refine c_StubHouseModel_in (x := lo) (a := (0 : Int)) (b := h)  (fun (z19 : Int) (q20 : 0 ≤ z19 ∧ z19 ≤ 1 ∧ (z19 = 1 → (0 : Int) ≤ lo ∧ lo ≤ h) ∧ (z19 = 0 → lo < (0 : Int) ∨ h < lo)) => ?_)
        refine And.intro (fun (h21 : (z19 ≠ (0 : Int) : Prop)) => ?_) (fun (h21 : (z19 = (0 : Int) : Prop)) => ?_)
        ·
          refine And.intro (show 0 ≤ s ∧ s < 2 by omega) ?_
          intro z22 (z22a : (0 : Int) ≤ z22) (z22b : z22 ≤ (160 : Int)) (z22c : z22 = S 60 0 (s).toNat)
          have c0 : (s = 0 → z22 = S 60 0 0) ∧ (s = 1 → z22 = S 60 0 1) := ⟨fun q => by rw [z22c, q]; rfl, fun q => by rw [z22c, q]; rfl⟩
          refine And.intro (by decide) ?_
          refine And.intro (show 0 ≤ s ∧ s < 2 by omega) ?_
          refine And.intro (show (0 : Int) ≤ h ∧ h ≤ (160 : Int) by omega) ?_
          have u0 : (s = 0 → (fx_up (fx_up S 49 0 0 (0 : Int)) 60 0 (s).toNat h) 60 0 0 = h) ∧ (s ≠ 0 → (fx_up (fx_up S 49 0 0 (0 : Int)) 60 0 (s).toNat h) 60 0 0 = S 60 0 0) := up_lit (k := 0) (by omega)
          have u1 : (s = 1 → (fx_up (fx_up S 49 0 0 (0 : Int)) 60 0 (s).toNat h) 60 0 1 = h) ∧ (s ≠ 1 → (fx_up (fx_up S 49 0 0 (0 : Int)) 60 0 (s).toNat h) 60 0 1 = S 60 0 1) := up_lit (k := 1) (by omega)
          refine And.intro (show 0 ≤ s ∧ s < 2 by omega) ?_
          refine And.intro (show (0 : Int) ≤ lo ∧ lo ≤ (160 : Int) by omega) ?_
          have w23 : (fx_up (fx_up (fx_up S 49 0 0 (0 : Int)) 60 0 (s).toNat h) 61 0 (s).toNat lo) 60 0 0 = (fx_up (fx_up S 49 0 0 (0 : Int)) 60 0 (s).toNat h) 60 0 0 := rfl
          have w24 : (fx_up (fx_up (fx_up S 49 0 0 (0 : Int)) 60 0 (s).toNat h) 61 0 (s).toNat lo) 60 0 1 = (fx_up (fx_up S 49 0 0 (0 : Int)) 60 0 (s).toNat h) 60 0 1 := rfl
          exact hk z22 (fx_up (fx_up (fx_up S 49 0 0 (0 : Int)) 60 0 (s).toNat h) 61 0 (s).toNat lo) ⟨(fxfr_up (fxfr_up (fxfr_up fxfr_rfl rfl) rfl) rfl), by omega⟩
        ·
          exact hk (-1 : Int) (fx_up S 49 0 0 (0 : Int)) ⟨(fxfr_up fxfr_rfl rfl), by omega⟩
