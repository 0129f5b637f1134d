/-! contracts: a tape of the class, its segments -/
theorem c_Tape_hasGoodData {l : Launch} {k : fxK} {S : fxS} {i : Nat} {p : Int} (p0 : 8 ≤ p ∧ p + 21 + 8 * (S 33 i (p + 14).toNat % 256) ≤ S 32 i 1 ∧ S 32 i 1 ≤ 6000 ∧ (S 33 i (p + 14).toNat % 256) ≤ 5 ∧ (S 33 i (p + 1).toNat % 256 = 1 ∨ S 33 i (p + 1).toNat % 256 = 2) ∧ sN S 33 i (p + 15 + 8 * (S 33 i (p + 14).toNat % 256)) 2 ≤ 1024 ∧ (S 33 i (p + 1).toNat % 256 = 1 → 1 ≤ (S 33 i (p + 14).toNat % 256) ∧ p + 25 + 8 * (S 33 i (p + 14).toNat % 256) + sN S 33 i (p + 15 + 8 * (S 33 i (p + 14).toNat % 256)) 2 ≤ S 32 i 1)) (hk : ∀ (r : Int) , (r = 0 ∨ r = 1) → k (some (.inl r)) S) : fC l 45 [.inr (.inr (32, i)), .inl p] S k := by
  refine fxe_45 (Nat.le_of_ble_eq_true rfl) (fxz_45 400 ?_)
  refine c_Tape_sortAt (i := i) (p := p) (show 0 ≤ p ∧ p < 5999 by omega) (fun (z1 : Int) (q2 : z1 = S 33 i (p + 1).toNat % 256 ∧ 0 ≤ z1 ∧ z1 ≤ 255) => ?_)
  refine And.intro (fun (h3 : (z1 ≠ (2 : Int) : Prop)) => ?_) (fun (h3 : (z1 = (2 : Int) : Prop)) => ?_)
  ·
    refine c_Tape_dataPlace (i := i) (p := p) (show 0 ≤ p ∧ p < 5986 by omega) (fun (z4 : Int) (q5 : z4 = p + 21 + 8 * (S 33 i (p + 14).toNat % 256)) => ?_)
    refine And.intro (by decide) ?_
    refine c_Tape_sizeAt (i := i) (p := p) (show 0 ≤ p ∧ p < 5986 ∧ p + 17 + 8 * (S 33 i (p + 14).toNat % 256) ≤ 6000 by omega) (fun (z6 : Int) (q7 : z6 = sN S 33 i (p + 15 + 8 * (S 33 i (p + 14).toNat % 256)) 2 ∧ 0 ≤ z6 ∧ z6 ≤ 65535) => ?_)
    refine And.intro (show -2147483648 ≤ (z4 + z6) ∧ (z4 + z6) < 2147483648 by omega) ?_
    refine And.intro (by decide) ?_
    refine c_checkOf33 (i := i) (f := z4) (e := (z4 + z6)) (show 0 ≤ z4 ∧ z4 ≤ 6000 by omega) (show (z4 + z6) ≤ 6000 by omega) (fun (z8 : Int) (q9 : -2147483648 ≤ z8 ∧ z8 < 2147483648) => ?_)
    refine c_numberAt33 (i := i) (p := (z4 + z6)) (c := (4 : Int)) (show 0 ≤ (z4 + z6) by omega) (show 0 ≤ (4 : Int) ∧ (4 : Int) ≤ 8 ∧ (z4 + z6) + (4 : Int) ≤ 6000 by omega) (fun (z10 : Int) (q11 : z10 = sN S 33 i (z4 + z6) (4 : Int).toNat ∧ -2147483648 ≤ z10 ∧ z10 < 2147483648) => ?_)
    refine And.intro (fun (h12 : (z8 ≠ z10 : Prop)) => ?_) (fun (h12 : (z8 = z10 : Prop)) => ?_)
    ·
      refine And.intro (show 0 ≤ (0 : Int) ∧ (0 : Int) ≤ 1 by omega) ?_
      exact hk (0 : Int) (by omega)
    ·
      refine And.intro (show 0 ≤ (1 : Int) ∧ (1 : Int) ≤ 1 by omega) ?_
      exact hk (1 : Int) (by omega)
  ·
    refine And.intro (show 0 ≤ (1 : Int) ∧ (1 : Int) ≤ 1 by omega) ?_
    exact hk (1 : Int) (by omega)
theorem c_Tape_isSegmentAt {l : Launch} {k : fxK} {S : fxS} {i : Nat} {p : Int} (p0 : 8 ≤ p ∧ p < 6000) (hk : ∀ (r : Int) , (0 ≤ r ∧ r ≤ 1 ∧ (r = 1 → 8 ≤ p ∧ p + 21 + 8 * (S 33 i (p + 14).toNat % 256) ≤ S 32 i 1 ∧ S 32 i 1 ≤ 6000 ∧ (S 33 i (p + 14).toNat % 256) ≤ 5 ∧ (S 33 i (p + 1).toNat % 256 = 1 ∨ S 33 i (p + 1).toNat % 256 = 2) ∧ sN S 33 i (p + 15 + 8 * (S 33 i (p + 14).toNat % 256)) 2 ≤ 1024 ∧ (S 33 i (p + 1).toNat % 256 = 1 → 1 ≤ (S 33 i (p + 14).toNat % 256) ∧ p + 25 + 8 * (S 33 i (p + 14).toNat % 256) + sN S 33 i (p + 15 + 8 * (S 33 i (p + 14).toNat % 256)) 2 ≤ S 32 i 1))) → k (some (.inl r)) S) : fC l 43 [.inr (.inr (32, i)), .inl p] S k := by
  refine fxe_43 (Nat.le_of_ble_eq_true rfl) (fxz_43 400 ?_)
  intro z1 (z1a : (0 : Int) ≤ z1) (z1b : z1 ≤ (6000 : Int)) (z1c : z1 = S 32 i 1)
  refine And.intro (show -2147483648 ≤ (z1 - p) ∧ (z1 - p) < 2147483648 by omega) ?_
  refine And.intro (fun (h2 : ((z1 - p) < (21 : Int) : Prop)) => ?_) (fun (h2 : ((21 : Int) ≤ (z1 - p) : Prop)) => ?_)
  ·
    refine And.intro (show 0 ≤ (0 : Int) ∧ (0 : Int) ≤ 1 by omega) ?_
    exact hk (0 : Int) (by omega)
  ·
    refine c_Tape_byteAt (i := i) (p := p) (show 0 ≤ p ∧ p < 6000 by omega) (fun (z3 : Int) (q4 : z3 = S 33 i p.toNat % 256 ∧ 0 ≤ z3 ∧ z3 ≤ 255) => ?_)
    refine And.intro (fun (h5 : (z3 = (83 : Int) : Prop)) => ?_) (fun (h5 : (z3 ≠ (83 : Int) : Prop)) => ?_)
    ·
      refine c_Tape_sortAt (i := i) (p := p) (show 0 ≤ p ∧ p < 5999 by omega) (fun (z6 : Int) (q7 : z6 = S 33 i (p + 1).toNat % 256 ∧ 0 ≤ z6 ∧ z6 ≤ 255) => ?_)
      refine And.intro (by decide) ?_
      refine And.intro (fun (h8 : (z6 = (1 : Int) : Prop)) => ?_) (fun (h8 : (z6 ≠ (1 : Int) : Prop)) => ?_)
      ·
        refine And.intro (show -2147483648 ≤ (p + (2 : Int)) ∧ (p + (2 : Int)) < 2147483648 by omega) ?_
        refine c_Tape_isGivenAt (i := i) (p := (p + (2 : Int))) (show 0 ≤ (p + (2 : Int)) ∧ (p + (2 : Int)) ≤ 5996 by omega) (fun (z9 : Int) (q10 : z9 = 0 ∨ z9 = 1) => ?_)
        refine And.intro (fun (h11 : (z9 = (0 : Int) : Prop)) => ?_) (fun (h11 : (z9 ≠ (0 : Int) : Prop)) => ?_)
        ·
          refine And.intro (show 0 ≤ (0 : Int) ∧ (0 : Int) ≤ 1 by omega) ?_
          exact hk (0 : Int) (by omega)
        ·
          refine And.intro (show -2147483648 ≤ (p + (6 : Int)) ∧ (p + (6 : Int)) < 2147483648 by omega) ?_
          refine c_Tape_isGivenAt (i := i) (p := (p + (6 : Int))) (show 0 ≤ (p + (6 : Int)) ∧ (p + (6 : Int)) ≤ 5996 by omega) (fun (z12 : Int) (q13 : z12 = 0 ∨ z12 = 1) => ?_)
          refine And.intro (fun (h14 : (z12 = (0 : Int) : Prop)) => ?_) (fun (h14 : (z12 ≠ (0 : Int) : Prop)) => ?_)
          ·
            refine And.intro (show 0 ≤ (0 : Int) ∧ (0 : Int) ≤ 1 by omega) ?_
            exact hk (0 : Int) (by omega)
          ·
            refine And.intro (show -2147483648 ≤ (p + (10 : Int)) ∧ (p + (10 : Int)) < 2147483648 by omega) ?_
            refine c_Tape_isGivenAt (i := i) (p := (p + (10 : Int))) (show 0 ≤ (p + (10 : Int)) ∧ (p + (10 : Int)) ≤ 5996 by omega) (fun (z15 : Int) (q16 : z15 = 0 ∨ z15 = 1) => ?_)
            refine And.intro (fun (h17 : (z15 ≠ (0 : Int) : Prop)) => ?_) (fun (h17 : (z15 = (0 : Int) : Prop)) => ?_)
            ·
              refine c_Tape_depthAt (i := i) (p := p) (show 0 ≤ p ∧ p < 5986 by omega) (fun (z18 : Int) (q19 : z18 = (S 33 i (p + 14).toNat % 256) ∧ 0 ≤ z18 ∧ z18 ≤ 255) => ?_)
              refine And.intro (by decide) ?_
              refine And.intro (fun (h20 : (z6 ≠ (1 : Int) : Prop)) => ?_) (fun (h20 : (z6 = (1 : Int) : Prop)) => ?_)
              ·
                refine And.intro (by decide) ?_
                refine And.intro (fun _ => ?_) (fun h => absurd h (by decide))
                refine And.intro (fun (h21 : (z18 = (0 : Int) : Prop)) => ?_) (fun (h21 : (z18 ≠ (0 : Int) : Prop)) => ?_)
                ·
                  refine And.intro (show -2147483648 ≤ (p + (17 : Int)) ∧ (p + (17 : Int)) < 2147483648 by omega) ?_
                  refine And.intro (show -2147483648 ≤ ((8 : Int) * z18) ∧ ((8 : Int) * z18) < 2147483648 by omega) ?_
                  refine And.intro (show -2147483648 ≤ ((p + (17 : Int)) + ((8 : Int) * z18)) ∧ ((p + (17 : Int)) + ((8 : Int) * z18)) < 2147483648 by omega) ?_
                  refine And.intro (by decide) ?_
                  refine And.intro (show -2147483648 ≤ (((p + (17 : Int)) + ((8 : Int) * z18)) + (4 : Int)) ∧ (((p + (17 : Int)) + ((8 : Int) * z18)) + (4 : Int)) < 2147483648 by omega) ?_
                  intro z22 (z22a : (0 : Int) ≤ z22) (z22b : z22 ≤ (6000 : Int)) (z22c : z22 = S 32 i 1)
                  refine And.intro (fun (h23 : ((((p + (17 : Int)) + ((8 : Int) * z18)) + (4 : Int)) ≤ z22 : Prop)) => ?_) (fun (h23 : (z22 < (((p + (17 : Int)) + ((8 : Int) * z18)) + (4 : Int)) : Prop)) => ?_)
                  ·
                    refine c_Tape_sizeAt (i := i) (p := p) (show 0 ≤ p ∧ p < 5986 ∧ p + 17 + 8 * (S 33 i (p + 14).toNat % 256) ≤ 6000 by omega) (fun (z24 : Int) (q25 : z24 = sN S 33 i (p + 15 + 8 * (S 33 i (p + 14).toNat % 256)) 2 ∧ 0 ≤ z24 ∧ z24 ≤ 65535) => ?_)
                    refine And.intro (fun _ => ?_) (fun h => absurd h (by decide))
                    refine And.intro (fun (h26 : (z24 ≤ (0 : Int) : Prop)) => ?_) (fun (h26 : ((0 : Int) < z24 : Prop)) => ?_)
                    ·
                      refine c_Tape_wholeLength (i := i) (p := p) (show 0 ≤ p ∧ p < 5986 ∧ p + 17 + 8 * (S 33 i (p + 14).toNat % 256) ≤ 6000 by omega) (fun (z27 : Int) (q28 : (S 33 i (p + 1).toNat % 256 = 1 → z27 = 25 + 8 * (S 33 i (p + 14).toNat % 256) + sN S 33 i (p + 15 + 8 * (S 33 i (p + 14).toNat % 256)) 2) ∧ (S 33 i (p + 1).toNat % 256 ≠ 1 → z27 = 21 + 8 * (S 33 i (p + 14).toNat % 256)) ∧ 0 ≤ z27 ∧ z27 ≤ 100000) => ?_)
                      refine And.intro (show -2147483648 ≤ (p + z27) ∧ (p + z27) < 2147483648 by omega) ?_
                      intro z29 (z29a : (0 : Int) ≤ z29) (z29b : z29 ≤ (6000 : Int)) (z29c : z29 = S 32 i 1)
                      refine And.intro (fun (h30 : ((p + z27) ≤ z29 : Prop)) => ?_) (fun (h30 : (z29 < (p + z27) : Prop)) => ?_)
                      ·
                        refine c_checkOf33 (i := i) (f := p) (e := ((p + (17 : Int)) + ((8 : Int) * z18))) (show 0 ≤ p ∧ p ≤ 6000 by omega) (show ((p + (17 : Int)) + ((8 : Int) * z18)) ≤ 6000 by omega) (fun (z31 : Int) (q32 : -2147483648 ≤ z31 ∧ z31 < 2147483648) => ?_)
                        refine c_numberAt33 (i := i) (p := ((p + (17 : Int)) + ((8 : Int) * z18))) (c := (4 : Int)) (show 0 ≤ ((p + (17 : Int)) + ((8 : Int) * z18)) by omega) (show 0 ≤ (4 : Int) ∧ (4 : Int) ≤ 8 ∧ ((p + (17 : Int)) + ((8 : Int) * z18)) + (4 : Int) ≤ 6000 by omega) (fun (z33 : Int) (q34 : z33 = sN S 33 i ((p + (17 : Int)) + ((8 : Int) * z18)) (4 : Int).toNat ∧ -2147483648 ≤ z33 ∧ z33 < 2147483648) => ?_)
                        refine And.intro (fun (h35 : (z31 ≠ z33 : Prop)) => ?_) (fun (h35 : (z31 = z33 : Prop)) => ?_)
                        ·
                          refine And.intro (show 0 ≤ (0 : Int) ∧ (0 : Int) ≤ 1 by omega) ?_
                          exact hk (0 : Int) (by omega)
                        ·
                          refine And.intro (show 0 ≤ (1 : Int) ∧ (1 : Int) ≤ 1 by omega) ?_
                          exact hk (1 : Int) (by omega)
                      ·
                        refine And.intro (show 0 ≤ (0 : Int) ∧ (0 : Int) ≤ 1 by omega) ?_
                        exact hk (0 : Int) (by omega)
                    ·
                      refine And.intro (show 0 ≤ (0 : Int) ∧ (0 : Int) ≤ 1 by omega) ?_
                      exact hk (0 : Int) (by omega)
                  ·
                    refine And.intro (show 0 ≤ (0 : Int) ∧ (0 : Int) ≤ 1 by omega) ?_
                    exact hk (0 : Int) (by omega)
                ·
                  refine And.intro (show 0 ≤ (0 : Int) ∧ (0 : Int) ≤ 1 by omega) ?_
                  exact hk (0 : Int) (by omega)
              ·
                refine And.intro (by decide) ?_
                refine And.intro (fun h => absurd h (by decide)) (fun _ => ?_)
                refine And.intro (fun (h36 : (z18 < (1 : Int) : Prop)) => ?_) (fun (h36 : ((1 : Int) ≤ z18 : Prop)) => ?_)
                ·
                  refine And.intro (show 0 ≤ (0 : Int) ∧ (0 : Int) ≤ 1 by omega) ?_
                  exact hk (0 : Int) (by omega)
                ·
                  refine And.intro (fun (h37 : (z18 ≤ (5 : Int) : Prop)) => ?_) (fun (h37 : ((5 : Int) < z18 : Prop)) => ?_)
                  ·
                    refine And.intro (show -2147483648 ≤ (p + (17 : Int)) ∧ (p + (17 : Int)) < 2147483648 by omega) ?_
                    refine And.intro (show -2147483648 ≤ ((8 : Int) * z18) ∧ ((8 : Int) * z18) < 2147483648 by omega) ?_
                    refine And.intro (show -2147483648 ≤ ((p + (17 : Int)) + ((8 : Int) * z18)) ∧ ((p + (17 : Int)) + ((8 : Int) * z18)) < 2147483648 by omega) ?_
                    refine And.intro (by decide) ?_
                    refine And.intro (show -2147483648 ≤ (((p + (17 : Int)) + ((8 : Int) * z18)) + (4 : Int)) ∧ (((p + (17 : Int)) + ((8 : Int) * z18)) + (4 : Int)) < 2147483648 by omega) ?_
                    intro z38 (z38a : (0 : Int) ≤ z38) (z38b : z38 ≤ (6000 : Int)) (z38c : z38 = S 32 i 1)
                    refine And.intro (fun (h39 : ((((p + (17 : Int)) + ((8 : Int) * z18)) + (4 : Int)) ≤ z38 : Prop)) => ?_) (fun (h39 : (z38 < (((p + (17 : Int)) + ((8 : Int) * z18)) + (4 : Int)) : Prop)) => ?_)
                    ·
                      refine c_Tape_sizeAt (i := i) (p := p) (show 0 ≤ p ∧ p < 5986 ∧ p + 17 + 8 * (S 33 i (p + 14).toNat % 256) ≤ 6000 by omega) (fun (z40 : Int) (q41 : z40 = sN S 33 i (p + 15 + 8 * (S 33 i (p + 14).toNat % 256)) 2 ∧ 0 ≤ z40 ∧ z40 ≤ 65535) => ?_)
                      refine And.intro (fun h => absurd h (by decide)) (fun _ => ?_)
                      refine And.intro (fun (h42 : (z40 ≤ (1024 : Int) : Prop)) => ?_) (fun (h42 : ((1024 : Int) < z40 : Prop)) => ?_)
                      ·
                        refine c_Tape_wholeLength (i := i) (p := p) (show 0 ≤ p ∧ p < 5986 ∧ p + 17 + 8 * (S 33 i (p + 14).toNat % 256) ≤ 6000 by omega) (fun (z43 : Int) (q44 : (S 33 i (p + 1).toNat % 256 = 1 → z43 = 25 + 8 * (S 33 i (p + 14).toNat % 256) + sN S 33 i (p + 15 + 8 * (S 33 i (p + 14).toNat % 256)) 2) ∧ (S 33 i (p + 1).toNat % 256 ≠ 1 → z43 = 21 + 8 * (S 33 i (p + 14).toNat % 256)) ∧ 0 ≤ z43 ∧ z43 ≤ 100000) => ?_)
                        refine And.intro (show -2147483648 ≤ (p + z43) ∧ (p + z43) < 2147483648 by omega) ?_
                        intro z45 (z45a : (0 : Int) ≤ z45) (z45b : z45 ≤ (6000 : Int)) (z45c : z45 = S 32 i 1)
                        refine And.intro (fun (h46 : ((p + z43) ≤ z45 : Prop)) => ?_) (fun (h46 : (z45 < (p + z43) : Prop)) => ?_)
                        ·
                          refine c_checkOf33 (i := i) (f := p) (e := ((p + (17 : Int)) + ((8 : Int) * z18))) (show 0 ≤ p ∧ p ≤ 6000 by omega) (show ((p + (17 : Int)) + ((8 : Int) * z18)) ≤ 6000 by omega) (fun (z47 : Int) (q48 : -2147483648 ≤ z47 ∧ z47 < 2147483648) => ?_)
                          refine c_numberAt33 (i := i) (p := ((p + (17 : Int)) + ((8 : Int) * z18))) (c := (4 : Int)) (show 0 ≤ ((p + (17 : Int)) + ((8 : Int) * z18)) by omega) (show 0 ≤ (4 : Int) ∧ (4 : Int) ≤ 8 ∧ ((p + (17 : Int)) + ((8 : Int) * z18)) + (4 : Int) ≤ 6000 by omega) (fun (z49 : Int) (q50 : z49 = sN S 33 i ((p + (17 : Int)) + ((8 : Int) * z18)) (4 : Int).toNat ∧ -2147483648 ≤ z49 ∧ z49 < 2147483648) => ?_)
                          refine And.intro (fun (h51 : (z47 ≠ z49 : Prop)) => ?_) (fun (h51 : (z47 = z49 : Prop)) => ?_)
                          ·
                            refine And.intro (show 0 ≤ (0 : Int) ∧ (0 : Int) ≤ 1 by omega) ?_
                            exact hk (0 : Int) (by omega)
                          ·
                            refine And.intro (show 0 ≤ (1 : Int) ∧ (1 : Int) ≤ 1 by omega) ?_
                            exact hk (1 : Int) (by omega)
                        ·
                          refine And.intro (show 0 ≤ (0 : Int) ∧ (0 : Int) ≤ 1 by omega) ?_
                          exact hk (0 : Int) (by omega)
                      ·
                        refine And.intro (show 0 ≤ (0 : Int) ∧ (0 : Int) ≤ 1 by omega) ?_
                        exact hk (0 : Int) (by omega)
                    ·
                      refine And.intro (show 0 ≤ (0 : Int) ∧ (0 : Int) ≤ 1 by omega) ?_
                      exact hk (0 : Int) (by omega)
                  ·
                    refine And.intro (show 0 ≤ (0 : Int) ∧ (0 : Int) ≤ 1 by omega) ?_
                    exact hk (0 : Int) (by omega)
            ·
              refine And.intro (show 0 ≤ (0 : Int) ∧ (0 : Int) ≤ 1 by omega) ?_
              exact hk (0 : Int) (by omega)
      ·
        refine And.intro (fun (h52 : (z6 = (2 : Int) : Prop)) => ?_) (fun (h52 : (z6 ≠ (2 : Int) : Prop)) => ?_)
        ·
          refine And.intro (show -2147483648 ≤ (p + (2 : Int)) ∧ (p + (2 : Int)) < 2147483648 by omega) ?_
          refine c_Tape_isGivenAt (i := i) (p := (p + (2 : Int))) (show 0 ≤ (p + (2 : Int)) ∧ (p + (2 : Int)) ≤ 5996 by omega) (fun (z53 : Int) (q54 : z53 = 0 ∨ z53 = 1) => ?_)
          refine And.intro (fun (h55 : (z53 = (0 : Int) : Prop)) => ?_) (fun (h55 : (z53 ≠ (0 : Int) : Prop)) => ?_)
          ·
            refine And.intro (show 0 ≤ (0 : Int) ∧ (0 : Int) ≤ 1 by omega) ?_
            exact hk (0 : Int) (by omega)
          ·
            refine And.intro (show -2147483648 ≤ (p + (6 : Int)) ∧ (p + (6 : Int)) < 2147483648 by omega) ?_
            refine c_Tape_isGivenAt (i := i) (p := (p + (6 : Int))) (show 0 ≤ (p + (6 : Int)) ∧ (p + (6 : Int)) ≤ 5996 by omega) (fun (z56 : Int) (q57 : z56 = 0 ∨ z56 = 1) => ?_)
            refine And.intro (fun (h58 : (z56 = (0 : Int) : Prop)) => ?_) (fun (h58 : (z56 ≠ (0 : Int) : Prop)) => ?_)
            ·
              refine And.intro (show 0 ≤ (0 : Int) ∧ (0 : Int) ≤ 1 by omega) ?_
              exact hk (0 : Int) (by omega)
            ·
              refine And.intro (show -2147483648 ≤ (p + (10 : Int)) ∧ (p + (10 : Int)) < 2147483648 by omega) ?_
              refine c_Tape_isGivenAt (i := i) (p := (p + (10 : Int))) (show 0 ≤ (p + (10 : Int)) ∧ (p + (10 : Int)) ≤ 5996 by omega) (fun (z59 : Int) (q60 : z59 = 0 ∨ z59 = 1) => ?_)
              refine And.intro (fun (h61 : (z59 ≠ (0 : Int) : Prop)) => ?_) (fun (h61 : (z59 = (0 : Int) : Prop)) => ?_)
              ·
                refine c_Tape_depthAt (i := i) (p := p) (show 0 ≤ p ∧ p < 5986 by omega) (fun (z62 : Int) (q63 : z62 = (S 33 i (p + 14).toNat % 256) ∧ 0 ≤ z62 ∧ z62 ≤ 255) => ?_)
                refine And.intro (by decide) ?_
                refine And.intro (fun (h64 : (z6 ≠ (1 : Int) : Prop)) => ?_) (fun (h64 : (z6 = (1 : Int) : Prop)) => ?_)
                ·
                  refine And.intro (by decide) ?_
                  refine And.intro (fun _ => ?_) (fun h => absurd h (by decide))
                  refine And.intro (fun (h65 : (z62 = (0 : Int) : Prop)) => ?_) (fun (h65 : (z62 ≠ (0 : Int) : Prop)) => ?_)
                  ·
                    refine And.intro (show -2147483648 ≤ (p + (17 : Int)) ∧ (p + (17 : Int)) < 2147483648 by omega) ?_
                    refine And.intro (show -2147483648 ≤ ((8 : Int) * z62) ∧ ((8 : Int) * z62) < 2147483648 by omega) ?_
                    refine And.intro (show -2147483648 ≤ ((p + (17 : Int)) + ((8 : Int) * z62)) ∧ ((p + (17 : Int)) + ((8 : Int) * z62)) < 2147483648 by omega) ?_
                    refine And.intro (by decide) ?_
                    refine And.intro (show -2147483648 ≤ (((p + (17 : Int)) + ((8 : Int) * z62)) + (4 : Int)) ∧ (((p + (17 : Int)) + ((8 : Int) * z62)) + (4 : Int)) < 2147483648 by omega) ?_
                    intro z66 (z66a : (0 : Int) ≤ z66) (z66b : z66 ≤ (6000 : Int)) (z66c : z66 = S 32 i 1)
                    refine And.intro (fun (h67 : ((((p + (17 : Int)) + ((8 : Int) * z62)) + (4 : Int)) ≤ z66 : Prop)) => ?_) (fun (h67 : (z66 < (((p + (17 : Int)) + ((8 : Int) * z62)) + (4 : Int)) : Prop)) => ?_)
                    ·
                      refine c_Tape_sizeAt (i := i) (p := p) (show 0 ≤ p ∧ p < 5986 ∧ p + 17 + 8 * (S 33 i (p + 14).toNat % 256) ≤ 6000 by omega) (fun (z68 : Int) (q69 : z68 = sN S 33 i (p + 15 + 8 * (S 33 i (p + 14).toNat % 256)) 2 ∧ 0 ≤ z68 ∧ z68 ≤ 65535) => ?_)
                      refine And.intro (fun _ => ?_) (fun h => absurd h (by decide))
                      refine And.intro (fun (h70 : (z68 ≤ (0 : Int) : Prop)) => ?_) (fun (h70 : ((0 : Int) < z68 : Prop)) => ?_)
                      ·
                        refine c_Tape_wholeLength (i := i) (p := p) (show 0 ≤ p ∧ p < 5986 ∧ p + 17 + 8 * (S 33 i (p + 14).toNat % 256) ≤ 6000 by omega) (fun (z71 : Int) (q72 : (S 33 i (p + 1).toNat % 256 = 1 → z71 = 25 + 8 * (S 33 i (p + 14).toNat % 256) + sN S 33 i (p + 15 + 8 * (S 33 i (p + 14).toNat % 256)) 2) ∧ (S 33 i (p + 1).toNat % 256 ≠ 1 → z71 = 21 + 8 * (S 33 i (p + 14).toNat % 256)) ∧ 0 ≤ z71 ∧ z71 ≤ 100000) => ?_)
                        refine And.intro (show -2147483648 ≤ (p + z71) ∧ (p + z71) < 2147483648 by omega) ?_
                        intro z73 (z73a : (0 : Int) ≤ z73) (z73b : z73 ≤ (6000 : Int)) (z73c : z73 = S 32 i 1)
                        refine And.intro (fun (h74 : ((p + z71) ≤ z73 : Prop)) => ?_) (fun (h74 : (z73 < (p + z71) : Prop)) => ?_)
                        ·
                          refine c_checkOf33 (i := i) (f := p) (e := ((p + (17 : Int)) + ((8 : Int) * z62))) (show 0 ≤ p ∧ p ≤ 6000 by omega) (show ((p + (17 : Int)) + ((8 : Int) * z62)) ≤ 6000 by omega) (fun (z75 : Int) (q76 : -2147483648 ≤ z75 ∧ z75 < 2147483648) => ?_)
                          refine c_numberAt33 (i := i) (p := ((p + (17 : Int)) + ((8 : Int) * z62))) (c := (4 : Int)) (show 0 ≤ ((p + (17 : Int)) + ((8 : Int) * z62)) by omega) (show 0 ≤ (4 : Int) ∧ (4 : Int) ≤ 8 ∧ ((p + (17 : Int)) + ((8 : Int) * z62)) + (4 : Int) ≤ 6000 by omega) (fun (z77 : Int) (q78 : z77 = sN S 33 i ((p + (17 : Int)) + ((8 : Int) * z62)) (4 : Int).toNat ∧ -2147483648 ≤ z77 ∧ z77 < 2147483648) => ?_)
                          refine And.intro (fun (h79 : (z75 ≠ z77 : Prop)) => ?_) (fun (h79 : (z75 = z77 : Prop)) => ?_)
                          ·
                            refine And.intro (show 0 ≤ (0 : Int) ∧ (0 : Int) ≤ 1 by omega) ?_
                            exact hk (0 : Int) (by omega)
                          ·
                            refine And.intro (show 0 ≤ (1 : Int) ∧ (1 : Int) ≤ 1 by omega) ?_
                            exact hk (1 : Int) (by omega)
                        ·
                          refine And.intro (show 0 ≤ (0 : Int) ∧ (0 : Int) ≤ 1 by omega) ?_
                          exact hk (0 : Int) (by omega)
                      ·
                        refine And.intro (show 0 ≤ (0 : Int) ∧ (0 : Int) ≤ 1 by omega) ?_
                        exact hk (0 : Int) (by omega)
                    ·
                      refine And.intro (show 0 ≤ (0 : Int) ∧ (0 : Int) ≤ 1 by omega) ?_
                      exact hk (0 : Int) (by omega)
                  ·
                    refine And.intro (show 0 ≤ (0 : Int) ∧ (0 : Int) ≤ 1 by omega) ?_
                    exact hk (0 : Int) (by omega)
                ·
                  refine And.intro (by decide) ?_
                  refine And.intro (fun h => absurd h (by decide)) (fun _ => ?_)
                  refine And.intro (fun (h80 : (z62 < (1 : Int) : Prop)) => ?_) (fun (h80 : ((1 : Int) ≤ z62 : Prop)) => ?_)
                  ·
                    refine And.intro (show 0 ≤ (0 : Int) ∧ (0 : Int) ≤ 1 by omega) ?_
                    exact hk (0 : Int) (by omega)
                  ·
                    refine And.intro (fun (h81 : (z62 ≤ (5 : Int) : Prop)) => ?_) (fun (h81 : ((5 : Int) < z62 : Prop)) => ?_)
                    ·
                      refine And.intro (show -2147483648 ≤ (p + (17 : Int)) ∧ (p + (17 : Int)) < 2147483648 by omega) ?_
                      refine And.intro (show -2147483648 ≤ ((8 : Int) * z62) ∧ ((8 : Int) * z62) < 2147483648 by omega) ?_
                      refine And.intro (show -2147483648 ≤ ((p + (17 : Int)) + ((8 : Int) * z62)) ∧ ((p + (17 : Int)) + ((8 : Int) * z62)) < 2147483648 by omega) ?_
                      refine And.intro (by decide) ?_
                      refine And.intro (show -2147483648 ≤ (((p + (17 : Int)) + ((8 : Int) * z62)) + (4 : Int)) ∧ (((p + (17 : Int)) + ((8 : Int) * z62)) + (4 : Int)) < 2147483648 by omega) ?_
                      intro z82 (z82a : (0 : Int) ≤ z82) (z82b : z82 ≤ (6000 : Int)) (z82c : z82 = S 32 i 1)
                      refine And.intro (fun (h83 : ((((p + (17 : Int)) + ((8 : Int) * z62)) + (4 : Int)) ≤ z82 : Prop)) => ?_) (fun (h83 : (z82 < (((p + (17 : Int)) + ((8 : Int) * z62)) + (4 : Int)) : Prop)) => ?_)
                      ·
                        refine c_Tape_sizeAt (i := i) (p := p) (show 0 ≤ p ∧ p < 5986 ∧ p + 17 + 8 * (S 33 i (p + 14).toNat % 256) ≤ 6000 by omega) (fun (z84 : Int) (q85 : z84 = sN S 33 i (p + 15 + 8 * (S 33 i (p + 14).toNat % 256)) 2 ∧ 0 ≤ z84 ∧ z84 ≤ 65535) => ?_)
                        refine And.intro (fun h => absurd h (by decide)) (fun _ => ?_)
                        refine And.intro (fun (h86 : (z84 ≤ (1024 : Int) : Prop)) => ?_) (fun (h86 : ((1024 : Int) < z84 : Prop)) => ?_)
                        ·
                          refine c_Tape_wholeLength (i := i) (p := p) (show 0 ≤ p ∧ p < 5986 ∧ p + 17 + 8 * (S 33 i (p + 14).toNat % 256) ≤ 6000 by omega) (fun (z87 : Int) (q88 : (S 33 i (p + 1).toNat % 256 = 1 → z87 = 25 + 8 * (S 33 i (p + 14).toNat % 256) + sN S 33 i (p + 15 + 8 * (S 33 i (p + 14).toNat % 256)) 2) ∧ (S 33 i (p + 1).toNat % 256 ≠ 1 → z87 = 21 + 8 * (S 33 i (p + 14).toNat % 256)) ∧ 0 ≤ z87 ∧ z87 ≤ 100000) => ?_)
                          refine And.intro (show -2147483648 ≤ (p + z87) ∧ (p + z87) < 2147483648 by omega) ?_
                          intro z89 (z89a : (0 : Int) ≤ z89) (z89b : z89 ≤ (6000 : Int)) (z89c : z89 = S 32 i 1)
                          refine And.intro (fun (h90 : ((p + z87) ≤ z89 : Prop)) => ?_) (fun (h90 : (z89 < (p + z87) : Prop)) => ?_)
                          ·
                            refine c_checkOf33 (i := i) (f := p) (e := ((p + (17 : Int)) + ((8 : Int) * z62))) (show 0 ≤ p ∧ p ≤ 6000 by omega) (show ((p + (17 : Int)) + ((8 : Int) * z62)) ≤ 6000 by omega) (fun (z91 : Int) (q92 : -2147483648 ≤ z91 ∧ z91 < 2147483648) => ?_)
                            refine c_numberAt33 (i := i) (p := ((p + (17 : Int)) + ((8 : Int) * z62))) (c := (4 : Int)) (show 0 ≤ ((p + (17 : Int)) + ((8 : Int) * z62)) by omega) (show 0 ≤ (4 : Int) ∧ (4 : Int) ≤ 8 ∧ ((p + (17 : Int)) + ((8 : Int) * z62)) + (4 : Int) ≤ 6000 by omega) (fun (z93 : Int) (q94 : z93 = sN S 33 i ((p + (17 : Int)) + ((8 : Int) * z62)) (4 : Int).toNat ∧ -2147483648 ≤ z93 ∧ z93 < 2147483648) => ?_)
                            refine And.intro (fun (h95 : (z91 ≠ z93 : Prop)) => ?_) (fun (h95 : (z91 = z93 : Prop)) => ?_)
                            ·
                              refine And.intro (show 0 ≤ (0 : Int) ∧ (0 : Int) ≤ 1 by omega) ?_
                              exact hk (0 : Int) (by omega)
                            ·
                              refine And.intro (show 0 ≤ (1 : Int) ∧ (1 : Int) ≤ 1 by omega) ?_
                              exact hk (1 : Int) (by omega)
                          ·
                            refine And.intro (show 0 ≤ (0 : Int) ∧ (0 : Int) ≤ 1 by omega) ?_
                            exact hk (0 : Int) (by omega)
                        ·
                          refine And.intro (show 0 ≤ (0 : Int) ∧ (0 : Int) ≤ 1 by omega) ?_
                          exact hk (0 : Int) (by omega)
                      ·
                        refine And.intro (show 0 ≤ (0 : Int) ∧ (0 : Int) ≤ 1 by omega) ?_
                        exact hk (0 : Int) (by omega)
                    ·
                      refine And.intro (show 0 ≤ (0 : Int) ∧ (0 : Int) ≤ 1 by omega) ?_
                      exact hk (0 : Int) (by omega)
              ·
                refine And.intro (show 0 ≤ (0 : Int) ∧ (0 : Int) ≤ 1 by omega) ?_
                exact hk (0 : Int) (by omega)
        ·
          refine And.intro (show 0 ≤ (0 : Int) ∧ (0 : Int) ≤ 1 by omega) ?_
          exact hk (0 : Int) (by omega)
    ·
      refine And.intro (show 0 ≤ (0 : Int) ∧ (0 : Int) ≤ 1 by omega) ?_
      exact hk (0 : Int) (by omega)
theorem c_Tape_note {l : Launch} {k : fxK} {S : fxS} {i : Nat} {p : Int} (p0 : 8 ≤ p ∧ p + 21 + 8 * (S 33 i (p + 14).toNat % 256) ≤ S 32 i 1 ∧ S 32 i 1 ≤ 6000 ∧ (S 33 i (p + 14).toNat % 256) ≤ 5 ∧ (S 33 i (p + 1).toNat % 256 = 1 ∨ S 33 i (p + 1).toNat % 256 = 2) ∧ sN S 33 i (p + 15 + 8 * (S 33 i (p + 14).toNat % 256)) 2 ≤ 1024 ∧ (S 33 i (p + 1).toNat % 256 = 1 → 1 ≤ (S 33 i (p + 14).toNat % 256) ∧ p + 25 + 8 * (S 33 i (p + 14).toNat % 256) + sN S 33 i (p + 15 + 8 * (S 33 i (p + 14).toNat % 256)) 2 ≤ S 32 i 1)) (p1 : 0 ≤ S 32 i 5 ∧ S 32 i 5 < 285) (p2 : SegA S) (hk : ∀ (S' : fxS) , (fxfr [(32, 5), (34, 9999), (35, 9999), (36, 9999), (37, 9999)] S S' ∧ (S' 32 i 5 = S 32 i 5 + 1) ∧ (SegA S')) → k none S') : fC l 46 [.inr (.inr (32, i)), .inl p] S k := by
  refine fxe_46 (Nat.le_of_ble_eq_true rfl) (fxz_46 400 ?_)
  intro z1 (z1a : (0 : Int) ≤ z1) (z1b : z1 ≤ (285 : Int)) (z1c : z1 = S 32 i 5)
  refine And.intro (show 0 ≤ z1 ∧ z1 < 285 by omega) ?_
  refine And.intro (show (0 : Int) ≤ p ∧ p ≤ (5979 : Int) by omega) ?_
  have w2 : (fx_up S 34 i (z1).toNat p) 32 i 5 = S 32 i 5 := rfl
  intro z3 (z3a : (0 : Int) ≤ z3) (z3b : z3 ≤ (285 : Int)) (z3c : z3 = (fx_up S 34 i (z1).toNat p) 32 i 5)
  refine And.intro (show -2147483648 ≤ (p + (2 : Int)) ∧ (p + (2 : Int)) < 2147483648 by omega) ?_
  refine c_numberAt33 (i := i) (p := (p + (2 : Int))) (c := (4 : Int)) (show 0 ≤ (p + (2 : Int)) by first | omega | exact SEG_same (fun _ => rfl) rfl p0) (show 0 ≤ (4 : Int) ∧ (4 : Int) ≤ 8 ∧ (p + (2 : Int)) + (4 : Int) ≤ 6000 by first | omega | exact SEG_same (fun _ => rfl) rfl p0) (fun (z4 : Int) (q5 : z4 = sN (fx_up S 34 i (z1).toNat p) 33 i (p + (2 : Int)) (4 : Int).toNat ∧ -2147483648 ≤ z4 ∧ z4 < 2147483648) => ?_)
  refine And.intro (show 0 ≤ z3 ∧ z3 < 285 by omega) ?_
  refine And.intro (show (-2147483648 : Int) ≤ z4 ∧ z4 ≤ (2147483647 : Int) by omega) ?_
  have w6 : (fx_up (fx_up S 34 i (z1).toNat p) 35 i (z3).toNat z4) 32 i 5 = (fx_up S 34 i (z1).toNat p) 32 i 5 := rfl
  intro z7 (z7a : (0 : Int) ≤ z7) (z7b : z7 ≤ (285 : Int)) (z7c : z7 = (fx_up (fx_up S 34 i (z1).toNat p) 35 i (z3).toNat z4) 32 i 5)
  refine And.intro (show -2147483648 ≤ (p + (10 : Int)) ∧ (p + (10 : Int)) < 2147483648 by omega) ?_
  refine c_numberAt33 (i := i) (p := (p + (10 : Int))) (c := (4 : Int)) (show 0 ≤ (p + (10 : Int)) by first | omega | exact SEG_same (fun _ => rfl) rfl p0) (show 0 ≤ (4 : Int) ∧ (4 : Int) ≤ 8 ∧ (p + (10 : Int)) + (4 : Int) ≤ 6000 by first | omega | exact SEG_same (fun _ => rfl) rfl p0) (fun (z8 : Int) (q9 : z8 = sN (fx_up (fx_up S 34 i (z1).toNat p) 35 i (z3).toNat z4) 33 i (p + (10 : Int)) (4 : Int).toNat ∧ -2147483648 ≤ z8 ∧ z8 < 2147483648) => ?_)
  refine And.intro (show 0 ≤ z7 ∧ z7 < 285 by omega) ?_
  refine And.intro (show (-2147483648 : Int) ≤ z8 ∧ z8 ≤ (2147483647 : Int) by omega) ?_
  have w10 : (fx_up (fx_up (fx_up S 34 i (z1).toNat p) 35 i (z3).toNat z4) 36 i (z7).toNat z8) 32 i 5 = (fx_up (fx_up S 34 i (z1).toNat p) 35 i (z3).toNat z4) 32 i 5 := rfl
  intro z11 (z11a : (0 : Int) ≤ z11) (z11b : z11 ≤ (285 : Int)) (z11c : z11 = (fx_up (fx_up (fx_up S 34 i (z1).toNat p) 35 i (z3).toNat z4) 36 i (z7).toNat z8) 32 i 5)
  refine c_Tape_hasGoodData (i := i) (p := p) (show 8 ≤ p ∧ p + 21 + 8 * ((fx_up (fx_up (fx_up S 34 i (z1).toNat p) 35 i (z3).toNat z4) 36 i (z7).toNat z8) 33 i (p + 14).toNat % 256) ≤ (fx_up (fx_up (fx_up S 34 i (z1).toNat p) 35 i (z3).toNat z4) 36 i (z7).toNat z8) 32 i 1 ∧ (fx_up (fx_up (fx_up S 34 i (z1).toNat p) 35 i (z3).toNat z4) 36 i (z7).toNat z8) 32 i 1 ≤ 6000 ∧ ((fx_up (fx_up (fx_up S 34 i (z1).toNat p) 35 i (z3).toNat z4) 36 i (z7).toNat z8) 33 i (p + 14).toNat % 256) ≤ 5 ∧ ((fx_up (fx_up (fx_up S 34 i (z1).toNat p) 35 i (z3).toNat z4) 36 i (z7).toNat z8) 33 i (p + 1).toNat % 256 = 1 ∨ (fx_up (fx_up (fx_up S 34 i (z1).toNat p) 35 i (z3).toNat z4) 36 i (z7).toNat z8) 33 i (p + 1).toNat % 256 = 2) ∧ sN (fx_up (fx_up (fx_up S 34 i (z1).toNat p) 35 i (z3).toNat z4) 36 i (z7).toNat z8) 33 i (p + 15 + 8 * ((fx_up (fx_up (fx_up S 34 i (z1).toNat p) 35 i (z3).toNat z4) 36 i (z7).toNat z8) 33 i (p + 14).toNat % 256)) 2 ≤ 1024 ∧ ((fx_up (fx_up (fx_up S 34 i (z1).toNat p) 35 i (z3).toNat z4) 36 i (z7).toNat z8) 33 i (p + 1).toNat % 256 = 1 → 1 ≤ ((fx_up (fx_up (fx_up S 34 i (z1).toNat p) 35 i (z3).toNat z4) 36 i (z7).toNat z8) 33 i (p + 14).toNat % 256) ∧ p + 25 + 8 * ((fx_up (fx_up (fx_up S 34 i (z1).toNat p) 35 i (z3).toNat z4) 36 i (z7).toNat z8) 33 i (p + 14).toNat % 256) + sN (fx_up (fx_up (fx_up S 34 i (z1).toNat p) 35 i (z3).toNat z4) 36 i (z7).toNat z8) 33 i (p + 15 + 8 * ((fx_up (fx_up (fx_up S 34 i (z1).toNat p) 35 i (z3).toNat z4) 36 i (z7).toNat z8) 33 i (p + 14).toNat % 256)) 2 ≤ (fx_up (fx_up (fx_up S 34 i (z1).toNat p) 35 i (z3).toNat z4) 36 i (z7).toNat z8) 32 i 1) by first | omega | exact SEG_same (fun _ => rfl) rfl p0) (fun (z12 : Int) (q13 : z12 = 0 ∨ z12 = 1) => ?_)
  refine And.intro (show 0 ≤ z11 ∧ z11 < 285 by omega) ?_
  refine And.intro (show (0 : Int) ≤ z12 ∧ z12 ≤ (1 : Int) by omega) ?_
  have w14 : (fx_up (fx_up (fx_up (fx_up S 34 i (z1).toNat p) 35 i (z3).toNat z4) 36 i (z7).toNat z8) 37 i (z11).toNat z12) 32 i 5 = (fx_up (fx_up (fx_up S 34 i (z1).toNat p) 35 i (z3).toNat z4) 36 i (z7).toNat z8) 32 i 5 := rfl
  intro z15 (z15a : (0 : Int) ≤ z15) (z15b : z15 ≤ (285 : Int)) (z15c : z15 = (fx_up (fx_up (fx_up (fx_up S 34 i (z1).toNat p) 35 i (z3).toNat z4) 36 i (z7).toNat z8) 37 i (z11).toNat z12) 32 i 5)
  refine And.intro (show -2147483648 ≤ (z15 + (1 : Int)) ∧ (z15 + (1 : Int)) < 2147483648 by omega) ?_
  refine And.intro (show (0 : Int) ≤ (z15 + (1 : Int)) ∧ (z15 + (1 : Int)) ≤ (285 : Int) by omega) ?_
  have w16 : (fx_up (fx_up (fx_up (fx_up (fx_up S 34 i (z1).toNat p) 35 i (z3).toNat z4) 36 i (z7).toNat z8) 37 i (z11).toNat z12) 32 i 5 (z15 + (1 : Int))) 32 i 5 = (z15 + (1 : Int)) := fx_up_at _ _ _ _ _
  exact hk (fx_up (fx_up (fx_up (fx_up (fx_up S 34 i (z1).toNat p) 35 i (z3).toNat z4) 36 i (z7).toNat z8) 37 i (z11).toNat z12) 32 i 5 (z15 + (1 : Int))) ⟨(fxfr_up (fxfr_up (fxfr_up (fxfr_up (fxfr_up fxfr_rfl rfl) rfl) rfl) rfl) rfl), by omega, by exact SegA_note (by omega) (by omega) (by omega) (by assumption) p0⟩
theorem z_Tape_scan {l : Launch} {k : fxK} {S : fxS} {i : Nat} (p0 : SegA S) (hk : ∀ (S' : fxS) , (fxfr [(32, 3), (32, 4), (32, 5), (34, 9999), (35, 9999), (36, 9999), (37, 9999)] S S' ∧ (SegA S')) → k none S') : ∀ m : Nat, (∀  (S1 : fxS), (fxfr [(32, 3), (32, 4), (32, 5), (34, 9999), (35, 9999), (36, 9999), (37, 9999)] S S1) → (SegA S1) → 6001 - S1 32 i 3 ≤ (m : Int) → fZ l 47 k 0 [some (.inr (.inr (32, i)))] [] S1) := by
  intro m
  induction m with
  | zero =>
    intro S1 hf hs1 hmu
    refine fxz_47 400 ?_
    intro z za zb zc
    exfalso
    omega
  | succ m ih =>
    intro  S1 hf i0 hmu
    refine fxz_47 400 ?_
    intro z1 (z1a : (8 : Int) ≤ z1) (z1b : z1 ≤ (6000 : Int)) (z1c : z1 = S1 32 i 3)
    intro z2 (z2a : (0 : Int) ≤ z2) (z2b : z2 ≤ (6000 : Int)) (z2c : z2 = S1 32 i 1)
    refine And.intro (fun (h3 : (z2 ≤ z1 : Prop)) => ?_) (fun (h3 : (z1 < z2 : Prop)) => ?_)
    ·
      exact hk S1 ⟨hf, i0⟩
    ·
      intro z4 (z4a : (0 : Int) ≤ z4) (z4b : z4 ≤ (285 : Int)) (z4c : z4 = S1 32 i 5)
      refine And.intro (fun (h5 : ((285 : Int) ≤ z4 : Prop)) => ?_) (fun (h5 : (z4 < (285 : Int) : Prop)) => ?_)
      ·
        refine And.intro (show (0 : Int) ≤ (1 : Int) ∧ (1 : Int) ≤ (1 : Int) by omega) ?_
        have w6 : (fx_up S1 32 i 4 (1 : Int)) 32 i 1 = S1 32 i 1 := if_neg (fun q => absurd q.2.2 (by decide))
        have w7 : (fx_up S1 32 i 4 (1 : Int)) 32 i 3 = S1 32 i 3 := if_neg (fun q => absurd q.2.2 (by decide))
        have w8 : (fx_up S1 32 i 4 (1 : Int)) 32 i 5 = S1 32 i 5 := if_neg (fun q => absurd q.2.2 (by decide))
        have g9 : SegA (fx_up S1 32 i 4 (1 : Int)) := fx_pup SegA_stab rfl i0
        intro z10 (z10a : (8 : Int) ≤ z10) (z10b : z10 ≤ (6000 : Int)) (z10c : z10 = (fx_up S1 32 i 4 (1 : Int)) 32 i 3)
        obtain rfl : z1 = z10 := by omega
        refine And.intro (show -2147483648 ≤ (z1 + (1 : Int)) ∧ (z1 + (1 : Int)) < 2147483648 by omega) ?_
        refine And.intro (show (8 : Int) ≤ (z1 + (1 : Int)) ∧ (z1 + (1 : Int)) ≤ (6000 : Int) by omega) ?_
        have w11 : (fx_up (fx_up S1 32 i 4 (1 : Int)) 32 i 3 (z1 + (1 : Int))) 32 i 1 = (fx_up S1 32 i 4 (1 : Int)) 32 i 1 := if_neg (fun q => absurd q.2.2 (by decide))
        have w12 : (fx_up (fx_up S1 32 i 4 (1 : Int)) 32 i 3 (z1 + (1 : Int))) 32 i 3 = (z1 + (1 : Int)) := fx_up_at _ _ _ _ _
        have w13 : (fx_up (fx_up S1 32 i 4 (1 : Int)) 32 i 3 (z1 + (1 : Int))) 32 i 5 = (fx_up S1 32 i 4 (1 : Int)) 32 i 5 := if_neg (fun q => absurd q.2.2 (by decide))
        have g14 : SegA (fx_up (fx_up S1 32 i 4 (1 : Int)) 32 i 3 (z1 + (1 : Int))) := fx_pup SegA_stab rfl g9
        exact ih  (fx_up (fx_up S1 32 i 4 (1 : Int)) 32 i 3 (z1 + (1 : Int))) (fxfr_up (fxfr_up hf rfl) rfl) g14 (by omega)
      ·
        intro z15 (z15a : (8 : Int) ≤ z15) (z15b : z15 ≤ (6000 : Int)) (z15c : z15 = S1 32 i 3)
        obtain rfl : z1 = z15 := by omega
        refine c_Tape_isSegmentAt (i := i) (p := z1) (show 8 ≤ z1 ∧ z1 < 6000 by omega) (fun (z16 : Int) (q17 : 0 ≤ z16 ∧ z16 ≤ 1 ∧ (z16 = 1 → 8 ≤ z1 ∧ z1 + 21 + 8 * (S1 33 i (z1 + 14).toNat % 256) ≤ S1 32 i 1 ∧ S1 32 i 1 ≤ 6000 ∧ (S1 33 i (z1 + 14).toNat % 256) ≤ 5 ∧ (S1 33 i (z1 + 1).toNat % 256 = 1 ∨ S1 33 i (z1 + 1).toNat % 256 = 2) ∧ sN S1 33 i (z1 + 15 + 8 * (S1 33 i (z1 + 14).toNat % 256)) 2 ≤ 1024 ∧ (S1 33 i (z1 + 1).toNat % 256 = 1 → 1 ≤ (S1 33 i (z1 + 14).toNat % 256) ∧ z1 + 25 + 8 * (S1 33 i (z1 + 14).toNat % 256) + sN S1 33 i (z1 + 15 + 8 * (S1 33 i (z1 + 14).toNat % 256)) 2 ≤ S1 32 i 1))) => ?_)
        refine And.intro (fun (h18 : (z16 = (0 : Int) : Prop)) => ?_) (fun (h18 : (z16 ≠ (0 : Int) : Prop)) => ?_)
        ·
          refine And.intro (show (0 : Int) ≤ (1 : Int) ∧ (1 : Int) ≤ (1 : Int) by omega) ?_
          have w19 : (fx_up S1 32 i 4 (1 : Int)) 32 i 1 = S1 32 i 1 := if_neg (fun q => absurd q.2.2 (by decide))
          have w20 : (fx_up S1 32 i 4 (1 : Int)) 32 i 3 = S1 32 i 3 := if_neg (fun q => absurd q.2.2 (by decide))
          have w21 : (fx_up S1 32 i 4 (1 : Int)) 32 i 5 = S1 32 i 5 := if_neg (fun q => absurd q.2.2 (by decide))
          have g22 : SegA (fx_up S1 32 i 4 (1 : Int)) := fx_pup SegA_stab rfl i0
          intro z23 (z23a : (8 : Int) ≤ z23) (z23b : z23 ≤ (6000 : Int)) (z23c : z23 = (fx_up S1 32 i 4 (1 : Int)) 32 i 3)
          obtain rfl : z1 = z23 := by omega
          refine And.intro (show -2147483648 ≤ (z1 + (1 : Int)) ∧ (z1 + (1 : Int)) < 2147483648 by omega) ?_
          refine And.intro (show (8 : Int) ≤ (z1 + (1 : Int)) ∧ (z1 + (1 : Int)) ≤ (6000 : Int) by omega) ?_
          have w24 : (fx_up (fx_up S1 32 i 4 (1 : Int)) 32 i 3 (z1 + (1 : Int))) 32 i 1 = (fx_up S1 32 i 4 (1 : Int)) 32 i 1 := if_neg (fun q => absurd q.2.2 (by decide))
          have w25 : (fx_up (fx_up S1 32 i 4 (1 : Int)) 32 i 3 (z1 + (1 : Int))) 32 i 3 = (z1 + (1 : Int)) := fx_up_at _ _ _ _ _
          have w26 : (fx_up (fx_up S1 32 i 4 (1 : Int)) 32 i 3 (z1 + (1 : Int))) 32 i 5 = (fx_up S1 32 i 4 (1 : Int)) 32 i 5 := if_neg (fun q => absurd q.2.2 (by decide))
          have g27 : SegA (fx_up (fx_up S1 32 i 4 (1 : Int)) 32 i 3 (z1 + (1 : Int))) := fx_pup SegA_stab rfl g22
          exact ih  (fx_up (fx_up S1 32 i 4 (1 : Int)) 32 i 3 (z1 + (1 : Int))) (fxfr_up (fxfr_up hf rfl) rfl) g27 (by omega)
        ·
          intro z28 (z28a : (8 : Int) ≤ z28) (z28b : z28 ≤ (6000 : Int)) (z28c : z28 = S1 32 i 3)
          obtain rfl : z1 = z28 := by omega
          refine c_Tape_note (i := i) (p := z1) (show 8 ≤ z1 ∧ z1 + 21 + 8 * (S1 33 i (z1 + 14).toNat % 256) ≤ S1 32 i 1 ∧ S1 32 i 1 ≤ 6000 ∧ (S1 33 i (z1 + 14).toNat % 256) ≤ 5 ∧ (S1 33 i (z1 + 1).toNat % 256 = 1 ∨ S1 33 i (z1 + 1).toNat % 256 = 2) ∧ sN S1 33 i (z1 + 15 + 8 * (S1 33 i (z1 + 14).toNat % 256)) 2 ≤ 1024 ∧ (S1 33 i (z1 + 1).toNat % 256 = 1 → 1 ≤ (S1 33 i (z1 + 14).toNat % 256) ∧ z1 + 25 + 8 * (S1 33 i (z1 + 14).toNat % 256) + sN S1 33 i (z1 + 15 + 8 * (S1 33 i (z1 + 14).toNat % 256)) 2 ≤ S1 32 i 1) by omega) (show 0 ≤ S1 32 i 5 ∧ S1 32 i 5 < 285 by omega) i0 (fun (S29 : fxS) ⟨(f30 : fxfr [(32, 5), (34, 9999), (35, 9999), (36, 9999), (37, 9999)] S1 S29), (q31 : S29 32 i 5 = S1 32 i 5 + 1), (g32 : SegA S29)⟩ => ?_)
          have w33 : S29 32 i 1 = S1 32 i 1 := f30 32 i 1 rfl
          have w34 : S29 32 i 3 = S1 32 i 3 := f30 32 i 3 rfl
          have sx : 8 ≤ z1 ∧ z1 + 21 + 8 * (S29 33 i (z1 + 14).toNat % 256) ≤ S29 32 i 1 ∧ S29 32 i 1 ≤ 6000 ∧ (S29 33 i (z1 + 14).toNat % 256) ≤ 5 ∧ (S29 33 i (z1 + 1).toNat % 256 = 1 ∨ S29 33 i (z1 + 1).toNat % 256 = 2) ∧ sN S29 33 i (z1 + 15 + 8 * (S29 33 i (z1 + 14).toNat % 256)) 2 ≤ 1024 ∧ (S29 33 i (z1 + 1).toNat % 256 = 1 → 1 ≤ (S29 33 i (z1 + 14).toNat % 256) ∧ z1 + 25 + 8 * (S29 33 i (z1 + 14).toNat % 256) + sN S29 33 i (z1 + 15 + 8 * (S29 33 i (z1 + 14).toNat % 256)) 2 ≤ S29 32 i 1) := SEG_same (S := S1) (fun j => f30 33 i j rfl) (f30 32 i 1 rfl) (by omega)
          intro z35 (z35a : (8 : Int) ≤ z35) (z35b : z35 ≤ (6000 : Int)) (z35c : z35 = S29 32 i 3)
          obtain rfl : z1 = z35 := by omega
          intro z36 (z36a : (8 : Int) ≤ z36) (z36b : z36 ≤ (6000 : Int)) (z36c : z36 = S29 32 i 3)
          obtain rfl : z1 = z36 := by omega
          refine c_Tape_wholeLength (i := i) (p := z1) (show 0 ≤ z1 ∧ z1 < 5986 ∧ z1 + 17 + 8 * (S29 33 i (z1 + 14).toNat % 256) ≤ 6000 by omega) (fun (z37 : Int) (q38 : (S29 33 i (z1 + 1).toNat % 256 = 1 → z37 = 25 + 8 * (S29 33 i (z1 + 14).toNat % 256) + sN S29 33 i (z1 + 15 + 8 * (S29 33 i (z1 + 14).toNat % 256)) 2) ∧ (S29 33 i (z1 + 1).toNat % 256 ≠ 1 → z37 = 21 + 8 * (S29 33 i (z1 + 14).toNat % 256)) ∧ 0 ≤ z37 ∧ z37 ≤ 100000) => ?_)
          intro z39 (z39a : (1 : Int) ≤ z39) (z39b : z37 ≤ z39) (z39c : z39 = (1 : Int) ∨ z39 = z37)
          refine And.intro (show -2147483648 ≤ (z1 + z39) ∧ (z1 + z39) < 2147483648 by omega) ?_
          refine And.intro (show (8 : Int) ≤ (z1 + z39) ∧ (z1 + z39) ≤ (6000 : Int) by omega) ?_
          have w40 : (fx_up S29 32 i 3 (z1 + z39)) 32 i 1 = S29 32 i 1 := if_neg (fun q => absurd q.2.2 (by decide))
          have w41 : (fx_up S29 32 i 3 (z1 + z39)) 32 i 3 = (z1 + z39) := fx_up_at _ _ _ _ _
          have w42 : (fx_up S29 32 i 3 (z1 + z39)) 32 i 5 = S29 32 i 5 := if_neg (fun q => absurd q.2.2 (by decide))
          have g43 : SegA (fx_up S29 32 i 3 (z1 + z39)) := fx_pup SegA_stab rfl g32
          exact ih  (fx_up S29 32 i 3 (z1 + z39)) (fxfr_up (fxfr_tr hf f30 rfl) rfl) g43 (by omega)
theorem c_Tape_scan {l : Launch} {k : fxK} {S : fxS} {i : Nat} (p0 : SegA S) (hk : ∀ (S' : fxS) , (fxfr [(32, 3), (32, 4), (32, 5), (34, 9999), (35, 9999), (36, 9999), (37, 9999)] S S' ∧ (SegA S')) → k none S') : fC l 47 [.inr (.inr (32, i))] S k := by
  refine fxe_47 (Nat.le_of_ble_eq_true rfl) ?_
  exact (z_Tape_scan p0 hk (6001 - S 32 i 3).toNat)  S fxfr_rfl p0 (by omega)
theorem c_Tape_forgetScan {l : Launch} {k : fxK} {S : fxS} {i : Nat}  (hk : ∀ (S' : fxS) , (fxfr [(32, 3), (32, 4), (32, 5)] S S' ∧ (S' 32 i 5 = 0) ∧ (fxix i S S')) → k none S') : fC l 202 [.inr (.inr (32, i))] S k := by
  have ix0 : fxix i S S := fxix_rfl
  refine fxe_202 (Nat.le_of_ble_eq_true rfl) (fxz_202 400 ?_)
  refine And.intro (show (8 : Int) ≤ (8 : Int) ∧ (8 : Int) ≤ (6000 : Int) by omega) ?_
  have w1 : (fx_up S 32 i 3 (8 : Int)) 32 i 5 = S 32 i 5 := if_neg (fun q => absurd q.2.2 (by decide))
  have g2 : fxix i S (fx_up S 32 i 3 (8 : Int)) := fxix_up (by assumption)
  refine And.intro (show (0 : Int) ≤ (0 : Int) ∧ (0 : Int) ≤ (1 : Int) by omega) ?_
  have w3 : (fx_up (fx_up S 32 i 3 (8 : Int)) 32 i 4 (0 : Int)) 32 i 5 = (fx_up S 32 i 3 (8 : Int)) 32 i 5 := if_neg (fun q => absurd q.2.2 (by decide))
  have g4 : fxix i S (fx_up (fx_up S 32 i 3 (8 : Int)) 32 i 4 (0 : Int)) := fxix_up (by assumption)
  refine And.intro (show (0 : Int) ≤ (0 : Int) ∧ (0 : Int) ≤ (285 : Int) by omega) ?_
  have w5 : (fx_up (fx_up (fx_up S 32 i 3 (8 : Int)) 32 i 4 (0 : Int)) 32 i 5 (0 : Int)) 32 i 5 = (0 : Int) := fx_up_at _ _ _ _ _
  have g6 : fxix i S (fx_up (fx_up (fx_up S 32 i 3 (8 : Int)) 32 i 4 (0 : Int)) 32 i 5 (0 : Int)) := fxix_up (by assumption)
  exact hk (fx_up (fx_up (fx_up S 32 i 3 (8 : Int)) 32 i 4 (0 : Int)) 32 i 5 (0 : Int)) ⟨(fxfr_up (fxfr_up (fxfr_up fxfr_rfl rfl) rfl) rfl), by omega, by assumption⟩
theorem c_Tape_noteGrowth {l : Launch} {k : fxK} {S : fxS} {i : Nat}  (hk : ∀ (S' : fxS) , (fxfr [(32, 3), (32, 4), (32, 5)] S S' ∧ (S' 32 i 5 = 0 ∨ S' 32 i 5 = S 32 i 5) ∧ (fxix i S S')) → k none S') : fC l 237 [.inr (.inr (32, i))] S k := by
  have ix0 : fxix i S S := fxix_rfl
  refine fxe_237 (Nat.le_of_ble_eq_true rfl) (fxz_237 400 ?_)
  intro z1 (z1a : (0 : Int) ≤ z1) (z1b : z1 ≤ (1 : Int)) (z1c : z1 = S 32 i 4)
  refine And.intro (fun (h2 : (z1 = (0 : Int) : Prop)) => ?_) (fun (h2 : (z1 ≠ (0 : Int) : Prop)) => ?_)
  ·
    exact hk S ⟨fxfr_rfl, by omega, by assumption⟩
  ·
    refine c_Tape_forgetScan (i := i)  (fun (S3 : fxS) ⟨(f4 : fxfr [(32, 3), (32, 4), (32, 5)] S S3), (q5 : S3 32 i 5 = 0), (g6 : fxix i S S3)⟩ => ?_)
    have g7 : fxix i S S3 := fxix_tr (S1 := S) (by assumption) g6
    exact hk S3 ⟨(fxfr_tr fxfr_rfl f4 rfl), by omega, by assumption⟩
theorem z_Tape_titleAt {l : Launch} {k : fxK} {S : fxS} {i : Nat} {p : Int} {q : Int} (p0 : 0 ≤ p ∧ p ≤ 6000 ∧ -1 ≤ q ∧ q ≤ 255 ∧ 0 ≤ p + 15 + 8 * q ∧ p + 15 + 8 * q + 8 ≤ 6000) (hk : ∀ (r : Int) , k (some (.inr (.inl r))) S) : ∀ m : Nat, (∀ (x j : Int), (-1 ≤ j ∧ j ≤ 7) → j + 2 ≤ (m : Int) → fZ l 165 k 6 [some (.inr (.inr (32, i))), some (.inl p), some (.inl q), some (.inr (.inl x)), none, some (.inl j)] [] S) := by
  intro m
  induction m with
  | zero =>
    intro x j  i0 hmu
    exfalso
    omega
  | succ m ih =>
    intro x j  i0 hmu
    refine fxz_165 400 ?_
    refine And.intro (fun (h1 : (j < (0 : Int) : Prop)) => ?_) (fun (h1 : ((0 : Int) ≤ j : Prop)) => ?_)
    ·
      exact hk x
    ·
      intro z2
      refine And.intro (show -2147483648 ≤ (p + (15 : Int)) ∧ (p + (15 : Int)) < 2147483648 by omega) ?_
      refine And.intro (show -2147483648 ≤ ((8 : Int) * q) ∧ ((8 : Int) * q) < 2147483648 by omega) ?_
      refine And.intro (show -2147483648 ≤ ((p + (15 : Int)) + ((8 : Int) * q)) ∧ ((p + (15 : Int)) + ((8 : Int) * q)) < 2147483648 by omega) ?_
      refine And.intro (show -2147483648 ≤ (((p + (15 : Int)) + ((8 : Int) * q)) + j) ∧ (((p + (15 : Int)) + ((8 : Int) * q)) + j) < 2147483648 by omega) ?_
      refine c_Tape_byteAt (i := i) (p := (((p + (15 : Int)) + ((8 : Int) * q)) + j)) (show 0 ≤ (((p + (15 : Int)) + ((8 : Int) * q)) + j) ∧ (((p + (15 : Int)) + ((8 : Int) * q)) + j) < 6000 by omega) (fun (z3 : Int) (q4 : z3 = S 33 i (((p + (15 : Int)) + ((8 : Int) * q)) + j).toNat % 256 ∧ 0 ≤ z3 ∧ z3 ≤ 255) => ?_)
      intro z5
      refine And.intro (by decide) ?_
      refine And.intro (by decide) (And.intro (show -2147483648 ≤ j + (-1 : Int) ∧ j + (-1 : Int) < 2147483648 by omega) ?_)
      exact ih z5 (j + (-1 : Int))  (by omega) (by omega)
theorem c_Tape_titleAt {l : Launch} {k : fxK} {S : fxS} {i : Nat} {p : Int} {q : Int} (p0 : 0 ≤ p ∧ p ≤ 6000 ∧ -1 ≤ q ∧ q ≤ 255 ∧ 0 ≤ p + 15 + 8 * q ∧ p + 15 + 8 * q + 8 ≤ 6000) (hk : ∀ (r : Int) , k (some (.inr (.inl r))) S) : fC l 165 [.inr (.inr (32, i)), .inl p, .inl q] S k := by
  refine fxe_165 (Nat.le_of_ble_eq_true rfl) (fxz_165 400 ?_)
  refine And.intro (by decide) ?_
  refine And.intro (by decide) ?_
  exact (z_Tape_titleAt p0 hk ((7 : Int) + 2).toNat) (0 : Int) (7 : Int)  (by omega) (by omega)
theorem z_Tape_countGood {l : Launch} {k : fxK} {S : fxS} {i : Nat}  (hk : ∀ (r : Int) , (0 ≤ r ∧ r ≤ 285) → k (some (.inl r)) S) : ∀ m : Nat, (∀ (u j : Int), (0 ≤ u ∧ u ≤ j) → (0 ≤ j ∧ j ≤ 285) → 286 - j ≤ (m : Int) → fZ l 301 k 4 [some (.inr (.inr (32, i))), some (.inl u), some (.inl j)] [] S) := by
  intro m
  induction m with
  | zero =>
    intro u j  i0 i1 hmu
    exfalso
    omega
  | succ m ih =>
    intro u j  i0 i1 hmu
    refine fxz_301 400 ?_
    intro z1 (z1a : (0 : Int) ≤ z1) (z1b : z1 ≤ (285 : Int)) (z1c : z1 = S 32 i 5)
    refine And.intro (fun (h2 : (z1 ≤ j : Prop)) => ?_) (fun (h2 : (j < z1 : Prop)) => ?_)
    ·
      exact hk u (by omega)
    ·
      refine And.intro (show 0 ≤ j ∧ j < 285 by omega) ?_
      intro z3 (z3a : (0 : Int) ≤ z3) (z3b : z3 ≤ (1 : Int)) (z3c : z3 = S 37 i (j).toNat)
      refine And.intro (fun (h4 : (z3 = (0 : Int) : Prop)) => ?_) (fun (h4 : (z3 ≠ (0 : Int) : Prop)) => ?_)
      ·
        refine And.intro (by decide) (And.intro (show -2147483648 ≤ j + (1 : Int) ∧ j + (1 : Int) < 2147483648 by omega) ?_)
        exact ih u (j + (1 : Int))  (by omega) (by omega) (by omega)
      ·
        refine And.intro (by decide) (And.intro (show -2147483648 ≤ u + (1 : Int) ∧ u + (1 : Int) < 2147483648 by omega) ?_)
        refine And.intro (by decide) (And.intro (show -2147483648 ≤ j + (1 : Int) ∧ j + (1 : Int) < 2147483648 by omega) ?_)
        exact ih (u + (1 : Int)) (j + (1 : Int))  (by omega) (by omega) (by omega)
theorem c_Tape_countGood {l : Launch} {k : fxK} {S : fxS} {i : Nat}  (hk : ∀ (r : Int) , (0 ≤ r ∧ r ≤ 285) → k (some (.inl r)) S) : fC l 301 [.inr (.inr (32, i))] S k := by
  refine fxe_301 (Nat.le_of_ble_eq_true rfl) (fxz_301 400 ?_)
  refine And.intro (by decide) ?_
  refine And.intro (by decide) ?_
  exact (z_Tape_countGood  hk (286 - (0 : Int)).toNat) (0 : Int) (0 : Int)  (by omega) (by omega) (by omega)
theorem z_Tape_indexAt {l : Launch} {k : fxK} {S : fxS} {i : Nat} {p : Int} (p0 : -2147483648 ≤ p ∧ p < 2147483648) (hk : ∀ (r : Int) , (-1 ≤ r ∧ r < 285 ∧ (0 ≤ r → r < S 32 i 5 ∧ S 34 i r.toNat = p)) → k (some (.inl r)) S) : ∀ m : Nat, (∀ (j : Int), (0 ≤ j ∧ j ≤ 285) → 286 - j ≤ (m : Int) → fZ l 213 k 2 [some (.inr (.inr (32, i))), some (.inl p), some (.inl j)] [] S) := by
  intro m
  induction m with
  | zero =>
    intro j  i0 hmu
    exfalso
    omega
  | succ m ih =>
    intro j  i0 hmu
    refine fxz_213 400 ?_
    intro z1 (z1a : (0 : Int) ≤ z1) (z1b : z1 ≤ (285 : Int)) (z1c : z1 = S 32 i 5)
    refine And.intro (fun (h2 : (z1 ≤ j : Prop)) => ?_) (fun (h2 : (j < z1 : Prop)) => ?_)
    ·
      exact hk (-1 : Int) (by omega)
    ·
      refine And.intro (show 0 ≤ j ∧ j < 285 by omega) ?_
      intro z3 (z3a : (0 : Int) ≤ z3) (z3b : z3 ≤ (5979 : Int)) (z3c : z3 = S 34 i (j).toNat)
      refine And.intro (fun (h4 : (z3 ≠ p : Prop)) => ?_) (fun (h4 : (z3 = p : Prop)) => ?_)
      ·
        refine And.intro (by decide) (And.intro (show -2147483648 ≤ j + (1 : Int) ∧ j + (1 : Int) < 2147483648 by omega) ?_)
        exact ih (j + (1 : Int))  (by omega) (by omega)
      ·
        exact hk j (by omega)
theorem c_Tape_indexAt {l : Launch} {k : fxK} {S : fxS} {i : Nat} {p : Int} (p0 : -2147483648 ≤ p ∧ p < 2147483648) (hk : ∀ (r : Int) , (-1 ≤ r ∧ r < 285 ∧ (0 ≤ r → r < S 32 i 5 ∧ S 34 i r.toNat = p)) → k (some (.inl r)) S) : fC l 213 [.inr (.inr (32, i)), .inl p] S k := by
  refine fxe_213 (Nat.le_of_ble_eq_true rfl) (fxz_213 400 ?_)
  refine And.intro (by decide) ?_
  exact (z_Tape_indexAt p0 hk (286 - (0 : Int)).toNat) (0 : Int)  (by omega) (by omega)
