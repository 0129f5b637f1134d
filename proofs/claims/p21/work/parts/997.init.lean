/-! what holds behind the constructors -/
def nw0 (k : Nat) : Int := if k = 0 then 1 else if k = 1 then -1 else 0
theorem nw0_good {f : Nat → Int} (h : ∀ k, k < 2561 → f k = nw0 k) : GOODf f := by
  have z : ZRJ (2561 : Int) (fun _ _ _ => 0) := fun _ _ => rfl
  refine GOODf_ext (fun k hk => ?_) (ZRJ_good z (by omega))
  rw [h k hk]
  show nw0 k = (if (50 : Nat) = 50 ∧ (0 : Nat) = 0 ∧ k = 1 then (-1 : Int) else if (50 : Nat) = 50 ∧ (0 : Nat) = 0 ∧ k = 0 then (1 : Int) else 0)
  unfold nw0
  by_cases e0 : k = 0
  · subst e0; rfl
  · by_cases e1 : k = 1
    · subst e1; rfl
    · rw [if_neg e0, if_neg e1, if_neg (fun q => e1 q.2.2), if_neg (fun q => e0 q.2.2)]
theorem nw0_file {S : fxS} (h : ∀ k, k < 2561 → S 50 0 k = nw0 k) {n p b : Int} (hl : LIS (S 50 0) n p b) : False := by
  obtain ⟨h1, -, h3, -⟩ := hl
  have h3 : S 50 0 (42 * n + 0).toNat = 2 := h3
  rw [h _ (by omega)] at h3
  unfold nw0 at h3
  by_cases e0 : (42 * n + 0).toNat = 0
  · rw [if_pos e0] at h3; omega
  · by_cases e1 : (42 * n + 0).toNat = 1
    · omega
    · rw [if_neg e0, if_neg e1] at h3; omega
theorem INV_0 {S : fxS} (h32 : ∀ t, t < 6 → S 32 t 5 ≤ 0) (h26 : S 26 0 3 ≠ 1) (k0 : S 4 0 0 = 1) (o0 : S 4 0 1 = 0) (h4 : ∀ m : Nat, 1 ≤ m → m < 60 → S 4 m 0 = 0 ∧ S 4 m 1 = 0) (h13 : S 13 0 6 = 0) (h0 : S 0 0 10 ≠ 1) (h40 : S 40 0 2 = 0)
    (hn : ∀ k, k < 2561 → S 50 0 k = nw0 k) (hc : ∀ k, k < 2561 → S 53 0 k = nw0 k) (h7 : S 49 0 7 = 0) (h36 : S 49 0 36 = 0) (h15 : S 49 0 15 = 0) (a0 : S 72 0 0 = 0) (a1 : S 72 0 1 = 0) (hs : ∀ k, k < 14400 → S 65 0 k = 0) : INV S := by
  have gd := nw0_good hn
  have wt : WTS S := by
    have z : ∀ m : Nat, m < 60 → S 4 m 1 = 0 := fun m hm => by
      by_cases e : m = 0
      · subst e; exact o0
      · exact (h4 m (by omega) hm).2
    refine ⟨⟨o0, k0⟩, fun m hm => ?_, fun m hm e => absurd (z m hm) e, fun m hm _ => z m hm, fun m hm => ?_⟩
    · have := z m hm
      show 0 ≤ S 4 m 1 ∧ S 4 m 1 < 60
      omega
    · by_cases e : m = 0
      · rw [depF_0 (by omega)]; omega
      · rw [depF_s (k := 59) (by omega)]
        have : S 4 ((m : Int)).toNat 1 = 0 := z _ (by omega)
        show 1 + depF (fun m => S 4 m 1) 59 (S 4 ((m : Int)).toNat 1) ≤ 5
        rw [this, depF_0 (by omega)]; omega
  refine ⟨⟨fun t ht => SegT_0 (h32 t ht), fun e => absurd e h26⟩, Tree_0 h13 wt, LCt_of h0, fun e => by omega, gd.1, gd.2.1, gd.2.2.1, gd.2.2.2, fun n p b hl => (nw0_file hn hl).elim, fun c hc0 => ?_, REC_0 (by omega), fun r r0 r1 => ?_, WNW_n5 (by omega) (by omega), WNR_of (by omega) (fun e => by omega), LCM_of (by omega)⟩
  · have e : c = 0 := by omega
    subst e
    exact nw0_good (fun k hk => by show S 53 0 (2561 * 0 + k) = _; rw [show 2561 * 0 + k = k by omega]; exact hc k hk)
  · have z : ∀ w : Int, 0 ≤ w → w < 8 → sgN S r w = 0 := fun w w0 w1 => hs _ (by omega)
    rw [z 0 (by omega) (by omega), z 1 (by omega) (by omega), z 5 (by omega) (by omega), z 6 (by omega) (by omega)]
    unfold ROWK
    omega
/-- both sides' marks answer alike -/
theorem marks_eq {S S1 S2 : fxS} {s h lo r1 r2 : Int} (e0 : S 45 0 0 = S 60 0 0) (e1 : S 45 0 1 = S 60 0 1)
    (q1 : (s = 0 ∧ 0 ≤ h ∧ h ≤ 48 ∧ 0 ≤ lo ∧ lo ≤ h → r1 = S 45 0 0 ∧ S1 45 0 0 = h ∧ S1 45 0 1 = S 45 0 1) ∧ (s = 1 ∧ 0 ≤ h ∧ h ≤ 160 ∧ 0 ≤ lo ∧ lo ≤ h → r1 = S 45 0 1 ∧ S1 45 0 1 = h ∧ S1 45 0 0 = S 45 0 0) ∧ ((¬ (s = 0 ∧ 0 ≤ h ∧ h ≤ 48 ∧ 0 ≤ lo ∧ lo ≤ h) ∧ ¬ (s = 1 ∧ 0 ≤ h ∧ h ≤ 160 ∧ 0 ≤ lo ∧ lo ≤ h)) → r1 = -1 ∧ S1 45 0 0 = S 45 0 0 ∧ S1 45 0 1 = S 45 0 1)) (f1 : S1 60 0 0 = S 60 0 0 ∧ S1 60 0 1 = S 60 0 1)
    (q2 : (s = 0 ∧ 0 ≤ h ∧ h ≤ 48 ∧ 0 ≤ lo ∧ lo ≤ h → r2 = S1 60 0 0 ∧ S2 60 0 0 = h ∧ S2 60 0 1 = S1 60 0 1) ∧ (s = 1 ∧ 0 ≤ h ∧ h ≤ 160 ∧ 0 ≤ lo ∧ lo ≤ h → r2 = S1 60 0 1 ∧ S2 60 0 1 = h ∧ S2 60 0 0 = S1 60 0 0) ∧ ((¬ (s = 0 ∧ 0 ≤ h ∧ h ≤ 48 ∧ 0 ≤ lo ∧ lo ≤ h) ∧ ¬ (s = 1 ∧ 0 ≤ h ∧ h ≤ 160 ∧ 0 ≤ lo ∧ lo ≤ h)) → r2 = -1 ∧ S2 60 0 0 = S1 60 0 0 ∧ S2 60 0 1 = S1 60 0 1)) (f2 : S2 45 0 0 = S1 45 0 0 ∧ S2 45 0 1 = S1 45 0 1) :
    r1 = r2 ∧ S2 45 0 0 = S2 60 0 0 ∧ S2 45 0 1 = S2 60 0 1 := by
  by_cases v0 : s = 0 ∧ 0 ≤ h ∧ h ≤ 48 ∧ 0 ≤ lo ∧ lo ≤ h
  · have a := q1.1 v0
    have b := q2.1 v0
    omega
  · by_cases v1 : s = 1 ∧ 0 ≤ h ∧ h ≤ 160 ∧ 0 ≤ lo ∧ lo ≤ h
    · have a := q1.2.1 v1
      have b := q2.2.1 v1
      omega
    · have a := q1.2.2 ⟨v0, v1⟩
      have b := q2.2.2 ⟨v0, v1⟩
      omega
