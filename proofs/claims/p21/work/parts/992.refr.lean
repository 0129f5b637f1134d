/-! the reference: ranks, sinking -/
def mrk (S : fxS) (f : Int) : Int := if f < 0 then 1 else (rkF S f + 2147483648) * 100 + 62 - f
theorem rkF_in (S : fxS) (f : Int) : -2147483648 ≤ rkF S f ∧ rkF S f < 2147483648 := fz_in _
theorem mrk_bd (S : fxS) (f : Int) (hf : f < 60) : 1 ≤ mrk S f ∧ mrk S f ≤ 500000000000 := by
  unfold mrk
  have := rkF_in S f
  by_cases e : f < 0
  · rw [if_pos e]; omega
  · rw [if_neg e]; omega
theorem mrk_dec {S : fxS} {f r : Int} (hf : 0 ≤ f ∧ f < 60) (hr : r < 60) (h : 0 ≤ r → f < 0 ∨ rkF S r < rkF S f ∨ (rkF S r = rkF S f ∧ f < r)) : mrk S r < mrk S f := by
  have a := rkF_in S f
  have b := rkF_in S r
  unfold mrk
  rw [if_neg (show ¬ f < 0 by omega)]
  by_cases e : r < 0
  · rw [if_pos e]; omega
  · rw [if_neg e]
    rcases h (by omega) with q | q | q
    · omega
    · omega
    · omega
/-- a block of FAST from part j on -/
def SOJ (f j : Int) (S : fxS) : Prop := ∃ p : Int, (j ≤ p ∧ p < 32) ∧ 0 ≤ aN S f (10 + p) ∧ aN S f (10 + p) < 48
theorem SOJ_stab {f j : Int} : fx_stab [(50, 9999)] (SOJ f j) := fun A B h hs => by
  obtain ⟨p, a, b, c⟩ := hs
  have e : aN B f (10 + p) = aN A f (10 + p) := h 50 0 _ rfl
  exact ⟨p, a, by rw [e]; exact b, by rw [e]; exact c⟩
theorem SOJ_0 {f : Int} {S : fxS} (h : SOM f 0 S) : SOJ f (0 : Int) S := by
  obtain ⟨p, a, b, c⟩ := h
  exact ⟨p, a, b, c rfl⟩
theorem SOJ_lt {f j : Int} {S : fxS} (h : SOJ f j S) : j < 32 := by
  obtain ⟨p, a, _⟩ := h
  omega
theorem SOJ_step {f j : Int} {S : fxS} (h : SOJ f j S) (hc : aN S f (10 + j) < 0 ∨ 48 ≤ aN S f (10 + j)) : SOJ f (j + (1 : Int)) S := by
  obtain ⟨p, a, b, c⟩ := h
  by_cases e : p = j
  · subst e; omega
  · exact ⟨p, by omega, b, c⟩
theorem AON_swap {S : fxS} {f p b : Int} {x : Nat} (h : AON S) (hf : 0 ≤ f) (hp : 0 ≤ p ∧ p < 32) (hb : 0 ≤ b) (ho : 0 ≤ aN S f (10 + p)) : AON (fx_up (fx_up S 56 0 x (2 : Int)) 50 0 (42 * f + ((10 : Int) + p)).toNat b) := by
  refine AON_rnw2 h hf hp hb ?_
  by_cases e : p = 0
  · subst e; exact Or.inr (Or.inl ho)
  · exact Or.inl e
/-- block b is given -/
def GVN (b : Int) (S : fxS) : Prop := S 56 0 b.toNat = 1
theorem GVN_stab {b : Int} : fx_stab [(56, 9999)] (GVN b) := fun A B h hs => (h 56 0 _ rfl : B 56 0 b.toNat = A 56 0 b.toNat).trans hs
