/-! first contracts -/
theorem c_isThere {l : Launch} {k : fxK} {S : fxS} {n : Int} (hk : ∀ z : Int, (z = 0 ∨ z = 1) → (z = 1 → 0 ≤ n ∧ n < 60 ∧ S 4 n.toNat 0 ≠ 0) → k (some (.inl z)) S) : fC l 0 [.inr (.inr (2, 0)), .inl n] S k := by
  refine fxe_0 (by decide) (fxz_0 40 ?_)
  refine And.intro (fun h1 => ?_) (fun h1 => ?_)
  · refine And.intro (by omega) ?_
    exact hk 0 (by omega) (by omega)
  refine And.intro (fun h2 => ?_) (fun h2 => ?_)
  · refine And.intro (by omega) ?_
    exact hk 0 (by omega) (by omega)
  refine And.intro (by omega) ?_
  intro z a1 a2 a3
  refine And.intro (fun h3 => ?_) (fun h3 => ?_)
  · refine And.intro (by omega) ?_
    exact hk 0 (by omega) (by omega)
  · refine And.intro (by omega) ?_
    exact hk 1 (by omega) (fun _ => ⟨by omega, by omega, by rw [← a3]; exact h3⟩)
