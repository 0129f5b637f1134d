/-! what a method leaves as it was -/
def fx_mod : List (Nat × Nat) → Nat → Nat → Bool
  | [], _, _ => false
  | (g0, j0) :: l, g, j => (Nat.beq g0 g && (Nat.beq j0 9999 || Nat.beq j0 j)) || fx_mod l g j
def fxfr (ms : List (Nat × Nat)) (S S' : fxS) : Prop := ∀ g i j, fx_mod ms g j = false → S' g i j = S g i j
theorem fxfr_rfl {ms : List (Nat × Nat)} {S : fxS} : fxfr ms S S := fun _ _ _ _ => rfl
theorem fxfr_up {ms : List (Nat × Nat)} {S S1 : fxS} (h : fxfr ms S S1) {g i j : Nat} {z : Int} (hm : fx_mod ms g j = true) : fxfr ms S (fx_up S1 g i j z) := by
  intro g' i' j' hq
  unfold fx_up
  by_cases e : g' = g ∧ i' = i ∧ j' = j
  · obtain ⟨rfl, rfl, rfl⟩ := e
    rw [hm] at hq
    cases hq
  · rw [if_neg e]
    exact h g' i' j' hq
def fx_sub (m2 ms : List (Nat × Nat)) : Bool := m2.all (fun q => fx_mod ms q.1 q.2)
theorem fx_mod_sub {ms : List (Nat × Nat)} {g j : Nat} : ∀ {m2 : List (Nat × Nat)}, fx_sub m2 ms = true → fx_mod m2 g j = true → fx_mod ms g j = true
  | [], _, h => by cases h
  | (g0, j0) :: l, hs, h => by
    obtain ⟨h1, h2⟩ := zx_an (show (fx_mod ms g0 j0 && fx_sub l ms) = true from hs)
    rcases Bool.or_eq_true_iff.mp h with q | q
    · obtain ⟨q1, q2⟩ := zx_an q
      have q1 := zx_beq.mp q1
      subst q1
      rcases Bool.or_eq_true_iff.mp q2 with q | q
      · have q := zx_beq.mp q
        subst q
        clear hs h2 h q2
        induction ms with
        | nil => cases h1
        | cons x r ih =>
          obtain ⟨a, b⟩ := x
          rcases Bool.or_eq_true_iff.mp h1 with z | z
          · obtain ⟨z1, z2⟩ := zx_an z
            have z3 : Nat.beq b 9999 = true := by
              rcases Bool.or_eq_true_iff.mp z2 with y | y
              · exact y
              · exact y
            show ((Nat.beq a g0 && (Nat.beq b 9999 || Nat.beq b j)) || fx_mod r g0 j) = true
            rw [z1, z3]; rfl
          · show ((Nat.beq a g0 && (Nat.beq b 9999 || Nat.beq b j)) || fx_mod r g0 j) = true
            rw [ih z]; exact Bool.or_true _
      · have q := zx_beq.mp q
        subst q
        exact h1
    · exact fx_mod_sub h2 q
theorem fxfr_tr {ms m2 : List (Nat × Nat)} {S S1 S2 : fxS} (h : fxfr ms S S1) (h2 : fxfr m2 S1 S2) (hs : fx_sub m2 ms = true) : fxfr ms S S2 := by
  intro g i j hq
  rw [h2 g i j (Bool.eq_false_iff.mpr (fun q => by rw [fx_mod_sub hs q] at hq; cases hq))]
  exact h g i j hq
def fx_cpy (S : fxS) (g i : Nat) (dp n : Int) (g0 i0 : Nat) (sp : Int) : fxS := fun g' i' j => if g' = g ∧ i' = i ∧ (dp ≤ (j : Int) ∧ (j : Int) < dp + n) then S g0 i0 ((j : Int) - dp + sp).toNat else S g' i' j
theorem fxfr_cpy {ms : List (Nat × Nat)} {S S1 : fxS} (h : fxfr ms S S1) {g i g0 i0 : Nat} {dp n sp : Int} (hm : ∀ j, fx_mod ms g j = true) : fxfr ms S (fx_cpy S1 g i dp n g0 i0 sp) := by
  intro g' i' j' hq
  unfold fx_cpy
  by_cases e : g' = g ∧ i' = i ∧ (dp ≤ (j' : Int) ∧ (j' : Int) < dp + n)
  · obtain ⟨rfl, -⟩ := e
    rw [hm] at hq
    cases hq
  · rw [if_neg e]
    exact h g' i' j' hq
theorem fx_up_at (S : fxS) (g i j : Nat) (z : Int) : fx_up S g i j z g i j = z := if_pos ⟨rfl, rfl, rfl⟩
