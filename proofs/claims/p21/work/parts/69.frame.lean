/-! what a method leaves as it was -/
def fx_mod : List (Nat × Nat) → Nat → Nat → Bool
  | [], _, _ => false
  | (g0, j0) :: l, g, j => (Nat.beq g0 g && (Nat.beq j0 9999 || Nat.beq j0 j)) || fx_mod l g j
def fxfr (ms : List (Nat × Nat)) (S S' : fxS) : Prop := ∀ g i j, fx_mod ms g j = false → S' g i j = S g i j
theorem fxfr_rfl {ms : List (Nat × Nat)} {S : fxS} : fxfr ms S S := fun _ _ _ _ => rfl
theorem fxfr_up {ms : List (Nat × Nat)} {S S1 : fxS} (h : fxfr ms S S1) {g i j : Nat} {z : Int} (hm : fx_mod ms g j = true) : fxfr ms S (fx_up S1 g i j z) := by
  intro g' i' j' hq
  unfold fx_up
  by_cases e : g' = g ∧ i' = i ∧ j' = j
  · obtain ⟨rfl, rfl, rfl⟩ := e
    rw [hm] at hq
    cases hq
  · rw [if_neg e]
    exact h g' i' j' hq
def fx_sub (m2 ms : List (Nat × Nat)) : Bool := m2.all (fun q => fx_mod ms q.1 q.2)
theorem fx_mod_sub {ms : List (Nat × Nat)} {g j : Nat} : ∀ {m2 : List (Nat × Nat)}, fx_sub m2 ms = true → fx_mod m2 g j = true → fx_mod ms g j = true
  | [], _, h => by cases h
  | (g0, j0) :: l, hs, h => by
    obtain ⟨h1, h2⟩ := zx_an (show (fx_mod ms g0 j0 && fx_sub l ms) = true from hs)
    rcases Bool.or_eq_true_iff.mp h with q | q
    · obtain ⟨q1, q2⟩ := zx_an q
      have q1 := zx_beq.mp q1
      subst q1
      rcases Bool.or_eq_true_iff.mp q2 with q | q
      · have q := zx_beq.mp q
        subst q
        clear hs h2 h q2
        induction ms with
        | nil => cases h1
        | cons x r ih =>
          obtain ⟨a, b⟩ := x
          rcases Bool.or_eq_true_iff.mp h1 with z | z
          · obtain ⟨z1, z2⟩ := zx_an z
            have z3 : Nat.beq b 9999 = true := by
              rcases Bool.or_eq_true_iff.mp z2 with y | y
              · exact y
              · exact y
            show ((Nat.beq a g0 && (Nat.beq b 9999 || Nat.beq b j)) || fx_mod r g0 j) = true
            rw [z1, z3]; rfl
          · show ((Nat.beq a g0 && (Nat.beq b 9999 || Nat.beq b j)) || fx_mod r g0 j) = true
            rw [ih z]; exact Bool.or_true _
      · have q := zx_beq.mp q
        subst q
        exact h1
    · exact fx_mod_sub h2 q
theorem fxfr_tr {ms m2 : List (Nat × Nat)} {S S1 S2 : fxS} (h : fxfr ms S S1) (h2 : fxfr m2 S1 S2) (hs : fx_sub m2 ms = true) : fxfr ms S S2 := by
  intro g i j hq
  rw [h2 g i j (Bool.eq_false_iff.mpr (fun q => by rw [fx_mod_sub hs q] at hq; cases hq))]
  exact h g i j hq
def fx_cpy (S : fxS) (g i : Nat) (dp n : Int) (g0 i0 : Nat) (sp : Int) : fxS := fun g' i' j => if g' = g ∧ i' = i ∧ (dp ≤ (j : Int) ∧ (j : Int) < dp + n) then S g0 i0 ((j : Int) - dp + sp).toNat else S g' i' j
theorem fxfr_cpy {ms : List (Nat × Nat)} {S S1 : fxS} (h : fxfr ms S S1) {g i g0 i0 : Nat} {dp n sp : Int} (hm : ∀ j, fx_mod ms g j = true) : fxfr ms S (fx_cpy S1 g i dp n g0 i0 sp) := by
  intro g' i' j' hq
  unfold fx_cpy
  by_cases e : g' = g ∧ i' = i ∧ (dp ≤ (j' : Int) ∧ (j' : Int) < dp + n)
  · obtain ⟨rfl, -⟩ := e
    rw [hm] at hq
    cases hq
  · rw [if_neg e]
    exact h g' i' j' hq
theorem fx_up_at (S : fxS) (g i j : Nat) (z : Int) : fx_up S g i j z g i j = z := if_pos ⟨rfl, rfl, rfl⟩
/-! trees by parents: depths, what is within what; what a change of one node leaves -/
def depF (ov : Nat → Int) : Nat → Int → Nat
  | 0, _ => 0
  | k + 1, a => if a ≤ 0 then 0 else 1 + depF ov k (ov a.toNat)
def wiF (ov : Nat → Int) (top : Int) : Nat → Int → Bool
  | 0, _ => false
  | k + 1, a => if a ≤ 0 then false else if a = top then true else wiF ov top k (ov a.toNat)
theorem depF_0 {ov : Nat → Int} {k : Nat} {a : Int} (h : a ≤ 0) : depF ov k a = 0 := by
  cases k with
  | zero => rfl
  | succ k => exact if_pos h
theorem depF_s {ov : Nat → Int} {k : Nat} {a : Int} (h : 0 < a) : depF ov (k + 1) a = 1 + depF ov k (ov a.toNat) := if_neg (by omega)
theorem depF_mono {ov : Nat → Int} : ∀ {k : Nat} {a : Int}, depF ov k a ≤ depF ov (k + 1) a
  | 0, _ => Nat.zero_le _
  | k + 1, a => by
    by_cases h : a ≤ 0
    · rw [depF_0 h]; exact Nat.zero_le _
    · rw [depF_s (by omega), depF_s (by omega)]
      have := depF_mono (ov := ov) (k := k) (a := ov a.toNat)
      omega
theorem depF_le {ov : Nat → Int} {k : Nat} {a : Int} : ∀ j, depF ov k a ≤ depF ov (k + j) a
  | 0 => Nat.le_refl _
  | j + 1 => Nat.le_trans (depF_le j) depF_mono
theorem depF_st {ov : Nat → Int} : ∀ {k : Nat} {a : Int}, depF ov k a < k → depF ov (k + 1) a = depF ov k a
  | 0, _, h => by omega
  | k + 1, a, h => by
    by_cases q : a ≤ 0
    · rw [depF_0 q, depF_0 q]
    · rw [depF_s (by omega)] at h
      rw [depF_s (k := k + 1) (a := a) (by omega), depF_s (k := k) (a := a) (by omega), depF_st (k := k) (a := ov a.toNat) (by omega)]
theorem depF_sts {ov : Nat → Int} {k : Nat} {a : Int} (h : depF ov k a < k) : ∀ j, depF ov (k + j) a = depF ov k a
  | 0 => rfl
  | j + 1 => by
    have := depF_sts h j
    rw [← this] at h
    show depF ov (k + j + 1) a = _
    rw [depF_st (by omega), this]
/-- six are enough -/
theorem depF_6 {ov : Nat → Int} {a : Int} (h : depF ov 60 a ≤ 5) {j : Nat} (hj : 6 ≤ j) : depF ov j a = depF ov 60 a := by
  have h6 : depF ov 6 a ≤ depF ov 60 a := depF_le (k := 6) 54
  have e1 := depF_sts (ov := ov) (k := 6) (a := a) (by omega) (j - 6)
  have e2 := depF_sts (ov := ov) (k := 6) (a := a) (by omega) 54
  rw [show 6 + (j - 6) = j by omega] at e1
  rw [e1]; exact e2.symm
/-- who does not pass n does not see its change -/
theorem dep_off {ov ov' : Nat → Int} {n : Int} (ho : ∀ m : Nat, (m : Int) ≠ n → ov' m = ov m) : ∀ {k : Nat} {a : Int}, wiF ov n k a = false → depF ov' k a = depF ov k a
  | 0, _, _ => rfl
  | k + 1, a, h => by
    by_cases q : a ≤ 0
    · rw [depF_0 q, depF_0 q]
    · have h' : (if a ≤ 0 then false else if a = n then true else wiF ov n k (ov a.toNat)) = false := h
      rw [if_neg q] at h'
      by_cases e : a = n
      · rw [if_pos e] at h'; cases h'
      · rw [if_neg e] at h'
        rw [depF_s (by omega), depF_s (by omega), ho a.toNat (by omega), dep_off ho h']
/-- who passes n goes the same way to it -/
theorem dep_on {ov ov' : Nat → Int} {n : Int} (ho : ∀ m : Nat, (m : Int) ≠ n → ov' m = ov m) : ∀ {k : Nat} {a : Int}, wiF ov n k a = true → ∃ c, c < k ∧ depF ov k a = c + depF ov (k - c) n ∧ depF ov' k a = c + depF ov' (k - c) n
  | 0, _, h => by cases h
  | k + 1, a, h => by
    have h' : (if a ≤ 0 then false else if a = n then true else wiF ov n k (ov a.toNat)) = true := h
    by_cases q : a ≤ 0
    · rw [if_pos q] at h'; cases h'
    · rw [if_neg q] at h'
      by_cases e : a = n
      · exact ⟨0, by omega, by rw [e]; simp, by rw [e]; simp⟩
      · rw [if_neg e] at h'
        obtain ⟨c, h1, h2, h3⟩ := dep_on ho h'
        refine ⟨c + 1, by omega, ?_, ?_⟩
        · rw [depF_s (by omega), h2, show k + 1 - (c + 1) = k - c by omega]; omega
        · rw [depF_s (by omega), ho a.toNat (by omega), h3, show k + 1 - (c + 1) = k - c by omega]; omega
/-- nobody has n as parent: nobody else passes it -/
theorem wi_none {ov : Nat → Int} {n : Int} (hn : ∀ m : Nat, m < 60 → ov m ≠ n) (hr : ∀ m : Nat, m < 60 → 0 ≤ ov m ∧ ov m < 60) : ∀ {k : Nat} {a : Int}, 0 ≤ a → a < 60 → a ≠ n → wiF ov n k a = false
  | 0, _, _, _, _ => rfl
  | k + 1, a, h0, h1, h2 => by
    show (if a ≤ 0 then false else if a = n then true else wiF ov n k (ov a.toNat)) = false
    by_cases q : a ≤ 0
    · rw [if_pos q]
    · rw [if_neg q, if_neg h2]
      have hr' := hr a.toNat (by omega)
      exact wi_none hn hr hr'.1 hr'.2 (hn _ (by omega))
/-- a tree as it must be -/
abbrev WT (kd ov : Nat → Int) : Prop := (ov 0 = 0 ∧ kd 0 = 1) ∧ (∀ m : Nat, m < 60 → 0 ≤ ov m ∧ ov m < 60) ∧ (∀ m : Nat, m < 60 → ov m ≠ 0 → kd (ov m).toNat = 1) ∧ (∀ m : Nat, m < 60 → kd m = 0 → ov m = 0) ∧ (∀ m : Nat, m < 60 → depF ov 60 (m : Int) ≤ 5)
theorem WT.root {kd ov : Nat → Int} (h : WT kd ov) : ov 0 = 0 ∧ kd 0 = 1 := And.left h
theorem WT.rng {kd ov : Nat → Int} (h : WT kd ov) : ∀ m : Nat, m < 60 → 0 ≤ ov m ∧ ov m < 60 := And.left (And.right h)
theorem WT.par {kd ov : Nat → Int} (h : WT kd ov) : ∀ m : Nat, m < 60 → ov m ≠ 0 → kd (ov m).toNat = 1 := And.left (And.right (And.right h))
theorem WT.abs {kd ov : Nat → Int} (h : WT kd ov) : ∀ m : Nat, m < 60 → kd m = 0 → ov m = 0 := And.left (And.right (And.right (And.right h)))
theorem WT.dep {kd ov : Nat → Int} (h : WT kd ov) : ∀ m : Nat, m < 60 → depF ov 60 (m : Int) ≤ 5 := And.right (And.right (And.right (And.right h)))
theorem WT_ext {kd ov kd' ov' : Nat → Int} (h : WT kd ov) (hk : ∀ m, m < 60 → kd' m = kd m) (ho : ∀ m, m < 60 → ov' m = ov m) : WT kd' ov' := by
  have hd : ∀ k a, (0 : Int) ≤ a → a < 60 → depF ov' k a = depF ov k a := by
    intro k
    induction k with
    | zero => intro a _ _; rfl
    | succ k ih =>
      intro a h0 h1
      by_cases q : a ≤ 0
      · rw [depF_0 q, depF_0 q]
      · have hr := h.rng a.toNat (by omega)
        rw [depF_s (by omega), depF_s (by omega), ho _ (by omega), ih _ hr.1 hr.2]
  refine ⟨⟨?_, ?_⟩, fun m hm => ?_, fun m hm hz => ?_, fun m hm hz => ?_, fun m hm => ?_⟩
  · rw [ho 0 (by decide)]; exact h.root.1
  · rw [hk 0 (by decide)]; exact h.root.2
  · rw [ho m hm]; exact h.rng m hm
  · rw [ho m hm] at hz ⊢
    have hr := h.rng m hm
    rw [hk _ (by omega)]; exact h.par m hm hz
  · rw [hk m hm] at hz; rw [ho m hm]; exact h.abs m hm hz
  · rw [hd 60 m (by omega) (by omega)]; exact h.dep m hm
/-- a node comes -/
theorem WT_new {kd ov kd' ov' : Nat → Int} {n : Nat} {o q : Int} (h : WT kd ov) (hn : 1 ≤ n ∧ n < 60) (h0 : kd n = 0) (ho : 0 ≤ o ∧ o < 60) (hk : kd o.toNat = 1) (hd : depF ov 60 o ≤ 4) (hq : q ≠ 0)
    (ek : ∀ m, m ≠ n → kd' m = kd m) (eo : ∀ m, m ≠ n → ov' m = ov m) (en : kd' n = q) (en2 : ov' n = o) : WT kd' ov' := by
  have hno : ∀ m : Nat, m < 60 → ov m ≠ (n : Int) := by
    intro m hm e
    have := h.par m hm (by omega)
    rw [e] at this
    simp at this
    omega
  have hon : o ≠ (n : Int) := by
    intro e
    rw [e] at hk
    simp at hk
    omega
  have hwi : ∀ k (a : Int), 0 ≤ a → a < 60 → a ≠ (n : Int) → depF ov' k a = depF ov k a := fun k a x y z => dep_off (n := n) (fun m hm => eo m (by omega)) (wi_none hno h.rng x y z)
  refine ⟨⟨?_, ?_⟩, fun m hm => ?_, fun m hm hz => ?_, fun m hm hz => ?_, fun m hm => ?_⟩
  · rw [eo 0 (by omega)]; exact h.root.1
  · rw [ek 0 (by omega)]; exact h.root.2
  · by_cases e : m = n
    · subst e; rw [en2]; exact ho
    · rw [eo m e]; exact h.rng m hm
  · by_cases e : m = n
    · subst e; rw [en2, ek _ (by omega)]; exact hk
    · rw [eo m e] at hz ⊢
      have := hno m hm
      have hr := h.rng m hm
      rw [ek _ (by omega)]; exact h.par m hm hz
  · by_cases e : m = n
    · subst e; rw [en] at hz; exact absurd hz hq
    · rw [ek m e] at hz; rw [eo m e]; exact h.abs m hm hz
  · by_cases e : m = n
    · subst e
      rw [show (60 : Nat) = 59 + 1 from rfl, depF_s (by omega), show ((m : Int)).toNat = m by omega, en2, hwi 59 o ho.1 ho.2 hon]
      have := depF_mono (ov := ov) (k := 59) (a := o)
      have e60 : depF ov (59 + 1) o = depF ov 60 o := rfl
      omega
    · rw [hwi 60 m (by omega) (by omega) (by omega)]; exact h.dep m hm
/-- a node goes -/
theorem WT_del {kd ov kd' ov' : Nat → Int} {n : Nat} (h : WT kd ov) (hn : 1 ≤ n ∧ n < 60) (hc : ∀ m : Nat, 1 ≤ m → m < 60 → kd m ≠ 0 → ov m ≠ (n : Int))
    (ek : ∀ m, m ≠ n → kd' m = kd m) (eo : ∀ m, m ≠ n → ov' m = ov m) (en2 : ov' n = 0) : WT kd' ov' := by
  have hno : ∀ m : Nat, m < 60 → ov m ≠ (n : Int) := by
    intro m hm e
    by_cases z : m = 0
    · subst z; rw [h.root.1] at e; omega
    · by_cases z2 : kd m = 0
      · rw [h.abs m hm z2] at e; omega
      · exact hc m (by omega) hm z2 e
  have hwi : ∀ k (a : Int), 0 ≤ a → a < 60 → a ≠ (n : Int) → depF ov' k a = depF ov k a := fun k a x y z => dep_off (n := n) (fun m hm => eo m (by omega)) (wi_none hno h.rng x y z)
  refine ⟨⟨?_, ?_⟩, fun m hm => ?_, fun m hm hz => ?_, fun m hm hz => ?_, fun m hm => ?_⟩
  · rw [eo 0 (by omega)]; exact h.root.1
  · rw [ek 0 (by omega)]; exact h.root.2
  · by_cases e : m = n
    · subst e; rw [en2]; omega
    · rw [eo m e]; exact h.rng m hm
  · by_cases e : m = n
    · subst e; exact absurd en2 hz
    · rw [eo m e] at hz ⊢
      have := hno m hm
      have hr := h.rng m hm
      rw [ek _ (by omega)]; exact h.par m hm hz
  · by_cases e : m = n
    · subst e; exact en2
    · rw [ek m e] at hz; rw [eo m e]; exact h.abs m hm hz
  · by_cases e : m = n
    · subst e
      rw [show (60 : Nat) = 59 + 1 from rfl, depF_s (by omega), show ((m : Int)).toNat = m by omega, en2, depF_0 (by omega)]
      omega
    · rw [hwi 60 m (by omega) (by omega) (by omega)]; exact h.dep m hm
/-- a node gets another parent -/
theorem WT_move {kd ov ov' : Nat → Int} {n : Nat} {o : Int} {hg : Int} (h : WT kd ov) (hn : 1 ≤ n ∧ n < 60) (h1 : kd n ≠ 0) (ho : 0 ≤ o ∧ o < 60) (hk : kd o.toNat = 1) (hw : wiF ov (n : Int) 60 o = false)
    (hh : ∀ m : Nat, 1 ≤ m → m < 60 → kd m ≠ 0 → wiF ov (n : Int) 60 (m : Int) = true → (depF ov 60 (m : Int) : Int) - (depF ov 60 (n : Int) : Int) ≤ hg) (hd : (depF ov 60 o : Int) + 1 + hg ≤ 5)
    (eo : ∀ m, m ≠ n → ov' m = ov m) (en2 : ov' n = o) : WT kd ov' := by
  have eo' : ∀ m : Nat, (m : Int) ≠ (n : Int) → ov' m = ov m := fun m hm => eo m (by omega)
  have hnn := h.dep n hn.2
  refine ⟨⟨?_, h.root.2⟩, fun m hm => ?_, fun m hm hz => ?_, fun m hm hz => ?_, fun m hm => ?_⟩
  · rw [eo 0 (by omega)]; exact h.root.1
  · by_cases e : m = n
    · subst e; rw [en2]; exact ho
    · rw [eo m e]; exact h.rng m hm
  · by_cases e : m = n
    · subst e; rw [en2]; exact hk
    · rw [eo m e] at hz ⊢; exact h.par m hm hz
  · by_cases e : m = n
    · subst e; exact absurd hz h1
    · rw [eo m e]; exact h.abs m hm hz
  · cases hwi : wiF ov (n : Int) 60 (m : Int)
    · rw [dep_off eo' hwi]; exact h.dep m hm
    · obtain ⟨c, c1, c2, c3⟩ := dep_on eo' hwi
      have hm5 := h.dep m hm
      have hkm : kd m ≠ 0 := by
        intro z
        have z2 := h.abs m hm z
        have w2 : (if (m : Int) ≤ 0 then false else if (m : Int) = (n : Int) then true else wiF ov (n : Int) 59 (ov (m : Int).toNat)) = true := hwi
        by_cases q : (m : Int) ≤ 0
        · rw [if_pos q] at w2; cases w2
        · rw [if_neg q] at w2
          by_cases q2 : (m : Int) = (n : Int)
          · exact h1 (by rw [show n = m by omega]; exact z)
          · rw [if_neg q2, show ((m : Int)).toNat = m by omega, z2] at w2
            have : wiF ov (n : Int) 59 0 = false := rfl
            rw [this] at w2
            cases w2
      have hm1 : 1 ≤ m := by
        by_cases q : m = 0
        · subst q
          have : wiF ov (n : Int) 60 ((0 : Nat) : Int) = false := rfl
          rw [this] at hwi; cases hwi
        · omega
      have h2 := hh m hm1 hm hkm hwi
      have e6 : depF ov (60 - c) n = depF ov 60 n := depF_6 hnn (by omega)
      have e7 : depF ov' (60 - c) (n : Int) = 1 + depF ov (60 - c - 1) o := by
        obtain ⟨j, hj⟩ : ∃ j, 60 - c = j + 1 := ⟨60 - c - 1, by omega⟩
        rw [hj, depF_s (by omega), show ((n : Int)).toNat = n by omega, en2]
        have hw' : wiF ov (n : Int) j o = false := by
          have hmw : ∀ (k : Nat) (a : Int), wiF ov (n : Int) (k + 1) a = false → wiF ov (n : Int) k a = false := by
            intro k
            induction k with
            | zero => intro a _; rfl
            | succ k ih =>
              intro a ha
              have ha' : (if a ≤ 0 then false else if a = (n : Int) then true else wiF ov (n : Int) (k + 1) (ov a.toNat)) = false := ha
              show (if a ≤ 0 then false else if a = (n : Int) then true else wiF ov (n : Int) k (ov a.toNat)) = false
              by_cases q : a ≤ 0
              · rw [if_pos q]
              · rw [if_neg q] at ha' ⊢
                by_cases q2 : a = (n : Int)
                · rw [if_pos q2] at ha'; cases ha'
                · rw [if_neg q2] at ha' ⊢; exact ih _ ha'
          have hm2 : ∀ i, i ≤ 60 → wiF ov (n : Int) (60 - i) o = false := by
            intro i
            induction i with
            | zero => intro _; exact hw
            | succ i ih => intro hi; exact hmw (60 - (i + 1)) o (by rw [show 60 - (i + 1) + 1 = 60 - i by omega]; exact ih (by omega))
          rw [show j = 60 - (60 - j) by omega]; exact hm2 (60 - j) (by omega)
        rw [dep_off eo' hw', show j + 1 - 1 = j by omega]
      have e8 : depF ov (60 - c - 1) o ≤ depF ov 60 o := by
        have := depF_le (ov := ov) (k := 60 - c - 1) (a := o) (c + 1)
        rw [show 60 - c - 1 + (c + 1) = 60 by omega] at this
        exact this
      omega
/-! the tree, and every tree that undoing the log's last records brings back -/
def WTS (S : fxS) : Prop := WT (fun m => S 4 m 0) (fun m => S 4 m 1)
/-- behind undoing all records from k on stands the tree (K k, O k); c records there are -/
def TL (S : fxS) (c : Nat) : Prop := ∃ K O : Nat → Nat → Int, (∀ m, m < 60 → K c m = S 4 m 0 ∧ O c m = S 4 m 1) ∧
  (∀ k, k < c → ∀ m : Nat, m < 60 → (S 15 0 k = (m : Int) → K k m = S 20 k 0 ∧ O k m = S 20 k 1) ∧ (S 15 0 k ≠ (m : Int) → K k m = K (k + 1) m ∧ O k m = O (k + 1) m)) ∧ ∀ k, k ≤ c → WT (K k) (O k)
/-- the same, the last record being of node n: whatever n is now -/
def TLo (S : fxS) (c n : Nat) : Prop := S 15 0 c = (n : Int) ∧ n < 60 ∧ ∃ K O : Nat → Nat → Int, (∀ m, m < 60 → m ≠ n → K c m = S 4 m 0 ∧ O c m = S 4 m 1) ∧ (K c n = S 20 c 0 ∧ O c n = S 20 c 1) ∧
  (∀ k, k < c → ∀ m : Nat, m < 60 → (S 15 0 k = (m : Int) → K k m = S 20 k 0 ∧ O k m = S 20 k 1) ∧ (S 15 0 k ≠ (m : Int) → K k m = K (k + 1) m ∧ O k m = O (k + 1) m)) ∧ ∀ k, k ≤ c → WT (K k) (O k)
theorem TL_wt {S : fxS} {c : Nat} (h : TL S c) : WTS S := by
  obtain ⟨K, O, h1, -, h3⟩ := h
  exact WT_ext (h3 c (Nat.le_refl _)) (fun m hm => (h1 m hm).1.symm) (fun m hm => (h1 m hm).2.symm)
theorem TL_0 {S : fxS} (h : WTS S) : TL S 0 :=
  ⟨fun _ m => S 4 m 0, fun _ m => S 4 m 1, fun m _ => ⟨rfl, rfl⟩, fun k hk => absurd hk (Nat.not_lt_zero _), fun k _ => h⟩
theorem TL_same {S S' : fxS} {c : Nat} (h4 : ∀ m, m < 60 → S' 4 m 0 = S 4 m 0 ∧ S' 4 m 1 = S 4 m 1) (h15 : ∀ k, k < c → S' 15 0 k = S 15 0 k) (h20 : ∀ k, k < c → S' 20 k 0 = S 20 k 0 ∧ S' 20 k 1 = S 20 k 1) (h : TL S c) : TL S' c := by
  obtain ⟨K, O, h1, h2, h3⟩ := h
  refine ⟨K, O, fun m hm => ?_, fun k hk m hm => ?_, h3⟩
  · rw [(h4 m hm).1, (h4 m hm).2]; exact h1 m hm
  · rw [h15 k hk, (h20 k hk).1, (h20 k hk).2]; exact h2 k hk m hm
/-- a record of node n is there -/
theorem TL_open {S S' : fxS} {c n : Nat} (hn : n < 60) (h4 : ∀ m, m < 60 → S' 4 m 0 = S 4 m 0 ∧ S' 4 m 1 = S 4 m 1) (h15 : ∀ k, k < c → S' 15 0 k = S 15 0 k) (h20 : ∀ k, k < c → S' 20 k 0 = S 20 k 0 ∧ S' 20 k 1 = S 20 k 1) (e15 : S' 15 0 c = (n : Int)) (e20 : S' 20 c 0 = S 4 n 0 ∧ S' 20 c 1 = S 4 n 1) (h : TL S c) : TLo S' c n := by
  obtain ⟨K, O, h1, h2, h3⟩ := h
  refine ⟨e15, hn, K, O, fun m hm _ => ?_, ?_, fun k hk m hm => ?_, h3⟩
  · rw [(h4 m hm).1, (h4 m hm).2]; exact h1 m hm
  · rw [e20.1, e20.2]; exact h1 n hn
  · rw [h15 k hk, (h20 k hk).1, (h20 k hk).2]; exact h2 k hk m hm
theorem TLo_same {S S' : fxS} {c n : Nat} (h4 : ∀ m, m < 60 → m ≠ n → S' 4 m 0 = S 4 m 0 ∧ S' 4 m 1 = S 4 m 1) (h15 : ∀ k, k ≤ c → S' 15 0 k = S 15 0 k) (h20 : ∀ k, k ≤ c → S' 20 k 0 = S 20 k 0 ∧ S' 20 k 1 = S 20 k 1) (h : TLo S c n) : TLo S' c n := by
  obtain ⟨e, hn, K, O, h1, h1', h2, h3⟩ := h
  refine ⟨(h15 c (Nat.le_refl _)).trans e, hn, K, O, fun m hm hmn => ?_, ?_, fun k hk m hm => ?_, h3⟩
  · rw [(h4 m hm hmn).1, (h4 m hm hmn).2]; exact h1 m hm hmn
  · rw [(h20 c (Nat.le_refl _)).1, (h20 c (Nat.le_refl _)).2]; exact h1'
  · rw [h15 k (by omega), (h20 k (by omega)).1, (h20 k (by omega)).2]; exact h2 k hk m hm
/-- what n became is a tree: the record is whole -/
theorem TL_close {S : fxS} {c n : Nat} (h : TLo S c n) (hw : WTS S) : TL S (c + 1) := by
  obtain ⟨e, hn, K, O, h1, h1', h2, h3⟩ := h
  refine ⟨fun k m => if k ≤ c then K k m else S 4 m 0, fun k m => if k ≤ c then O k m else S 4 m 1, fun m hm => ?_, fun k hk m hm => ?_, fun k hk => ?_⟩
  · exact ⟨if_neg (by omega), if_neg (by omega)⟩
  · by_cases q : k = c
    · subst q
      have a1 : ¬ (k + 1 ≤ k) := by omega
      have a2 : k ≤ k := Nat.le_refl _
      simp only [a1, a2, if_true, if_false]
      constructor
      · intro z
        rw [e] at z
        have z2 : n = m := by omega
        subst z2; exact h1'
      · intro z
        rw [e] at z
        exact h1 m hm (fun y => z (by rw [y]))
    · have a1 : k + 1 ≤ c := by omega
      have a2 : k ≤ c := by omega
      simp only [a1, a2, if_true]
      exact h2 k (by omega) m hm
  · by_cases q : k ≤ c
    · simp only [q, if_true]; exact h3 k q
    · simp only [q, if_false]; exact hw
/-- a record of no node -/
theorem TL_none {S S' : fxS} {c : Nat} (h4 : ∀ m, m < 60 → S' 4 m 0 = S 4 m 0 ∧ S' 4 m 1 = S 4 m 1) (h15 : ∀ k, k < c → S' 15 0 k = S 15 0 k) (h20 : ∀ k, k < c → S' 20 k 0 = S 20 k 0 ∧ S' 20 k 1 = S 20 k 1) (e15 : S' 15 0 c < 0) (h : TL S c) : TL S' (c + 1) := by
  have hw := TL_wt h
  obtain ⟨K, O, h1, h2, h3⟩ := h
  refine ⟨fun k m => if k ≤ c then K k m else S 4 m 0, fun k m => if k ≤ c then O k m else S 4 m 1, fun m hm => ?_, fun k hk m hm => ?_, fun k hk => ?_⟩
  · rw [(h4 m hm).1, (h4 m hm).2]; exact ⟨if_neg (by omega), if_neg (by omega)⟩
  · by_cases q : k = c
    · subst q
      have a1 : ¬ (k + 1 ≤ k) := by omega
      have a2 : k ≤ k := Nat.le_refl _
      simp only [a1, a2, if_true, if_false]
      exact ⟨fun z => by omega, fun _ => h1 m hm⟩
    · have a1 : k + 1 ≤ c := by omega
      have a2 : k ≤ c := by omega
      simp only [a1, a2, if_true]
      rw [h15 k (by omega), (h20 k (by omega)).1, (h20 k (by omega)).2]
      exact h2 k (by omega) m hm
  · by_cases q : k ≤ c
    · simp only [q, if_true]; exact h3 k q
    · simp only [q, if_false]; exact hw
/-- the last record is undone -/
theorem TL_undo {S S' : fxS} {c : Nat} (h : TL S (c + 1)) (h4 : ∀ m : Nat, m < 60 → S 15 0 c ≠ (m : Int) → S' 4 m 0 = S 4 m 0 ∧ S' 4 m 1 = S 4 m 1) (hb : ∀ m : Nat, m < 60 → S 15 0 c = (m : Int) → S' 4 m 0 = S 20 c 0 ∧ S' 4 m 1 = S 20 c 1)
    (h15 : ∀ k, k < c → S' 15 0 k = S 15 0 k) (h20 : ∀ k, k < c → S' 20 k 0 = S 20 k 0 ∧ S' 20 k 1 = S 20 k 1) : TL S' c := by
  obtain ⟨K, O, h1, h2, h3⟩ := h
  refine ⟨K, O, fun m hm => ?_, fun k hk m hm => ?_, fun k hk => h3 k (by omega)⟩
  · by_cases q : S 15 0 c = (m : Int)
    · rw [(hb m hm q).1, (hb m hm q).2]; exact (h2 c (by omega) m hm).1 q
    · rw [(h4 m hm q).1, (h4 m hm q).2]
      have := (h2 c (by omega) m hm).2 q
      rw [this.1, this.2]; exact h1 m hm
  · rw [h15 k hk, (h20 k hk).1, (h20 k hk).2]; exact h2 k (by omega) m hm
/-- of c records the first j alone: what stands behind undoing the others -/
def TreeL (S : fxS) : Prop := TL S (S 13 0 6).toNat
/-! the loops that look at depths -/
theorem dI_0 {ov : Nat → Int} {n : Int} : (0 : Int) + (depF ov ((60 : Int) - (0 : Int)).toNat n : Int) = (depF ov 60 n : Int) := by
  show (0 : Int) + (depF ov 60 n : Int) = _
  omega
theorem dI_step {ov : Nat → Int} {d a n z : Int} (h : d + (depF ov ((60 : Int) - d).toNat a : Int) = (depF ov 60 n : Int)) (ha : 0 < a) (hd : 0 ≤ d ∧ d < 60) (e : z = ov a.toNat) : d + (1 : Int) + (depF ov ((60 : Int) - (d + (1 : Int))).toNat z : Int) = (depF ov 60 n : Int) := by
  obtain ⟨j, hj⟩ : ∃ j : Nat, ((60 : Int) - d).toNat = j + 1 := ⟨((60 : Int) - d).toNat - 1, by omega⟩
  rw [hj, depF_s ha] at h
  rw [show ((60 : Int) - (d + (1 : Int))).toNat = j by omega, e]
  omega
theorem dI_end {ov : Nat → Int} {d a n : Int} (h : d + (depF ov ((60 : Int) - d).toNat a : Int) = (depF ov 60 n : Int)) (ha : a ≤ 0 ∨ 60 ≤ d) : d = (depF ov 60 n : Int) := by
  rcases ha with ha | ha
  · rw [depF_0 ha] at h; omega
  · rw [show ((60 : Int) - d).toNat = 0 by omega] at h
    have : depF ov 0 a = 0 := rfl
    rw [this] at h; omega
theorem wI_0 {ov : Nat → Int} {t n : Int} : wiF ov t ((60 : Int) - (0 : Int)).toNat n = wiF ov t 60 n := rfl
theorem wI_step {ov : Nat → Int} {j a n z t : Int} (h : wiF ov t ((60 : Int) - j).toNat a = wiF ov t 60 n) (ha : 0 < a) (hn : a ≠ t) (hj : 0 ≤ j ∧ j < 60) (e : z = ov a.toNat) : wiF ov t ((60 : Int) - (j + (1 : Int))).toNat z = wiF ov t 60 n := by
  obtain ⟨i, hi⟩ : ∃ i : Nat, ((60 : Int) - j).toNat = i + 1 := ⟨((60 : Int) - j).toNat - 1, by omega⟩
  rw [hi] at h
  rw [show ((60 : Int) - (j + (1 : Int))).toNat = i by omega, e, ← h]
  show _ = (if a ≤ 0 then false else if a = t then true else wiF ov t i (ov a.toNat))
  rw [if_neg (by omega), if_neg hn]
theorem wI_no {ov : Nat → Int} {j a n t : Int} (h : wiF ov t ((60 : Int) - j).toNat a = wiF ov t 60 n) (ha : a ≤ 0 ∨ 60 ≤ j) : wiF ov t 60 n = false := by
  rw [← h]
  rcases ha with ha | ha
  · cases ((60 : Int) - j).toNat with
    | zero => rfl
    | succ i => exact if_pos ha
  · rw [show ((60 : Int) - j).toNat = 0 by omega]; rfl
theorem wI_yes {ov : Nat → Int} {j a n t : Int} (h : wiF ov t ((60 : Int) - j).toNat a = wiF ov t 60 n) (ha : 0 < a) (e : a = t) (hj : 0 ≤ j ∧ j < 60) : wiF ov t 60 n = true := by
  rw [← h]
  obtain ⟨i, hi⟩ : ∃ i : Nat, ((60 : Int) - j).toNat = i + 1 := ⟨((60 : Int) - j).toNat - 1, by omega⟩
  rw [hi]
  show (if a ≤ 0 then false else if a = t then true else wiF ov t i (ov a.toNat)) = true
  rw [if_neg (by omega), if_pos e]
/-- the nodes below j that are within n lie at most h deeper than it -/
def HGJ (S : fxS) (n h j : Int) : Prop := ∀ m : Nat, 1 ≤ m → (m : Int) < j → S 4 m 0 ≠ 0 → wiF (fun m => S 4 m 1) n 60 (m : Int) = true → (depF (fun m => S 4 m 1) 60 (m : Int) : Int) - (depF (fun m => S 4 m 1) 60 n : Int) ≤ h
theorem HG_0 {S : fxS} {n h : Int} : HGJ S n h (1 : Int) := fun m h1 h2 => by omega
theorem HG_step {S : fxS} {n h h' j : Int} (i : HGJ S n h j) (hj : 0 ≤ j) (hh : h ≤ h') (hc : S 4 j.toNat 0 ≠ 0 → wiF (fun m => S 4 m 1) n 60 j = true → (depF (fun m => S 4 m 1) 60 j : Int) - (depF (fun m => S 4 m 1) 60 n : Int) ≤ h') : HGJ S n h' (j + (1 : Int)) := by
  intro m h1 h2 h3 h4
  by_cases e : (m : Int) = j
  · have e2 : m = j.toNat := by omega
    rw [e] at h4 ⊢
    exact hc (by rw [← e2]; exact h3) h4
  · have := i m h1 (by omega) h3 h4
    omega
/-- one node got another parent -/
theorem HG_all {S : fxS} {n h j : Int} (i : HGJ S n h j) (hj : 60 ≤ j) : ∀ m : Nat, 1 ≤ m → m < 60 → S 4 m 0 ≠ 0 → wiF (fun m => S 4 m 1) n 60 (m : Int) = true → (depF (fun m => S 4 m 1) 60 (m : Int) : Int) - (depF (fun m => S 4 m 1) 60 n : Int) ≤ h :=
  fun m h1 h2 => i m h1 (by omega)
/-! what stays true when some cells stay -/
def fx_stab (hs : List (Nat × Nat)) (P : fxS → Prop) : Prop := ∀ S S' : fxS, (∀ g i j, fx_mod hs g j = true → S' g i j = S g i j) → P S → P S'
theorem fx_pup {hs : List (Nat × Nat)} {P : fxS → Prop} (hP : fx_stab hs P) {S : fxS} {g i j : Nat} {z : Int} (hm : fx_mod hs g j = false) (h : P S) : P (fx_up S g i j z) := by
  refine hP S _ (fun g' i' j' hq => ?_) h
  unfold fx_up
  refine if_neg (fun e => ?_)
  obtain ⟨rfl, rfl, rfl⟩ := e
  rw [hm] at hq
  cases hq
theorem fx_pcpy {hs : List (Nat × Nat)} {P : fxS → Prop} (hP : fx_stab hs P) {S : fxS} {g i g0 i0 : Nat} {dp n sp : Int} (hm : ∀ j, fx_mod hs g j = false) (h : P S) : P (fx_cpy S g i dp n g0 i0 sp) := by
  refine hP S _ (fun g' i' j' hq => ?_) h
  unfold fx_cpy
  refine if_neg (fun e => ?_)
  obtain ⟨rfl, -⟩ := e
  rw [hm] at hq
  cases hq
def fx_dis1 (g j : Nat) : List (Nat × Nat) → Bool
  | [] => true
  | (a, b) :: l => (!(Nat.beq a g) || (!(Nat.beq b 9999) && !(Nat.beq j 9999) && !(Nat.beq b j))) && fx_dis1 g j l
def fx_dis (ms : List (Nat × Nat)) : List (Nat × Nat) → Bool
  | [] => true
  | (a, b) :: l => fx_dis1 a b ms && fx_dis ms l
theorem fx_dis1_ok {g j j' : Nat} (hj : (Nat.beq j 9999 || Nat.beq j j') = true) : ∀ {ms : List (Nat × Nat)}, fx_dis1 g j ms = true → fx_mod ms g j' = false
  | [], _ => rfl
  | (a, b) :: l, h => by
    obtain ⟨h1, h2⟩ := zx_an (show ((!(Nat.beq a g) || (!(Nat.beq b 9999) && !(Nat.beq j 9999) && !(Nat.beq b j))) && fx_dis1 g j l) = true from h)
    show ((Nat.beq a g && (Nat.beq b 9999 || Nat.beq b j')) || fx_mod l g j') = false
    rw [fx_dis1_ok hj h2]
    cases ha : Nat.beq a g
    · rfl
    · rw [ha] at h1
      have h3 : (!(Nat.beq b 9999) && !(Nat.beq j 9999) && !(Nat.beq b j)) = true := h1
      obtain ⟨h4, h5⟩ := zx_an h3
      obtain ⟨h6, h7⟩ := zx_an h4
      have e : j = j' := by
        rcases Bool.or_eq_true_iff.mp hj with q | q
        · rw [q] at h7; cases h7
        · exact zx_beq.mp q
      subst e
      cases hb : Nat.beq b 9999
      · cases hc : Nat.beq b j
        · rfl
        · rw [hc] at h5; cases h5
      · rw [hb] at h6; cases h6
theorem fx_dis_ok {ms : List (Nat × Nat)} {g j : Nat} : ∀ {hs : List (Nat × Nat)}, fx_dis ms hs = true → fx_mod hs g j = true → fx_mod ms g j = false
  | [], _, h => by cases h
  | (a, b) :: l, hd, h => by
    obtain ⟨h1, h2⟩ := zx_an (show (fx_dis1 a b ms && fx_dis ms l) = true from hd)
    rcases Bool.or_eq_true_iff.mp h with q | q
    · obtain ⟨q1, q2⟩ := zx_an q
      have q1 := zx_beq.mp q1
      subst q1
      exact fx_dis1_ok q2 h1
    · exact fx_dis_ok h2 q
theorem fx_pfr {hs ms : List (Nat × Nat)} {P : fxS → Prop} (hP : fx_stab hs P) {S S' : fxS} (hf : fxfr ms S S') (hm : fx_dis ms hs = true) (h : P S) : P S' :=
  hP S S' (fun g i j hq => hf g i j (fx_dis_ok hm hq)) h
theorem up_ne {S : fxS} {g i j g' i' j' : Nat} {z : Int} (h : ¬ (g' = g ∧ i' = i ∧ j' = j)) : fx_up S g i j z g' i' j' = S g' i' j' := if_neg h
/-! a tree's nodes: what stays; records -/
def NS (S S' : fxS) : Prop := ∀ m, S' 4 m 0 = S 4 m 0 ∧ S' 4 m 1 = S 4 m 1
def N4 (i : Nat) (S S' : fxS) : Prop := ∀ m, m ≠ i → S' 4 m 0 = S 4 m 0 ∧ S' 4 m 1 = S 4 m 1
def N20 (i : Nat) (S S' : fxS) : Prop := ∀ m, m ≠ i → S' 20 m 0 = S 20 m 0 ∧ S' 20 m 1 = S 20 m 1
theorem NS_rfl {S : fxS} : NS S S := fun _ => ⟨rfl, rfl⟩
theorem N4_rfl {i : Nat} {S : fxS} : N4 i S S := fun _ _ => ⟨rfl, rfl⟩
theorem N20_rfl {i : Nat} {S : fxS} : N20 i S S := fun _ _ => ⟨rfl, rfl⟩
theorem NS_stab {S : fxS} : fx_stab [(4, 0), (4, 1)] (NS S) := fun _ _ h hs m => ⟨(h 4 m 0 rfl).trans (hs m).1, (h 4 m 1 rfl).trans (hs m).2⟩
theorem N4_stab {i : Nat} {S : fxS} : fx_stab [(4, 0), (4, 1)] (N4 i S) := fun _ _ h hs m hm => ⟨(h 4 m 0 rfl).trans (hs m hm).1, (h 4 m 1 rfl).trans (hs m hm).2⟩
theorem N20_stab {i : Nat} {S : fxS} : fx_stab [(20, 0), (20, 1)] (N20 i S) := fun _ _ h hs m hm => ⟨(h 20 m 0 rfl).trans (hs m hm).1, (h 20 m 1 rfl).trans (hs m hm).2⟩
theorem N4_up {i j : Nat} {S S1 : fxS} {z : Int} (h : N4 i S S1) : N4 i S (fx_up S1 4 i j z) := fun m hm => ⟨(up_ne (fun q => hm q.2.1)).trans (h m hm).1, (up_ne (fun q => hm q.2.1)).trans (h m hm).2⟩
theorem N20_up {i j : Nat} {S S1 : fxS} {z : Int} (h : N20 i S S1) : N20 i S (fx_up S1 20 i j z) := fun m hm => ⟨(up_ne (fun q => hm q.2.1)).trans (h m hm).1, (up_ne (fun q => hm q.2.1)).trans (h m hm).2⟩
theorem N4_tr {i : Nat} {S S1 S2 : fxS} (h : N4 i S S1) (h2 : N4 i S1 S2) : N4 i S S2 := fun m hm => ⟨(h2 m hm).1.trans (h m hm).1, (h2 m hm).2.trans (h m hm).2⟩
theorem N20_tr {i : Nat} {S S1 S2 : fxS} (h : N20 i S S1) (h2 : N20 i S1 S2) : N20 i S S2 := fun m hm => ⟨(h2 m hm).1.trans (h m hm).1, (h2 m hm).2.trans (h m hm).2⟩
/-- nobody has n as parent -/
def NoC (n : Int) (S : fxS) : Prop := ∀ m : Nat, 1 ≤ m → m < 60 → S 4 m 0 ≠ 0 → S 4 m 1 ≠ n
theorem NoC_stab {n : Int} : fx_stab [(4, 0), (4, 1)] (NoC n) := fun _ _ h hs m h1 h2 h3 => by rw [h 4 m 0 rfl] at h3; rw [h 4 m 1 rfl]; exact hs m h1 h2 h3
def TreeO (n : Int) (S : fxS) : Prop := ∃ c, (S 13 0 6).toNat = c + 1 ∧ TLo S c n.toNat
theorem WTS_ext {S S' : fxS} (h : WTS S) (hk : ∀ m, m < 60 → S' 4 m 0 = S 4 m 0) (ho : ∀ m, m < 60 → S' 4 m 1 = S 4 m 1) : WTS S' :=
  WT_ext (kd := fun m => S 4 m 0) (ov := fun m => S 4 m 1) (kd' := fun m => S' 4 m 0) (ov' := fun m => S' 4 m 1) h hk ho
theorem WTS_stab : fx_stab [(4, 0), (4, 1)] WTS := fun _ _ h hs => WTS_ext hs (fun m _ => h 4 m 0 rfl) (fun m _ => h 4 m 1 rfl)
theorem TreeL_stab : fx_stab [(4, 0), (4, 1), (20, 0), (20, 1), (15, 9999), (13, 6)] TreeL := by
  intro S S' h hs
  show TL S' (S' 13 0 6).toNat
  rw [h 13 0 6 rfl]
  exact TL_same (fun m _ => ⟨h 4 m 0 rfl, h 4 m 1 rfl⟩) (fun k _ => h 15 0 k rfl) (fun k _ => ⟨h 20 k 0 rfl, h 20 k 1 rfl⟩) hs
theorem TreeO_stab {n : Int} : fx_stab [(4, 0), (4, 1), (20, 0), (20, 1), (15, 9999), (13, 6)] (TreeO n) := by
  intro S S' h ⟨c, hc, hs⟩
  exact ⟨c, by rw [h 13 0 6 rfl]; exact hc, TLo_same (fun m _ _ => ⟨h 4 m 0 rfl, h 4 m 1 rfl⟩) (fun k _ => h 15 0 k rfl) (fun k _ => ⟨h 20 k 0 rfl, h 20 k 1 rfl⟩) hs⟩
theorem TreeO_n4 {ms : List (Nat × Nat)} {n : Int} {S S' : fxS} (n4 : N4 n.toNat S S') (hf : fxfr ms S S') (hm : fx_dis ms [(20, 0), (20, 1), (15, 9999), (13, 6)] = true) (h : TreeO n S) : TreeO n S' := by
  obtain ⟨c, hc, hs⟩ := h
  have q : ∀ g i j, fx_mod [(20, 0), (20, 1), (15, 9999), (13, 6)] g j = true → S' g i j = S g i j := fun g i j hq => hf g i j (fx_dis_ok hm hq)
  exact ⟨c, by rw [q 13 0 6 rfl]; exact hc, TLo_same (fun m _ hm => n4 m hm) (fun k _ => q 15 0 k rfl) (fun k _ => ⟨q 20 k 0 rfl, q 20 k 1 rfl⟩) hs⟩
theorem TreeO_up {n : Int} {j : Nat} {z : Int} {S : fxS} (h : TreeO n S) : TreeO n (fx_up S 4 n.toNat j z) := by
  obtain ⟨c, hc, hs⟩ := h
  exact ⟨c, hc, TLo_same (fun m _ hm => ⟨up_ne (fun q => hm q.2.1), up_ne (fun q => hm q.2.1)⟩) (fun k _ => rfl) (fun k _ => ⟨rfl, rfl⟩) hs⟩
theorem TreeL_wt {S : fxS} (h : TreeL S) : WTS S := TL_wt h
theorem Tree_0 {S : fxS} (hc : S 13 0 6 = 0) (h : WTS S) : TreeL S := by
  show TL S (S 13 0 6).toNat
  rw [hc]; exact TL_0 h
theorem Tree_zero {S : fxS} (h : WTS S) : TreeL (fx_up S 13 0 6 (0 : Int)) := Tree_0 (fx_up_at _ _ _ _ _) h
/-- a record of node n is filled, but not counted -/
def TreeB (n : Int) (c : Nat) (S : fxS) : Prop := ∃ S0 : fxS, TreeL S0 ∧ NS S0 S ∧ N20 c S0 S ∧ (∀ k, S 15 0 k = S0 15 0 k) ∧ (S0 13 0 6).toNat = c ∧ (S 20 c 0 = S0 4 n.toNat 0 ∧ S 20 c 1 = S0 4 n.toNat 1)
theorem Tree_add {S : fxS} {n c x y : Int} (h : TreeB n c.toNat S) (hn : 0 ≤ n ∧ n < 60) (hc : 0 ≤ c) : TreeO n (fx_up (fx_up (fx_up (fx_up S 15 0 c.toNat n) 16 0 c.toNat x) 17 0 c.toNat y) 13 0 6 (c + (1 : Int))) := by
  obtain ⟨S0, hT, ns, n20, h15, e, v⟩ := h
  refine ⟨c.toNat, ?_, ?_⟩
  · rw [fx_up_at]; omega
  · have hT' : TL S0 c.toNat := by rw [← e]; exact hT
    refine TL_open (S := S0) (by omega) (fun m _ => ns m) (fun k hk => ?_) (fun k hk => n20 k (by omega)) ?_ v hT'
    · show fx_up S 15 0 c.toNat n 15 0 k = _
      rw [up_ne (by omega)]; exact h15 k
    · show fx_up S 15 0 c.toNat n 15 0 c.toNat = _
      rw [fx_up_at]; omega
theorem Tree_none {S : fxS} {n c x y : Int} (h : TreeL S) (hn : n < 0) (hc : 0 ≤ c) (e : c = S 13 0 6) : TreeL (fx_up (fx_up (fx_up (fx_up S 15 0 c.toNat n) 16 0 c.toNat x) 17 0 c.toNat y) 13 0 6 (c + (1 : Int))) := by
  show TL _ (fx_up _ 13 0 6 (c + (1 : Int)) 13 0 6).toNat
  rw [fx_up_at, show (c + (1 : Int)).toNat = c.toNat + 1 by omega]
  have hT' : TL S c.toNat := by rw [e]; exact h
  refine TL_none (S := S) (fun m _ => ⟨rfl, rfl⟩) (fun k hk => ?_) (fun k _ => ⟨rfl, rfl⟩) ?_ hT'
  · show fx_up S 15 0 c.toNat n 15 0 k = _
    rw [up_ne (by omega)]
  · show fx_up S 15 0 c.toNat n 15 0 c.toNat < 0
    rw [fx_up_at]; exact hn
theorem Tree_close {n : Int} {S : fxS} (ho : TreeO n S) (hw : WTS S) : TreeL S := by
  obtain ⟨c, hc, hs⟩ := ho
  show TL S (S 13 0 6).toNat
  rw [hc]; exact TL_close hs hw
theorem Tree_keep {n : Int} {S S' : fxS} (ns : NS S S') (h : TreeL S) (ho : TreeO n S') : TreeL S' :=
  Tree_close ho (WTS_ext (TL_wt h) (fun m _ => (ns m).1) (fun m _ => (ns m).2))
theorem Tree_new0 {S S1 S2 : fxS} {n o q : Int} (h : WTS S) (ns : NS S S1) (n4 : N4 n.toNat S1 S2) (v : S2 4 n.toNat 0 = q ∧ S2 4 n.toNat 1 = o) (hn : 1 ≤ n ∧ n < 60) (h0 : S 4 n.toNat 0 = 0) (hO : 0 ≤ o ∧ o < 60) (hk : S 4 o.toNat 0 = 1) (hd : (depF (fun m => S 4 m 1) 60 o : Int) ≤ 4) (hq : q ≠ 0) : WTS S2 :=
  WT_new (kd := fun m => S 4 m 0) (ov := fun m => S 4 m 1) (kd' := fun m => S2 4 m 0) (ov' := fun m => S2 4 m 1) (n := n.toNat) (o := o) (q := q) h (by omega) h0 hO hk (by omega) hq (fun m hm => ((n4 m hm).1.trans (ns m).1)) (fun m hm => ((n4 m hm).2.trans (ns m).2)) v.1 v.2
theorem Tree_new {S S1 S2 : fxS} {n o q : Int} (h : TreeL S) (ns : NS S S1) (n4 : N4 n.toNat S1 S2) (v : S2 4 n.toNat 0 = q ∧ S2 4 n.toNat 1 = o) (ho : TreeO n S2) (hn : 1 ≤ n ∧ n < 60) (h0 : S 4 n.toNat 0 = 0) (hO : 0 ≤ o ∧ o < 60) (hk : S 4 o.toNat 0 = 1) (hd : (depF (fun m => S 4 m 1) 60 o : Int) ≤ 4) (hq : q ≠ 0) : TreeL S2 :=
  Tree_close ho (Tree_new0 (TL_wt h) ns n4 v hn h0 hO hk hd hq)
theorem Tree_del {S S1 S2 : fxS} {n : Int} (h : TreeL S) (ns : NS S S1) (n4 : N4 n.toNat S1 S2) (v : S2 4 n.toNat 0 = 0 ∧ S2 4 n.toNat 1 = 0) (ho : TreeO n S2) (hn : 1 ≤ n ∧ n < 60) (hc : NoC n S) : TreeL S2 :=
  Tree_close ho (WT_del (kd := fun m => S 4 m 0) (ov := fun m => S 4 m 1) (kd' := fun m => S2 4 m 0) (ov' := fun m => S2 4 m 1) (n := n.toNat) (TL_wt h) (by omega) (fun m a b c => by have := hc m a b c; omega) (fun m hm => ((n4 m hm).1.trans (ns m).1)) (fun m hm => ((n4 m hm).2.trans (ns m).2)) v.2)
/-- the node may go under o -/
def MvO (n o : Int) (S : fxS) : Prop := S 4 n.toNat 0 ≠ 0 ∧ S 4 o.toNat 0 = 1 ∧ wiF (fun m => S 4 m 1) n 60 o = false ∧ ∃ hg : Int, HGJ S n hg 60 ∧ (depF (fun m => S 4 m 1) 60 o : Int) + 1 + hg ≤ 5
theorem MvO_stab {n o : Int} : fx_stab [(4, 0), (4, 1)] (MvO n o) := by
  intro S S' h ⟨a, b, c, hg, d, e⟩
  have e1 : (fun m => S' 4 m 1) = (fun m => S 4 m 1) := funext (fun m => h 4 m 1 rfl)
  refine ⟨by rw [h 4 _ 0 rfl]; exact a, by rw [h 4 _ 0 rfl]; exact b, by rw [e1]; exact c, hg, ?_, by rw [e1]; exact e⟩
  intro m h1 h2 h3 h4
  rw [e1] at h4 ⊢
  rw [h 4 m 0 rfl] at h3
  exact d m h1 h2 h3 h4
theorem Tree_move {S S1 : fxS} {n o : Int} (h : TreeL S) (ns : NS S S1) (ho : TreeO n S1) (hn : 1 ≤ n ∧ n < 60) (hO : 0 ≤ o ∧ o < 60) (hm : MvO n o S) : TreeL (fx_up S1 4 n.toNat 1 o) := by
  obtain ⟨a, b, c, hg, d, e⟩ := hm
  have en : ((n.toNat : Nat) : Int) = n := by omega
  refine Tree_close (TreeO_up ho) ?_
  have hk : (fun m => fx_up S1 4 n.toNat 1 o 4 m 0) = (fun m => S 4 m 0) := funext (fun m => (up_ne (by omega)).trans (ns m).1)
  show WT (fun m => fx_up S1 4 n.toNat 1 o 4 m 0) (fun m => fx_up S1 4 n.toNat 1 o 4 m 1)
  rw [hk]
  refine WT_move (kd := fun m => S 4 m 0) (ov := fun m => S 4 m 1) (ov' := fun m => fx_up S1 4 n.toNat 1 o 4 m 1) (n := n.toNat) (o := o) (hg := hg) (TL_wt h) (by omega) a hO b (by rw [en]; exact c) (fun m h1 h2 h3 h4 => ?_) e (fun m hm => (up_ne (fun q => hm q.2.1)).trans (ns m).2) (fx_up_at _ _ _ _ _)
  rw [en] at h4 ⊢
  exact d m h1 (by omega) h3 h4
/-- record i is undone -/
def UND (i : Nat) (S S' : fxS) : Prop := (∀ m : Nat, m < 60 → S 15 0 i ≠ (m : Int) → S' 4 m 0 = S 4 m 0 ∧ S' 4 m 1 = S 4 m 1) ∧ (∀ m : Nat, m < 60 → S 15 0 i = (m : Int) → S' 4 m 0 = S 20 i 0 ∧ S' 4 m 1 = S 20 i 1)
theorem UND_stab {i : Nat} {S : fxS} : fx_stab [(4, 0), (4, 1)] (UND i S) := fun _ _ h hs => ⟨fun m a b => ⟨(h 4 m 0 rfl).trans (hs.1 m a b).1, (h 4 m 1 rfl).trans (hs.1 m a b).2⟩, fun m a b => ⟨(h 4 m 0 rfl).trans (hs.2 m a b).1, (h 4 m 1 rfl).trans (hs.2 m a b).2⟩⟩
theorem UND_none {i : Nat} {S : fxS} (h : S 15 0 i < 0) : UND i S S := ⟨fun _ _ _ => ⟨rfl, rfl⟩, fun m _ e => by omega⟩
theorem UND_n4 {i : Nat} {S S' : fxS} {z : Int} (n4 : N4 z.toNat S S') (v : S' 4 z.toNat 0 = S 20 i 0 ∧ S' 4 z.toNat 1 = S 20 i 1) (e : z = S 15 0 i) (hz : 0 ≤ z) : UND i S S' :=
  ⟨fun m _ q => n4 m (by omega), fun m _ q => by rw [show m = z.toNat by omega]; exact v⟩
/-- of the records the first j are left -/
def TLJ (j : Int) (S : fxS) : Prop := TL S (j + 1).toNat
theorem TLJ_0 {j : Int} {S : fxS} (h : TreeL S) (e : j + 1 = S 13 0 6) : TLJ j S := by
  show TL S (j + 1).toNat
  rw [e]; exact h
theorem TLJ_step {j : Int} {S S' : fxS} {ms : List (Nat × Nat)} (h : TLJ j S) (hj : 0 ≤ j) (u : UND j.toNat S S') (hf : fxfr ms S S') (hm : fx_dis ms [(20, 0), (20, 1), (15, 9999)] = true) : TLJ (j + (-1 : Int)) S' := by
  have q : ∀ g i j, fx_mod [(20, 0), (20, 1), (15, 9999)] g j = true → S' g i j = S g i j := fun g i j hq => hf g i j (fx_dis_ok hm hq)
  have h' : TL S (j.toNat + 1) := by rw [show j.toNat + 1 = (j + 1).toNat by omega]; exact h
  show TL S' (j + (-1 : Int) + 1).toNat
  rw [show (j + (-1 : Int) + 1).toNat = j.toNat by omega]
  exact TL_undo h' u.1 u.2 (fun k _ => q 15 0 k rfl) (fun k _ => ⟨q 20 k 0 rfl, q 20 k 1 rfl⟩)
theorem TLJ_wt {j : Int} {S : fxS} (h : TLJ j S) : WTS S := TL_wt h
/-- all nodes below j are gone -/
def CLR (j : Int) (S S' : fxS) : Prop := (∀ m : Nat, 1 ≤ m → (m : Int) < j → S' 4 m 0 = 0 ∧ S' 4 m 1 = 0) ∧ S' 4 0 0 = S 4 0 0 ∧ S' 4 0 1 = S 4 0 1
theorem CLR_0 {S : fxS} : CLR 1 S S := ⟨fun m h1 h2 => by omega, rfl, rfl⟩
theorem CLR_step {j : Int} {S S1 S2 : fxS} (h : CLR j S S1) (hj : 1 ≤ j) (n4 : N4 j.toNat S1 S2) (v : S2 4 j.toNat 0 = 0 ∧ S2 4 j.toNat 1 = 0) : CLR (j + (1 : Int)) S S2 := by
  refine ⟨fun m h1 h2 => ?_, (n4 0 (by omega)).1.trans h.2.1, (n4 0 (by omega)).2.trans h.2.2⟩
  by_cases e : m = j.toNat
  · subst e; exact v
  · exact ⟨(n4 m e).1.trans (h.1 m h1 (by omega)).1, (n4 m e).2.trans (h.1 m h1 (by omega)).2⟩
theorem CLR_wt {S S' : fxS} {j : Int} (h : CLR j S S') (hj : 60 ≤ j) (hw : WTS S) : WTS S' := by
  obtain ⟨h1, h2, h3⟩ := h
  have z : ∀ m : Nat, m < 60 → S' 4 m 1 = 0 := fun m hm => by
    by_cases e : m = 0
    · subst e; rw [h3]; exact (WT.root (kd := fun m => S 4 m 0) (ov := fun m => S 4 m 1) hw).1
    · exact (h1 m (by omega) (by omega)).2
  refine ⟨⟨z 0 (by omega), by show S' 4 0 0 = 1; rw [h2]; exact (WT.root (kd := fun m => S 4 m 0) (ov := fun m => S 4 m 1) hw).2⟩, fun m hm => ?_, fun m hm e => absurd (z m hm) e, fun m hm _ => z m hm, fun m hm => ?_⟩
  · have := z m hm
    show 0 ≤ S' 4 m 1 ∧ S' 4 m 1 < 60
    omega
  · by_cases e : m = 0
    · rw [depF_0 (by omega)]; omega
    · rw [depF_s (k := 59) (by omega)]
      have : S' 4 ((m : Int)).toNat 1 = 0 := z _ (by omega)
      show 1 + depF (fun m => S' 4 m 1) 59 (S' 4 ((m : Int)).toNat 1) ≤ 5
      rw [this, depF_0 (by omega)]; omega
theorem CLR_stab {j : Int} {S : fxS} : fx_stab [(4, 0), (4, 1)] (CLR j S) := fun _ _ h hs => ⟨fun m a b => ⟨(h 4 m 0 rfl).trans (hs.1 m a b).1, (h 4 m 1 rfl).trans (hs.1 m a b).2⟩, (h 4 0 0 rfl).trans hs.2.1, (h 4 0 1 rfl).trans hs.2.2⟩
/-- in a tree no node lies deeper than 5; a child lies one deeper than its parent -/
theorem WTS_dep {S : fxS} {n : Int} (h : WTS S) (hn : 0 ≤ n ∧ n < 60) : depF (fun m => S 4 m 1) 60 n ≤ 5 := by
  have := WT.dep (kd := fun m => S 4 m 0) (ov := fun m => S 4 m 1) h n.toNat (by omega)
  rw [show ((n.toNat : Nat) : Int) = n by omega] at this
  exact this
theorem WTS_child {S : fxS} {n : Int} (h : WTS S) (hn : 1 ≤ n ∧ n < 60) : (depF (fun m => S 4 m 1) 60 n : Int) = 1 + (depF (fun m => S 4 m 1) 60 (S 4 n.toNat 1) : Int) := by
  have h5 := WTS_dep h (n := n) (by omega)
  have e : depF (fun m => S 4 m 1) (59 + 1) n = 1 + depF (fun m => S 4 m 1) 59 (S 4 n.toNat 1) := depF_s (by omega)
  have r := WT.rng (kd := fun m => S 4 m 0) (ov := fun m => S 4 m 1) h n.toNat (by omega)
  have h6 := WTS_dep h (n := S 4 n.toNat 1) r
  have e2 := depF_6 (ov := fun m => S 4 m 1) (a := S 4 n.toNat 1) h6 (j := 59) (by omega)
  rw [e2] at e
  have : depF (fun m => S 4 m 1) 60 n = depF (fun m => S 4 m 1) (59 + 1) n := rfl
  omega
theorem CLR_end {S S' : fxS} {j : Int} (h : CLR j S S') (hj : 60 ≤ j) : CLR 60 S S' := ⟨fun m a _ => h.1 m a (by omega), h.2⟩
theorem TLJ_stab {j : Int} : fx_stab [(4, 0), (4, 1), (20, 0), (20, 1), (15, 9999)] (TLJ j) := fun _ _ h hs =>
  TL_same (fun m _ => ⟨h 4 m 0 rfl, h 4 m 1 rfl⟩) (fun k _ => h 15 0 k rfl) (fun k _ => ⟨h 20 k 0 rfl, h 20 k 1 rfl⟩) hs
/-- while lost, no record is there -/
def LCt (S : fxS) : Prop := S 0 0 10 = 1 → S 13 0 6 = 0
theorem LCt_stab : fx_stab [(0, 10), (13, 6)] LCt := fun _ _ h hs e => by rw [h 0 0 10 rfl] at e; rw [h 13 0 6 rfl]; exact hs e
theorem LCt_of {S : fxS} (h : S 0 0 10 ≠ 1) : LCt S := fun e => absurd e h
theorem LCt_0 {S : fxS} (h : S 13 0 6 = 0) : LCt S := fun _ => h
def NCJ (n j : Int) (S : fxS) : Prop := ∀ m : Nat, 1 ≤ m → (m : Int) < j → S 4 m 0 ≠ 0 → S 4 m 1 ≠ n
theorem NC_0 {n : Int} {S : fxS} : NCJ n (1 : Int) S := fun m h1 h2 => by omega
theorem NC_step {n j : Int} {S : fxS} (h : NCJ n j S) (hj : 1 ≤ j) (hc : S 4 j.toNat 0 = 0 ∨ S 4 j.toNat 1 ≠ n) : NCJ n (j + (1 : Int)) S := by
  intro m h1 h2 h3
  by_cases e : m = j.toNat
  · subst e
    rcases hc with q | q
    · exact absurd q h3
    · exact q
  · exact h m h1 (by omega) h3
theorem NC_end {n j : Int} {S : fxS} (h : NCJ n j S) (hj : 60 ≤ j) : NoC n S := fun m h1 h2 => h m h1 (by omega)
theorem Tree_newd {S S1 S2 : fxS} {n o q : Int} (h : WTS S) (ns : NS S S1) (n4 : N4 n.toNat S1 S2) (v : S2 4 n.toNat 0 = q ∧ S2 4 n.toNat 1 = o) (hn : 1 ≤ n ∧ n < 60) (h0 : S 4 n.toNat 0 = 0) (hO : 0 ≤ o ∧ o < 60) (hk : S 4 o.toNat 0 = 1) (hd : (depF (fun m => S 4 m 1) 60 o : Int) ≤ 4) (hq : q ≠ 0) : (depF (fun m => S2 4 m 1) 60 n : Int) = 1 + (depF (fun m => S 4 m 1) 60 o : Int) := by
  have hw := Tree_new0 h ns n4 v hn h0 hO hk hd hq
  have e := WTS_child (n := n) hw hn
  rw [v.2] at e
  rw [e]
  have hno : ∀ m : Nat, m < 60 → S 4 m 1 ≠ n := by
    intro m hm e2
    have := WT.par (kd := fun m => S 4 m 0) (ov := fun m => S 4 m 1) h m hm (by show S 4 m 1 ≠ 0; omega)
    have this : S 4 (S 4 m 1).toNat 0 = 1 := this
    rw [e2, h0] at this
    omega
  have hon : o ≠ n := by
    intro e2
    subst e2
    rw [h0] at hk
    omega
  have hw0 : wiF (fun m => S 4 m 1) n 60 o = false := wi_none hno (WT.rng (kd := fun m => S 4 m 0) (ov := fun m => S 4 m 1) h) hO.1 hO.2 hon
  have := dep_off (ov := fun m => S 4 m 1) (ov' := fun m => S2 4 m 1) (n := n) (fun m hm => ((n4 m (by omega)).2.trans (ns m).2)) hw0
  rw [this]
