/-! THE VIEW of the class -/
theorem SegB_stab : fx_stab [(33, 9999), (34, 9999), (32, 1), (32, 5)] SegB := by
  intro S S' h hs t ht
  exact SegT_same (fun j => h 33 t j rfl) (h 32 t 1 rfl) (h 32 t 5 rfl) (fun j => h 34 t j rfl) (hs t ht)
theorem SegB_at {S : fxS} {i : Nat} {q z : Int} (h : SegB S) (e : z = S 34 i q.toNat) (hi : i < 6 ∧ 0 ≤ q ∧ q < S 32 i 5) : SEG S i z := by
  rw [e]
  exact h i hi.1 q.toNat (by omega)
def OrdN (S : fxS) (n : Int) : Prop := ∀ k : Nat, (k : Int) < n → S 31 0 k < S 26 0 4
def OrdV (S : fxS) : Prop := OrdN S (S 26 0 4)
theorem OrdV_stab : fx_stab [(26, 4), (31, 9999)] OrdV := by
  intro S S' h hs k hk
  rw [h 26 0 4 rfl] at hk ⊢
  rw [h 31 0 k rfl]
  exact hs k hk
theorem OrdN_0 {S : fxS} : OrdN S (0 : Int) := fun k hk => by omega
theorem OrdN_le {S : fxS} {n m : Int} (h : OrdN S n) (hm : m ≤ n) : OrdN S m := fun k hk => h k (by omega)
theorem OrdV_of {S : fxS} {n : Int} (h : OrdN S n) (hm : S 26 0 4 ≤ n) : OrdV S := OrdN_le h hm
theorem OrdN_at {S : fxS} {n k z : Int} (h : OrdN S n) (e : z = S 31 0 k.toNat) (hk : 0 ≤ k ∧ k < n) : z < S 26 0 4 := by
  rw [e]; exact h _ (by omega)
theorem OrdV_at {S : fxS} {k z : Int} (h : OrdV S) (e : z = S 31 0 k.toNat) (hk : 0 ≤ k ∧ k < S 26 0 4) : z < S 26 0 4 := OrdN_at h e hk
theorem OrdV_up {S : fxS} {j : Nat} {z : Int} (h : OrdV S) (hz : z < S 26 0 4) : OrdV (fx_up S 31 0 j z) := by
  intro k hk
  show fx_up S 31 0 j z 31 0 k < S 26 0 4
  by_cases e : k = j
  · subst e; rw [fx_up_at]; exact hz
  · rw [up_ne (fun q => e q.2.2)]; exact h k hk
theorem OrdN_step {S : fxS} {v a z : Int} (h : OrdN S v) (h2 : a < v → OrdN S (v + 1)) (ha : 0 ≤ a ∧ a ≤ v) (hz : z < S 26 0 4) : OrdN (fx_up S 31 0 (a).toNat z) (v + (1 : Int)) := by
  intro k hk
  show fx_up S 31 0 _ z 31 0 k < S 26 0 4
  by_cases e : k = a.toNat
  · subst e; rw [fx_up_at]; exact hz
  · rw [up_ne (fun q => e q.2.2)]
    by_cases e2 : a < v
    · exact h2 e2 k hk
    · exact h k (by omega)
theorem View_at {S : fxS} {v z t : Int} (h : ViewV S) (e : z = S 30 0 v.toNat) (et : t = S 29 0 v.toNat) (hv : 0 ≤ v ∧ v < S 26 0 4) : z < S 32 t.toNat 5 := by
  rw [e, et]; exact h _ (by omega)
theorem View_0 {S : fxS} (h : S 26 0 4 ≤ 0) : ViewV S := fun v hv => by omega
theorem View_cut {S : fxS} {z : Int} (h : ViewV S) (hz : z ≤ 0 ∨ z ≤ S 26 0 4) : ViewV (fx_up S 26 0 4 z) := by
  intro v hv
  have hv' : (v : Int) < z := hv
  exact h v (by omega)
theorem View_set {S : fxS} {a : Nat} {x t c : Int} (h : ViewV S) (hc : c < S 32 t.toNat 5) : ViewV (fx_up (fx_up (fx_up S 28 0 a x) 29 0 a t) 30 0 a c) := by
  intro v hv
  have hv' : (v : Int) < S 26 0 4 := hv
  show fx_up _ 30 0 a c 30 0 v < S 32 (fx_up (fx_up S 28 0 a x) 29 0 a t 29 0 v).toNat 5
  by_cases e : v = a
  · subst e; rw [fx_up_at, fx_up_at]; exact hc
  · have q1 : fx_up (fx_up (fx_up S 28 0 a x) 29 0 a t) 30 0 a c 30 0 v = S 30 0 v := (up_ne (fun q => e q.2.2)).trans rfl
    have q2 : fx_up (fx_up S 28 0 a x) 29 0 a t 29 0 v = S 29 0 v := (up_ne (fun q => e q.2.2)).trans rfl
    rw [q1, q2]
    exact h v hv'
theorem View_ins {S : fxS} {a n x t c vc : Int} (h : ViewV S) (ha : 0 ≤ a ∧ a ≤ S 26 0 4) (hn : n = S 26 0 4 - a) (hvc : vc = S 26 0 4 + 1) (hc : c < S 32 t.toNat 5) :
    ViewV (fx_up (fx_up (fx_up (fx_up (fx_cpy (fx_cpy (fx_cpy S 28 0 (a + (1 : Int)) n 28 0 a) 29 0 (a + (1 : Int)) n 29 0 a) 30 0 (a + (1 : Int)) n 30 0 a) 26 0 4 vc) 28 0 (a).toNat x) 29 0 (a).toNat t) 30 0 (a).toNat c) := by
  intro v hv
  have hv' : (v : Int) < vc := hv
  show fx_up _ 30 0 (a).toNat c 30 0 v < S 32 (fx_up (fx_up (fx_up (fx_cpy (fx_cpy (fx_cpy S 28 0 (a + (1 : Int)) n 28 0 a) 29 0 (a + (1 : Int)) n 29 0 a) 30 0 (a + (1 : Int)) n 30 0 a) 26 0 4 vc) 28 0 (a).toNat x) 29 0 (a).toNat t 29 0 v).toNat 5
  by_cases e : v = a.toNat
  · subst e; rw [fx_up_at, fx_up_at]; exact hc
  · rw [show ∀ (X : fxS), fx_up X 30 0 (a).toNat c 30 0 v = X 30 0 v from fun X => up_ne (fun q => e q.2.2), show ∀ (X : fxS), fx_up X 29 0 (a).toNat t 29 0 v = X 29 0 v from fun X => up_ne (fun q => e q.2.2)]
    show fx_cpy (fx_cpy (fx_cpy S 28 0 (a + (1 : Int)) n 28 0 a) 29 0 (a + (1 : Int)) n 29 0 a) 30 0 (a + (1 : Int)) n 30 0 a 30 0 v < S 32 (fx_cpy (fx_cpy S 28 0 (a + (1 : Int)) n 28 0 a) 29 0 (a + (1 : Int)) n 29 0 a 29 0 v).toNat 5
    by_cases e2 : a + (1 : Int) ≤ (v : Int) ∧ (v : Int) < a + (1 : Int) + n
    · have q1 : fx_cpy (fx_cpy (fx_cpy S 28 0 (a + (1 : Int)) n 28 0 a) 29 0 (a + (1 : Int)) n 29 0 a) 30 0 (a + (1 : Int)) n 30 0 a 30 0 v = S 30 0 ((v : Int) - (a + (1 : Int)) + a).toNat := if_pos ⟨rfl, rfl, e2⟩
      have q2 : fx_cpy (fx_cpy S 28 0 (a + (1 : Int)) n 28 0 a) 29 0 (a + (1 : Int)) n 29 0 a 29 0 v = S 29 0 ((v : Int) - (a + (1 : Int)) + a).toNat := if_pos ⟨rfl, rfl, e2⟩
      rw [q1, q2]
      exact h _ (by omega)
    · have q1 : fx_cpy (fx_cpy (fx_cpy S 28 0 (a + (1 : Int)) n 28 0 a) 29 0 (a + (1 : Int)) n 29 0 a) 30 0 (a + (1 : Int)) n 30 0 a 30 0 v = S 30 0 v := if_neg (fun q => e2 q.2.2)
      have q2 : fx_cpy (fx_cpy S 28 0 (a + (1 : Int)) n 28 0 a) 29 0 (a + (1 : Int)) n 29 0 a 29 0 v = S 29 0 v := if_neg (fun q => e2 q.2.2)
      rw [q1, q2]
      exact h v (by omega)
theorem bop_half_n : ∀ a : Nat, a < 64 → ∀ b : Nat, b < 64 → fx_bop 1 ((64 * a + b : Nat) : Int) 1 = (((64 * a + b) / 2 : Nat) : Int) := by decide +kernel
theorem bop_half {x z : Int} (h : 0 ≤ x ∧ x ≤ 3420) (e : z = fx_bop 1 x (1 : Int)) : z = x / 2 := by
  obtain ⟨n, rfl⟩ := Int.eq_ofNat_of_zero_le h.1
  have h2 := bop_half_n (n / 64) (by omega) (n % 64) (by omega)
  rw [Nat.div_add_mod n 64] at h2
  rw [e, h2]
  omega
/-- a SEGMENT, told of a state -/
def SGx (i : Nat) (p : Int) (S : fxS) : Prop := SEG S i p
theorem SGx_stab {i : Nat} {p : Int} : fx_stab [(33, 9999), (32, 1)] (SGx i p) := fun _ _ h hs => SEG_same (fun j => h 33 i j rfl) (h 32 i 1 rfl) hs
