/-! numbers in bytes; what a SEGMENT is -/
noncomputable def sN (S : fxS) (g i : Nat) (p : Int) : Nat → Int
  | 0 => 0
  | j + 1 => fx_bop 2 (sN S g i p j) (fx_bop 0 (S g i (p + (j : Int)).toNat % 256) (8 * (j : Int)))
theorem sN_succ {S : fxS} {g i : Nat} {p j : Int} (hj : 0 ≤ j) : sN S g i p (j + 1).toNat = fx_bop 2 (sN S g i p j.toNat) (fx_bop 0 (S g i (p + j).toNat % 256) (8 * j)) := by
  obtain ⟨n, rfl⟩ := Int.eq_ofNat_of_zero_le hj
  show sN S g i p (n + 1) = _
  rfl
theorem bop_shl : ∀ b : Nat, b < 256 → fx_bop 0 (b : Int) 0 = b ∧ fx_bop 0 (b : Int) 8 = 256 * b := by decide +kernel
theorem bop_or {x y : Nat} (hx : x < 65536) (hy : y < 65536) : 0 ≤ fx_bop 2 (x : Int) (y : Int) ∧ fx_bop 2 (x : Int) (y : Int) ≤ 65535 := by
  have ex : (Int32.ofInt (x : Int)).toBitVec.toNat = x := by
    show (BitVec.ofInt 32 (x : Int)).toNat = x
    rw [BitVec.toNat_ofInt]; omega
  have ey : (Int32.ofInt (y : Int)).toBitVec.toNat = y := by
    show (BitVec.ofInt 32 (y : Int)).toNat = y
    rw [BitVec.toNat_ofInt]; omega
  have h2 : (Int32.ofInt (x : Int) ||| Int32.ofInt (y : Int)).toBitVec.toNat < 65536 := by
    rw [Int32.toBitVec_or, BitVec.toNat_or, ex, ey]
    exact Nat.or_lt_two_pow (n := 16) hx hy
  have h3 : (Int32.ofInt (x : Int) ||| Int32.ofInt (y : Int)).toInt = ((Int32.ofInt (x : Int) ||| Int32.ofInt (y : Int)).toBitVec.toNat : Int) := by
    show (Int32.ofInt (x : Int) ||| Int32.ofInt (y : Int)).toBitVec.toInt = _
    rw [BitVec.toInt_eq_toNat_cond]
    rw [if_pos (by omega)]
  show 0 ≤ (Int32.ofInt (x : Int) ||| Int32.ofInt (y : Int)).toInt ∧ _
  show 0 ≤ (Int32.ofInt (x : Int) ||| Int32.ofInt (y : Int)).toInt ∧ (Int32.ofInt (x : Int) ||| Int32.ofInt (y : Int)).toInt ≤ 65535
  rw [h3]
  omega
theorem sN_2 (S : fxS) (g i : Nat) (p : Int) : 0 ≤ sN S g i p 2 ∧ sN S g i p 2 ≤ 65535 := by
  have hb : ∀ z : Int, ∃ n : Nat, n < 256 ∧ z % 256 = (n : Int) := fun z => ⟨(z % 256).toNat, by omega, by omega⟩
  show 0 ≤ fx_bop 2 (fx_bop 2 0 (fx_bop 0 (S g i (p + 0).toNat % 256) (8 * 0))) (fx_bop 0 (S g i (p + 1).toNat % 256) (8 * 1)) ∧ fx_bop 2 (fx_bop 2 0 (fx_bop 0 (S g i (p + 0).toNat % 256) (8 * 0))) (fx_bop 0 (S g i (p + 1).toNat % 256) (8 * 1)) ≤ 65535
  obtain ⟨a, ha, ea⟩ := hb (S g i (p + 0).toNat)
  obtain ⟨b, hb, eb⟩ := hb (S g i (p + 1).toNat)
  rw [ea, eb]
  have h1 := (bop_shl a ha).1
  have h2 := (bop_shl b hb).2
  rw [show (8 : Int) * 0 = 0 from rfl, show (8 : Int) * 1 = 8 from rfl, h1, h2]
  have h3 := bop_or (x := 0) (y := a) (by omega) (by omega)
  obtain ⟨u, eu⟩ := Int.eq_ofNat_of_zero_le h3.1
  have h3' : fx_bop 2 0 (a : Int) = (u : Int) := eu
  have hu : u < 65536 := by
    have := h3.2
    rw [eu] at this
    omega
  rw [h3']
  have h4 := bop_or (x := u) (y := 256 * b) hu (by omega)
  rw [Int.natCast_mul] at h4
  exact h4
/-- a SEGMENT of tape t at p -/
noncomputable def SEG (S : fxS) (t : Nat) (p : Int) : Prop := 8 ≤ p ∧ p + 21 + 8 * (S 33 t (p + 14).toNat % 256) ≤ S 32 t 1 ∧ S 33 t (p + 14).toNat % 256 ≤ 5 ∧ (S 33 t (p + 1).toNat % 256 = 1 ∨ S 33 t (p + 1).toNat % 256 = 2) ∧
  (S 33 t (p + 1).toNat % 256 = 1 → 1 ≤ S 33 t (p + 14).toNat % 256 ∧ sN S 33 t (p + 15 + 8 * (S 33 t (p + 14).toNat % 256)) 2 ≤ 1024 ∧ p + 25 + 8 * (S 33 t (p + 14).toNat % 256) + sN S 33 t (p + 15 + 8 * (S 33 t (p + 14).toNat % 256)) 2 ≤ S 32 t 1)
theorem sN_same {S S' : fxS} {g i : Nat} {p : Int} (h : ∀ j, S' g i j = S g i j) : ∀ n, sN S' g i p n = sN S g i p n
  | 0 => rfl
  | n + 1 => by
    show fx_bop 2 (sN S' g i p n) _ = fx_bop 2 (sN S g i p n) _
    rw [sN_same h n, h]
theorem SEG_same {S S' : fxS} {t : Nat} {p : Int} (h : ∀ j, S' 33 t j = S 33 t j) (hl : S' 32 t 1 = S 32 t 1) (hs : SEG S t p) : SEG S' t p := by
  unfold SEG at hs ⊢
  rw [h, h, hl, sN_same h]
  exact hs
/-- all that was found on a tape are SEGMENTS -/
noncomputable def SegT (S : fxS) (t : Nat) : Prop := ∀ q : Nat, (q : Int) < S 32 t 5 → SEG S t (S 34 t q)
theorem SegT_same {S S' : fxS} {t : Nat} (h : ∀ j, S' 33 t j = S 33 t j) (hl : S' 32 t 1 = S 32 t 1) (hf : S' 32 t 5 = S 32 t 5) (hp : ∀ j, S' 34 t j = S 34 t j) (hs : SegT S t) : SegT S' t := by
  intro q hq
  rw [hf] at hq
  rw [hp]
  exact SEG_same h hl (hs q hq)
theorem SegT_0 {S : fxS} {t : Nat} (h : S 32 t 5 ≤ 0) : SegT S t := fun q hq => by omega
/-- one more is noted -/
theorem SegT_note {S S' : fxS} {t : Nat} {p : Int} (h : ∀ j, S' 33 t j = S 33 t j) (hl : S' 32 t 1 = S 32 t 1) (h0 : 0 ≤ S 32 t 5) (hf : S' 32 t 5 = S 32 t 5 + 1) (hp : ∀ j, j ≠ (S 32 t 5).toNat → S' 34 t j = S 34 t j) (hp2 : S' 34 t (S 32 t 5).toNat = p) (hs : SegT S t) (hseg : SEG S t p) : SegT S' t := by
  intro q hq
  by_cases e : q = (S 32 t 5).toNat
  · subst e
    rw [hp2]
    exact SEG_same h hl hseg
  · rw [hp q e]
    exact SEG_same h hl (hs q (by omega))
noncomputable def SegA (S : fxS) : Prop := ∀ t, t < 6 → SegT S t
