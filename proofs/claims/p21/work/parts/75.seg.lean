/-! numbers in bytes; what a SEGMENT is -/
noncomputable def sN (S : fxS) (g i : Nat) (p : Int) : Nat → Int
  | 0 => 0
  | j + 1 => fx_bop 2 (sN S g i p j) (fx_bop 0 (S g i (p + (j : Int)).toNat % 256) (8 * (j : Int)))
theorem sN_succ {S : fxS} {g i : Nat} {p j : Int} (hj : 0 ≤ j) : sN S g i p (j + 1).toNat = fx_bop 2 (sN S g i p j.toNat) (fx_bop 0 (S g i (p + j).toNat % 256) (8 * j)) := by
  obtain ⟨n, rfl⟩ := Int.eq_ofNat_of_zero_le hj
  show sN S g i p (n + 1) = _
  rfl
theorem bop_shl : ∀ b : Nat, b < 256 → fx_bop 0 (b : Int) 0 = b ∧ fx_bop 0 (b : Int) 8 = 256 * b := by decide +kernel
theorem bop_or {x y : Nat} (hx : x < 65536) (hy : y < 65536) : 0 ≤ fx_bop 2 (x : Int) (y : Int) ∧ fx_bop 2 (x : Int) (y : Int) ≤ 65535 := by
  have ex : (Int32.ofInt (x : Int)).toBitVec.toNat = x := by
    show (BitVec.ofInt 32 (x : Int)).toNat = x
    rw [BitVec.toNat_ofInt]; omega
  have ey : (Int32.ofInt (y : Int)).toBitVec.toNat = y := by
    show (BitVec.ofInt 32 (y : Int)).toNat = y
    rw [BitVec.toNat_ofInt]; omega
  have h2 : (Int32.ofInt (x : Int) ||| Int32.ofInt (y : Int)).toBitVec.toNat < 65536 := by
    rw [Int32.toBitVec_or, BitVec.toNat_or, ex, ey]
    exact Nat.or_lt_two_pow (n := 16) hx hy
  have h3 : (Int32.ofInt (x : Int) ||| Int32.ofInt (y : Int)).toInt = ((Int32.ofInt (x : Int) ||| Int32.ofInt (y : Int)).toBitVec.toNat : Int) := by
    show (Int32.ofInt (x : Int) ||| Int32.ofInt (y : Int)).toBitVec.toInt = _
    rw [BitVec.toInt_eq_toNat_cond]
    rw [if_pos (by omega)]
  show 0 ≤ (Int32.ofInt (x : Int) ||| Int32.ofInt (y : Int)).toInt ∧ _
  show 0 ≤ (Int32.ofInt (x : Int) ||| Int32.ofInt (y : Int)).toInt ∧ (Int32.ofInt (x : Int) ||| Int32.ofInt (y : Int)).toInt ≤ 65535
  rw [h3]
  omega
theorem sN_2 (S : fxS) (g i : Nat) (p : Int) : 0 ≤ sN S g i p 2 ∧ sN S g i p 2 ≤ 65535 := by
  have hb : ∀ z : Int, ∃ n : Nat, n < 256 ∧ z % 256 = (n : Int) := fun z => ⟨(z % 256).toNat, by omega, by omega⟩
  show 0 ≤ fx_bop 2 (fx_bop 2 0 (fx_bop 0 (S g i (p + 0).toNat % 256) (8 * 0))) (fx_bop 0 (S g i (p + 1).toNat % 256) (8 * 1)) ∧ fx_bop 2 (fx_bop 2 0 (fx_bop 0 (S g i (p + 0).toNat % 256) (8 * 0))) (fx_bop 0 (S g i (p + 1).toNat % 256) (8 * 1)) ≤ 65535
  obtain ⟨a, ha, ea⟩ := hb (S g i (p + 0).toNat)
  obtain ⟨b, hb, eb⟩ := hb (S g i (p + 1).toNat)
  rw [ea, eb]
  have h1 := (bop_shl a ha).1
  have h2 := (bop_shl b hb).2
  rw [show (8 : Int) * 0 = 0 from rfl, show (8 : Int) * 1 = 8 from rfl, h1, h2]
  have h3 := bop_or (x := 0) (y := a) (by omega) (by omega)
  obtain ⟨u, eu⟩ := Int.eq_ofNat_of_zero_le h3.1
  have h3' : fx_bop 2 0 (a : Int) = (u : Int) := eu
  have hu : u < 65536 := by
    have := h3.2
    rw [eu] at this
    omega
  rw [h3']
  have h4 := bop_or (x := u) (y := 256 * b) hu (by omega)
  rw [Int.natCast_mul] at h4
  exact h4
/-- a SEGMENT of tape i at p -/
abbrev SEG (S : fxS) (i : Nat) (p : Int) : Prop := 8 ≤ p ∧ p + 21 + 8 * (S 33 i (p + 14).toNat % 256) ≤ S 32 i 1 ∧ S 32 i 1 ≤ 6000 ∧ (S 33 i (p + 14).toNat % 256) ≤ 5 ∧ (S 33 i (p + 1).toNat % 256 = 1 ∨ S 33 i (p + 1).toNat % 256 = 2) ∧ sN S 33 i (p + 15 + 8 * (S 33 i (p + 14).toNat % 256)) 2 ≤ 1024 ∧ (S 33 i (p + 1).toNat % 256 = 1 → 1 ≤ (S 33 i (p + 14).toNat % 256) ∧ p + 25 + 8 * (S 33 i (p + 14).toNat % 256) + sN S 33 i (p + 15 + 8 * (S 33 i (p + 14).toNat % 256)) 2 ≤ S 32 i 1)
theorem sN_same {S S' : fxS} {g i : Nat} {p : Int} (h : ∀ j, S' g i j = S g i j) : ∀ n, sN S' g i p n = sN S g i p n
  | 0 => rfl
  | n + 1 => by
    show fx_bop 2 (sN S' g i p n) _ = fx_bop 2 (sN S g i p n) _
    rw [sN_same h n, h]
theorem SEG_same {S S' : fxS} {t : Nat} {p : Int} (h : ∀ j, S' 33 t j = S 33 t j) (hl : S' 32 t 1 = S 32 t 1) (hs : SEG S t p) : SEG S' t p := by
  unfold SEG at hs ⊢
  rw [h, h, hl, sN_same h]
  exact hs
/-- all that was found on a tape are SEGMENTS -/
noncomputable def SegT (S : fxS) (t : Nat) : Prop := ∀ q : Nat, (q : Int) < S 32 t 5 → SEG S t (S 34 t q)
theorem SegT_same {S S' : fxS} {t : Nat} (h : ∀ j, S' 33 t j = S 33 t j) (hl : S' 32 t 1 = S 32 t 1) (hf : S' 32 t 5 = S 32 t 5) (hp : ∀ j, S' 34 t j = S 34 t j) (hs : SegT S t) : SegT S' t := by
  intro q hq
  rw [hf] at hq
  rw [hp]
  exact SEG_same h hl (hs q hq)
theorem SegT_0 {S : fxS} {t : Nat} (h : S 32 t 5 ≤ 0) : SegT S t := fun q hq => by omega
/-- one more is noted -/
theorem SegT_note {S S' : fxS} {t : Nat} {p : Int} (h : ∀ j, S' 33 t j = S 33 t j) (hl : S' 32 t 1 = S 32 t 1) (h0 : 0 ≤ S 32 t 5) (hf : S' 32 t 5 = S 32 t 5 + 1) (hp : ∀ j, j ≠ (S 32 t 5).toNat → S' 34 t j = S 34 t j) (hp2 : S' 34 t (S 32 t 5).toNat = p) (hs : SegT S t) (hseg : SEG S t p) : SegT S' t := by
  intro q hq
  by_cases e : q = (S 32 t 5).toNat
  · subst e
    rw [hp2]
    exact SEG_same h hl hseg
  · rw [hp q e]
    exact SEG_same h hl (hs q (by omega))
noncomputable def SegB (S : fxS) : Prop := ∀ t, t < 6 → SegT S t
/-- THE VIEW tells of what was found -/
def ViewV (S : fxS) : Prop := ∀ v : Nat, (v : Int) < S 26 0 4 → S 30 0 v < S 32 (S 29 0 v).toNat 5
def VW (S : fxS) : Prop := S 26 0 3 = 1 → ViewV S
/-- all that is known of tapes -/
noncomputable def SegA (S : fxS) : Prop := SegB S ∧ VW S
theorem ViewV_stab : fx_stab [(26, 4), (29, 9999), (30, 9999), (32, 5)] ViewV := by
  intro S S' h hs v hv
  rw [h 26 0 4 rfl] at hv
  rw [h 30 0 v rfl, h 29 0 v rfl, h 32 _ 5 rfl]
  exact hs v hv
theorem SegA_stab : fx_stab [(33, 9999), (34, 9999), (32, 1), (32, 5), (26, 3), (26, 4), (29, 9999), (30, 9999)] SegA := by
  intro S S' h hs
  refine ⟨fun t ht => SegT_same (fun j => h 33 t j rfl) (h 32 t 1 rfl) (h 32 t 5 rfl) (fun j => h 34 t j rfl) (hs.1 t ht), fun hw v hv => ?_⟩
  rw [h 26 0 4 rfl] at hv
  rw [h 26 0 3 rfl] at hw
  rw [h 30 0 v rfl, h 29 0 v rfl, h 32 _ 5 rfl]
  exact hs.2 hw v hv
/-- a scan of tape t goes on -/
theorem SegB_one {S S' : fxS} {t : Nat} (h : ∀ u, u ≠ t → ∀ g j, S' g u j = S g u j) (hs : SegB S) (ht : t < 6 → SegT S' t) : SegB S' := by
  intro u hu
  by_cases e : u = t
  · subst e; exact ht hu
  · exact SegT_same (fun j => h u e 33 j) (h u e 32 1) (h u e 32 5) (fun j => h u e 34 j) (hs u hu)
theorem SegA_note {S : fxS} {i : Nat} {p f1 f2 f3 f4 f5 x y w : Int} (h1 : f1 = S 32 i 5) (h0 : 0 ≤ f1) (h5 : f5 = S 32 i 5) (hs : SegA S) (hseg : SEG S i p) :
    SegA (fx_up (fx_up (fx_up (fx_up (fx_up S 34 i (f1).toNat p) 35 i (f2).toNat x) 36 i (f3).toNat y) 37 i (f4).toNat w) 32 i 5 (f5 + (1 : Int))) := by
  refine ⟨SegB_one (t := i) (fun u hu g j => ?_) hs.1 (fun hi => ?_), fun hw v hv => ?_⟩
  · rw [up_ne (fun q => hu q.2.1), up_ne (fun q => hu q.2.1), up_ne (fun q => hu q.2.1), up_ne (fun q => hu q.2.1), up_ne (fun q => hu q.2.1)]
  · refine SegT_note (S := S) (p := p) (fun j => ?_) ?_ (by omega) ?_ (fun j hj => ?_) ?_ (hs.1 i hi) hseg
    · rfl
    · rw [up_ne (fun q => absurd q.2.2 (by decide))]
      rfl
    · rw [fx_up_at, h5]
    · show fx_up S 34 i _ _ 34 i j = _
      rw [up_ne (fun q => hj (by rw [q.2.2, h1]))]
    · show fx_up S 34 i _ _ 34 i _ = _
      rw [← h1, fx_up_at]
  · have h := hs.2 hw v hv
    have e1 : ∀ u, S 32 u 5 ≤ (fx_up (fx_up (fx_up (fx_up (fx_up S 34 i (f1).toNat p) 35 i (f2).toNat x) 36 i (f3).toNat y) 37 i (f4).toNat w) 32 i 5 (f5 + (1 : Int))) 32 u 5 := by
      intro u
      by_cases e : u = i
      · subst e; rw [fx_up_at]; omega
      · rw [up_ne (fun q => e q.2.1)]; exact Int.le_refl _
    exact Int.lt_of_lt_of_le h (e1 _)
theorem SegA_at {S : fxS} {i : Nat} {q z : Int} (h : SegA S) (e : z = S 34 i q.toNat) (hi : i < 6 ∧ 0 ≤ q ∧ q < S 32 i 5) : SEG S i z := by
  rw [e]
  exact h.1 i hi.1 q.toNat (by omega)
/-- of the tapes only one was changed -/
def fxix (i : Nat) (S S' : fxS) : Prop := ∀ g u j, fx_mod [(32, 9999), (33, 9999), (34, 9999), (35, 9999), (36, 9999), (37, 9999)] g j = true → u ≠ i → S' g u j = S g u j
theorem fxix_rfl {i : Nat} {S : fxS} : fxix i S S := fun _ _ _ _ _ => rfl
theorem fxix_tr {i : Nat} {S S1 S2 : fxS} (h : fxix i S S1) (h2 : fxix i S1 S2) : fxix i S S2 := fun g u j a b => (h2 g u j a b).trans (h g u j a b)
theorem fxix_stab {i : Nat} {S : fxS} : fx_stab [(32, 9999), (33, 9999), (34, 9999), (35, 9999), (36, 9999), (37, 9999)] (fxix i S) := fun _ _ h hs g u j a b => (h g u j a).trans (hs g u j a b)
theorem fxix_up {i : Nat} {S S1 : fxS} {g j : Nat} {z : Int} (h : fxix i S S1) : fxix i S (fx_up S1 g i j z) := fun g' u j' a b => (up_ne (fun q => b q.2.1)).trans (h g' u j' a b)
theorem fxix_upo {i : Nat} {S S1 : fxS} {g i' j : Nat} {z : Int} (hg : (Nat.ble 32 g && Nat.ble g 37) = false) (h : fxix i S S1) : fxix i S (fx_up S1 g i' j z) := by
  refine fx_pup fxix_stab ?_ h
  cases hm : fx_mod [(32, 9999), (33, 9999), (34, 9999), (35, 9999), (36, 9999), (37, 9999)] g j
  · rfl
  · exfalso
    have hq : ∀ a : Nat, (Nat.beq a g && true) = true → 32 ≤ a → a ≤ 37 → False := by
      intro a h1 h2 h3
      rw [Bool.and_true] at h1
      have e := zx_beq.mp h1
      subst e
      rw [Nat.ble_eq_true_of_le h2, Nat.ble_eq_true_of_le h3] at hg
      cases hg
    simp only [fx_mod, Bool.or_eq_true, Bool.or_false] at hm
    rcases hm with q | q | q | q | q | q
    · exact hq 32 q (by decide) (by decide)
    · exact hq 33 q (by decide) (by decide)
    · exact hq 34 q (by decide) (by decide)
    · exact hq 35 q (by decide) (by decide)
    · exact hq 36 q (by decide) (by decide)
    · exact hq 37 q (by decide) (by decide)
theorem fxix_cpy {i : Nat} {S S1 : fxS} {g g0 i0 : Nat} {dp n sp : Int} (h : fxix i S S1) : fxix i S (fx_cpy S1 g i dp n g0 i0 sp) := fun g' u j' a b => (if_neg (fun q => b q.2.1)).trans (h g' u j' a b)
/-- nothing is known of tape i any more -/
theorem SegB_0 {S S' : fxS} {i : Nat} (hs : SegB S) (hx : fxix i S S') (h : S' 32 i 5 ≤ 0) : SegB S' := by
  intro u hu
  by_cases e : u = i
  · subst e; exact SegT_0 h
  · exact SegT_same (fun j => hx 33 u j rfl e) (hx 32 u 1 rfl e) (hx 32 u 5 rfl e) (fun j => hx 34 u j rfl e) (hs u hu)
theorem SegA_0 {S S' : fxS} {i : Nat} (hs : SegA S) (hx : fxix i S (fx_up S' 26 0 3 (0 : Int))) (h : (fx_up S' 26 0 3 (0 : Int)) 32 i 5 ≤ 0) : SegA (fx_up S' 26 0 3 (0 : Int)) :=
  ⟨SegB_0 hs.1 hx h, fun hw => absurd (show (0 : Int) = 1 from hw) (by decide)⟩
theorem SegA_lab {S S' : fxS} {i : Nat} (hs : SegA S) (hx : fxix i S S') (hf : fxfr [(32, 1), (33, 9999)] S S') (h : S' 32 i 5 ≤ 0) : SegA S' := by
  refine ⟨SegB_0 hs.1 hx h, fun hw v hv => ?_⟩
  rw [hf 26 0 4 rfl] at hv
  rw [hf 26 0 3 rfl] at hw
  rw [hf 30 0 v rfl, hf 29 0 v rfl, hf 32 _ 5 rfl]
  exact hs.2 hw v hv
theorem SegA_blank {S : fxS} {i : Nat} (hs : SegA S) (hi : i < 6) (h : S 32 i 1 ≤ 8) : S 32 i 5 ≤ 0 := by
  by_cases e : S 32 i 5 ≤ 0
  · exact e
  · have := hs.1 i hi 0 (by omega)
    unfold SEG at this
    omega
theorem sN_upto {S S' : fxS} {g i : Nat} {p e : Int} (hp : 0 ≤ p) (h : ∀ j : Nat, (j : Int) < e → S' g i j = S g i j) : ∀ n : Nat, p + (n : Int) ≤ e → sN S' g i p n = sN S g i p n
  | 0, _ => rfl
  | n + 1, hn => by
    show fx_bop 2 (sN S' g i p n) _ = fx_bop 2 (sN S g i p n) _
    rw [sN_upto hp h n (by omega), h (p + (n : Int)).toNat (by omega)]
/-- bytes came behind the end -/
theorem SEG_grow {S S' : fxS} {i : Nat} {p : Int} (h : ∀ j : Nat, (j : Int) < S 32 i 1 → S' 33 i j = S 33 i j) (hl : S 32 i 1 ≤ S' 32 i 1) (hm : S' 32 i 1 ≤ 6000) (hs : SEG S i p) : SEG S' i p := by
  have h1 := hs.1
  have h2 := hs.2.1
  have hd : 0 ≤ S 33 i (p + 14).toNat % 256 := Int.emod_nonneg _ (by decide)
  have e1 : S' 33 i (p + 14).toNat = S 33 i (p + 14).toNat := h _ (by omega)
  have e2 : S' 33 i (p + 1).toNat = S 33 i (p + 1).toNat := h _ (by omega)
  have e3 : sN S' 33 i (p + 15 + 8 * (S 33 i (p + 14).toNat % 256)) 2 = sN S 33 i (p + 15 + 8 * (S 33 i (p + 14).toNat % 256)) 2 := sN_upto (e := S 32 i 1) (by omega) h 2 (by omega)
  unfold SEG at hs ⊢
  rw [e1, e2, e3]
  omega
theorem SegB_grow {S S' : fxS} {i : Nat} (hs : SegB S) (hx : fxix i S S') (h : ∀ j : Nat, (j : Int) < S 32 i 1 → S' 33 i j = S 33 i j) (hl : S 32 i 1 ≤ S' 32 i 1) (hm : S' 32 i 1 ≤ 6000) (hf : S' 32 i 5 ≤ S 32 i 5) (hp : ∀ j, S' 34 i j = S 34 i j) : SegB S' := by
  intro u hu
  by_cases e : u = i
  · subst e
    intro q hq
    rw [hp]
    exact SEG_grow h hl hm (hs u hu q (by omega))
  · exact SegT_same (fun j => hx 33 u j rfl e) (hx 32 u 1 rfl e) (hx 32 u 5 rfl e) (fun j => hx 34 u j rfl e) (hs u hu)
theorem SegA_app {S S2 : fxS} {i : Nat} {p n len : Int} (hs : SegA S) (hx : fxix i S (fx_up S2 26 0 3 (0 : Int))) (f : fxfr [(32, 3), (32, 4), (32, 5)] (fx_up (fx_cpy S 33 i p n 43 0 (0 : Int)) 32 i 1 len) S2) (hp : p = S 32 i 1) (hn : 0 ≤ n) (hl : len = p + n) (hm : len ≤ 6000) (hf : S2 32 i 5 ≤ 0 ∨ S2 32 i 5 ≤ S 32 i 5) : SegA (fx_up S2 26 0 3 (0 : Int)) := by
  have e0 : ∀ g j, g ≠ 26 → fx_up S2 26 0 3 (0 : Int) g i j = S2 g i j := fun g j hg => up_ne (fun q => hg q.1)
  have e1 : S2 32 i 1 = len := (f 32 i 1 rfl).trans (fx_up_at _ _ _ _ _)
  rcases hf with h | h
  · exact SegA_0 hs hx (by rw [e0 32 5 (by decide)]; exact h)
  · refine ⟨?_, fun hw => absurd (show (0 : Int) = 1 from hw) (by decide)⟩
    refine SegB_grow hs.1 hx (fun j hj => ?_) ?_ ?_ ?_ (fun j => ?_)
    · rw [e0 33 j (by decide), f 33 i j rfl, up_ne (fun q => absurd q.1 (by decide))]
      exact if_neg (fun q => by have := q.2.2.1; omega)
    · rw [e0 32 1 (by decide), e1]; omega
    · rw [e0 32 1 (by decide), e1]; omega
    · rw [e0 32 5 (by decide)]; exact h
    · rw [e0 34 j (by decide), f 34 i j rfl, up_ne (fun q => absurd q.1 (by decide))]
      exact if_neg (fun q => absurd q.1 (by decide))
theorem fits_at {S : fxS} {t j : Nat} {c p : Int} (hs : SegA S) (ht : t < 6) (hi : 0 ≤ c → S 34 t c.toNat = p) (h : 0 ≤ c ∧ c < S 32 t 5 ∧ S 33 t (S 34 t c.toNat + 1).toNat % 256 = 1 ∧ sN S 33 t (S 34 t c.toNat + 15 + 8 * (S 33 t (S 34 t c.toNat + 14).toNat % 256)) 2 = S 4 j 4) :
    S 33 t (p + 1).toNat % 256 = 1 ∧ sN S 33 t (p + 15 + 8 * (S 33 t (p + 14).toNat % 256)) 2 = S 4 j 4 ∧ SEG S t p := by
  have e := hi h.1
  rw [e] at h
  exact ⟨h.2.2.1, h.2.2.2, SegA_at hs e.symm ⟨ht, h.1, h.2.1⟩⟩
