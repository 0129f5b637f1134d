/-! the reference: drives -/
def CPS (f : Int) (S : fxS) : Prop := 1 ≤ aN S f 5
theorem CPS_stab {f : Int} : fx_stab [(50, 9999)] (CPS f) := fun A B h hs => by
  have e : aN B f 5 = aN A f 5 := h 50 0 _ rfl
  show 1 ≤ aN B f 5
  rw [e]; exact hs
theorem UP1_fcn {S S' : fxS} {r lo : Int} {m : Nat} (h : UP1 r S S') (hz : S 56 0 r.toNat = 0) (h0 : 0 ≤ lo) (hr : lo ≤ r ∧ r < lo + (m : Int)) : fcn (S' 56 0) lo m = fcn (S 56 0) lo m - 1 := by
  rw [fcn_1 (u := S 56 0) (u' := S' 56 0) (lo := lo) (x := r) h0 hr.1 hz (by rw [h.2 (by omega)]; omega) (fun x hx => h.1 x hx) m, if_pos hr.2]
theorem AONX_in {S : fxS} {f j b : Int} (h : AONX f (32 * j) S) (hf : 0 ≤ f) (hj : 0 ≤ j ∧ j < 32) (hb : 0 ≤ b) : AONX f (32 * (j + (1 : Int))) (fx_up S 50 0 (42 * f + ((10 : Int) + j)).toNat b) := by
  intro n a c d e q q1 q2 q3 q4
  have r : ∀ w : Int, 0 ≤ w → w < 42 → (n ≠ f ∨ w ≠ 10 + j) → aN (fx_up S 50 0 (42 * f + ((10 : Int) + j)).toNat b) n w = aN S n w := fun w w0 w1 w2 => aN_ne ⟨hf, by omega⟩ ⟨a, w0, w1⟩ w2
  rw [r 0 (by omega) (by omega) (by omega)] at d
  rw [r 3 (by omega) (by omega) (by omega)] at q3
  by_cases ef : n = f
  · subst ef
    by_cases eq : q = j
    · subst eq
      have : aN (fx_up S 50 0 (42 * n + ((10 : Int) + q)).toNat b) n (10 + q) = b := aN_eq
      rw [this]; exact hb
    · rw [r (10 + q) (by omega) (by omega) (by omega)]
      have q5 := q4 rfl
      by_cases e0 : j = 0
      · omega
      · rw [r 10 (by omega) (by omega) (by omega)] at e
        exact h n a c d e q q1 q2 q3 (fun _ => by omega)
  · rw [r 10 (by omega) (by omega) (Or.inl ef)] at e
    rw [r (10 + q) (by omega) (by omega) (Or.inl ef)]
    exact h n a c d e q q1 q2 q3 (fun x => absurd x ef)
theorem AONX_end {S : fxS} {f z : Int} (h : AONX f z S) (hz : aN S f 3 ≤ z) : AON S := by
  intro n a b c d p p1 p2 p3
  have p3 : 32 * p < aN S n 3 := p3
  exact h n a b c d p p1 p2 (fun _ => p3) (fun e => by subst e; omega)
theorem AONX_0 {S : fxS} {f : Int} (h : AON S) (hs : 0 ≤ aN S f 3) : AONX f (32 * (0 : Int)) S := AONX_of h (by omega)
/-- behind a tape's end there is room for z bytes -/
def END (t z : Int) (S : fxS) : Prop := (S 63 0 t.toNat = 0 → 8 + z ≤ 6000) ∧ (S 63 0 t.toNat ≠ 0 → S 63 0 t.toNat + z ≤ 6000)
/-- what is to be written can be -/
def BWP (w d t : Int) (S : fxS) : Prop := (w = 0 → END t 21 S) ∧ (w = 1 → END t (S 49 0 45) S ∧ 0 ≤ S 49 0 45 ∧ S 49 0 45 ≤ 1089) ∧ (w = 2 → ∃ f : Int, FOF d f S ∧ (1 ≤ f ∧ f < 60) ∧ aN S f 0 = 2 ∧ 0 ≤ aN S f 10 ∧ END t (25 + 8 * (depF (ovf (S 50 0)) 60 f : Int) + aN S f 3) S)
def BWC (w d t : Int) (S : fxS) : Prop := 0 ≤ t → BWP w d t S
theorem BWP_stab {w d t : Int} : fx_stab [(50, 9999), (63, 9999), (49, 45)] (BWP w d t) := fun A B h hs => by
  have e50 : B 50 0 = A 50 0 := funext (fun k => h 50 0 k rfl)
  have ea : ∀ n c : Int, aN B n c = aN A n c := fun n c => h 50 0 _ rfl
  have ee : ∀ z : Int, END t z A → END t z B := fun z q => by
    unfold END
    rw [h 63 0 _ rfl]; exact q
  refine ⟨fun q => ee _ (hs.1 q), fun q => by rw [h 49 0 45 rfl]; exact ⟨ee _ (hs.2.1 q).1, (hs.2.1 q).2⟩, fun q => ?_⟩
  obtain ⟨f, a, b, c, d, e⟩ := hs.2.2 q
  refine ⟨f, FOF_stab A B (fun g i j hq => h g i j (by rw [show fx_mod [(50, 9999), (63, 9999), (49, 45)] g j = ((Nat.beq 50 g && (Nat.beq 9999 9999 || Nat.beq 9999 j)) || fx_mod [(63, 9999), (49, 45)] g j) from rfl]; rw [show fx_mod [(50, 9999)] g j = ((Nat.beq 50 g && (Nat.beq 9999 9999 || Nat.beq 9999 j)) || false) from rfl, Bool.or_false] at hq; rw [hq]; rfl)) a, b, by rw [ea]; exact c, by rw [ea]; exact d, ?_⟩
  rw [ea, e50]; exact ee _ e
theorem BWC_stab {w d t : Int} : fx_stab [(50, 9999), (63, 9999), (49, 45)] (BWC w d t) := fun A B h hs q => BWP_stab A B h (hs q)
theorem BWC_no {w d t : Int} {S : fxS} (h : t < 0) : BWC w d t S := fun q => by omega
/-- who waits to be written is a file with its blocks -/
def WJ (s : Int) (S : fxS) : Prop := ∀ i : Nat, (i : Int) < s → ∃ f : Int, FOF (S 76 0 i) f S ∧ (1 ≤ f ∧ f < 60) ∧ aN S f 0 = 2 ∧ 0 < aN S f 3 ∧ 0 ≤ aN S f 10
def WTG (S : fxS) : Prop := WJ (S 49 0 38) S
theorem WJ_stab {s : Int} : fx_stab [(50, 9999), (76, 9999)] (WJ s) := fun A B h hs i hi => by
  obtain ⟨f, a, b, c, d, e⟩ := hs i hi
  have ea : ∀ n c : Int, aN B n c = aN A n c := fun n c => h 50 0 _ rfl
  refine ⟨f, ?_, b, by rw [ea]; exact c, by rw [ea]; exact d, by rw [ea]; exact e⟩
  rw [h 76 0 i rfl]
  exact FOF_stab A B (fun g i j hq => h g i j (by rw [show fx_mod [(50, 9999), (76, 9999)] g j = ((Nat.beq 50 g && (Nat.beq 9999 9999 || Nat.beq 9999 j)) || fx_mod [(76, 9999)] g j) from rfl]; rw [show fx_mod [(50, 9999)] g j = ((Nat.beq 50 g && (Nat.beq 9999 9999 || Nat.beq 9999 j)) || false) from rfl, Bool.or_false] at hq; rw [hq]; rfl)) a
theorem WTG_stab : fx_stab [(50, 9999), (76, 9999), (49, 38)] WTG := fun A B h hs => by
  show WJ (B 49 0 38) B
  rw [h 49 0 38 rfl]
  exact WJ_stab A B (fun g i j hq => h g i j (by rw [show fx_mod [(50, 9999), (76, 9999), (49, 38)] g j = ((Nat.beq 50 g && (Nat.beq 9999 9999 || Nat.beq 9999 j)) || ((Nat.beq 76 g && (Nat.beq 9999 9999 || Nat.beq 9999 j)) || fx_mod [(49, 38)] g j)) from rfl]; rw [show fx_mod [(50, 9999), (76, 9999)] g j = ((Nat.beq 50 g && (Nat.beq 9999 9999 || Nat.beq 9999 j)) || ((Nat.beq 76 g && (Nat.beq 9999 9999 || Nat.beq 9999 j)) || false)) from rfl] at hq; revert hq; cases (Nat.beq 50 g && (Nat.beq 9999 9999 || Nat.beq 9999 j)) <;> cases (Nat.beq 76 g && (Nat.beq 9999 9999 || Nat.beq 9999 j)) <;> intro hq <;> first | rfl | cases hq)) hs
theorem WJ_0 {S : fxS} : WJ (0 : Int) S := fun i hi => by omega
theorem FOF_76 {d r : Int} {S : fxS} {k : Nat} {v : Int} (h : FOF d r S) : FOF d r (fx_up S 76 0 k v) := fx_pup FOF_stab rfl h
theorem WJ_put {s z : Int} {S : fxS} (h : WJ s S) (hs : 0 ≤ s) (hz : ∃ f : Int, FOF z f S ∧ (1 ≤ f ∧ f < 60) ∧ aN S f 0 = 2 ∧ 0 < aN S f 3 ∧ 0 ≤ aN S f 10) : WJ (s + (1 : Int)) (fx_up S 76 0 s.toNat z) := by
  intro i hi
  by_cases e : i = s.toNat
  · obtain ⟨f, a, b, c, d, g⟩ := hz
    rw [e, fx_up_at]
    exact ⟨f, FOF_76 a, b, c, d, g⟩
  · obtain ⟨f, a, b, c, d, g⟩ := h i (by omega)
    refine ⟨f, ?_, b, c, d, g⟩
    rw [up_ne (fun q => e q.2.2)]; exact FOF_76 a
theorem WTG_of {s : Int} {S : fxS} (h : WJ s S) : WTG (fx_up S 49 0 38 s) := by
  show WJ (fx_up S 49 0 38 s 49 0 38) _
  rw [fx_up_at]
  exact fx_pup WJ_stab rfl h
/-- ranks -/
def rkF (S : fxS) (f : Int) : Int := (Int32.ofInt ((Int32.ofInt (S 49 0 11 - S 52 0 f.toNat)).toInt + (Int32.ofInt (4 * ((aN S f 3 + 31) / 32))).toInt)).toInt
theorem WJ_put2 {s j z : Int} {S : fxS} (h : WJ s S) (hs : 0 ≤ s) (hz : z = S 76 0 j.toNat) (hf : ∃ f : Int, FOF (S 76 0 j.toNat) f S ∧ (1 ≤ f ∧ f < 60) ∧ aN S f 0 = 2 ∧ 0 < aN S f 3 ∧ 0 ≤ aN S f 10) : WJ (s + (1 : Int)) (fx_up S 76 0 s.toNat z) := WJ_put h hs (by rw [hz]; exact hf)
theorem END_of {t z : Int} {S : fxS} (h : (S 63 0 t.toNat = 0 → 8 + z ≤ 6000) ∧ (S 63 0 t.toNat ≠ 0 → S 63 0 t.toNat + z ≤ 6000)) : END t z S := h
def FBC (f z : Int) (S : fxS) : Prop := 0 ≤ f → aN S f 0 = 2 ∧ aN S f 3 = z ∧ 0 ≤ aN S f 10
theorem FBC_stab {f z : Int} : fx_stab [(50, 9999)] (FBC f z) := fun A B h hs q => by
  have e : ∀ w : Int, aN B f w = aN A f w := fun w => h 50 0 _ rfl
  rw [e, e, e]; exact hs q
def DPE (f d : Int) (S : fxS) : Prop := (depF (ovf (S 50 0)) 60 f : Int) = d
theorem DPE_stab {f d : Int} : fx_stab [(50, 9999)] (DPE f d) := fun A B h hs => by show (depF (ovf (B 50 0)) 60 f : Int) = d; rw [row_eq h]; exact hs
theorem WNW_5b {S : fxS} {t : Int} (h : S 72 0 0 = 5) (e : S 70 0 0 = t) (h0 : 0 ≤ t) (hl : S 63 0 t.toNat + S 49 0 51 ≤ 6000) (ho : S 49 0 51 ≤ 1200) : WNW S := WNW_5 h (by omega) (by rw [e]; exact hl) ho
def CATR (f : Int) (S : fxS) : Prop := CAT f (S 49 0 39) (S 49 0 48) S
theorem CATR_stab {f : Int} : fx_stab [(50, 9999), (49, 39), (49, 48)] (CATR f) := fun A B h hs => by
  obtain ⟨i, a, b, c, d⟩ := hs
  have e : ∀ w : Int, aN B f w = aN A f w := fun w => h 50 0 _ rfl
  exact ⟨i, a, by rw [e]; exact b, by rw [e, h 49 0 39 rfl]; exact c, by rw [e, h 49 0 48 rfl]; exact d⟩
def CPU (f : Int) (S : fxS) : Prop := aN S f 5 ≤ 1
theorem CPU_stab {f : Int} : fx_stab [(50, 9999)] (CPU f) := fun A B h hs => by
  have e : aN B f 5 = aN A f 5 := h 50 0 _ rfl
  show aN B f 5 ≤ 1
  rw [e]; exact hs
