/-! the reference: tapes, and the rows of what was found on them -/
def tB (S : fxS) (t q : Int) : Int := S 62 0 (6000 * t + q).toNat % 256
noncomputable def nB (S : fxS) (t q : Int) : Int := sN S 62 0 (6000 * t + q) 2
def sgN (S : fxS) (r c : Int) : Int := S 65 0 (8 * r + c).toNat
def ROWK (p so de si : Int) : Prop := 0 ≤ p ∧ p ≤ 5979 ∧ 0 ≤ so ∧ so ≤ 2 ∧ 0 ≤ de ∧ de ≤ 5 ∧ 0 ≤ si ∧ si ≤ 1024 ∧ p + 21 + 8 * de ≤ 6000 ∧ (so = 1 → p + 25 + 8 * de + si ≤ 6000)
def SGM (S : fxS) : Prop := ∀ r : Int, 0 ≤ r → r < 1800 → ROWK (sgN S r 0) (sgN S r 1) (sgN S r 5) (sgN S r 6)
theorem SGM_stab : fx_stab [(65, 9999)] SGM := fun A B h hs r a b => by
  have e : ∀ c : Int, sgN B r c = sgN A r c := fun c => h 65 0 _ rfl
  rw [e, e, e, e]; exact hs r a b
theorem SGM_at {S : fxS} {t i : Int} (h : SGM S) (ht : 0 ≤ t ∧ t ≤ 5) (hi : 0 ≤ i ∧ i < 300) : 0 ≤ sgN S (300 * t + i) 0 ∧ sgN S (300 * t + i) 0 ≤ 5979 ∧ 0 ≤ sgN S (300 * t + i) 1 ∧ sgN S (300 * t + i) 1 ≤ 2 ∧ 0 ≤ sgN S (300 * t + i) 5 ∧ sgN S (300 * t + i) 5 ≤ 5 ∧ 0 ≤ sgN S (300 * t + i) 6 ∧ sgN S (300 * t + i) 6 ≤ 1024 ∧ sgN S (300 * t + i) 0 + 21 + 8 * sgN S (300 * t + i) 5 ≤ 6000 ∧ (sgN S (300 * t + i) 1 = 1 → sgN S (300 * t + i) 0 + 25 + 8 * sgN S (300 * t + i) 5 + sgN S (300 * t + i) 6 ≤ 6000) := h (300 * t + i) (by omega) (by omega)
theorem sg_up {S : fxS} {a c v r w : Int} (ha : 0 ≤ a) (hc : 0 ≤ c ∧ c < 8) (hr : 0 ≤ r) (hw : 0 ≤ w ∧ w < 8) : sgN (fx_up S 65 0 (8 * a + c).toNat v) r w = if r = a ∧ w = c then v else sgN S r w := by
  show fx_up S 65 0 (8 * a + c).toNat v 65 0 (8 * r + w).toNat = _
  by_cases e : r = a ∧ w = c
  · rw [if_pos e, e.1, e.2]; exact fx_up_at _ _ _ _ _
  · rw [if_neg e]; exact up_ne (by omega)
theorem SGM_row {S : fxS} {a p so x y z de si go : Int} (h : SGM S) (ha : 0 ≤ a ∧ a < 1800) (hk : ROWK p so de si) : SGM (fx_up (fx_up (fx_up (fx_up (fx_up (fx_up (fx_up (fx_up S 65 0 ((8 : Int) * a + (0 : Int)).toNat p) 65 0 ((8 : Int) * a + (1 : Int)).toNat so) 65 0 ((8 : Int) * a + (2 : Int)).toNat x) 65 0 ((8 : Int) * a + (3 : Int)).toNat y) 65 0 ((8 : Int) * a + (4 : Int)).toNat z) 65 0 ((8 : Int) * a + (5 : Int)).toNat de) 65 0 ((8 : Int) * a + (6 : Int)).toNat si) 65 0 ((8 : Int) * a + (7 : Int)).toNat go) := by
  intro r r0 r1
  simp only [sg_up ha.1 (show (0 : Int) ≤ 0 ∧ (0 : Int) < 8 by omega) r0 (show (0 : Int) ≤ 0 ∧ (0 : Int) < 8 by omega),
    sg_up ha.1 (show (0 : Int) ≤ 0 ∧ (0 : Int) < 8 by omega) r0 (show (0 : Int) ≤ 1 ∧ (1 : Int) < 8 by omega),
    sg_up ha.1 (show (0 : Int) ≤ 0 ∧ (0 : Int) < 8 by omega) r0 (show (0 : Int) ≤ 5 ∧ (5 : Int) < 8 by omega),
    sg_up ha.1 (show (0 : Int) ≤ 0 ∧ (0 : Int) < 8 by omega) r0 (show (0 : Int) ≤ 6 ∧ (6 : Int) < 8 by omega),
    sg_up ha.1 (show (0 : Int) ≤ 1 ∧ (1 : Int) < 8 by omega) r0 (show (0 : Int) ≤ 0 ∧ (0 : Int) < 8 by omega),
    sg_up ha.1 (show (0 : Int) ≤ 1 ∧ (1 : Int) < 8 by omega) r0 (show (0 : Int) ≤ 1 ∧ (1 : Int) < 8 by omega),
    sg_up ha.1 (show (0 : Int) ≤ 1 ∧ (1 : Int) < 8 by omega) r0 (show (0 : Int) ≤ 5 ∧ (5 : Int) < 8 by omega),
    sg_up ha.1 (show (0 : Int) ≤ 1 ∧ (1 : Int) < 8 by omega) r0 (show (0 : Int) ≤ 6 ∧ (6 : Int) < 8 by omega),
    sg_up ha.1 (show (0 : Int) ≤ 2 ∧ (2 : Int) < 8 by omega) r0 (show (0 : Int) ≤ 0 ∧ (0 : Int) < 8 by omega),
    sg_up ha.1 (show (0 : Int) ≤ 2 ∧ (2 : Int) < 8 by omega) r0 (show (0 : Int) ≤ 1 ∧ (1 : Int) < 8 by omega),
    sg_up ha.1 (show (0 : Int) ≤ 2 ∧ (2 : Int) < 8 by omega) r0 (show (0 : Int) ≤ 5 ∧ (5 : Int) < 8 by omega),
    sg_up ha.1 (show (0 : Int) ≤ 2 ∧ (2 : Int) < 8 by omega) r0 (show (0 : Int) ≤ 6 ∧ (6 : Int) < 8 by omega),
    sg_up ha.1 (show (0 : Int) ≤ 3 ∧ (3 : Int) < 8 by omega) r0 (show (0 : Int) ≤ 0 ∧ (0 : Int) < 8 by omega),
    sg_up ha.1 (show (0 : Int) ≤ 3 ∧ (3 : Int) < 8 by omega) r0 (show (0 : Int) ≤ 1 ∧ (1 : Int) < 8 by omega),
    sg_up ha.1 (show (0 : Int) ≤ 3 ∧ (3 : Int) < 8 by omega) r0 (show (0 : Int) ≤ 5 ∧ (5 : Int) < 8 by omega),
    sg_up ha.1 (show (0 : Int) ≤ 3 ∧ (3 : Int) < 8 by omega) r0 (show (0 : Int) ≤ 6 ∧ (6 : Int) < 8 by omega),
    sg_up ha.1 (show (0 : Int) ≤ 4 ∧ (4 : Int) < 8 by omega) r0 (show (0 : Int) ≤ 0 ∧ (0 : Int) < 8 by omega),
    sg_up ha.1 (show (0 : Int) ≤ 4 ∧ (4 : Int) < 8 by omega) r0 (show (0 : Int) ≤ 1 ∧ (1 : Int) < 8 by omega),
    sg_up ha.1 (show (0 : Int) ≤ 4 ∧ (4 : Int) < 8 by omega) r0 (show (0 : Int) ≤ 5 ∧ (5 : Int) < 8 by omega),
    sg_up ha.1 (show (0 : Int) ≤ 4 ∧ (4 : Int) < 8 by omega) r0 (show (0 : Int) ≤ 6 ∧ (6 : Int) < 8 by omega),
    sg_up ha.1 (show (0 : Int) ≤ 5 ∧ (5 : Int) < 8 by omega) r0 (show (0 : Int) ≤ 0 ∧ (0 : Int) < 8 by omega),
    sg_up ha.1 (show (0 : Int) ≤ 5 ∧ (5 : Int) < 8 by omega) r0 (show (0 : Int) ≤ 1 ∧ (1 : Int) < 8 by omega),
    sg_up ha.1 (show (0 : Int) ≤ 5 ∧ (5 : Int) < 8 by omega) r0 (show (0 : Int) ≤ 5 ∧ (5 : Int) < 8 by omega),
    sg_up ha.1 (show (0 : Int) ≤ 5 ∧ (5 : Int) < 8 by omega) r0 (show (0 : Int) ≤ 6 ∧ (6 : Int) < 8 by omega),
    sg_up ha.1 (show (0 : Int) ≤ 6 ∧ (6 : Int) < 8 by omega) r0 (show (0 : Int) ≤ 0 ∧ (0 : Int) < 8 by omega),
    sg_up ha.1 (show (0 : Int) ≤ 6 ∧ (6 : Int) < 8 by omega) r0 (show (0 : Int) ≤ 1 ∧ (1 : Int) < 8 by omega),
    sg_up ha.1 (show (0 : Int) ≤ 6 ∧ (6 : Int) < 8 by omega) r0 (show (0 : Int) ≤ 5 ∧ (5 : Int) < 8 by omega),
    sg_up ha.1 (show (0 : Int) ≤ 6 ∧ (6 : Int) < 8 by omega) r0 (show (0 : Int) ≤ 6 ∧ (6 : Int) < 8 by omega),
    sg_up ha.1 (show (0 : Int) ≤ 7 ∧ (7 : Int) < 8 by omega) r0 (show (0 : Int) ≤ 0 ∧ (0 : Int) < 8 by omega),
    sg_up ha.1 (show (0 : Int) ≤ 7 ∧ (7 : Int) < 8 by omega) r0 (show (0 : Int) ≤ 1 ∧ (1 : Int) < 8 by omega),
    sg_up ha.1 (show (0 : Int) ≤ 7 ∧ (7 : Int) < 8 by omega) r0 (show (0 : Int) ≤ 5 ∧ (5 : Int) < 8 by omega),
    sg_up ha.1 (show (0 : Int) ≤ 7 ∧ (7 : Int) < 8 by omega) r0 (show (0 : Int) ≤ 6 ∧ (6 : Int) < 8 by omega)]
  have k := h r r0 r1
  by_cases e : r = a
  · subst e; simpa using hk
  · simp only [e, false_and, if_false]; exact k
/-- a copy of the file stands on tape t at p -/
def CAT (f t p : Int) (S : fxS) : Prop := ∃ i : Int, 0 ≤ i ∧ i < aN S f 5 ∧ aN S f (6 + 2 * i) = t ∧ aN S f (6 + 2 * i + 1) = p
theorem CAT_stab {f t p : Int} : fx_stab [(50, 9999)] (CAT f t p) := fun A B h hs => by
  obtain ⟨i, a, b, c, d⟩ := hs
  have e : ∀ w : Int, aN B f w = aN A f w := fun w => h 50 0 _ rfl
  exact ⟨i, a, by rw [e]; exact b, by rw [e]; exact c, by rw [e]; exact d⟩
def NCA (f t p j : Int) (S : fxS) : Prop := ∀ i : Int, 0 ≤ i → i < j → ¬ (aN S f (6 + 2 * i) = t ∧ aN S f (6 + 2 * i + 1) = p)
theorem NCA_0 {f t p : Int} {S : fxS} : NCA f t p (0 : Int) S := fun i a b => by omega
theorem NCA_step {f t p j : Int} {S : fxS} (h : NCA f t p j S) (hc : aN S f (6 + 2 * j) ≠ t ∨ aN S f (6 + 2 * j + 1) ≠ p) : NCA f t p (j + (1 : Int)) S := fun i a b c => by
  by_cases e : i = j
  · subst e; rcases hc with q | q
    · exact q c.1
    · exact q c.2
  · exact h i a (by omega) c
theorem NCA_cat {f t p j : Int} {S : fxS} (h : NCA f t p j S) (hj : aN S f 5 ≤ j) : ¬ CAT f t p S := fun ⟨i, a, b, c, d⟩ => h i a (by omega) ⟨c, d⟩
theorem ZRW_1 {n j : Int} {S : fxS} (h : ZRW n j S) (hj : 42 ≤ j) : aN S n 0 = 0 ∧ aN S n 1 = 0 := ⟨h 0 (by omega) (by omega), h 1 (by omega) (by omega)⟩
/-- what stood ahead of a node's going -/
def DLT (n : Int) (S0 S : fxS) : Prop := EQR n S0 S ∧ WTM S0 ∧ INJ S0 ∧ AON S0 ∧ USE S0 ∧ (∀ b, S 56 0 b = S0 56 0 b) ∧ (aN S0 n 0 = 1 → NoM n 60 S0)
theorem DLT_stab {n : Int} {S0 : fxS} : fx_stab [(50, 9999), (56, 9999)] (DLT n S0) := fun A B h hs =>
  ⟨EQR_stab A B (fun g i j hq => h g i j (by rw [show fx_mod [(50, 9999), (56, 9999)] g j = ((Nat.beq 50 g && (Nat.beq 9999 9999 || Nat.beq 9999 j)) || fx_mod [(56, 9999)] g j) from rfl]; rw [show fx_mod [(50, 9999)] g j = ((Nat.beq 50 g && (Nat.beq 9999 9999 || Nat.beq 9999 j)) || false) from rfl, Bool.or_false] at hq; rw [hq]; rfl)) hs.1, hs.2.1, hs.2.2.1, hs.2.2.2.1, hs.2.2.2.2.1, fun b => (h 56 0 b rfl).trans (hs.2.2.2.2.2.1 b), hs.2.2.2.2.2.2⟩
theorem DLT_set {n w v : Int} {S0 S : fxS} (h : DLT n S0 S) (hn : 0 ≤ n) (hw : 0 ≤ w ∧ w < 42) : DLT n S0 (fx_up S 50 0 (42 * n + w).toNat v) := ⟨EQR_set h.1 hn hw, h.2⟩
theorem DLT_0 {n : Int} {S : fxS} (a : WTM S) (b : INJ S) (c : AON S) (d : USE S) (e : aN S n 0 = 1 → NoM n 60 S) : DLT n S S := ⟨EQR_rfl, a, b, c, d, fun _ => rfl, e⟩
theorem DLT_wt {n : Int} {S0 S : fxS} (h : DLT n S0 S) (hn : 1 ≤ n ∧ n < 60) (h1 : aN S n 1 = 0) : WTM S := WTM_del h.1 h.2.1 hn h1 h.2.2.2.2.2.2
theorem DLT_inj {n : Int} {S0 S : fxS} (h : DLT n S0 S) (h0 : aN S n 0 ≠ 2) : INJ S := INJ_gone h.1 h0 h.2.2.1
theorem DLT_aon {n : Int} {S0 S : fxS} (h : DLT n S0 S) (h0 : aN S n 0 ≠ 2) : AON S := AON_gone h.1 h0 h.2.2.2.1
theorem DLT_use {n : Int} {S0 S : fxS} (h : DLT n S0 S) (h0 : aN S n 0 ≠ 2) : USE S := USE_gone h.1 h0 h.2.2.2.2.1 h.2.2.2.2.2.1
def DLE (n : Int) (S : fxS) : Prop := ∃ S0, DLT n S0 S
theorem DLE_stab {n : Int} : fx_stab [(50, 9999), (56, 9999)] (DLE n) := fun A B h ⟨S0, hs⟩ => ⟨S0, DLT_stab A B h hs⟩
theorem DLE_set {n w v : Int} {S : fxS} (h : DLE n S) (hn : 0 ≤ n) (hw : 0 ≤ w ∧ w < 42) : DLE n (fx_up S 50 0 (42 * n + w).toNat v) := by
  obtain ⟨S0, hs⟩ := h
  exact ⟨S0, DLT_set hs hn hw⟩
theorem DLE_wt {n : Int} {S : fxS} (h : DLE n S) (hn : 1 ≤ n ∧ n < 60) (h1 : aN S n 1 = 0) : WTM S := by obtain ⟨S0, hs⟩ := h; exact DLT_wt hs hn h1
theorem DLE_inj {n : Int} {S : fxS} (h : DLE n S) (h0 : aN S n 0 = 0) : INJ S := by obtain ⟨S0, hs⟩ := h; exact DLT_inj hs (by omega)
theorem DLE_aon {n : Int} {S : fxS} (h : DLE n S) (h0 : aN S n 0 = 0) : AON S := by obtain ⟨S0, hs⟩ := h; exact DLT_aon hs (by omega)
theorem DLE_use {n : Int} {S : fxS} (h : DLE n S) (h0 : aN S n 0 = 0) : USE S := by obtain ⟨S0, hs⟩ := h; exact DLT_use hs (by omega)
def NMC (n : Int) (S : fxS) : Prop := aN S n 0 = 1 → NoM n 60 S
theorem NMC_stab {n : Int} : fx_stab [(50, 9999)] (NMC n) := fun A B h hs e => NoM_stab A B h (hs ((h 50 0 _ rfl : aN B n 0 = aN A n 0).symm.trans e))
theorem NMC_tail {n : Int} {S : fxS} {k : Nat} {v : Int} (h : NMC n S) (hn : n < 60) (hk : 2520 ≤ k) : NMC n (fx_up S 50 0 k v) := fun e m a b c => by
  rw [aN_tail hk (by omega) (by omega)] at c ⊢
  rw [aN_tail hk hn (by omega)] at e
  exact h e m a b c
theorem AV_set {n w v u x : Int} {S : fxS} (h : AV n w v S) (hn : 0 ≤ n) (hw : 0 ≤ w ∧ w < 42) (hu : (0 ≤ u ∧ u < 42) ∧ w ≠ u) : AV n w v (fx_up S 50 0 (42 * n + u).toNat x) := (aN_ne ⟨hn, hu.1⟩ ⟨hn, hw⟩ (Or.inr hu.2)).trans h
theorem AON_size2 {S : fxS} {f v : Int} (h : AON S) (hf : 0 ≤ f) (ha : AV f 10 (-1) S) : AON (fx_up S 50 0 (42 * f + (3 : Int)).toNat v) := AON_size h hf (Or.inr (by have e : aN S f 10 = -1 := ha; omega))
theorem PLN_dep {n q o : Int} {S S' : fxS} (h : PLN n q o S S') (hw : WTM S) (hn : 1 ≤ n ∧ n < 60) (h0 : aN S n 0 = 0) (hO : 0 ≤ o ∧ o < 60) (hk : aN S o 0 = 1) (hd : (depF (ovf (S 50 0)) 60 o : Int) ≤ 4) (hq : q ≠ 0) : (depF (ovf (S' 50 0)) 60 n : Int) = 1 + (depF (ovf (S 50 0)) 60 o : Int) := by
  have hw' := PLN_wt h hw hn h0 hO hk hd hq
  have e := WTM_child (n := n) hw' (by omega)
  rw [h.2.2.1] at e
  rw [e]
  have en : ((n.toNat : Nat) : Int) = n := by omega
  have hno : ∀ m : Nat, m < 60 → ovf (S 50 0) m ≠ n := by
    intro m hm e2
    have hp := WT.par (kd := fun m => fN (S 50 0) (m : Int) 0) (ov := ovf (S 50 0)) hw m hm (by rw [e2]; omega)
    have hp : fN (S 50 0) (((ovf (S 50 0) m).toNat : Nat) : Int) 0 = 1 := hp
    rw [e2, en] at hp
    have : aN S n 0 = 1 := hp
    omega
  have hon : o ≠ n := fun e2 => by subst e2; omega
  have hw0 : wiF (ovf (S 50 0)) n 60 o = false := wi_none hno (WT.rng (kd := fun m => fN (S 50 0) (m : Int) 0) (ov := ovf (S 50 0)) hw) hO.1 hO.2 hon
  have hov : ∀ m : Nat, m < 60 → (m : Int) ≠ n → ovf (S' 50 0) m = ovf (S 50 0) m := fun m hm hmn => ovf_of (fun _ => h.1 (m : Int) 1 (by omega) (by omega) hmn (by omega) (by omega))
  have key := dep_off (ov := ovf (S 50 0)) (ov' := fun m => if m < 60 then ovf (S' 50 0) m else ovf (S 50 0) m) (n := n) (fun m hm => by
    show (if m < 60 then ovf (S' 50 0) m else ovf (S 50 0) m) = _
    by_cases q : m < 60
    · rw [if_pos q]; exact hov m q hm
    · rw [if_neg q]) (k := 60) (a := o) hw0
  have same : ∀ (k : Nat) (a : Int), a < 60 → depF (fun m => if m < 60 then ovf (S' 50 0) m else ovf (S 50 0) m) k a = depF (ovf (S' 50 0)) k a := by
    intro k
    induction k with
    | zero => intro a _; rfl
    | succ k ih =>
      intro a ha
      by_cases q : a ≤ 0
      · rw [depF_0 q, depF_0 q]
      · rw [depF_s (by omega), depF_s (by omega)]
        have e1 : (if a.toNat < 60 then ovf (S' 50 0) a.toNat else ovf (S 50 0) a.toNat) = ovf (S' 50 0) a.toNat := if_pos (by omega)
        have r := WT.rng (kd := fun m => fN (S' 50 0) (m : Int) 0) (ov := ovf (S' 50 0)) hw' a.toNat (by omega)
        show 1 + depF _ k (if a.toNat < 60 then ovf (S' 50 0) a.toNat else ovf (S 50 0) a.toNat) = _
        rw [e1, ih _ r.2]
  rw [same 60 o hO.2] at key
  rw [key]
/-- tapes that were looked over stay as they were told -/
def KPA (S S' : fxS) : Prop := ∀ t : Int, 0 ≤ t → t ≤ 5 → S 67 0 t.toNat = 1 → S' 67 0 t.toNat = 1 ∧ ∀ i c : Int, 0 ≤ i → i < 300 → 0 ≤ c → c < 8 → sgN S' (300 * t + i) c = sgN S (300 * t + i) c
theorem KPA_rfl {S : fxS} : KPA S S := fun _ _ _ h => ⟨h, fun _ _ _ _ _ _ => rfl⟩
theorem KPA_tr {S S1 S2 : fxS} (h : KPA S S1) (h2 : KPA S1 S2) : KPA S S2 := fun t a b e => by
  obtain ⟨x, y⟩ := h t a b e
  obtain ⟨z, w⟩ := h2 t a b x
  exact ⟨z, fun i c i0 i1 c0 c1 => (w i c i0 i1 c0 c1).trans (y i c i0 i1 c0 c1)⟩
theorem KPA_stab {S : fxS} : fx_stab [(65, 9999), (67, 9999)] (KPA S) := fun A B h hs t a b e => by
  obtain ⟨x, y⟩ := hs t a b e
  exact ⟨(h 67 0 _ rfl).trans x, fun i c i0 i1 c0 c1 => (h 65 0 _ rfl : sgN B (300 * t + i) c = sgN A (300 * t + i) c).trans (y i c i0 i1 c0 c1)⟩
def KPX (u : Int) (S S' : fxS) : Prop := ∀ t : Int, 0 ≤ t → t ≤ 5 → t ≠ u → S' 67 0 t.toNat = S 67 0 t.toNat ∧ ∀ i c : Int, 0 ≤ i → i < 300 → 0 ≤ c → c < 8 → sgN S' (300 * t + i) c = sgN S (300 * t + i) c
theorem KPX_stab {u : Int} {S : fxS} : fx_stab [(65, 9999), (67, 9999)] (KPX u S) := fun A B h hs t a b e => by
  obtain ⟨x, y⟩ := hs t a b e
  exact ⟨(h 67 0 _ rfl).trans x, fun i c i0 i1 c0 c1 => (h 65 0 _ rfl : sgN B (300 * t + i) c = sgN A (300 * t + i) c).trans (y i c i0 i1 c0 c1)⟩
theorem KPX_0 {u : Int} {S : fxS} {v : Int} (hu : 0 ≤ u) : KPX u S (fx_up S 67 0 u.toNat v) := fun t a b e => ⟨up_ne (by omega), fun _ _ _ _ _ _ => rfl⟩
theorem KPX_up {u n k v : Int} {S S1 : fxS} (h : KPX u S S1) (hu : 0 ≤ u) (hn : 0 ≤ n ∧ n < 300) (hk : 0 ≤ k ∧ k < 8) : KPX u S (fx_up S1 65 0 ((8 : Int) * ((300 : Int) * u + n) + k).toNat v) := fun t a b e => by
  obtain ⟨x, y⟩ := h t a b e
  refine ⟨x, fun i c i0 i1 c0 c1 => ?_⟩
  rw [← y i c i0 i1 c0 c1]
  show fx_up S1 65 0 ((8 : Int) * ((300 : Int) * u + n) + k).toNat v 65 0 (8 * (300 * t + i) + c).toNat = S1 65 0 (8 * (300 * t + i) + c).toNat
  exact up_ne (by omega)
theorem KPA_of {u : Int} {S S' : fxS} (h : KPX u S S') (hu : S 67 0 u.toNat ≠ 1) : KPA S S' := fun t a b e => by
  have ne : t ≠ u := fun q => by subst q; exact hu e
  obtain ⟨x, y⟩ := h t a b ne
  exact ⟨x.trans e, y⟩
