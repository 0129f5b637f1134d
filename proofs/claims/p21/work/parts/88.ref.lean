/-! the reference: a row of numbers tells the nodes, 42 for each; 2520 how many deletes wait -/
def fN (f : Nat → Int) (n w : Int) : Int := f (42 * n + w).toNat
def aN (S : fxS) (n w : Int) : Int := S 50 0 (42 * n + w).toNat
/-- what a column may hold -/
def colb (w v : Int) : Prop := (w = 0 → 0 ≤ v ∧ v ≤ 2) ∧ (w = 1 → -1 ≤ v ∧ v < 60) ∧ (w = 3 → 0 ≤ v ∧ v ≤ 1024) ∧ (w = 5 → 0 ≤ v ∧ v ≤ 2) ∧ (w = 6 ∨ w = 8 → 0 ≤ v ∧ v ≤ 5) ∧ (w = 7 ∨ w = 9 → 0 ≤ v ∧ v ≤ 6000) ∧ (10 ≤ w → -1 ≤ v ∧ v ≤ 207)
def COLf (f : Nat → Int) : Prop := (∀ n w : Int, 0 ≤ n → n < 60 → 0 ≤ w → w < 42 → colb w (fN f n w)) ∧ (0 ≤ f 2520 ∧ f 2520 ≤ 40)
def ovf (f : Nat → Int) (m : Nat) : Int := if m = 0 then 0 else fN f (m : Int) 1
def WTf (f : Nat → Int) : Prop := WT (fun m => fN f (m : Int) 0) (ovf f)
def LIS (f : Nat → Int) (n p b : Int) : Prop := (0 ≤ n ∧ n < 60) ∧ (0 ≤ p ∧ p < 32) ∧ fN f n 0 = 2 ∧ fN f n (10 + p) = b ∧ 0 ≤ b
def INJf (f : Nat → Int) : Prop := ∀ n p n' p' b : Int, LIS f n p b → LIS f n' p' b → n = n' ∧ p = p'
def AONf (f : Nat → Int) : Prop := ∀ n : Int, 0 ≤ n → n < 60 → fN f n 0 = 2 → 0 ≤ fN f n 10 → ∀ p : Int, 0 ≤ p → p < 32 → 32 * p < fN f n 3 → 0 ≤ fN f n (10 + p)
def USEf (f u : Nat → Int) : Prop := ∀ n p b : Int, LIS f n p b → u b.toNat = 1
def GOODf (f : Nat → Int) : Prop := COLf f ∧ WTf f ∧ INJf f ∧ AONf f
def COL (S : fxS) : Prop := COLf (S 50 0)
def WTM (S : fxS) : Prop := WTf (S 50 0)
def INJ (S : fxS) : Prop := INJf (S 50 0)
def AON (S : fxS) : Prop := AONf (S 50 0)
def USE (S : fxS) : Prop := USEf (S 50 0) (S 56 0)
def rowc (S : fxS) (c : Nat) : Nat → Int := fun k => S 53 0 (2561 * c + k)
def SNL (S : fxS) : Prop := ∀ c : Nat, (c : Int) < S 49 0 7 → GOODf (rowc S c)
def SNP (S : fxS) : Prop := ∀ c : Nat, (c : Int) ≤ S 49 0 7 → GOODf (rowc S c)
theorem row_eq {S S' : fxS} {g : Nat} (h : ∀ g' i j, fx_mod [(g, 9999)] g' j = true → S' g' i j = S g' i j) : S' g 0 = S g 0 := funext (fun k => h g 0 k (by show ((Nat.beq g g && true) || false) = true; rw [Nat.beq_refl]; rfl))
theorem COL_stab : fx_stab [(50, 9999)] COL := fun S S' h hs => by show COLf (S' 50 0); rw [row_eq h]; exact hs
theorem WTM_stab : fx_stab [(50, 9999)] WTM := fun S S' h hs => by show WTf (S' 50 0); rw [row_eq h]; exact hs
theorem INJ_stab : fx_stab [(50, 9999)] INJ := fun S S' h hs => by show INJf (S' 50 0); rw [row_eq h]; exact hs
theorem AON_stab : fx_stab [(50, 9999)] AON := fun S S' h hs => by show AONf (S' 50 0); rw [row_eq h]; exact hs
theorem USE_stab : fx_stab [(50, 9999), (56, 9999)] USE := fun S S' h hs => by
  have e1 : S' 50 0 = S 50 0 := funext (fun k => h 50 0 k rfl)
  have e2 : S' 56 0 = S 56 0 := funext (fun k => h 56 0 k rfl)
  show USEf (S' 50 0) (S' 56 0); rw [e1, e2]; exact hs
theorem SNL_stab : fx_stab [(53, 9999), (49, 7)] SNL := fun S S' h hs c hc => by
  have e : rowc S' c = rowc S c := funext (fun k => h 53 0 _ rfl)
  rw [h 49 0 7 rfl] at hc
  rw [e]; exact hs c hc
theorem SNP_stab : fx_stab [(53, 9999), (49, 7)] SNP := fun S S' h hs c hc => by
  have e : rowc S' c = rowc S c := funext (fun k => h 53 0 _ rfl)
  rw [h 49 0 7 rfl] at hc
  rw [e]; exact hs c hc
/-! rows that agree below 2561 -/
theorem fN_ext {f g : Nat → Int} (h : ∀ k, k < 2520 → g k = f k) {n w : Int} (hn : n < 60) (hw : w < 42) : fN g n w = fN f n w := h _ (by omega)
theorem COLf_ext {f g : Nat → Int} (h : ∀ k, k < 2561 → g k = f k) (hf : COLf f) : COLf g := by
  refine ⟨fun n w a b c d => ?_, ?_⟩
  · rw [fN_ext (fun k hk => h k (by omega)) b d]; exact hf.1 n w a b c d
  · rw [h 2520 (by omega)]; exact hf.2
theorem WTf_ext {f g : Nat → Int} (h : ∀ k, k < 2520 → g k = f k) (hf : WTf f) : WTf g := by
  refine WT_ext (kd := fun m => fN f (m : Int) 0) (ov := ovf f) (kd' := fun m => fN g (m : Int) 0) (ov' := ovf g) hf (fun m hm => fN_ext h (by omega) (by omega)) (fun m hm => ?_)
  show (if m = 0 then 0 else fN g (m : Int) 1) = (if m = 0 then 0 else fN f (m : Int) 1)
  rw [fN_ext h (by omega) (by omega)]
theorem LIS_ext {f g : Nat → Int} (h : ∀ k, k < 2520 → g k = f k) {n p b : Int} (hl : LIS g n p b) : LIS f n p b := by
  obtain ⟨h1, h2, h3, h4, h5⟩ := hl
  rw [fN_ext h h1.2 (by omega)] at h3 h4
  exact ⟨h1, h2, h3, h4, h5⟩
theorem INJf_ext {f g : Nat → Int} (h : ∀ k, k < 2520 → g k = f k) (hf : INJf f) : INJf g := fun n p n' p' b a c => hf n p n' p' b (LIS_ext h a) (LIS_ext h c)
theorem AONf_ext {f g : Nat → Int} (h : ∀ k, k < 2520 → g k = f k) (hf : AONf f) : AONf g := by
  intro n a b c d p p1 p2 p3
  rw [fN_ext h b (by omega)] at c d p3
  rw [fN_ext h b (by omega)]
  exact hf n a b c d p p1 p2 p3
theorem GOODf_ext {f g : Nat → Int} (h : ∀ k, k < 2561 → g k = f k) (hf : GOODf f) : GOODf g := ⟨COLf_ext h hf.1, WTf_ext (fun k hk => h k (by omega)) hf.2.1, INJf_ext (fun k hk => h k (by omega)) hf.2.2.1, AONf_ext (fun k hk => h k (by omega)) hf.2.2.2⟩
/-! a cell is read -/
theorem COL_at {S : fxS} {n w z : Int} (h : COL S) (hn : 0 ≤ n ∧ n < 60) (hw : 0 ≤ w ∧ w < 42) (e : z = S 50 0 ((42 : Int) * n + w).toNat) : z = aN S n w ∧ (w = 0 → 0 ≤ z ∧ z ≤ 2) ∧ (w = 1 → -1 ≤ z ∧ z < 60) ∧ (w = 3 → 0 ≤ z ∧ z ≤ 1024) ∧ (w = 5 → 0 ≤ z ∧ z ≤ 2) ∧ (w = 6 ∨ w = 8 → 0 ≤ z ∧ z ≤ 5) ∧ (w = 7 ∨ w = 9 → 0 ≤ z ∧ z ≤ 6000) ∧ (10 ≤ w → -1 ≤ z ∧ z ≤ 207) := by
  refine ⟨e, ?_⟩
  have := h.1 n w hn.1 hn.2 hw.1 hw.2
  rw [e]; exact this
/-! a cell is written -/
theorem fN_up {S : fxS} {n w v n' w' : Int} (hn : 0 ≤ n) (hw : 0 ≤ w ∧ w < 42) (hn' : 0 ≤ n') (hw' : 0 ≤ w' ∧ w' < 42) : fN (fx_up S 50 0 (42 * n + w).toNat v 50 0) n' w' = if n' = n ∧ w' = w then v else fN (S 50 0) n' w' := by
  show fx_up S 50 0 (42 * n + w).toNat v 50 0 (42 * n' + w').toNat = _
  by_cases e : n' = n ∧ w' = w
  · rw [if_pos e, e.1, e.2]; exact fx_up_at _ _ _ _ _
  · rw [if_neg e]; exact up_ne (fun q => e (by omega))
theorem aN_ne {S : fxS} {n w v n' w' : Int} (hn : 0 ≤ n ∧ 0 ≤ w ∧ w < 42) (hn' : 0 ≤ n' ∧ 0 ≤ w' ∧ w' < 42) (e : n' ≠ n ∨ w' ≠ w) : aN (fx_up S 50 0 (42 * n + w).toNat v) n' w' = aN S n' w' := by
  have := fN_up (S := S) (v := v) hn.1 hn.2 hn'.1 hn'.2
  rw [if_neg (by omega)] at this
  exact this
theorem aN_eq {S : fxS} {n w v : Int} : aN (fx_up S 50 0 (42 * n + w).toNat v) n w = v := fx_up_at _ _ _ _ _
theorem aN_fr {ms : List (Nat × Nat)} {S S' : fxS} {n w : Int} (hf : fxfr ms S S') (hm : fx_dis ms [(50, 9999)] = true) : aN S' n w = aN S n w := hf 50 0 _ (fx_dis_ok hm rfl)
theorem COL_set {S : fxS} {n w v : Int} (h : COL S) (hn : 0 ≤ n ∧ n < 60) (hw : 0 ≤ w ∧ w < 42) (hv : (w = 0 → 0 ≤ v ∧ v ≤ 2) ∧ (w = 1 → -1 ≤ v ∧ v < 60) ∧ (w = 3 → 0 ≤ v ∧ v ≤ 1024) ∧ (w = 5 → 0 ≤ v ∧ v ≤ 2) ∧ (w = 6 ∨ w = 8 → 0 ≤ v ∧ v ≤ 5) ∧ (w = 7 ∨ w = 9 → 0 ≤ v ∧ v ≤ 6000) ∧ (10 ≤ w → -1 ≤ v ∧ v ≤ 207)) : COL (fx_up S 50 0 (42 * n + w).toNat v) := by
  refine ⟨fun n' w' a b c d => ?_, ?_⟩
  · rw [fN_up hn.1 hw a ⟨c, d⟩]
    by_cases e : n' = n ∧ w' = w
    · rw [if_pos e, e.2]; exact hv
    · rw [if_neg e]; exact h.1 n' w' a b c d
  · rw [up_ne (by omega)]; exact h.2
theorem WTM_set {S : fxS} {n w v : Int} (h : WTM S) (hn : 0 ≤ n) (hw : 2 ≤ w ∧ w < 42) : WTM (fx_up S 50 0 (42 * n + w).toNat v) := by
  refine WT_ext (kd := fun m => fN (S 50 0) (m : Int) 0) (ov := ovf (S 50 0)) (kd' := fun m => fN (fx_up S 50 0 (42 * n + w).toNat v 50 0) (m : Int) 0) (ov' := ovf (fx_up S 50 0 (42 * n + w).toNat v 50 0)) h (fun m _ => ?_) (fun m _ => ?_)
  · show fN (fx_up S 50 0 (42 * n + w).toNat v 50 0) (m : Int) 0 = _
    rw [fN_up hn (by omega) (by omega) (by omega), if_neg (by omega)]
  · show (if m = 0 then 0 else fN (fx_up S 50 0 (42 * n + w).toNat v 50 0) (m : Int) 1) = (if m = 0 then 0 else fN (S 50 0) (m : Int) 1)
    rw [fN_up hn (by omega) (by omega) (by omega), if_neg (c := (m : Int) = n ∧ (1 : Int) = w) (by omega)]
/-- neither a kind nor a block, or no block any more -/
theorem LIS_set {S : fxS} {n w v n' p b : Int} (hn : 0 ≤ n) (hw : (1 ≤ w ∧ w < 10) ∨ (10 ≤ w ∧ w < 42 ∧ v < 0)) (h : LIS (fx_up S 50 0 (42 * n + w).toNat v 50 0) n' p b) : LIS (S 50 0) n' p b := by
  obtain ⟨h1, h2, h3, h4, h5⟩ := h
  rw [fN_up hn (by omega) h1.1 (by omega), if_neg (by omega)] at h3
  rw [fN_up hn (by omega) h1.1 (by omega)] at h4
  by_cases e : n' = n ∧ 10 + p = w
  · rw [if_pos e] at h4; omega
  · rw [if_neg e] at h4
    exact ⟨h1, h2, h3, h4, h5⟩
theorem INJ_set {S : fxS} {n w v : Int} (h : INJ S) (hn : 0 ≤ n) (hw : (1 ≤ w ∧ w < 10) ∨ (10 ≤ w ∧ w < 42 ∧ v < 0)) : INJ (fx_up S 50 0 (42 * n + w).toNat v) := fun a p a' p' b h1 h2 => h a p a' p' b (LIS_set hn hw h1) (LIS_set hn hw h2)
theorem USE_set {S : fxS} {n w v : Int} (h : USE S) (hn : 0 ≤ n) (hw : (1 ≤ w ∧ w < 10) ∨ (10 ≤ w ∧ w < 42 ∧ v < 0)) : USE (fx_up S 50 0 (42 * n + w).toNat v) := fun a p b h1 => h a p b (LIS_set hn hw h1)
theorem AON_set {S : fxS} {n w v : Int} (h : AON S) (hn : 0 ≤ n) (hw : (1 ≤ w ∧ w < 10) ∧ w ≠ 3) : AON (fx_up S 50 0 (42 * n + w).toNat v) := by
  intro m a b c d p p1 p2 p3
  rw [fN_up hn (by omega) a (by omega), if_neg (by omega)] at c d p3
  rw [fN_up hn (by omega) a (by omega), if_neg (by omega)]
  exact h m a b c d p p1 p2 p3
/-! the tree of the reference -/
theorem WTM_rng {S : fxS} {n : Int} (h : WTM S) (hn : 0 < n ∧ n < 60) : 0 ≤ aN S n 1 ∧ aN S n 1 < 60 ∧ ovf (S 50 0) n.toNat = aN S n 1 := by
  have e : ovf (S 50 0) n.toNat = aN S n 1 := by
    show (if n.toNat = 0 then 0 else fN (S 50 0) ((n.toNat : Nat) : Int) 1) = _
    rw [if_neg (by omega), show ((n.toNat : Nat) : Int) = n by omega]; rfl
  have := WT.rng (kd := fun m => fN (S 50 0) (m : Int) 0) (ov := ovf (S 50 0)) h n.toNat (by omega)
  rw [e] at this
  exact ⟨this.1, this.2, e⟩
theorem WTM_dep {S : fxS} {n : Int} (h : WTM S) (hn : 0 ≤ n ∧ n < 60) : depF (ovf (S 50 0)) 60 n ≤ 5 := by
  have := WT.dep (kd := fun m => fN (S 50 0) (m : Int) 0) (ov := ovf (S 50 0)) h n.toNat (by omega)
  rw [show ((n.toNat : Nat) : Int) = n by omega] at this
  exact this
theorem WTM_child {S : fxS} {n : Int} (h : WTM S) (hn : 0 < n ∧ n < 60) : (depF (ovf (S 50 0)) 60 n : Int) = 1 + (depF (ovf (S 50 0)) 60 (aN S n 1) : Int) := by
  obtain ⟨r1, r2, e⟩ := WTM_rng h hn
  have e1 : depF (ovf (S 50 0)) (59 + 1) n = 1 + depF (ovf (S 50 0)) 59 (ovf (S 50 0) n.toNat) := depF_s (by omega)
  have h6 := WTM_dep h (n := aN S n 1) ⟨r1, r2⟩
  have e2 := depF_6 (ov := ovf (S 50 0)) (a := aN S n 1) h6 (j := 59) (by omega)
  rw [e, e2] at e1
  have : depF (ovf (S 50 0)) 60 n = depF (ovf (S 50 0)) (59 + 1) n := rfl
  omega
theorem wiF_st {ov : Nat → Int} {t : Int} : ∀ {k : Nat} {a : Int}, depF ov k a < k → wiF ov t (k + 1) a = wiF ov t k a
  | 0, _, h => by omega
  | k + 1, a, h => by
    by_cases q : a ≤ 0
    · show (if a ≤ 0 then false else _) = (if a ≤ 0 then false else _)
      rw [if_pos q, if_pos q]
    · rw [depF_s (by omega)] at h
      show (if a ≤ 0 then false else if a = t then true else wiF ov t (k + 1) (ov a.toNat)) = (if a ≤ 0 then false else if a = t then true else wiF ov t k (ov a.toNat))
      rw [wiF_st (k := k) (a := ov a.toNat) (by omega)]
theorem WTM_wi {S : fxS} {n t : Int} (h : WTM S) (hn : 0 < n ∧ n < 60) (ht : n ≠ t) : wiF (ovf (S 50 0)) t 60 n = wiF (ovf (S 50 0)) t 60 (aN S n 1) := by
  obtain ⟨r1, r2, e⟩ := WTM_rng h hn
  have e1 : wiF (ovf (S 50 0)) t (59 + 1) n = (if n ≤ 0 then false else if n = t then true else wiF (ovf (S 50 0)) t 59 (ovf (S 50 0) n.toNat)) := rfl
  rw [if_neg (by omega), if_neg ht, e] at e1
  have h6 := WTM_dep h (n := aN S n 1) ⟨r1, r2⟩
  have e2 := depF_6 (ov := ovf (S 50 0)) (a := aN S n 1) h6 (j := 59) (by omega)
  have e3 := wiF_st (ov := ovf (S 50 0)) (t := t) (k := 59) (a := aN S n 1) (by omega)
  exact e1.trans e3.symm
theorem wiF_0 {ov : Nat → Int} {t a : Int} {k : Nat} (h : a ≤ 0) : wiF ov t k a = false := by
  cases k with
  | zero => rfl
  | succ k => exact if_pos h
theorem wiF_t {ov : Nat → Int} {t : Int} (h : 0 < t) : wiF ov t 60 t = true := by
  show (if t ≤ 0 then false else if t = t then true else _) = true
  rw [if_neg (by omega), if_pos rfl]
theorem WTM_root {S : fxS} (h : WTM S) : aN S 0 0 = 1 := (WT.root (kd := fun m => fN (S 50 0) (m : Int) 0) (ov := ovf (S 50 0)) h).2
/-! of the nodes only n's row changed -/
def EQR (n : Int) (S S' : fxS) : Prop := ∀ m w : Int, 0 ≤ m → m < 60 → m ≠ n → 0 ≤ w → w < 42 → aN S' m w = aN S m w
theorem EQR_rfl {n : Int} {S : fxS} : EQR n S S := fun _ _ _ _ _ _ _ => rfl
theorem EQR_stab {n : Int} {S : fxS} : fx_stab [(50, 9999)] (EQR n S) := fun _ _ h hs m w a b c d e => (h 50 0 _ rfl).trans (hs m w a b c d e)
theorem EQR_set {n w v : Int} {S S1 : fxS} (h : EQR n S S1) (hn : 0 ≤ n) (hw : 0 ≤ w ∧ w < 42) : EQR n S (fx_up S1 50 0 (42 * n + w).toNat v) := fun m u a b c d e => (aN_ne ⟨hn, hw⟩ ⟨a, d, e⟩ (Or.inl c)).trans (h m u a b c d e)
theorem EQR_tr {n : Int} {S S1 S2 : fxS} (h : EQR n S S1) (h2 : EQR n S1 S2) : EQR n S S2 := fun m u a b c d e => (h2 m u a b c d e).trans (h m u a b c d e)
/-- a node is planted: its row -/
def PLN (n q o : Int) (S S' : fxS) : Prop := EQR n S S' ∧ aN S' n 0 = q ∧ aN S' n 1 = o ∧ (∀ w : Int, 2 ≤ w → w < 10 → aN S' n w = 0) ∧ (∀ w : Int, 10 ≤ w → w < 42 → aN S' n w = -1)
/-- the row's columns from 0 below j are 0 -/
def ZRW (n j : Int) (S : fxS) : Prop := ∀ w : Int, 0 ≤ w → w < j → aN S n w = 0
theorem ZRW_0 {n : Int} {S : fxS} : ZRW n 0 S := fun w a b => by omega
theorem ZRW_step {n j : Int} {S : fxS} (h : ZRW n j S) (hn : 0 ≤ n) (hj : 0 ≤ j ∧ j < 42) : ZRW n (j + (1 : Int)) (fx_up S 50 0 (42 * n + j).toNat (0 : Int)) := by
  intro w a b
  by_cases e : w = j
  · subst e; exact aN_eq
  · rw [aN_ne ⟨hn, hj⟩ ⟨hn, a, by omega⟩ (Or.inr e)]; exact h w a (by omega)
/-- the row's blocks below j are -1, its other columns as told -/
def NBK (n j : Int) (S S' : fxS) : Prop := (∀ p : Int, 0 ≤ p → p < j → aN S' n (10 + p) = -1) ∧ (∀ w : Int, 0 ≤ w → w < 10 → aN S' n w = aN S n w) ∧ EQR n S S'
theorem NBK_0 {n : Int} {S : fxS} : NBK n 0 S S := ⟨fun p a b => by omega, fun _ _ _ => rfl, EQR_rfl⟩
theorem NBK_step {n j : Int} {S S1 : fxS} (h : NBK n j S S1) (hn : 0 ≤ n) (hj : 0 ≤ j ∧ j < 32) : NBK n (j + (1 : Int)) S (fx_up S1 50 0 (42 * n + ((10 : Int) + j)).toNat (-1 : Int)) := by
  refine ⟨fun p a b => ?_, fun w a b => ?_, EQR_set h.2.2 hn (by omega)⟩
  · by_cases e : p = j
    · subst e; exact aN_eq
    · rw [aN_ne ⟨hn, by omega⟩ ⟨hn, by omega⟩ (Or.inr (by omega))]; exact h.1 p a (by omega)
  · rw [aN_ne ⟨hn, by omega⟩ ⟨hn, by omega⟩ (Or.inr (by omega))]; exact h.2.1 w a b
theorem PLN_of {n q o : Int} {S S1 S2 : fxS} (z : ZRW n 42 S1) (e : EQR n S S1) (hn : 0 ≤ n) (nb : NBK n 32 (fx_up (fx_up S1 50 0 (42 * n + (0 : Int)).toNat q) 50 0 (42 * n + (1 : Int)).toNat o) S2) : PLN n q o S S2 := by
  refine ⟨EQR_tr (EQR_set (EQR_set e hn (by omega)) hn (by omega)) nb.2.2, ?_, ?_, fun w a b => ?_, fun w a b => ?_⟩
  · rw [nb.2.1 0 (by omega) (by omega), aN_ne ⟨hn, by omega⟩ ⟨hn, by omega⟩ (Or.inr (by omega))]; exact aN_eq
  · rw [nb.2.1 1 (by omega) (by omega)]; exact aN_eq
  · rw [nb.2.1 w (by omega) b, aN_ne ⟨hn, by omega⟩ ⟨hn, by omega⟩ (Or.inr (by omega)), aN_ne ⟨hn, by omega⟩ ⟨hn, by omega⟩ (Or.inr (by omega))]; exact z w (by omega) (by omega)
  · have := nb.1 (w - 10) (by omega) (by omega)
    rw [show 10 + (w - 10) = w by omega] at this
    exact this
theorem LIS_pln {n q o m p b : Int} {S S' : fxS} (h : PLN n q o S S') (hl : LIS (S' 50 0) m p b) : LIS (S 50 0) m p b := by
  obtain ⟨h1, h2, h3, h4, h5⟩ := hl
  by_cases e : m = n
  · subst e
    have := h.2.2.2.2 (10 + p) (by omega) (by omega)
    have h4 : aN S' m (10 + p) = b := h4
    omega
  · have a1 := h.1 m 0 h1.1 h1.2 e (by omega) (by omega)
    have a2 := h.1 m (10 + p) h1.1 h1.2 e (by omega) (by omega)
    exact ⟨h1, h2, a1.symm.trans h3, a2.symm.trans h4, h5⟩
theorem PLN_inj {n q o : Int} {S S' : fxS} (h : PLN n q o S S') (hi : INJ S) : INJ S' := fun a p a' p' b x y => hi a p a' p' b (LIS_pln h x) (LIS_pln h y)
theorem PLN_use {n q o : Int} {S S' : fxS} (h : PLN n q o S S') (hf : ∀ b, S' 56 0 b = S 56 0 b) (hu : USE S) : USE S' := fun a p b x => (hf _).trans (hu a p b (LIS_pln h x))
theorem PLN_aon {n q o : Int} {S S' : fxS} (h : PLN n q o S S') (ha : AON S) : AON S' := by
  intro m a b c d p p1 p2 p3
  by_cases e : m = n
  · subst e
    have := h.2.2.2.2 10 (by omega) (by omega)
    have d : 0 ≤ aN S' m 10 := d
    omega
  · have e1 : fN (S' 50 0) m 0 = fN (S 50 0) m 0 := h.1 m 0 a b e (by omega) (by omega)
    have e2 : fN (S' 50 0) m 10 = fN (S 50 0) m 10 := h.1 m 10 a b e (by omega) (by omega)
    have e3 : fN (S' 50 0) m 3 = fN (S 50 0) m 3 := h.1 m 3 a b e (by omega) (by omega)
    have e4 : fN (S' 50 0) m (10 + p) = fN (S 50 0) m (10 + p) := h.1 m (10 + p) a b e (by omega) (by omega)
    rw [e1] at c; rw [e2] at d; rw [e3] at p3; rw [e4]
    exact ha m a b c d p p1 p2 p3
theorem ovf_of {S S' : fxS} {m : Nat} (h : m ≠ 0 → aN S' (m : Int) 1 = aN S (m : Int) 1) : ovf (S' 50 0) m = ovf (S 50 0) m := by
  show (if m = 0 then 0 else fN (S' 50 0) (m : Int) 1) = (if m = 0 then 0 else fN (S 50 0) (m : Int) 1)
  by_cases e : m = 0
  · rw [if_pos e, if_pos e]
  · rw [if_neg e, if_neg e]; exact h e
/-- one node's kind and parent are new -/
theorem WTM_new {n q o : Int} {S S' : fxS} (hr : ∀ m w : Int, 0 ≤ m → m < 60 → m ≠ n → (w = 0 ∨ w = 1) → aN S' m w = aN S m w) (e0 : aN S' n 0 = q) (e1 : aN S' n 1 = o) (hw : WTM S) (hn : 1 ≤ n ∧ n < 60) (h0 : aN S n 0 = 0) (hO : 0 ≤ o ∧ o < 60) (hk : aN S o 0 = 1) (hd : (depF (ovf (S 50 0)) 60 o : Int) ≤ 4) (hq : q ≠ 0) : WTM S' := by
  have en : ((n.toNat : Nat) : Int) = n := by omega
  have eo : ((o.toNat : Nat) : Int) = o := by omega
  have key : WT (fun m => if m = n.toNat then q else fN (S 50 0) (m : Int) 0) (fun m => if m = n.toNat then o else ovf (S 50 0) m) := by
    refine WT_new (kd := fun m => fN (S 50 0) (m : Int) 0) (ov := ovf (S 50 0)) (n := n.toNat) (o := o) (q := q) hw (by omega) ?_ hO ?_ (by omega) hq (fun m hm => if_neg hm) (fun m hm => if_neg hm) (if_pos rfl) (if_pos rfl)
    · show fN (S 50 0) ((n.toNat : Nat) : Int) 0 = 0
      rw [en]; exact h0
    · show fN (S 50 0) ((o.toNat : Nat) : Int) 0 = 1
      rw [eo]; exact hk
  refine WT_ext (kd' := fun m => fN (S' 50 0) (m : Int) 0) (ov' := ovf (S' 50 0)) key (fun m hm => ?_) (fun m hm => ?_)
  · show fN (S' 50 0) (m : Int) 0 = if m = n.toNat then q else fN (S 50 0) (m : Int) 0
    by_cases e : m = n.toNat
    · rw [if_pos e, e, en]; exact e0
    · rw [if_neg e]; exact hr (m : Int) 0 (by omega) (by omega) (by omega) (Or.inl rfl)
  · show ovf (S' 50 0) m = if m = n.toNat then o else ovf (S 50 0) m
    by_cases e : m = n.toNat
    · rw [if_pos e, e]
      show (if n.toNat = 0 then 0 else fN (S' 50 0) ((n.toNat : Nat) : Int) 1) = o
      rw [if_neg (by omega), en]; exact e1
    · rw [if_neg e]; exact ovf_of (fun _ => hr (m : Int) 1 (by omega) (by omega) (by omega) (Or.inr rfl))
theorem PLN_wt {n q o : Int} {S S' : fxS} (h : PLN n q o S S') (hw : WTM S) (hn : 1 ≤ n ∧ n < 60) (h0 : aN S n 0 = 0) (hO : 0 ≤ o ∧ o < 60) (hk : aN S o 0 = 1) (hd : (depF (ovf (S 50 0)) 60 o : Int) ≤ 4) (hq : q ≠ 0) : WTM S' :=
  WTM_new (fun m w a b c d => h.1 m w a b c (by omega) (by omega)) h.2.1 h.2.2.1 hw hn h0 hO hk hd hq
theorem PLN_stab {n q o : Int} {S : fxS} : fx_stab [(50, 9999)] (PLN n q o S) := fun A B h hs => by
  have e : ∀ n w : Int, aN B n w = aN A n w := fun n w => h 50 0 _ rfl
  exact ⟨EQR_stab A B h hs.1, (e _ _).trans hs.2.1, (e _ _).trans hs.2.2.1, fun w a b => (e _ _).trans (hs.2.2.2.1 w a b), fun w a b => (e _ _).trans (hs.2.2.2.2 w a b)⟩
theorem ZRW_stab {n j : Int} : fx_stab [(50, 9999)] (ZRW n j) := fun A B h hs w a b => by
  have e : aN B n w = aN A n w := h 50 0 _ rfl
  rw [e]; exact hs w a b
theorem NBK_stab {n j : Int} {S : fxS} : fx_stab [(50, 9999)] (NBK n j S) := fun A B h hs => by
  have e : ∀ n w : Int, aN B n w = aN A n w := fun n w => h 50 0 _ rfl
  exact ⟨fun p a b => (e _ _).trans (hs.1 p a b), fun w a b => (e _ _).trans (hs.2.1 w a b), EQR_stab A B h hs.2.2⟩
theorem ZRW_le {n j k : Int} {S : fxS} (h : ZRW n j S) (hk : k ≤ j) : ZRW n k S := fun w a b => h w a (by omega)
theorem NBK_le {n j k : Int} {S S' : fxS} (h : NBK n j S S') (hk : k ≤ j) : NBK n k S S' := ⟨fun p a b => h.1 p a (by omega), h.2⟩
def AV (n w v : Int) (S : fxS) : Prop := aN S n w = v
theorem AV_stab {n w v : Int} : fx_stab [(50, 9999)] (AV n w v) := fun A B h hs => (h 50 0 _ rfl : aN B n w = aN A n w).trans hs
/-! blocks that are free -/
def fcn (u : Nat → Int) (lo : Int) : Nat → Int
  | 0 => 0
  | m + 1 => fcn u lo m + (if u (lo + (m : Int)).toNat = 0 then 1 else 0)
theorem fcn_b {u : Nat → Int} {lo : Int} : ∀ m, 0 ≤ fcn u lo m ∧ fcn u lo m ≤ (m : Int)
  | 0 => ⟨Int.le_refl _, Int.le_refl _⟩
  | m + 1 => by
    have := fcn_b (u := u) (lo := lo) m
    show 0 ≤ fcn u lo m + (if u (lo + (m : Int)).toNat = 0 then 1 else 0) ∧ fcn u lo m + (if u (lo + (m : Int)).toNat = 0 then 1 else 0) ≤ _
    by_cases e : u (lo + (m : Int)).toNat = 0
    · rw [if_pos e]; omega
    · rw [if_neg e]; omega
theorem fcn_s {u : Nat → Int} {lo j : Int} (hj : lo ≤ j) : fcn u lo (j + (1 : Int) - lo).toNat = fcn u lo (j - lo).toNat + (if u j.toNat = 0 then 1 else 0) := by
  obtain ⟨m, hm⟩ : ∃ m : Nat, j - lo = (m : Int) := ⟨(j - lo).toNat, by omega⟩
  rw [show (j + (1 : Int) - lo).toNat = m + 1 by omega, show (j - lo).toNat = m by omega]
  show fcn u lo m + (if u (lo + (m : Int)).toNat = 0 then 1 else 0) = _
  rw [show lo + (m : Int) = j by omega]
theorem fcn_z {u : Nat → Int} {lo : Int} : ∀ {m : Nat}, (∀ j : Int, lo ≤ j → j < lo + (m : Int) → u j.toNat ≠ 0) → fcn u lo m = 0
  | 0, _ => rfl
  | m + 1, h => by
    show fcn u lo m + (if u (lo + (m : Int)).toNat = 0 then 1 else 0) = 0
    rw [fcn_z (fun j a b => h j a (by omega)), if_neg (h _ (by omega) (by omega))]
    rfl
theorem fcn_le {u u' : Nat → Int} {lo : Int} (h : ∀ b : Nat, u b = 0 → u' b = 0) : ∀ m, fcn u lo m ≤ fcn u' lo m
  | 0 => Int.le_refl _
  | m + 1 => by
    have := fcn_le h (lo := lo) m
    show fcn u lo m + (if u (lo + (m : Int)).toNat = 0 then 1 else 0) ≤ fcn u' lo m + (if u' (lo + (m : Int)).toNat = 0 then 1 else 0)
    by_cases e : u (lo + (m : Int)).toNat = 0
    · rw [if_pos e, if_pos (h _ e)]; omega
    · rw [if_neg e]
      by_cases e2 : u' (lo + (m : Int)).toNat = 0
      · rw [if_pos e2]; omega
      · rw [if_neg e2]; omega
theorem fcn_eq {u u' : Nat → Int} {lo : Int} (h : ∀ b : Nat, u b = 0 ↔ u' b = 0) (m : Nat) : fcn u lo m = fcn u' lo m := by
  have a := fcn_le (u := u) (u' := u') (lo := lo) (fun b e => (h b).mp e) m
  have b := fcn_le (u := u') (u' := u) (lo := lo) (fun b e => (h b).mpr e) m
  omega
theorem fcn_1 {u u' : Nat → Int} {lo x : Int} (h0 : 0 ≤ lo) (hx : lo ≤ x) (hu : u x.toNat = 0) (hu' : u' x.toNat ≠ 0) (h : ∀ b : Nat, (b : Int) ≠ x → u' b = u b) : ∀ m : Nat, fcn u' lo m = fcn u lo m - (if x < lo + (m : Int) then 1 else 0)
  | 0 => by
    show (0 : Int) = 0 - _
    rw [if_neg (by omega)]; rfl
  | m + 1 => by
    have := fcn_1 h0 hx hu hu' h m
    show fcn u' lo m + (if u' (lo + (m : Int)).toNat = 0 then 1 else 0) = fcn u lo m + (if u (lo + (m : Int)).toNat = 0 then 1 else 0) - _
    rw [this]
    by_cases e : lo + (m : Int) = x
    · rw [e, if_neg hu', if_pos hu, if_neg (by omega), if_pos (by omega)]; omega
    · rw [h _ (by omega)]
      have k : (if x < lo + ((m + 1 : Nat) : Int) then (1 : Int) else 0) = (if x < lo + (m : Int) then (1 : Int) else 0) := by
        by_cases e2 : x < lo + (m : Int)
        · rw [if_pos e2, if_pos (by omega)]
        · rw [if_neg e2, if_neg (by omega)]
      rw [k]
      generalize (if x < lo + (m : Int) then (1 : Int) else 0) = z1
      generalize (if u (lo + (m : Int)).toNat = 0 then (1 : Int) else 0) = z2
      omega
/-- what was free is free -/
def UZ (S S' : fxS) : Prop := ∀ b : Nat, S 56 0 b = 0 → S' 56 0 b = 0
theorem UZ_rfl {S : fxS} : UZ S S := fun _ h => h
theorem UZ_stab {S : fxS} : fx_stab [(56, 9999)] (UZ S) := fun _ _ h hs b e => (h 56 0 b rfl).trans (hs b e)
theorem UZ_put {S S1 : fxS} {b v : Int} (h : UZ S S1) (hv : S1 56 0 b.toNat = 0 → v = 0) : UZ S (fx_up S1 56 0 b.toNat v) := by
  intro x e
  by_cases q : x = b.toNat
  · subst q; rw [fx_up_at]; exact hv (h _ e)
  · rw [up_ne (fun z => q z.2.2)]; exact h x e
theorem UZ_tr {S S1 S2 : fxS} (h : UZ S S1) (h2 : UZ S1 S2) : UZ S S2 := fun b e => h2 b (h b e)
theorem UZ_fcn {S S' : fxS} {lo : Int} {m : Nat} (h : UZ S S') : fcn (S 56 0) lo m ≤ fcn (S' 56 0) lo m := fcn_le h m
theorem USE_put {S : fxS} {b v : Int} (h : USE S) (hv : S 56 0 b.toNat = 1 → v = 1) : USE (fx_up S 56 0 b.toNat v) := by
  intro n p x hl
  have := h n p x hl
  by_cases q : x.toNat = b.toNat
  · rw [q, fx_up_at]; rw [q] at this; exact hv this
  · rw [up_ne (fun z => q z.2.2)]; exact this
/-- block r was given -/
def UP1 (r : Int) (S S' : fxS) : Prop := (∀ b : Nat, (b : Int) ≠ r → S' 56 0 b = S 56 0 b) ∧ (0 ≤ r → S' 56 0 r.toNat = 1)
theorem UP1_stab {r : Int} {S : fxS} : fx_stab [(56, 9999)] (UP1 r S) := fun _ _ h hs => ⟨fun b e => (h 56 0 b rfl).trans (hs.1 b e), fun e => (h 56 0 _ rfl).trans (hs.2 e)⟩
theorem UP1_no {r : Int} {S : fxS} (h : r < 0) : UP1 r S S := ⟨fun _ _ => rfl, fun e => by omega⟩
theorem UP1_up {r : Int} {S : fxS} (h : 0 ≤ r) : UP1 r S (fx_up S 56 0 r.toNat (1 : Int)) := ⟨fun b e => up_ne (by omega), fun _ => fx_up_at _ _ _ _ _⟩
/-- a block that no file has -/
def NLB (b : Int) (S : fxS) : Prop := ∀ n p : Int, ¬ LIS (S 50 0) n p b
theorem NLB_stab {b : Int} : fx_stab [(50, 9999)] (NLB b) := fun S S' h hs => by show ∀ n p : Int, ¬ LIS (S' 50 0) n p b; rw [row_eq h]; exact hs
theorem NLB_of {b : Int} {S : fxS} (hu : USE S) (h : S 56 0 b.toNat = 0) : NLB b S := fun n p hl => by have := hu n p b hl; omega
/-- how a listing looks behind a block is put -/
theorem LIS_put {S : fxS} {f p b n q x : Int} (hf : 0 ≤ f) (hp : 0 ≤ p ∧ p < 32) (hl : LIS (fx_up S 50 0 (42 * f + ((10 : Int) + p)).toNat b 50 0) n q x) : (n = f ∧ q = p ∧ x = b) ∨ ((n ≠ f ∨ q ≠ p) ∧ LIS (S 50 0) n q x) := by
  obtain ⟨h1, h2, h3, h4, h5⟩ := hl
  rw [fN_up hf (by omega) h1.1 (by omega), if_neg (by omega)] at h3
  rw [fN_up hf (by omega) h1.1 (by omega)] at h4
  by_cases e : n = f ∧ 10 + q = 10 + p
  · rw [if_pos e] at h4
    exact Or.inl ⟨e.1, by omega, h4.symm⟩
  · rw [if_neg e] at h4
    exact Or.inr ⟨by omega, h1, h2, h3, h4, h5⟩
theorem INJ_rnw {S : fxS} {f p b : Int} (h : INJ S) (hb : NLB b S) (hf : 0 ≤ f) (hp : 0 ≤ p ∧ p < 32) : INJ (fx_up S 50 0 (42 * f + ((10 : Int) + p)).toNat b) := by
  intro n q n' q' x h1 h2
  rcases LIS_put hf hp h1 with ⟨a1, a2, a3⟩ | ⟨a1, a2⟩ <;> rcases LIS_put hf hp h2 with ⟨b1, b2, b3⟩ | ⟨b1, b2⟩
  · exact ⟨by omega, by omega⟩
  · subst a3; exact absurd b2 (hb _ _)
  · subst b3; exact absurd a2 (hb _ _)
  · exact h n q n' q' x a2 b2
theorem USE_rnw {S : fxS} {f p b : Int} (hu : USE S) (h1 : S 56 0 b.toNat = 1) (hf : 0 ≤ f) (hp : 0 ≤ p ∧ p < 32) : USE (fx_up S 50 0 (42 * f + ((10 : Int) + p)).toNat b) := by
  intro n q x hl
  rcases LIS_put hf hp hl with ⟨a1, a2, a3⟩ | ⟨a1, a2⟩
  · subst a3; exact h1
  · exact hu n q x a2
/-- the block that stood there is held; another stands there now, or none -/
theorem USE_out {S : fxS} {f p b o : Int} (hu : USE S) (hi : INJ S) (hf : 0 ≤ f ∧ f < 60) (hp : 0 ≤ p ∧ p < 32) (hk : aN S f 0 = 2) (eo : o = aN S f ((10 : Int) + p)) (ho : 0 ≤ o) (hb : b < 0 ∨ (0 ≤ b ∧ b ≠ o ∧ S 56 0 b.toNat = 1)) : USE (fx_up (fx_up S 56 0 o.toNat (2 : Int)) 50 0 (42 * f + ((10 : Int) + p)).toNat b) := by
  have lo : LIS (S 50 0) f p o := ⟨hf, hp, hk, eo.symm, ho⟩
  intro n q x hl
  have hl2 : LIS (fx_up S 50 0 (42 * f + ((10 : Int) + p)).toNat b 50 0) n q x := hl
  show fx_up S 56 0 o.toNat (2 : Int) 56 0 x.toNat = 1
  have x0 : 0 ≤ x := hl.2.2.2.2
  rcases LIS_put hf.1 hp hl2 with ⟨a1, a2, a3⟩ | ⟨a1, a2⟩
  · subst a3
    rw [up_ne (by omega)]
    rcases hb with q | q
    · omega
    · exact q.2.2
  · have := hu n q x a2
    by_cases e : x = o
    · subst e
      have := hi n q f p x a2 lo
      omega
    · rw [up_ne (by omega)]; exact this
theorem AON_rnw {S : fxS} {f p b : Int} (h : AON S) (hf : 0 ≤ f) (hp : 0 ≤ p ∧ p < 32) (hb : 0 ≤ b) (hc : p ≠ 0 ∨ 0 ≤ aN S f 10 ∨ aN S f 3 ≤ 0) : AON (fx_up S 50 0 (42 * f + ((10 : Int) + p)).toNat b) := by
  intro n a1 a2 a3 a4 q q1 q2 q3
  rw [fN_up hf (by omega) a1 (by omega), if_neg (by omega)] at a3 q3
  rw [fN_up hf (by omega) a1 (by omega)] at a4 ⊢
  by_cases e : n = f ∧ 10 + q = 10 + p
  · rw [if_pos e]; exact hb
  · rw [if_neg e]
    by_cases e2 : n = f ∧ 10 = 10 + p
    · obtain ⟨rfl, e3⟩ := e2
      have q3 : 32 * q < aN S n 3 := q3
      have : 0 ≤ fN (S 50 0) n 10 := by
        rcases hc with z | z | z
        · omega
        · exact z
        · omega
      exact h n a1 a2 a3 this q q1 q2 q3
    · rw [if_neg e2] at a4
      exact h n a1 a2 a3 a4 q q1 q2 q3
theorem AON_out {S : fxS} {f p v : Int} (h : AON S) (hf : 0 ≤ f) (hp : 0 ≤ p ∧ p < 32) (hv : v < 0) (hc : p = 0 ∨ aN S f 10 < 0 ∨ aN S f 3 ≤ 32 * p) : AON (fx_up S 50 0 (42 * f + ((10 : Int) + p)).toNat v) := by
  intro n a1 a2 a3 a4 q q1 q2 q3
  rw [fN_up hf (by omega) a1 (by omega), if_neg (by omega)] at a3 q3
  rw [fN_up hf (by omega) a1 (by omega)] at a4 ⊢
  by_cases e : n = f ∧ 10 + q = 10 + p
  · obtain ⟨rfl, e3⟩ := e
    have q3 : 32 * q < aN S n 3 := q3
    by_cases e2 : n = n ∧ (10 : Int) = 10 + p
    · rw [if_pos e2] at a4; omega
    · rw [if_neg e2] at a4
      have a4 : 0 ≤ aN S n 10 := a4
      omega
  · rw [if_neg e]
    by_cases e2 : n = f ∧ 10 = 10 + p
    · rw [if_pos e2] at a4; omega
    · rw [if_neg e2] at a4
      exact h n a1 a2 a3 a4 q q1 q2 q3
/-- of the nodes only one cell changed -/
def EQC (f w : Int) (S S' : fxS) : Prop := ∀ n u : Int, 0 ≤ n → n < 60 → 0 ≤ u → u < 42 → (n ≠ f ∨ u ≠ w) → aN S' n u = aN S n u
def RNW (f p : Int) (S S' : fxS) : Prop := EQC f (10 + p) S S' ∧ 0 ≤ aN S' f (10 + p) ∧ fcn (S' 56 0) 0 208 = fcn (S 56 0) 0 208 - 1
/-- parts from a below j have blocks -/
def GEB (f a j : Int) (S : fxS) : Prop := ∀ q : Int, a ≤ q → q < j → 0 ≤ q → q < 32 → 0 ≤ aN S f (10 + q)
theorem GEB_stab {f a j : Int} : fx_stab [(50, 9999)] (GEB f a j) := fun S S' h hs q x1 x2 x3 x4 => by
  have : aN S' f (10 + q) = aN S f (10 + q) := h 50 0 _ rfl
  rw [this]; exact hs q x1 x2 x3 x4
theorem GEB_0 {f a : Int} {S : fxS} : GEB f a a S := fun q _ _ => by omega
theorem GEB_rnw {f a j : Int} {S S' : fxS} (h : GEB f a j S) (hr : RNW f j S S') (hf : 0 ≤ f ∧ f < 60) : GEB f a (j + (1 : Int)) S' := by
  intro q x1 x2 x3 x4
  by_cases e : q = j
  · subst e; exact hr.2.1
  · rw [hr.1 f (10 + q) hf.1 hf.2 (by omega) (by omega) (Or.inr (by omega))]
    exact h q x1 (by omega) x3 x4
theorem GEB_set {f a j w v : Int} {S : fxS} (h : GEB f a j S) (hf : 0 ≤ f) (hw : 0 ≤ w ∧ w < 10) : GEB f a j (fx_up S 50 0 (42 * f + w).toNat v) := fun q x1 x2 x3 x4 => by
  rw [aN_ne ⟨hf, by omega⟩ ⟨hf, by omega⟩ (Or.inr (by omega))]; exact h q x1 x2 x3 x4
/-- a file grows -/
theorem AON_grow {S : fxS} {f p v c : Int} (h : AON S) (hf : 0 ≤ f) (g : GEB f (p / 32) ((p + c - 1) / 32 + 1) S) (hp : 0 ≤ p ∧ p ≤ aN S f 3) (hc : 0 < c) (hv : v ≤ p + c ∨ v ≤ aN S f 3) (hs : aN S f 3 ≤ 0 ∨ 0 ≤ aN S f 10) : AON (fx_up S 50 0 (42 * f + (3 : Int)).toNat v) := by
  intro n a1 a2 a3 a4 q q1 q2 q3
  rw [fN_up hf (by omega) a1 (by omega), if_neg (by omega)] at a3 a4
  rw [fN_up hf (by omega) a1 (by omega)] at q3
  rw [fN_up hf (by omega) a1 (by omega), if_neg (by omega)]
  by_cases e : n = f
  · subst e
    rw [if_pos ⟨rfl, rfl⟩] at q3
    by_cases e2 : 32 * q < aN S n 3
    · exact h n a1 a2 a3 a4 q q1 q2 e2
    · exact g q (by omega) (by omega) q1 q2
  · rw [if_neg (by omega)] at q3
    exact h n a1 a2 a3 a4 q q1 q2 q3
/-- a file shrinks, or has no block -/
theorem AON_size {S : fxS} {f v : Int} (h : AON S) (hf : 0 ≤ f) (hv : v ≤ aN S f 3 ∨ aN S f 10 < 0) : AON (fx_up S 50 0 (42 * f + (3 : Int)).toNat v) := by
  intro n a1 a2 a3 a4 q q1 q2 q3
  rw [fN_up hf (by omega) a1 (by omega), if_neg (by omega)] at a3 a4
  rw [fN_up hf (by omega) a1 (by omega)] at q3
  rw [fN_up hf (by omega) a1 (by omega), if_neg (by omega)]
  by_cases e : n = f
  · subst e
    rw [if_pos ⟨rfl, rfl⟩] at q3
    rcases hv with z | z
    · exact h n a1 a2 a3 a4 q q1 q2 (Int.lt_of_lt_of_le q3 z)
    · have a4 : 0 ≤ aN S n 10 := a4
      omega
  · rw [if_neg (by omega)] at q3
    exact h n a1 a2 a3 a4 q q1 q2 q3
/-! what was copied out -/
def CPJ (j : Int) (S : fxS) : Prop := ∀ k : Nat, (k : Int) < j → S 53 0 (2561 * (S 49 0 7).toNat + k) = S 50 0 k
theorem CPJ_stab {j : Int} : fx_stab [(53, 9999), (50, 9999), (49, 7)] (CPJ j) := fun S S' h hs k hk => by rw [h 49 0 7 rfl, h 53 0 _ rfl, h 50 0 _ rfl]; exact hs k hk
theorem CPJ_0 {S : fxS} : CPJ (0 : Int) S := fun k hk => by omega
theorem CPJ_step {S : fxS} {j r z : Int} (h : CPJ j S) (hj : 0 ≤ j ∧ j < 2561) (hr : r = S 49 0 7) (h0 : 0 ≤ r) (hz : z = S 50 0 j.toNat) : CPJ (j + (1 : Int)) (fx_up S 53 0 ((2561 : Int) * r + j).toNat z) := by
  intro k hk
  show fx_up S 53 0 ((2561 : Int) * r + j).toNat z 53 0 (2561 * (S 49 0 7).toNat + k) = S 50 0 k
  by_cases e : k = j.toNat
  · rw [show 2561 * (S 49 0 7).toNat + k = ((2561 : Int) * r + j).toNat by omega, fx_up_at, hz, e]
  · rw [up_ne (by omega)]; exact h k (by omega)
theorem SNL_up {S : fxS} {j r z : Int} (h : SNL S) (hj : 0 ≤ j) (hr : r = S 49 0 7) (h0 : 0 ≤ r) : SNL (fx_up S 53 0 ((2561 : Int) * r + j).toNat z) := by
  intro c hc
  have hc : (c : Int) < S 49 0 7 := hc
  refine GOODf_ext (fun k hk => ?_) (h c hc)
  show fx_up S 53 0 ((2561 : Int) * r + j).toNat z 53 0 (2561 * c + k) = S 53 0 (2561 * c + k)
  exact up_ne (by omega)
theorem SNP_of {S : fxS} {j : Int} (h : SNL S) (hc : CPJ j S) (hj : 2561 ≤ j) (h0 : 0 ≤ S 49 0 7) (a : COL S) (b : WTM S) (c : INJ S) (d : AON S) : SNP S := by
  intro x hx
  by_cases e : (x : Int) < S 49 0 7
  · exact h x e
  · refine GOODf_ext (f := S 50 0) (fun k hk => ?_) ⟨a, b, c, d⟩
    show S 53 0 (2561 * x + k) = S 50 0 k
    rw [← hc k (by omega), show (S 49 0 7).toNat = x by omega]
theorem SNL_0 {S : fxS} (h : S 49 0 7 ≤ 0) : SNL S := fun c hc => by omega
theorem SNL_z {S : fxS} : SNL (fx_up S 49 0 7 (0 : Int)) := SNL_0 (Int.le_of_eq (fx_up_at _ _ _ _ _))
theorem SNL_next {S : fxS} {r : Int} (h : SNP S) (hr : r = S 49 0 7) : SNL (fx_up S 49 0 7 (r + (1 : Int))) := by
  intro c hc
  rw [fx_up_at] at hc
  exact h c (by omega)
/-- brought back from row m -/
def CRJ (j m : Int) (S : fxS) : Prop := ∀ k : Nat, (k : Int) < j → S 50 0 k = S 53 0 (2561 * m.toNat + k)
theorem CRJ_stab {j m : Int} : fx_stab [(53, 9999), (50, 9999)] (CRJ j m) := fun S S' h hs k hk => by rw [h 53 0 _ rfl, h 50 0 _ rfl]; exact hs k hk
theorem CRJ_0 {m : Int} {S : fxS} : CRJ (0 : Int) m S := fun k hk => by omega
theorem CRJ_step {S : fxS} {j m z : Int} (h : CRJ j m S) (hj : 0 ≤ j) (hm : 0 ≤ m) (hz : z = S 53 0 ((2561 : Int) * m + j).toNat) : CRJ (j + (1 : Int)) m (fx_up S 50 0 j.toNat z) := by
  intro k hk
  show fx_up S 50 0 j.toNat z 50 0 k = S 53 0 (2561 * m.toNat + k)
  by_cases e : k = j.toNat
  · rw [e, fx_up_at, hz, show ((2561 : Int) * m + j).toNat = 2561 * m.toNat + j.toNat by omega]
  · rw [up_ne (by omega)]; exact h k (by omega)
theorem CRJ_good {S : fxS} {j m : Int} (h : CRJ j m S) (hj : 2561 ≤ j) (hs : SNP S) (hm : 0 ≤ m ∧ m ≤ S 49 0 7) : GOODf (S 50 0) := GOODf_ext (fun k hk => h k (by omega)) (hs m.toNat (by omega))
/-- blocks of nodes below n, and of n's parts below p, are marked -/
def UJ (n p : Int) (S : fxS) : Prop := ∀ m q b : Int, LIS (S 50 0) m q b → (m < n ∨ (m = n ∧ q < p)) → S 56 0 b.toNat = 1
theorem UJ_stab {n p : Int} : fx_stab [(50, 9999), (56, 9999)] (UJ n p) := fun S S' h hs m q b hl hc => by
  have e1 : S' 50 0 = S 50 0 := funext (fun k => h 50 0 k rfl)
  rw [e1] at hl
  rw [h 56 0 _ rfl]; exact hs m q b hl hc
theorem UJ_0 {S : fxS} (hw : WTM S) : UJ (1 : Int) (0 : Int) S := by
  intro m q b hl hc
  have e : m = 0 := by have := hl.1; have := hl.2.1; omega
  subst e
  have := WTM_root hw
  have h3 : aN S 0 0 = 2 := hl.2.2.1
  omega
theorem UJ_put {S : fxS} {n p b : Int} (h : UJ n p S) (e : b = aN S n ((10 : Int) + p)) (hb : 0 ≤ b) : UJ n (p + (1 : Int)) (fx_up S 56 0 b.toNat (1 : Int)) := by
  intro m q x hl hc
  have hl : LIS (S 50 0) m q x := hl
  by_cases ex : x.toNat = b.toNat
  · rw [ex]; exact fx_up_at _ _ _ _ _
  · rw [up_ne (fun z => ex z.2.2)]
    refine h m q x hl ?_
    by_cases e1 : m = n ∧ q = p
    · obtain ⟨rfl, rfl⟩ := e1
      have : aN S m (10 + q) = x := hl.2.2.2.1
      omega
    · omega
theorem UJ_no {S : fxS} {n p b : Int} (h : UJ n p S) (e : b = aN S n ((10 : Int) + p)) (hb : b < 0) : UJ n (p + (1 : Int)) S := by
  intro m q x hl hc
  refine h m q x hl ?_
  by_cases e1 : m = n ∧ q = p
  · obtain ⟨rfl, rfl⟩ := e1
    have h4 : aN S m (10 + q) = x := hl.2.2.2.1
    have := hl.2.2.2.2
    omega
  · omega
theorem UJ_next {S : fxS} {n p : Int} (h : UJ n p S) (hp : 32 ≤ p ∨ aN S n 0 ≠ 2) : UJ (n + (1 : Int)) (0 : Int) S := by
  intro m q x hl hc
  refine h m q x hl ?_
  have h2 := hl.2.1
  rcases hp with z | z
  · omega
  · by_cases e : m = n
    · subst e
      exact absurd hl.2.2.1 z
    · omega
theorem UJ_use {S : fxS} {n p : Int} (h : UJ n p S) (hn : 60 ≤ n) : USE S := fun m q x hl => h m q x hl (by have := hl.1; omega)
/-- nothing but the root -/
def ZRJ (j : Int) (S : fxS) : Prop := ∀ k : Nat, (k : Int) < j → S 50 0 k = 0
theorem ZRJ_stab {j : Int} : fx_stab [(50, 9999)] (ZRJ j) := fun S S' h hs k hk => by rw [h 50 0 _ rfl]; exact hs k hk
theorem ZRJ_0 {S : fxS} : ZRJ (0 : Int) S := fun k hk => by omega
theorem ZRJ_step {S : fxS} {j : Int} (h : ZRJ j S) (hj : 0 ≤ j) : ZRJ (j + (1 : Int)) (fx_up S 50 0 j.toNat (0 : Int)) := by
  intro k hk
  by_cases e : k = j.toNat
  · rw [e]; exact fx_up_at _ _ _ _ _
  · rw [up_ne (fun z => e z.2.2)]; exact h k (by omega)
theorem ZRJ_cell {S : fxS} {j : Int} (h : ZRJ j S) (hj : 2561 ≤ j) {n w : Int} (hn : 0 ≤ n ∧ n < 60) (hw : 0 ≤ w ∧ w < 42) : fN (fx_up (fx_up S 50 0 0 (1 : Int)) 50 0 1 (-1 : Int) 50 0) n w = if n = 0 ∧ w = 0 then 1 else if n = 0 ∧ w = 1 then -1 else 0 := by
  show fx_up (fx_up S 50 0 0 (1 : Int)) 50 0 1 (-1 : Int) 50 0 (42 * n + w).toNat = _
  by_cases e1 : n = 0 ∧ w = 0
  · rw [if_pos e1, up_ne (by omega), show (42 * n + w).toNat = 0 by omega]; exact fx_up_at _ _ _ _ _
  · rw [if_neg e1]
    by_cases e2 : n = 0 ∧ w = 1
    · rw [if_pos e2, show (42 * n + w).toNat = 1 by omega]; exact fx_up_at _ _ _ _ _
    · rw [if_neg e2, up_ne (by omega), up_ne (by omega)]; exact h _ (by omega)
theorem ZRJ_good {S : fxS} {j : Int} (h : ZRJ j S) (hj : 2561 ≤ j) : GOODf (fx_up (fx_up S 50 0 0 (1 : Int)) 50 0 1 (-1 : Int) 50 0) := by
  have cell := fun {n w : Int} (hn : 0 ≤ n ∧ n < 60) (hw : 0 ≤ w ∧ w < 42) => ZRJ_cell h hj hn hw
  refine ⟨⟨fun n w a b c d => ?_, ?_⟩, ?_, fun n p n' p' b h1 => ?_, fun n a b c => ?_⟩
  · rw [cell ⟨a, b⟩ ⟨c, d⟩]
    by_cases e1 : n = 0 ∧ w = 0
    · rw [if_pos e1]; unfold colb; omega
    · rw [if_neg e1]
      by_cases e2 : n = 0 ∧ w = 1
      · rw [if_pos e2]; unfold colb; omega
      · rw [if_neg e2]; unfold colb; omega
  · rw [up_ne (by omega), up_ne (by omega), h 2520 (by omega)]; omega
  · have ov : ∀ m : Nat, m < 60 → ovf (fx_up (fx_up S 50 0 0 (1 : Int)) 50 0 1 (-1 : Int) 50 0) m = 0 := by
      intro m hm
      show (if m = 0 then 0 else fN (fx_up (fx_up S 50 0 0 (1 : Int)) 50 0 1 (-1 : Int) 50 0) (m : Int) 1) = 0
      by_cases e : m = 0
      · rw [if_pos e]
      · rw [if_neg e, cell (by omega) (by omega), if_neg (by omega), if_neg (by omega)]
    refine ⟨⟨ov 0 (by omega), ?_⟩, fun m hm => ?_, fun m hm e => absurd (ov m hm) e, fun m hm _ => ov m hm, fun m hm => ?_⟩
    · show fN (fx_up (fx_up S 50 0 0 (1 : Int)) 50 0 1 (-1 : Int) 50 0) ((0 : Nat) : Int) 0 = 1
      rw [cell (by omega) (by omega), if_pos (by omega)]
    · rw [ov m hm]; omega
    · by_cases e : m = 0
      · rw [depF_0 (by omega)]; omega
      · rw [depF_s (k := 59) (by omega), show ((m : Int)).toNat = m by omega, ov m hm, depF_0 (by omega)]; omega
  · have h3 := h1.2.2.1
    rw [cell h1.1 (by omega)] at h3
    by_cases e1 : n = 0 ∧ (0 : Int) = 0
    · rw [if_pos e1] at h3; omega
    · rw [if_neg e1, if_neg (by omega)] at h3; omega
  · rw [cell ⟨a, b⟩ (by omega)] at c
    by_cases e1 : n = 0 ∧ (0 : Int) = 0
    · rw [if_pos e1] at c; omega
    · rw [if_neg e1, if_neg (by omega)] at c; omega
theorem ZRJ_use {S : fxS} {j : Int} (h : ZRJ j S) (hj : 2561 ≤ j) : USE (fx_up (fx_up S 50 0 0 (1 : Int)) 50 0 1 (-1 : Int)) := by
  intro n p b h1
  have h3 := h1.2.2.1
  have h4 : fN (fx_up (fx_up S 50 0 0 (1 : Int)) 50 0 1 (-1 : Int) 50 0) n 0 = 2 := h3
  rw [ZRJ_cell h hj h1.1 (by omega)] at h4
  by_cases e1 : n = 0 ∧ (0 : Int) = 0
  · rw [if_pos e1] at h4; omega
  · rw [if_neg e1, if_neg (by omega)] at h4; omega
/-! recalls -/
def RECd (S : fxS) : Prop := ∀ i j : Nat, i < j → (j : Int) < S 49 0 36 → S 75 0 i ≠ S 75 0 j
def FIL (d : Int) (S : fxS) : Prop := ∃ n : Int, (1 ≤ n ∧ n < 60) ∧ aN S n 0 = 2 ∧ aN S n 2 = d
def REC (S : fxS) : Prop := RECd S ∧ ∀ i : Nat, (i : Int) < S 49 0 36 → FIL (S 75 0 i) S
theorem RECd_stab : fx_stab [(75, 9999), (49, 36)] RECd := fun S S' h hs i j a b => by rw [h 49 0 36 rfl] at b; rw [h 75 0 i rfl, h 75 0 j rfl]; exact hs i j a b
theorem FIL_same {d : Int} {S S' : fxS} (h : ∀ k, S' 50 0 k = S 50 0 k) (hf : FIL d S) : FIL d S' := by
  obtain ⟨n, a, b, c⟩ := hf
  exact ⟨n, a, (h _).trans b, (h _).trans c⟩
theorem REC_stab : fx_stab [(50, 9999), (75, 9999), (49, 36)] REC := fun S S' h hs =>
  ⟨RECd_stab S S' (fun g i j hq => h g i j (by rw [show fx_mod [(50, 9999), (75, 9999), (49, 36)] g j = ((Nat.beq 50 g && (Nat.beq 9999 9999 || Nat.beq 9999 j)) || fx_mod [(75, 9999), (49, 36)] g j) from rfl, hq, Bool.or_true])) hs.1,
   fun i hi => by rw [h 49 0 36 rfl] at hi; rw [h 75 0 i rfl]; exact FIL_same (fun k => h 50 0 k rfl) (hs.2 i hi)⟩
theorem REC_0 {S : fxS} (h : S 49 0 36 ≤ 0) : REC S := ⟨fun i j a b => by omega, fun i hi => by omega⟩
theorem FIL_set {d n w v : Int} {S : fxS} (hf : FIL d S) (hn : 0 ≤ n) (hw : (0 ≤ w ∧ w < 42) ∧ w ≠ 0 ∧ w ≠ 2) : FIL d (fx_up S 50 0 (42 * n + w).toNat v) := by
  obtain ⟨m, a, b, c⟩ := hf
  refine ⟨m, a, ?_, ?_⟩
  · rw [aN_ne ⟨hn, hw.1⟩ ⟨by omega, by omega⟩ (Or.inr (by omega))]; exact b
  · rw [aN_ne ⟨hn, hw.1⟩ ⟨by omega, by omega⟩ (Or.inr (by omega))]; exact c
theorem REC_set {n w v : Int} {S : fxS} (h : REC S) (hn : 0 ≤ n) (hw : (0 ≤ w ∧ w < 42) ∧ w ≠ 0 ∧ w ≠ 2) : REC (fx_up S 50 0 (42 * n + w).toNat v) := ⟨h.1, fun i hi => FIL_set (h.2 i hi) hn hw⟩
/-- only the row of a node that was no file changed -/
theorem REC_eqr {n : Int} {S S' : fxS} (e : EQR n S S') (h : REC S) (hk : aN S n 0 ≠ 2) (h36 : S' 49 0 36 = S 49 0 36) (h75 : ∀ k, S' 75 0 k = S 75 0 k) : REC S' := by
  refine ⟨fun i j a b => ?_, fun i hi => ?_⟩
  · rw [h75, h75]; exact h.1 i j a (by omega)
  · obtain ⟨m, a, b, c⟩ := h.2 i (by omega)
    have hm : m ≠ n := fun q => hk (q ▸ b)
    exact ⟨m, a, (e m 0 (by omega) (by omega) hm (by omega) (by omega)).trans b, by rw [h75]; exact (e m 2 (by omega) (by omega) hm (by omega) (by omega)).trans c⟩
theorem php : ∀ (N c : Nat) (f : Nat → Nat), (∀ i, i < c → f i < N) → (∀ i j, i < j → j < c → f i ≠ f j) → c ≤ N
  | 0, c, f, h, _ => by
    by_cases e : c = 0
    · omega
    · have := h 0 (by omega); omega
  | N + 1, c, f, h, hi => by
    by_cases q : ∃ x, x < c ∧ f x = N
    · obtain ⟨x, hx, ex⟩ := q
      have := php N (c - 1) (fun i => if i < x then f i else f (i + 1)) (fun i hc => by
          show (if i < x then f i else f (i + 1)) < N
          by_cases e : i < x
          · rw [if_pos e]
            have a := h i (by omega)
            have b := hi i x e hx
            omega
          · rw [if_neg e]
            have a := h (i + 1) (by omega)
            have b := hi x (i + 1) (by omega) (by omega)
            omega) (fun i j hij hj => by
          show (if i < x then f i else f (i + 1)) ≠ (if j < x then f j else f (j + 1))
          by_cases e : i < x
          · rw [if_pos e]
            by_cases e2 : j < x
            · rw [if_pos e2]; exact hi i j hij (by omega)
            · rw [if_neg e2]; exact hi i (j + 1) (by omega) (by omega)
          · rw [if_neg e, if_neg (by omega)]
            exact hi (i + 1) (j + 1) (by omega) (by omega))
      omega
    · have := php N c f (fun i hc => by
          have a := h i hc
          have b : f i ≠ N := fun e => q ⟨i, hc, e⟩
          omega) hi
      omega
/-- a file's ID that does not wait: there is room for it -/
theorem REC_room {S : fxS} {d : Int} (h : REC S) (hf : FIL d S) (hn : ∀ i : Nat, (i : Int) < S 49 0 36 → S 75 0 i ≠ d) (h0 : 0 ≤ S 49 0 36) : S 49 0 36 ≤ 58 := by
  have ex : ∀ i : Nat, ∃ n : Nat, (i : Int) ≤ S 49 0 36 → (1 ≤ n ∧ n < 60) ∧ aN S (n : Int) 2 = (if (i : Int) = S 49 0 36 then d else S 75 0 i) := by
    intro i
    by_cases e : (i : Int) ≤ S 49 0 36
    · by_cases e2 : (i : Int) = S 49 0 36
      · obtain ⟨n, a, b, c⟩ := hf
        exact ⟨n.toNat, fun _ => ⟨by omega, by rw [if_pos e2, show ((n.toNat : Nat) : Int) = n by omega]; exact c⟩⟩
      · obtain ⟨n, a, b, c⟩ := h.2 i (by omega)
        exact ⟨n.toNat, fun _ => ⟨by omega, by rw [if_neg e2, show ((n.toNat : Nat) : Int) = n by omega]; exact c⟩⟩
    · exact ⟨0, fun q => absurd q e⟩
  have key := php 59 ((S 49 0 36).toNat + 1) (fun i => Classical.choose (ex i) - 1) (fun i hi => by
      have := (Classical.choose_spec (ex i) (by omega)).1
      show Classical.choose (ex i) - 1 < 59
      omega) (fun i j hij hj => by
      have a := Classical.choose_spec (ex i) (by omega)
      have b := Classical.choose_spec (ex j) (by omega)
      show Classical.choose (ex i) - 1 ≠ Classical.choose (ex j) - 1
      intro q
      have q2 : Classical.choose (ex i) = Classical.choose (ex j) := by omega
      have a2 := a.2
      have b2 := b.2
      rw [q2] at a2
      rw [a2, if_neg (by omega)] at b2
      by_cases e : (j : Int) = S 49 0 36
      · rw [if_pos e] at b2
        exact hn i (by omega) b2
      · rw [if_neg e] at b2
        exact h.1 i j hij (by omega) b2)
  omega
theorem REC_add {S : fxS} {r d : Int} (h : REC S) (hf : FIL d S) (hn : ∀ i : Nat, (i : Int) < S 49 0 36 → S 75 0 i ≠ d) (hr : r = S 49 0 36) (h0 : 0 ≤ r) : REC (fx_up (fx_up S 75 0 r.toNat d) 49 0 36 (r + (1 : Int))) := by
  have c36 : fx_up (fx_up S 75 0 r.toNat d) 49 0 36 (r + (1 : Int)) 49 0 36 = r + 1 := fx_up_at _ _ _ _ _
  have lt : ∀ i : Nat, (i : Int) < r → fx_up (fx_up S 75 0 r.toNat d) 49 0 36 (r + (1 : Int)) 75 0 i = S 75 0 i := fun i hi => by
    show fx_up S 75 0 r.toNat d 75 0 i = _
    exact up_ne (by omega)
  have eq : fx_up (fx_up S 75 0 r.toNat d) 49 0 36 (r + (1 : Int)) 75 0 r.toNat = d := by
    show fx_up S 75 0 r.toNat d 75 0 r.toNat = _
    exact fx_up_at _ _ _ _ _
  refine ⟨fun i j a b => ?_, fun i hi => ?_⟩
  · rw [c36] at b
    rw [lt i (by omega)]
    by_cases e : (j : Int) < r
    · rw [lt j e]; exact h.1 i j a (by omega)
    · rw [show j = r.toNat by omega, eq]; exact hn i (by omega)
  · rw [c36] at hi
    by_cases e : (i : Int) < r
    · rw [lt i e]; exact FIL_same (fun _ => rfl) (h.2 i (by omega))
    · rw [show i = r.toNat by omega, eq]; exact FIL_same (fun _ => rfl) hf
/-- the first s of those below j are kept -/
def PJ (s j : Int) (S S1 : fxS) : Prop := (∀ i i' : Nat, i < i' → (i' : Int) < s → S1 75 0 i ≠ S1 75 0 i') ∧ (∀ i : Nat, (i : Int) < s → FIL (S1 75 0 i) S1 ∧ ∃ k : Nat, (k : Int) < j ∧ S1 75 0 i = S 75 0 k) ∧ (∀ k : Nat, j ≤ (k : Int) → S1 75 0 k = S 75 0 k)
theorem PJ_stab {s j : Int} {S : fxS} : fx_stab [(50, 9999), (75, 9999)] (PJ s j S) := fun A B h hs =>
  ⟨fun i i' a b => by rw [h 75 0 i rfl, h 75 0 i' rfl]; exact hs.1 i i' a b, fun i hi => by rw [h 75 0 i rfl]; exact ⟨FIL_same (fun k => h 50 0 k rfl) (hs.2.1 i hi).1, (hs.2.1 i hi).2⟩, fun k hk => by rw [h 75 0 k rfl]; exact hs.2.2 k hk⟩
theorem PJ_0 {S : fxS} : PJ (0 : Int) (0 : Int) S S := ⟨fun i i' a b => by omega, fun i hi => by omega, fun _ _ => rfl⟩
theorem PJ_skip {s j : Int} {S S1 : fxS} (h : PJ s j S S1) : PJ s (j + (1 : Int)) S S1 := ⟨h.1, fun i hi => ⟨(h.2.1 i hi).1, by obtain ⟨k, a, b⟩ := (h.2.1 i hi).2; exact ⟨k, by omega, b⟩⟩, fun k hk => h.2.2 k (by omega)⟩
theorem PJ_keep {s j z : Int} {S S1 : fxS} (h : PJ s j S S1) (hd : RECd S) (hs : 0 ≤ s ∧ s ≤ j) (hj : j < S 49 0 36) (hz : z = S1 75 0 j.toNat) (hf : FIL (S1 75 0 j.toNat) S1) : PJ (s + (1 : Int)) (j + (1 : Int)) S (fx_up S1 75 0 s.toNat z) := by
  have hz2 : z = S 75 0 j.toNat := by rw [hz]; exact h.2.2 j.toNat (by omega)
  have hf : FIL z S1 := by rw [hz]; exact hf
  have lt : ∀ i : Nat, i ≠ s.toNat → fx_up S1 75 0 s.toNat z 75 0 i = S1 75 0 i := fun i hi => up_ne (fun q => hi q.2.2)
  have eq : fx_up S1 75 0 s.toNat z 75 0 s.toNat = z := fx_up_at _ _ _ _ _
  refine ⟨fun i i' a b => ?_, fun i hi => ?_, fun k hk => ?_⟩
  · rw [lt i (by omega)]
    by_cases e : i' = s.toNat
    · rw [e, eq, hz2]
      obtain ⟨k, k1, k2⟩ := (h.2.1 i (by omega)).2
      rw [k2]
      exact hd k j.toNat (by omega) (by omega)
    · rw [lt i' e]; exact h.1 i i' a (by omega)
  · by_cases e : i = s.toNat
    · rw [e, eq]
      exact ⟨FIL_same (fun _ => rfl) hf, j.toNat, by omega, hz2⟩
    · rw [lt i e]
      exact ⟨FIL_same (fun _ => rfl) (h.2.1 i (by omega)).1, by obtain ⟨k, a, b⟩ := (h.2.1 i (by omega)).2; exact ⟨k, by omega, b⟩⟩
  · rw [lt k (by omega)]; exact h.2.2 k (by omega)
theorem PJ_end {s j : Int} {S S1 : fxS} (h : PJ s j S S1) : REC (fx_up S1 49 0 36 s) := by
  have c : fx_up S1 49 0 36 s 49 0 36 = s := fx_up_at _ _ _ _ _
  refine ⟨fun i j a b => ?_, fun i hi => ?_⟩
  · rw [c] at b; exact h.1 i j a b
  · rw [c] at hi; exact FIL_same (fun _ => rfl) (h.2.1 i hi).1
/-- no file below j has this ID -/
def NOF (d j : Int) (S : fxS) : Prop := ∀ n : Int, 1 ≤ n → n < j → ¬ (aN S n 0 = 2 ∧ aN S n 2 = d)
theorem NOF_0 {d : Int} {S : fxS} : NOF d (1 : Int) S := fun n a b => by omega
theorem NOF_step {d j : Int} {S : fxS} (h : NOF d j S) (hc : aN S j 0 ≠ 2 ∨ aN S j 2 ≠ d) : NOF d (j + (1 : Int)) S := by
  intro n a b c
  by_cases e : n = j
  · subst e; rcases hc with q | q
    · exact q c.1
    · exact q c.2
  · exact h n a (by omega) c
/-- the least file of this ID -/
def FOF (d r : Int) (S : fxS) : Prop := (r = -2 ∧ NOF d 60 S) ∨ ((1 ≤ r ∧ r < 60) ∧ aN S r 0 = 2 ∧ aN S r 2 = d ∧ NOF d r S)
theorem FOF_stab {d r : Int} : fx_stab [(50, 9999)] (FOF d r) := fun S S' h hs => by
  have e : ∀ n w : Int, aN S' n w = aN S n w := fun n w => h 50 0 _ rfl
  have nf : ∀ j, NOF d j S → NOF d j S' := fun j q n a b c => q n a b (by rw [e, e] at c; exact c)
  rcases hs with ⟨a, b⟩ | ⟨a, b, c, d⟩
  · exact Or.inl ⟨a, nf _ b⟩
  · exact Or.inr ⟨a, (e _ _).trans b, (e _ _).trans c, nf _ d⟩
theorem FOF_un {d r r' : Int} {S : fxS} (h : FOF d r S) (h' : FOF d r' S) : r = r' := by
  rcases h with ⟨a, b⟩ | ⟨a, b, c, e⟩ <;> rcases h' with ⟨a', b'⟩ | ⟨a', b', c', e'⟩
  · omega
  · exact absurd ⟨b', c'⟩ (b r' a'.1 a'.2)
  · exact absurd ⟨b, c⟩ (b' r a.1 a.2)
  · rcases Int.lt_trichotomy r r' with q | q | q
    · exact absurd ⟨b, c⟩ (e' r a.1 q)
    · exact q
    · exact absurd ⟨b', c'⟩ (e r' a'.1 q)
theorem FIL_of {d r : Int} {S : fxS} (h : FIL d S) (hf : FOF d r S) : 1 ≤ r ∧ r < 60 := by
  obtain ⟨n, a, b, c⟩ := h
  rcases hf with ⟨x, y⟩ | ⟨x, _⟩
  · exact absurd ⟨b, c⟩ (y n a.1 a.2)
  · exact x
theorem FOF_fil {d r : Int} {S : fxS} (hf : FOF d r S) (h : 0 ≤ r) : FIL d S := by
  rcases hf with ⟨x, y⟩ | ⟨x, y, z, _⟩
  · omega
  · exact ⟨r, x, y, z⟩
/-- recalls, told by other nodes than n -/
def RECX (n : Int) (S : fxS) : Prop := RECd S ∧ ∀ i : Nat, (i : Int) < S 49 0 36 → ∃ m : Int, (1 ≤ m ∧ m < 60) ∧ m ≠ n ∧ aN S m 0 = 2 ∧ aN S m 2 = S 75 0 i
theorem RECX_stab {n : Int} : fx_stab [(50, 9999), (75, 9999), (49, 36)] (RECX n) := fun S S' h hs =>
  ⟨RECd_stab S S' (fun g i j hq => h g i j (by rw [show fx_mod [(50, 9999), (75, 9999), (49, 36)] g j = ((Nat.beq 50 g && (Nat.beq 9999 9999 || Nat.beq 9999 j)) || fx_mod [(75, 9999), (49, 36)] g j) from rfl, hq, Bool.or_true])) hs.1,
   fun i hi => by
    rw [h 49 0 36 rfl] at hi
    obtain ⟨m, a, b, c, d⟩ := hs.2 i hi
    exact ⟨m, a, b, (h 50 0 _ rfl).trans c, by rw [h 75 0 i rfl]; exact (h 50 0 _ rfl).trans d⟩⟩
theorem RECX_set {n w v : Int} {S : fxS} (h : RECX n S) (hn : 0 ≤ n) (hw : 0 ≤ w ∧ w < 42) : RECX n (fx_up S 50 0 (42 * n + w).toNat v) := ⟨h.1, fun i hi => by
  obtain ⟨m, a, b, c, d⟩ := h.2 i hi
  exact ⟨m, a, b, (aN_ne ⟨hn, hw⟩ ⟨by omega, by omega⟩ (Or.inl b)).trans c, (aN_ne ⟨hn, hw⟩ ⟨by omega, by omega⟩ (Or.inl b)).trans d⟩⟩
theorem REC_x {n : Int} {S : fxS} (h : RECX n S) : REC S := ⟨h.1, fun i hi => by
  obtain ⟨m, a, b, c, d⟩ := h.2 i hi
  exact ⟨m, a, c, d⟩⟩
theorem RECX_eqr {n : Int} {S S' : fxS} (e : EQR n S S') (h : REC S) (hk : aN S n 0 ≠ 2) (h36 : S' 49 0 36 = S 49 0 36) (h75 : ∀ k, S' 75 0 k = S 75 0 k) : RECX n S' := by
  refine ⟨fun i j a b => ?_, fun i hi => ?_⟩
  · rw [h75, h75]; exact h.1 i j a (by omega)
  · obtain ⟨m, a, b, c⟩ := h.2 i (by omega)
    have hm : m ≠ n := fun q => hk (q ▸ b)
    exact ⟨m, a, hm, (e m 0 (by omega) (by omega) hm (by omega) (by omega)).trans b, by rw [h75]; exact (e m 2 (by omega) (by omega) hm (by omega) (by omega)).trans c⟩
def NoM (n j : Int) (S : fxS) : Prop := ∀ m : Int, 1 ≤ m → m < j → aN S m 0 ≠ 0 → aN S m 1 ≠ n
theorem NoM_0 {n : Int} {S : fxS} : NoM n (1 : Int) S := fun m a b => by omega
theorem NoM_step {n j : Int} {S : fxS} (h : NoM n j S) (hc : aN S j 0 = 0 ∨ aN S j 1 ≠ n) : NoM n (j + (1 : Int)) S := by
  intro m a b c
  by_cases e : m = j
  · subst e; rcases hc with q | q
    · exact absurd q c
    · exact q
  · exact h m a (by omega) c
theorem NoM_le {n j k : Int} {S : fxS} (h : NoM n j S) (hk : k ≤ j) : NoM n k S := fun m a b => h m a (by omega)
theorem NoM_stab {n j : Int} : fx_stab [(50, 9999)] (NoM n j) := fun A B h hs m a b c => by
  have e : ∀ w : Int, aN B m w = aN A m w := fun w => h 50 0 _ rfl
  rw [e] at c ⊢; exact hs m a b c
/-- how many blocks of a store a file has: some, if there are -/
def SOM (f s : Int) (S : fxS) : Prop := ∃ p : Int, (0 ≤ p ∧ p < 32) ∧ 0 ≤ aN S f (10 + p) ∧ (s = 0 → aN S f (10 + p) < 48)
theorem SOM_stab {f s : Int} : fx_stab [(50, 9999)] (SOM f s) := fun A B h hs => by
  obtain ⟨p, a, b, c⟩ := hs
  have e : aN B f (10 + p) = aN A f (10 + p) := h 50 0 _ rfl
  exact ⟨p, a, by rw [e]; exact b, by rw [e]; exact c⟩
/-- the fx state's renewing -/
theorem RNW_of {S S1 S2 : fxS} {f p b : Int} (hu : UP1 b S S1) (hz : S 56 0 b.toNat = 0) (hb : 0 ≤ b ∧ b < 208) (hf : 0 ≤ f) (hp : 0 ≤ p ∧ p < 32) (e50 : ∀ k, S2 50 0 k = S 50 0 k) (e56 : ∀ x : Nat, S2 56 0 x = 0 ↔ S1 56 0 x = 0) : RNW f p S (fx_up S2 50 0 (42 * f + ((10 : Int) + p)).toNat b) := by
  refine ⟨fun n u a1 a2 a3 a4 a5 => ?_, ?_, ?_⟩
  · rw [aN_ne ⟨hf, by omega⟩ ⟨a1, a3, a4⟩ a5]; exact e50 _
  · rw [aN_eq]; exact hb.1
  · have e : fcn (fx_up S2 50 0 (42 * f + ((10 : Int) + p)).toNat b 56 0) 0 208 = fcn (S1 56 0) 0 208 := fcn_eq (u := fx_up S2 50 0 (42 * f + ((10 : Int) + p)).toNat b 56 0) (fun x => e56 x) 208
    rw [e, fcn_1 (u := S 56 0) (u' := S1 56 0) (lo := 0) (x := b) (by omega) hb.1 hz (by rw [hu.2 hb.1]; omega) (fun x hx => hu.1 x hx) 208, if_pos (by omega)]
theorem e56_same {S1 S2 : fxS} (h : ∀ x, S2 56 0 x = S1 56 0 x) : ∀ x : Nat, S2 56 0 x = 0 ↔ S1 56 0 x = 0 := fun x => by rw [h]
theorem e56_put {S1 : fxS} {o : Int} (h : S1 56 0 o.toNat = 1) : ∀ x : Nat, fx_up S1 56 0 o.toNat (2 : Int) 56 0 x = 0 ↔ S1 56 0 x = 0 := fun x => by
  by_cases e : x = o.toNat
  · rw [e, fx_up_at, h]; omega
  · rw [up_ne (fun q => e q.2.2)]
theorem USE_at {S : fxS} {f p b : Int} (hu : USE S) (hf : 0 ≤ f ∧ f < 60) (hp : 0 ≤ p ∧ p < 32) (hk : aN S f 0 = 2) (e : b = aN S f (10 + p)) (hb : 0 ≤ b) : S 56 0 b.toNat = 1 := hu f p b ⟨hf, hp, hk, e.symm, hb⟩
theorem NLB_ne {S : fxS} {f p b x : Int} (h : NLB b S) (hf : 0 ≤ f ∧ f < 60) (hp : 0 ≤ p ∧ p < 32) (hk : aN S f 0 = 2) (e : x = aN S f (10 + p)) (hx : 0 ≤ x) : b ≠ x := fun q => h f p ⟨hf, hp, hk, by subst q; exact e.symm, by omega⟩
theorem PLN_of2 {n q o : Int} {S S1 S2 : fxS} (nb : NBK n 32 (fx_up (fx_up S1 50 0 (42 * n + (0 : Int)).toNat q) 50 0 (42 * n + (1 : Int)).toNat o) S2) (e : EQR n S S1) (z : ZRW n 42 S1) (hn : 0 ≤ n) : PLN n q o S S2 := PLN_of z e hn nb
def NZU (lo j : Int) (S : fxS) : Prop := ∀ x : Int, lo ≤ x → x < j → S 56 0 x.toNat ≠ 0
theorem NZU_0 {lo : Int} {S : fxS} : NZU lo lo S := fun x a b => by omega
theorem NZU_step {lo j : Int} {S : fxS} (h : NZU lo j S) (hz : S 56 0 j.toNat ≠ 0) : NZU lo (j + (1 : Int)) S := fun x a b => by
  by_cases e : x = j
  · subst e; exact hz
  · exact h x a (by omega)
theorem NZU_fcn {lo j : Int} {S : fxS} {m : Nat} (h : NZU lo j S) (hj : lo + (m : Int) ≤ j) : fcn (S 56 0) lo m ≤ 0 := Int.le_of_eq (fcn_z (fun x a b => h x a (by omega)))
theorem UP1_up2 {r : Int} {S S1 : fxS} (e : ∀ x, S1 56 0 x = S 56 0 x) (h : 0 ≤ r) : UP1 r S (fx_up S1 56 0 r.toNat (1 : Int)) := ⟨fun b q => (up_ne (by omega)).trans (e b), fun _ => fx_up_at _ _ _ _ _⟩
theorem UP1_no2 {r : Int} {S S1 : fxS} (e : ∀ x, S1 56 0 x = S 56 0 x) (h : r < 0) : UP1 r S S1 := ⟨fun b _ => e b, fun q => by omega⟩
def DPL (o d : Int) (S : fxS) : Prop := (depF (ovf (S 50 0)) 60 o : Int) ≤ d
theorem DPL_stab {o d : Int} : fx_stab [(50, 9999)] (DPL o d) := fun A B h hs => by show (depF (ovf (B 50 0)) 60 o : Int) ≤ d; rw [row_eq h]; exact hs
def EQN (S S' : fxS) : Prop := ∀ k, S' 50 0 k = S 50 0 k
theorem EQN_rfl {S : fxS} : EQN S S := fun _ => rfl
theorem EQN_stab {S : fxS} : fx_stab [(50, 9999)] (EQN S) := fun A B h hs k => (h 50 0 k rfl).trans (hs k)
def NOL (S : fxS) : Prop := ∀ n p b : Int, ¬ LIS (S 50 0) n p b
theorem NOL_stab : fx_stab [(50, 9999)] NOL := fun S S' h hs => by show ∀ n p b : Int, ¬ LIS (S' 50 0) n p b; rw [row_eq h]; exact hs
theorem USE_nol {S : fxS} (h : NOL S) : USE S := fun n p b hl => absurd hl (h n p b)
theorem ZRJ_nol {S : fxS} {j : Int} (h : ZRJ j S) (hj : 2561 ≤ j) : NOL (fx_up (fx_up S 50 0 0 (1 : Int)) 50 0 1 (-1 : Int)) := by
  intro n p b h1
  have h4 : fN (fx_up (fx_up S 50 0 0 (1 : Int)) 50 0 1 (-1 : Int) 50 0) n 0 = 2 := h1.2.2.1
  rw [ZRJ_cell h hj h1.1 (by omega)] at h4
  by_cases e1 : n = 0 ∧ (0 : Int) = 0
  · rw [if_pos e1] at h4; omega
  · rw [if_neg e1, if_neg (by omega)] at h4; omega
theorem FIL_stab {d : Int} : fx_stab [(50, 9999)] (FIL d) := fun A B h hs => FIL_same (fun k => h 50 0 k rfl) hs
def NIR (d j : Int) (S : fxS) : Prop := ∀ i : Nat, (i : Int) < j → S 75 0 i ≠ d
theorem NIR_0 {d : Int} {S : fxS} : NIR d (0 : Int) S := fun i h => by omega
theorem NIR_step {d j : Int} {S : fxS} (h : NIR d j S) (hz : S 75 0 j.toNat ≠ d) : NIR d (j + (1 : Int)) S := fun i hi => by
  by_cases e : i = j.toNat
  · rw [e]; exact hz
  · exact h i (by omega)
theorem NIR_stab {d j : Int} : fx_stab [(75, 9999)] (NIR d j) := fun A B h hs i hi => by rw [h 75 0 i rfl]; exact hs i hi
theorem FILE_pos {S : fxS} {f : Int} (hw : WTM S) (hk : aN S f 0 = 2) (hf : 0 ≤ f) : 1 ≤ f := by
  rcases Int.lt_or_le f 1 with q | q
  · have e : f = 0 := by omega
    have := WTM_root hw
    rw [e] at hk
    omega
  · exact q
theorem BLK_out {S : fxS} {f p v : Int} (hf : 0 ≤ f) (hp : 0 ≤ p ∧ p < 32) (hv : v < 0) (hc : p = 0 ∨ aN S f 10 < 0) : aN (fx_up S 50 0 (42 * f + ((10 : Int) + p)).toNat v) f 10 < 0 := by
  by_cases e : p = 0
  · subst e
    have : aN (fx_up S 50 0 (42 * f + ((10 : Int) + 0)).toNat v) f (10 + 0) = v := aN_eq
    have h2 : aN (fx_up S 50 0 (42 * f + ((10 : Int) + 0)).toNat v) f 10 = v := this
    omega
  · rw [aN_ne ⟨hf, by omega⟩ ⟨hf, by omega⟩ (Or.inr (by omega))]; omega
theorem aN_o {S : fxS} {g i j : Nat} {z n w : Int} (hg : Nat.beq g 50 = false) : aN (fx_up S g i j z) n w = aN S n w := up_ne (fun q => by rw [← q.1] at hg; cases hg)
theorem AON_out2 {S : fxS} {f p v : Int} {x : Nat} (h : AON S) (hf : 0 ≤ f) (hp : 0 ≤ p ∧ p < 32) (hv : v < 0) (hc : p = 0 ∨ aN S f 10 < 0 ∨ aN S f 3 ≤ 32 * p) : AON (fx_up (fx_up S 56 0 x (2 : Int)) 50 0 (42 * f + ((10 : Int) + p)).toNat v) :=
  AON_out (S := fx_up S 56 0 x (2 : Int)) (fx_pup AON_stab rfl h) hf hp hv (by rw [aN_o rfl, aN_o rfl]; exact hc)
theorem BLK_out2 {S : fxS} {f p v : Int} {x : Nat} (hf : 0 ≤ f) (hp : 0 ≤ p ∧ p < 32) (hv : v < 0) (hc : p = 0 ∨ aN S f 10 < 0) : aN (fx_up (fx_up S 56 0 x (2 : Int)) 50 0 (42 * f + ((10 : Int) + p)).toNat v) f 10 < 0 :=
  BLK_out (S := fx_up S 56 0 x (2 : Int)) hf hp hv (by rw [aN_o rfl]; exact hc)
theorem INJ_rnw2 {S : fxS} {f p b : Int} {x : Nat} (h : INJ S) (hb : NLB b S) (hf : 0 ≤ f) (hp : 0 ≤ p ∧ p < 32) : INJ (fx_up (fx_up S 56 0 x (2 : Int)) 50 0 (42 * f + ((10 : Int) + p)).toNat b) := INJ_rnw (S := fx_up S 56 0 x (2 : Int)) (fx_pup INJ_stab rfl h) (fx_pup NLB_stab rfl hb) hf hp
theorem AON_rnw2 {S : fxS} {f p b : Int} {x : Nat} (h : AON S) (hf : 0 ≤ f) (hp : 0 ≤ p ∧ p < 32) (hb : 0 ≤ b) (hc : p ≠ 0 ∨ 0 ≤ aN S f 10 ∨ aN S f 3 ≤ 0) : AON (fx_up (fx_up S 56 0 x (2 : Int)) 50 0 (42 * f + ((10 : Int) + p)).toNat b) :=
  AON_rnw (S := fx_up S 56 0 x (2 : Int)) (fx_pup AON_stab rfl h) hf hp hb (by rw [aN_o rfl, aN_o rfl]; exact hc)
theorem RNW_of2 {S S1 : fxS} {f p b o : Int} (hu : UP1 b S S1) (hz : S 56 0 b.toNat = 0) (hb : 0 ≤ b ∧ b < 208) (hf : 0 ≤ f) (hp : 0 ≤ p ∧ p < 32) (e50 : EQN S S1) (h1 : S1 56 0 o.toNat = 1) : RNW f p S (fx_up (fx_up S1 56 0 o.toNat (2 : Int)) 50 0 (42 * f + ((10 : Int) + p)).toNat b) :=
  RNW_of (S1 := S1) (S2 := fx_up S1 56 0 o.toNat (2 : Int)) hu hz hb hf hp (fun k => e50 k) (e56_put h1)
theorem RNW_of1 {S S1 : fxS} {f p b : Int} (hu : UP1 b S S1) (hz : S 56 0 b.toNat = 0) (hb : 0 ≤ b ∧ b < 208) (hf : 0 ≤ f) (hp : 0 ≤ p ∧ p < 32) (e50 : EQN S S1) : RNW f p S (fx_up S1 50 0 (42 * f + ((10 : Int) + p)).toNat b) :=
  RNW_of (S1 := S1) (S2 := S1) hu hz hb hf hp (fun k => e50 k) (e56_same (fun _ => rfl))
theorem WTM_tail {S : fxS} {k : Nat} {v : Int} (h : WTM S) (hk : 2520 ≤ k) : WTM (fx_up S 50 0 k v) := WTf_ext (fun j hj => up_ne (by omega)) h
theorem INJ_tail {S : fxS} {k : Nat} {v : Int} (h : INJ S) (hk : 2520 ≤ k) : INJ (fx_up S 50 0 k v) := INJf_ext (fun j hj => up_ne (by omega)) h
theorem AON_tail {S : fxS} {k : Nat} {v : Int} (h : AON S) (hk : 2520 ≤ k) : AON (fx_up S 50 0 k v) := AONf_ext (fun j hj => up_ne (by omega)) h
theorem USE_tail {S : fxS} {k : Nat} {v : Int} (h : USE S) (hk : 2520 ≤ k) : USE (fx_up S 50 0 k v) := fun n p b hl => h n p b (LIS_ext (f := S 50 0) (g := fx_up S 50 0 k v 50 0) (fun j hj => up_ne (by omega)) hl)
theorem aN_tail {S : fxS} {k : Nat} {v n w : Int} (hk : 2520 ≤ k) (hn : n < 60) (hw : w < 42) : aN (fx_up S 50 0 k v) n w = aN S n w := up_ne (by omega)
theorem COL_tail {S : fxS} {k : Nat} {v : Int} (h : COL S) (hk : 2520 < k) : COL (fx_up S 50 0 k v) := ⟨fun n w a b c d => by rw [fN_ext (f := S 50 0) (g := fx_up S 50 0 k v 50 0) (fun j hj => up_ne (by omega)) b d]; exact h.1 n w a b c d, by rw [up_ne (by omega)]; exact h.2⟩
theorem COL_del {S : fxS} {v : Int} (h : COL S) (hv : 0 ≤ v ∧ v ≤ 40) : COL (fx_up S 50 0 2520 v) := ⟨fun n w a b c d => by rw [fN_ext (f := S 50 0) (g := fx_up S 50 0 2520 v 50 0) (fun j hj => up_ne (by omega)) b d]; exact h.1 n w a b c d, by rw [fx_up_at]; exact hv⟩
theorem COL_dels {S : fxS} (h : COL S) : 0 ≤ S 50 0 2520 ∧ S 50 0 2520 ≤ 40 := h.2
theorem REC_tail {S : fxS} {k : Nat} {v : Int} (h : REC S) (hk : 2520 ≤ k) : REC (fx_up S 50 0 k v) := ⟨h.1, fun i hi => by
  obtain ⟨m, a, b, c⟩ := h.2 i hi
  exact ⟨m, a, (aN_tail hk (by omega) (by omega)).trans b, (aN_tail hk (by omega) (by omega)).trans c⟩⟩
theorem EQR_tail {n : Int} {S S1 : fxS} {k : Nat} {v : Int} (h : EQR n S S1) (hk : 2520 ≤ k) : EQR n S (fx_up S1 50 0 k v) := fun m w a b c d e => (aN_tail hk b e).trans (h m w a b c d e)
theorem RNW_10 {f p : Int} {S S' : fxS} (h : RNW f p S S') (hf : 0 ≤ f ∧ f < 60) (h0 : 0 ≤ aN S f 10) : 0 ≤ aN S' f 10 := by
  by_cases e : p = 0
  · subst e; exact h.2.1
  · rw [h.1 f 10 hf.1 hf.2 (by omega) (by omega) (Or.inr (by omega))]; exact h0
theorem GEB_to {f a j k : Int} {S : fxS} (h : GEB f a j S) (hk : k ≤ j) : GEB f a k S := fun q x1 x2 => h q x1 (by omega)
theorem AON_at {S : fxS} {f q : Int} (h : AON S) (hf : 0 ≤ f ∧ f < 60) (hk : aN S f 0 = 2) (h0 : 0 ≤ aN S f 10) (hq : 0 ≤ q ∧ q < 32) (hs : 32 * q < aN S f 3) : 0 ≤ aN S f (10 + q) := h f hf.1 hf.2 hk h0 q hq.1 hq.2 hs
/-- a file's parts below z all there or none -/
def AONX (f z : Int) (S : fxS) : Prop := ∀ n : Int, 0 ≤ n → n < 60 → aN S n 0 = 2 → 0 ≤ aN S n 10 → ∀ p : Int, 0 ≤ p → p < 32 → (n ≠ f → 32 * p < aN S n 3) → (n = f → 32 * p < z) → 0 ≤ aN S n (10 + p)
theorem AONX_stab {f z : Int} : fx_stab [(50, 9999)] (AONX f z) := fun A B h hs n a b c d p p1 p2 p3 p4 => by
  have e : ∀ w : Int, aN B n w = aN A n w := fun w => h 50 0 _ rfl
  rw [e] at c d p3; rw [e]; exact hs n a b c d p p1 p2 p3 p4
theorem AONX_of {f z : Int} {S : fxS} (h : AON S) (hz : z ≤ aN S f 3) : AONX f z S := fun n a b c d p p1 p2 p3 p4 => by
  by_cases e : n = f
  · subst e; exact h n a b c d p p1 p2 (by have := p4 rfl; have q : fN (S 50 0) n 3 = aN S n 3 := rfl; omega)
  · exact h n a b c d p p1 p2 (p3 e)
theorem AONX_out2 {S : fxS} {f p v z : Int} {x : Nat} (h : AONX f z S) (hf : 0 ≤ f) (hp : 0 ≤ p ∧ p < 32) (hv : v < 0) (hz : z ≤ 32 * p) : AONX f z (fx_up (fx_up S 56 0 x (2 : Int)) 50 0 (42 * f + ((10 : Int) + p)).toNat v) := by
  intro n a b c d q q1 q2 q3 q4
  have r : ∀ w : Int, 0 ≤ w → w < 42 → (n ≠ f ∨ w ≠ 10 + p) → aN (fx_up (fx_up S 56 0 x (2 : Int)) 50 0 (42 * f + ((10 : Int) + p)).toNat v) n w = aN S n w := fun w w0 w1 w2 => (aN_ne (S := fx_up S 56 0 x (2 : Int)) ⟨hf, by omega⟩ ⟨a, w0, w1⟩ w2).trans (aN_o rfl)
  rw [r 0 (by omega) (by omega) (by omega)] at c
  rw [r 3 (by omega) (by omega) (by omega)] at q3
  by_cases e : n = f
  · subst e
    have q5 := q4 rfl
    rw [r (10 + q) (by omega) (by omega) (by omega)]
    by_cases e2 : p = 0
    · omega
    · rw [r 10 (by omega) (by omega) (by omega)] at d
      exact h n a b c d q q1 q2 q3 q4
  · rw [r 10 (by omega) (by omega) (Or.inl e)] at d
    rw [r (10 + q) (by omega) (by omega) (Or.inl e)]
    exact h n a b c d q q1 q2 q3 q4
theorem AONX_size {f z : Int} {S : fxS} (h : AONX f z S) (hf : 0 ≤ f) : AON (fx_up S 50 0 (42 * f + (3 : Int)).toNat z) := by
  intro n a1 a2 a3 a4 q q1 q2 q3
  rw [fN_up hf (by omega) a1 (by omega), if_neg (by omega)] at a3 a4
  rw [fN_up hf (by omega) a1 (by omega)] at q3
  rw [fN_up hf (by omega) a1 (by omega), if_neg (by omega)]
  by_cases e : n = f
  · subst e
    rw [if_pos ⟨rfl, rfl⟩] at q3
    exact h n a1 a2 a3 a4 q q1 q2 (fun x => absurd rfl x) (fun _ => q3)
  · rw [if_neg (by omega)] at q3
    exact h n a1 a2 a3 a4 q q1 q2 (fun _ => q3) (fun x => absurd x e)
/-- moving -/
def MVM (n o : Int) (S : fxS) : Prop := aN S n 0 ≠ 0 ∧ aN S o 0 = 1 ∧ wiF (ovf (S 50 0)) n 60 o = false
theorem MVM_stab {n o : Int} : fx_stab [(50, 9999)] (MVM n o) := fun A B h hs => by
  have e : ∀ n w : Int, aN B n w = aN A n w := fun n w => h 50 0 _ rfl
  exact ⟨by rw [e]; exact hs.1, by rw [e]; exact hs.2.1, by rw [row_eq h]; exact hs.2.2⟩
def HGM (n o j : Int) (S : fxS) : Prop := ∀ m : Int, 1 ≤ m → m < j → aN S m 0 ≠ 0 → wiF (ovf (S 50 0)) n 60 m = true → (depF (ovf (S 50 0)) 60 m : Int) + ((depF (ovf (S 50 0)) 60 o : Int) + 1 - (depF (ovf (S 50 0)) 60 n : Int)) ≤ 5
theorem HGM_stab {n o j : Int} : fx_stab [(50, 9999)] (HGM n o j) := fun A B h hs m a b c d => by
  have e : aN B m 0 = aN A m 0 := h 50 0 _ rfl
  rw [row_eq h] at d ⊢
  rw [e] at c
  exact hs m a b c d
theorem HGM_0 {n o : Int} {S : fxS} : HGM n o (1 : Int) S := fun m a b => by omega
theorem HGM_step {n o j : Int} {S : fxS} (h : HGM n o j S) (hc : aN S j 0 ≠ 0 → wiF (ovf (S 50 0)) n 60 j = true → (depF (ovf (S 50 0)) 60 j : Int) + ((depF (ovf (S 50 0)) 60 o : Int) + 1 - (depF (ovf (S 50 0)) 60 n : Int)) ≤ 5) : HGM n o (j + (1 : Int)) S := by
  intro m a b c d
  by_cases e : m = j
  · subst e; exact hc c d
  · exact h m a (by omega) c d
theorem WTM_move {n o j : Int} {S : fxS} (hw : WTM S) (hn : 1 ≤ n ∧ n < 60) (ho : 0 ≤ o ∧ o < 60) (hm : MVM n o S) (hg : HGM n o j S) (hj : 60 ≤ j) : WTM (fx_up S 50 0 (42 * n + (1 : Int)).toNat o) := by
  have en : ((n.toNat : Nat) : Int) = n := by omega
  have eo : ((o.toNat : Nat) : Int) = o := by omega
  have hk : (fun m : Nat => fN (fx_up S 50 0 (42 * n + (1 : Int)).toNat o 50 0) (m : Int) 0) = (fun m : Nat => fN (S 50 0) (m : Int) 0) := funext (fun m => by rw [fN_up (by omega) (by omega) (by omega) (by omega), if_neg (by omega)])
  show WT (fun m : Nat => fN (fx_up S 50 0 (42 * n + (1 : Int)).toNat o 50 0) (m : Int) 0) (ovf (fx_up S 50 0 (42 * n + (1 : Int)).toNat o 50 0))
  rw [hk]
  refine WT_move (kd := fun m => fN (S 50 0) (m : Int) 0) (ov := ovf (S 50 0)) (ov' := ovf (fx_up S 50 0 (42 * n + (1 : Int)).toNat o 50 0)) (n := n.toNat) (o := o) (hg := 4 - (depF (ovf (S 50 0)) 60 o : Int)) hw (by omega) ?_ ho ?_ (by rw [en]; exact hm.2.2) (fun m h1 h2 h3 h4 => ?_) (by omega) (fun m hm => ?_) ?_
  · show fN (S 50 0) ((n.toNat : Nat) : Int) 0 ≠ 0
    rw [en]; exact hm.1
  · show fN (S 50 0) ((o.toNat : Nat) : Int) 0 = 1
    rw [eo]; exact hm.2.1
  · rw [en] at h4 ⊢
    have := hg (m : Int) (by omega) (by omega) h3 h4
    omega
  · refine ovf_of (fun _ => ?_)
    exact aN_ne ⟨by omega, by omega⟩ ⟨by omega, by omega⟩ (Or.inl (by omega))
  · show (if n.toNat = 0 then 0 else fN (fx_up S 50 0 (42 * n + (1 : Int)).toNat o 50 0) ((n.toNat : Nat) : Int) 1) = o
    rw [if_neg (by omega), en]; exact aN_eq
/-- a node goes -/
theorem WTM_del {n : Int} {S S' : fxS} (e : EQR n S S') (hw : WTM S) (hn : 1 ≤ n ∧ n < 60) (h1 : aN S' n 1 = 0) (hc : aN S n 0 = 1 → NoM n 60 S) : WTM S' := by
  have en : ((n.toNat : Nat) : Int) = n := by omega
  have key : WT (fun m => if m = n.toNat then aN S' n 0 else fN (S 50 0) (m : Int) 0) (fun m => if m = n.toNat then 0 else ovf (S 50 0) m) := by
    refine WT_del (kd := fun m => fN (S 50 0) (m : Int) 0) (ov := ovf (S 50 0)) (n := n.toNat) hw (by omega) (fun m a b c d => ?_) (fun m hm => if_neg hm) (fun m hm => if_neg hm) (if_pos rfl)
    rw [en] at d
    have hp := WT.par (kd := fun m => fN (S 50 0) (m : Int) 0) (ov := ovf (S 50 0)) hw m b (by rw [d]; omega)
    have hp : fN (S 50 0) (((ovf (S 50 0) m).toNat : Nat) : Int) 0 = 1 := hp
    rw [d, en] at hp
    have dm : ovf (S 50 0) m = aN S (m : Int) 1 := by
      show (if m = 0 then 0 else fN (S 50 0) (m : Int) 1) = _
      rw [if_neg (by omega)]; rfl
    exact hc hp (m : Int) (by omega) (by omega) c (by rw [← dm]; exact d)
  refine WT_ext (kd' := fun m => fN (S' 50 0) (m : Int) 0) (ov' := ovf (S' 50 0)) key (fun m hm => ?_) (fun m hm => ?_)
  · show fN (S' 50 0) (m : Int) 0 = if m = n.toNat then aN S' n 0 else fN (S 50 0) (m : Int) 0
    by_cases q : m = n.toNat
    · rw [if_pos q, q, en]; rfl
    · rw [if_neg q]; exact e (m : Int) 0 (by omega) (by omega) (by omega) (by omega) (by omega)
  · show ovf (S' 50 0) m = if m = n.toNat then 0 else ovf (S 50 0) m
    by_cases q : m = n.toNat
    · rw [if_pos q, q]
      show (if n.toNat = 0 then 0 else fN (S' 50 0) ((n.toNat : Nat) : Int) 1) = 0
      rw [if_neg (by omega), en]; exact h1
    · rw [if_neg q]; exact ovf_of (fun _ => e (m : Int) 1 (by omega) (by omega) (by omega) (by omega) (by omega))
theorem LIS_gone {n m p b : Int} {S S' : fxS} (e : EQR n S S') (h0 : aN S' n 0 ≠ 2) (hl : LIS (S' 50 0) m p b) : LIS (S 50 0) m p b := by
  obtain ⟨h1, h2, h3, h4, h5⟩ := hl
  have hm : m ≠ n := fun q => by subst q; exact h0 h3
  exact ⟨h1, h2, (e m 0 h1.1 h1.2 hm (by omega) (by omega)).symm.trans h3, (e m (10 + p) h1.1 h1.2 hm (by omega) (by omega)).symm.trans h4, h5⟩
theorem INJ_gone {n : Int} {S S' : fxS} (e : EQR n S S') (h0 : aN S' n 0 ≠ 2) (h : INJ S) : INJ S' := fun a p a' p' b x y => h a p a' p' b (LIS_gone e h0 x) (LIS_gone e h0 y)
theorem USE_gone {n : Int} {S S' : fxS} (e : EQR n S S') (h0 : aN S' n 0 ≠ 2) (h : USE S) (hu : ∀ b, S' 56 0 b = S 56 0 b) : USE S' := fun a p b x => (hu _).trans (h a p b (LIS_gone e h0 x))
theorem AON_gone {n : Int} {S S' : fxS} (e : EQR n S S') (h0 : aN S' n 0 ≠ 2) (h : AON S) : AON S' := by
  intro m a b c d p p1 p2 p3
  have hm : m ≠ n := fun q => by subst q; exact h0 c
  have e1 : fN (S' 50 0) m 0 = fN (S 50 0) m 0 := e m 0 a b hm (by omega) (by omega)
  have e2 : fN (S' 50 0) m 10 = fN (S 50 0) m 10 := e m 10 a b hm (by omega) (by omega)
  have e3 : fN (S' 50 0) m 3 = fN (S 50 0) m 3 := e m 3 a b hm (by omega) (by omega)
  have e4 : fN (S' 50 0) m (10 + p) = fN (S 50 0) m (10 + p) := e m (10 + p) a b hm (by omega) (by omega)
  rw [e1] at c; rw [e2] at d; rw [e3] at p3; rw [e4]
  exact h m a b c d p p1 p2 p3
/-- what the drives are about -/
def WIN (S : fxS) : Prop := (S 72 0 0 = 5 → 0 ≤ S 70 0 0 ∧ S 63 0 (S 70 0 0).toNat + S 49 0 51 ≤ 6000) ∧ S 72 0 0 ≠ 4 ∧ S 72 0 1 ≠ 5 ∧ (S 72 0 1 = 4 → 0 ≤ S 70 0 1)
theorem WIN_stab : fx_stab [(72, 9999), (70, 9999), (63, 9999), (49, 51)] WIN := fun A B h hs => by
  unfold WIN
  rw [h 72 0 0 rfl, h 72 0 1 rfl, h 70 0 0 rfl, h 70 0 1 rfl, h 63 0 _ rfl, h 49 0 51 rfl]; exact hs
theorem WIN_0 {S : fxS} (h0 : S 72 0 0 = 0) (h1 : S 72 0 1 = 0) : WIN S := ⟨fun e => by omega, by omega, by omega, fun e => by omega⟩
/-- while lost, nothing waits to be read -/
def LCM (S : fxS) : Prop := S 49 0 15 = 1 → S 49 0 36 = 0
theorem LCM_stab : fx_stab [(49, 15), (49, 36)] LCM := fun A B h hs e => by rw [h 49 0 15 rfl] at e; rw [h 49 0 36 rfl]; exact hs e
theorem LCM_of {S : fxS} (h : S 49 0 15 ≠ 1) : LCM S := fun e => absurd e h
theorem LCM_0 {S : fxS} (h : S 49 0 36 = 0) : LCM S := fun _ => h
theorem up_lit {S : fxS} {g : Nat} {d v : Int} {k : Nat} (hd : 0 ≤ d) : (d = (k : Int) → fx_up S g 0 d.toNat v g 0 k = v) ∧ (d ≠ (k : Int) → fx_up S g 0 d.toNat v g 0 k = S g 0 k) :=
  ⟨fun e => by rw [show d.toNat = k by omega]; exact fx_up_at _ _ _ _ _, fun e => up_ne (by omega)⟩
theorem GEB_one {f p k : Int} {S : fxS} (h : 0 ≤ aN S f (10 + p)) (hk : k = p + 1) : GEB f p k S := fun q x1 x2 _ _ => by
  rw [show q = p by omega]; exact h
/-- the writing drive -/
def WNW (S : fxS) : Prop := (S 72 0 0 = 5 → 0 ≤ S 70 0 0 ∧ S 63 0 (S 70 0 0).toNat + S 49 0 51 ≤ 6000 ∧ S 49 0 51 ≤ 1200) ∧ S 72 0 0 ≠ 4
/-- the reading drive -/
def WNR (S : fxS) : Prop := S 72 0 1 ≠ 5 ∧ (S 72 0 1 = 4 → 0 ≤ S 70 0 1)
theorem WNW_stab : fx_stab [(72, 9999), (70, 9999), (63, 9999), (49, 51)] WNW := fun A B h hs => by
  unfold WNW
  rw [h 72 0 0 rfl, h 70 0 0 rfl, h 63 0 _ rfl, h 49 0 51 rfl]; exact hs
theorem WNR_stab : fx_stab [(72, 9999), (70, 9999)] WNR := fun A B h hs => by
  unfold WNR
  rw [h 72 0 1 rfl, h 70 0 1 rfl]; exact hs
theorem WNW_72 {S : fxS} {v : Int} (h : WNW S) : WNW (fx_up S 72 0 1 v) := h
theorem WNW_70 {S : fxS} {v : Int} (h : WNW S) : WNW (fx_up S 70 0 1 v) := h
theorem WNR_72 {S : fxS} {v : Int} (h : WNR S) : WNR (fx_up S 72 0 0 v) := h
theorem WNR_70 {S : fxS} {v : Int} (h : WNR S) : WNR (fx_up S 70 0 0 v) := h
theorem WNW_n5 {S : fxS} (h : S 72 0 0 ≠ 5) (h4 : S 72 0 0 ≠ 4) : WNW S := ⟨fun e => absurd e h, h4⟩
theorem WNR_of {S : fxS} (h : S 72 0 1 ≠ 5) (h4 : S 72 0 1 = 4 → 0 ≤ S 70 0 1) : WNR S := ⟨h, h4⟩
theorem WNW_5 {S : fxS} (h : S 72 0 0 = 5) (h0 : 0 ≤ S 70 0 0) (hl : S 63 0 (S 70 0 0).toNat + S 49 0 51 ≤ 6000) (ho : S 49 0 51 ≤ 1200) : WNW S := ⟨fun _ => ⟨h0, hl, ho⟩, by omega⟩
/-- a tape is blanked -/
theorem WNW_63 {S : fxS} {t : Int} (h : WNW S) : WNW (fx_up S 63 0 t.toNat (0 : Int)) := ⟨fun e => by
  obtain ⟨a, b, c⟩ := h.1 e
  refine ⟨a, ?_, c⟩
  show fx_up S 63 0 t.toNat (0 : Int) 63 0 (S 70 0 0).toNat + S 49 0 51 ≤ 6000
  by_cases q : (S 70 0 0).toNat = t.toNat
  · rw [q, fx_up_at]; omega
  · rw [up_ne (fun z => q z.2.2)]; exact b, h.2⟩
