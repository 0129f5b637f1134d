/-! how a state stands for the machine's cells -/
noncomputable def fx_kd (g : Nat) : Nat := (fx_g g).1
noncomputable def fx_n (g : Nat) : Nat := (fx_g g).2.1
noncomputable def fx_ct (g : Nat) : Nat := (fx_g g).2.2.1
noncomputable def fx_flat (g i : Nat) : Nat := (fx_g g).2.2.2.1 + (fx_g g).2.2.2.2.1 * i
/-- a group from 1000 on: a cell by its own number (the law's script) -/
noncomputable def fr_at (as : List Nat) (q : Nat × Nat) : Option Nat := if q.2 < fx_ct q.1 then as[fx_flat q.1 q.2]? else if 1000 ≤ q.1 then some (q.1 - 1000) else none
def fr_v (as : List Nat) : fxV → Value → Prop
  | .inl z, w => w = .int (Int32.ofInt z) ∧ -2147483648 ≤ z ∧ z < 2147483648
  | .inr (.inl z), w => w = .long (Int64.ofInt z) ∧ -9223372036854775808 ≤ z ∧ z < 9223372036854775808
  | .inr (.inr q), w => ∃ a, fr_at as q = some a ∧ w = .ref a
noncomputable def fr_f (T : Nat → Int) (as : List Nat) (g i j : Nat) (w : Value) : Prop := match fx_sl g j with
  | (so, g', mode, _, _) => (so ≤ 1 ∧ w = .int (Int32.ofInt (T j))) ∨ (so = 2 ∧ ∃ x, w = .long x) ∨ (so = 3 ∧ ∃ a, fr_at as (fx_to g' mode i j) = some a ∧ w = .ref a)
noncomputable def fr_E (T : Nat → Int) (as : List Nat) (tys : List (ClassId × FieldType)) (g i : Nat) (e : va_E) : Prop :=
  (16 ≤ fx_kd g ∧ ∃ fs : List Value, e = .inr (fx_kd g - 16, fs) ∧ fs.length = fx_n g ∧ ∀ j w, fs[j]? = some w → fr_f T as g i j w) ∨
  (fx_kd g < 16 ∧ 0 < fx_kd g ∧ ∃ (cA : ClassId) (t0 : Nat), tys[t0]? = some (cA, zr_ty (fx_kd g)) ∧
    ((fx_kd g < 4 ∧ ∃ f : Nat → Int32, e = .inl (cA, fx_n g, .inl f) ∧ ∀ j, j < fx_n g → f j = Int32.ofInt (T j)) ∨
     (fx_kd g = 4 ∧ ∃ f : Nat → Int64, e = .inl (cA, fx_n g, .inr (.inl f))) ∨
     (4 < fx_kd g ∧ ∃ f : Nat → Option Nat, e = .inl (cA, fx_n g, .inr (.inr (.inr (.inr f)))) ∧ ∀ j, j < fx_n g → ∃ a, fr_at as (fx_to (fx_sl g 0).2.1 (fx_sl g 0).2.2.1 i j) = some a ∧ f j = some a)))
noncomputable def fr_W (S : fxS) (as : List Nat) (tys : List (ClassId × FieldType)) (ws : va_W) : Prop :=
  (∀ (k : Nat) (q : Nat × va_E), ws[k]? = some q → q.1 ∈ as) ∧ ∀ g i, i < fx_ct g → ∃ (q : Nat) (e : va_E), as[fx_flat g i]? = some q ∧ ws[fx_flat g i]? = some (q, e) ∧ fr_E (S g i) as tys g i e
/-- the bounds of all slots that hold numbers -/
noncomputable def fr_T (S : fxS) : Prop := ∀ g i j, i < fx_ct g → j < fx_n g → (fx_sl g j).1 ≠ 2 → (fx_sl g j).1 ≠ 3 → (fx_sl g j).2.2.2.1 ≤ S g i j ∧ S g i j ≤ (fx_sl g j).2.2.2.2
noncomputable def fr_HP (G : va_G) (s : State) (A : Nat → Prop) (as : List Nat) (S : fxS) (H : Heap) : Prop :=
  fr_T S ∧ ∃ (tys : List (ClassId × FieldType)) (ws : va_W), va_K G vwCl tys s ∧ fr_W S as tys ws ∧ va_P G vwCl ws H ∧ va_D A ws ∧ ∀ a ∈ as, A a
/-- what the groups' rows must be -/
def fx_oka (kd : Nat) (sl : List fxSl) : Bool := match sl with
  | [(so, _, _, lo, hi)] => (decide (kd = 1 ∧ so = 0 ∧ -2147483648 ≤ lo ∧ hi < 2147483648)) || (decide (kd = 2 ∧ so = 4 ∧ lo = -128 ∧ hi = 127) || (decide (kd = 3 ∧ so = 1 ∧ lo = 0 ∧ hi = 1) || (decide (kd = 4 ∧ so = 2) || decide (4 < kd ∧ so = 3))))
  | _ => false
def fx_oks (q : fxSl) : Bool := match q with | (so, _, _, lo, hi) => decide (so < 4 ∧ -2147483648 ≤ lo ∧ hi < 2147483648 ∧ (so = 1 → 0 ≤ lo ∧ hi ≤ 1))
def fx_okr (r : fxGr) : Bool := cond (Nat.blt r.1 16) (decide (r.2.1 < 2147483648) && fx_oka r.1 r.2.2.2.2.2) (decide (r.2.2.2.2.2.length = r.2.1) && r.2.2.2.2.2.all fx_oks)
theorem fx_groups_ok : fx_groups.all fx_okr = true := by decide +kernel
theorem fx_g_eq (g : Nat) : fx_g g = (fx_groups[g]?).getD (0, 0, 0, 0, 0, []) := zx_N_eq _ _ _
theorem fx_g_in {g i : Nat} (h : i < fx_ct g) : fx_g g ∈ fx_groups := by
  unfold fx_ct at h
  rw [fx_g_eq] at h ⊢
  cases hg : fx_groups[g]? with
  | none => rw [hg] at h; exact absurd h (Nat.not_lt_zero _)
  | some r => exact List.mem_of_getElem? hg
theorem fx_okg {g i : Nat} (h : i < fx_ct g) : fx_okr (fx_g g) = true := List.all_eq_true.mp fx_groups_ok _ (fx_g_in h)
theorem fx_len : fx_groups.length = 80 := rfl
theorem fx_g80 {g i : Nat} (h : i < fx_ct g) : g < 80 := by
  unfold fx_ct at h
  rw [fx_g_eq] at h
  cases hg : fx_groups[g]? with
  | none => rw [hg] at h; exact absurd h (Nat.not_lt_zero _)
  | some r => rw [← fx_len]; exact (List.getElem?_eq_some_iff.mp hg).1
noncomputable def fx_invc : Bool := (List.range 80).all (fun g => (List.range (fx_ct g)).all (fun i => decide (zx_N (0, 0) (zx_N [] fx_inv (fx_flat g i / 32)) (fx_flat g i % 32) = (g, i))))
set_option maxRecDepth 20000 in
theorem fx_inv_ok : fx_invc = true := by decide +kernel
theorem fx_inj {g i g' i' : Nat} (h : i < fx_ct g) (h' : i' < fx_ct g') (e : fx_flat g i = fx_flat g' i') : g = g' ∧ i = i' := by
  have h1 := of_decide_eq_true (List.all_eq_true.mp (List.all_eq_true.mp fx_inv_ok g (List.mem_range.mpr (fx_g80 h))) i (List.mem_range.mpr h))
  have h2 := of_decide_eq_true (List.all_eq_true.mp (List.all_eq_true.mp fx_inv_ok g' (List.mem_range.mpr (fx_g80 h'))) i' (List.mem_range.mpr h'))
  rw [e] at h1
  have := h1.symm.trans h2
  exact ⟨congrArg Prod.fst this, congrArg Prod.snd this⟩
/-- what a group's row says -/
theorem fx_arr {g i : Nat} (h : i < fx_ct g) (hk : fx_kd g < 16) : fx_n g < 2147483648 ∧ ∃ so g' mode lo hi, (∀ j, fx_sl g j = (so, g', mode, lo, hi)) ∧ ((fx_kd g = 1 ∧ so = 0 ∧ -2147483648 ≤ lo ∧ hi < 2147483648) ∨ (fx_kd g = 2 ∧ so = 4 ∧ lo = -128 ∧ hi = 127) ∨ (fx_kd g = 3 ∧ so = 1 ∧ lo = 0 ∧ hi = 1) ∨ (fx_kd g = 4 ∧ so = 2) ∨ (4 < fx_kd g ∧ so = 3)) := by
  have hok := fx_okg h
  unfold fx_kd at hk ⊢
  unfold fx_n fx_sl
  generalize fx_g g = r at hok hk ⊢
  obtain ⟨kd, n, c, b, s, sl⟩ := r
  have hk : kd < 16 := hk
  have hok : cond (Nat.blt kd 16) (decide (n < 2147483648) && fx_oka kd sl) (decide (sl.length = n) && sl.all fx_oks) = true := hok
  rw [zx_blt.mpr hk] at hok
  obtain ⟨h1, h2⟩ := zx_an hok
  refine ⟨of_decide_eq_true h1, ?_⟩
  rcases sl with _ | ⟨⟨so, g', mode, lo, hi⟩, _ | ⟨x, r⟩⟩
  · exact absurd h2 Bool.false_ne_true
  · refine ⟨so, g', mode, lo, hi, fun j => ?_, ?_⟩
    · show zx_N (9, 0, 0, 0, 0) [(so, g', mode, lo, hi)] (cond (Nat.blt kd 16) 0 j) = _
      rw [zx_blt.mpr hk]
      rfl
    · show (kd = 1 ∧ _) ∨ (kd = 2 ∧ _) ∨ (kd = 3 ∧ _) ∨ (kd = 4 ∧ _) ∨ (4 < kd ∧ _)
      rcases Bool.or_eq_true_iff.mp h2 with q | q
      · exact Or.inl (of_decide_eq_true q)
      rcases Bool.or_eq_true_iff.mp q with q | q
      · exact Or.inr (Or.inl (of_decide_eq_true q))
      rcases Bool.or_eq_true_iff.mp q with q | q
      · exact Or.inr (Or.inr (Or.inl (of_decide_eq_true q)))
      rcases Bool.or_eq_true_iff.mp q with q | q
      · exact Or.inr (Or.inr (Or.inr (Or.inl (of_decide_eq_true q))))
      · exact Or.inr (Or.inr (Or.inr (Or.inr (of_decide_eq_true q))))
  · exact absurd h2 Bool.false_ne_true
theorem fx_obj {g i j : Nat} (h : i < fx_ct g) (hk : ¬ fx_kd g < 16) (hj : j < fx_n g) : (fx_sl g j).1 < 4 ∧ -2147483648 ≤ (fx_sl g j).2.2.2.1 ∧ (fx_sl g j).2.2.2.2 < 2147483648 ∧ ((fx_sl g j).1 = 1 → 0 ≤ (fx_sl g j).2.2.2.1 ∧ (fx_sl g j).2.2.2.2 ≤ 1) := by
  have hok := fx_okg h
  unfold fx_kd at hk
  unfold fx_n at hj
  unfold fx_sl
  generalize fx_g g = r at hok hk hj ⊢
  obtain ⟨kd, n, c, b, s, sl⟩ := r
  have hk : ¬ kd < 16 := hk
  have hj : j < n := hj
  have hok : cond (Nat.blt kd 16) (decide (n < 2147483648) && fx_oka kd sl) (decide (sl.length = n) && sl.all fx_oks) = true := hok
  rw [zx_nblt.mpr hk] at hok
  obtain ⟨h1, h2⟩ := zx_an hok
  have h1 := of_decide_eq_true h1
  have hjl : j < sl.length := by rw [h1]; exact hj
  have e : fx_slr (kd, n, c, b, s, sl) j = sl[j] := by
    show zx_N (9, 0, 0, 0, 0) sl (cond (Nat.blt kd 16) 0 j) = _
    rw [zx_nblt.mpr hk]
    show zx_N (9, 0, 0, 0, 0) sl j = _
    rw [zx_N_eq, List.getElem?_eq_getElem hjl]; rfl
  rw [e]
  have h3 := List.all_eq_true.mp h2 sl[j] (List.getElem_mem hjl)
  generalize sl[j] = q at h3
  obtain ⟨so, g', mode, lo, hi⟩ := q
  exact of_decide_eq_true h3
theorem fx_g80n {g : Nat} (h : 0 < fx_kd g + fx_n g) : g < 80 := by
  unfold fx_kd fx_n at h
  rw [fx_g_eq] at h
  cases hg : fx_groups[g]? with
  | none => rw [hg] at h; exact absurd h (Nat.not_lt_zero _)
  | some r => rw [← fx_len]; exact (List.getElem?_eq_some_iff.mp hg).1
theorem fr_at_some {as : List Nat} {g i a : Nat} (h : fr_at as (g, i) = some a) (h80 : 0 < fx_kd g + fx_n g) : i < fx_ct g ∧ as[fx_flat g i]? = some a := by
  have h8 := fx_g80n h80
  unfold fr_at at h
  split at h
  · exact ⟨‹_›, h⟩
  · rw [if_neg (show ¬ 1000 ≤ g by omega)] at h
    cases h
theorem fr_W_get {S : fxS} {as : List Nat} {tys : List (ClassId × FieldType)} {ws : va_W} (hW : fr_W S as tys ws) {g i a : Nat} (h : fr_at as (g, i) = some a) (h80 : 0 < fx_kd g + fx_n g) : i < fx_ct g ∧ ∃ e, ws[fx_flat g i]? = some (a, e) ∧ fr_E (S g i) as tys g i e := by
  obtain ⟨h1, h2⟩ := fr_at_some h h80
  obtain ⟨q, e, k1, k2, k3⟩ := hW.2 g i h1
  have h2 : as[fx_flat g i]? = some a := h2
  rw [h2] at k1
  cases k1
  exact ⟨h1, e, k2, k3⟩
theorem fr_W_set {S S' : fxS} {as : List Nat} {tys : List (ClassId × FieldType)} {ws : va_W} (hW : fr_W S as tys ws) {g i a : Nat} (hi : i < fx_ct g) {e e0 : va_E} (h0 : ws[fx_flat g i]? = some (a, e0)) (ha : as[fx_flat g i]? = some a) (hE : fr_E (S' g i) as tys g i e) (hS : ∀ g' i', ¬ (g' = g ∧ i' = i) → S' g' i' = S g' i') : fr_W S' as tys (ws.set (fx_flat g i) (a, e)) := by
  refine ⟨fun k q hq => ?_, ?_⟩
  · by_cases hk : fx_flat g i = k
    · subst hk
      rw [List.getElem?_set_self (List.getElem?_eq_some_iff.mp h0).1] at hq
      cases hq
      exact List.mem_of_getElem? ha
    · rw [List.getElem?_set_ne hk] at hq
      exact hW.1 k q hq
  intro g' i' h'
  by_cases hq : g' = g ∧ i' = i
  · obtain ⟨rfl, rfl⟩ := hq
    exact ⟨a, e, ha, List.getElem?_set_self (List.getElem?_eq_some_iff.mp h0).1, hE⟩
  · obtain ⟨q, e', k1, k2, k3⟩ := hW.2 g' i' h'
    have hne : fx_flat g i ≠ fx_flat g' i' := fun q => hq (by obtain ⟨a1, a2⟩ := fx_inj hi h' q; exact ⟨a1.symm, a2.symm⟩)
    refine ⟨q, e', k1, by rw [List.getElem?_set_ne hne]; exact k2, ?_⟩
    rw [hS g' i' hq]
    exact k3
theorem fx_up_ne (S : fxS) (g i j : Nat) (z : Int) (g' i' : Nat) (h : ¬ (g' = g ∧ i' = i)) : fx_up S g i j z g' i' = S g' i' := by
  funext j'
  exact if_neg (fun q => h ⟨q.1, q.2.1⟩)
theorem fx_up_eq (S : fxS) (g i j : Nat) (z : Int) (j' : Nat) : fx_up S g i j z g i j' = if j' = j then z else S g i j' := by
  unfold fx_up
  by_cases h : j' = j
  · rw [if_pos ⟨rfl, rfl, h⟩, if_pos h]
  · rw [if_neg (fun q => h q.2.2), if_neg h]
theorem fr_T_up {S : fxS} (hT : fr_T S) {g i j : Nat} {z : Int} (h1 : (fx_sl g j).2.2.2.1 ≤ z) (h2 : z ≤ (fx_sl g j).2.2.2.2) : fr_T (fx_up S g i j z) := by
  intro g' i' j' a1 a2 a3 a4
  unfold fx_up
  by_cases h : g' = g ∧ i' = i ∧ j' = j
  · rw [if_pos h]
    obtain ⟨rfl, rfl, rfl⟩ := h
    exact ⟨h1, h2⟩
  · rw [if_neg h]
    exact hT g' i' j' a1 a2 a3 a4
