theorem zx_F_eq {β : Type} (n : Nat) (k : Nat → β) : zx_F n k = k n := by cases n <;> rfl
theorem zx_N_eq {α : Type} (d : α) : ∀ (l : List α) (i : Nat), zx_N d l i = (l[i]?).getD d
  | [], i => by simp [zx_N]
  | x :: l, 0 => rfl
  | x :: l, i + 1 => by
    have := zx_N_eq d l i
    simp only [List.getElem?_cons_succ]
    rw [← this]; rfl
theorem zx_S_eq {α β : Type} : ∀ (l : List α) (i : Nat) (v : α) (k : List α → β), zx_S l i v k = k (l.set i v)
  | [], i, v, k => by simp [zx_S]
  | x :: l, 0, v, k => rfl
  | x :: l, i + 1, v, k => (zx_S_eq l i v (fun r => k (x :: r))).trans rfl
theorem zx_P_eq {α β : Type} : ∀ (l : List α) (v : α) (k : List α → β), zx_P l v k = k (l ++ [v])
  | [], v, k => rfl
  | x :: l, v, k => (zx_P_eq l v (fun r => k (x :: r))).trans rfl
theorem zx_Z_eq {α : Type} : ∀ (l : List α), zx_Z l = l.length
  | [] => rfl
  | x :: l => by rw [List.length_cons, ← zx_Z_eq l]; rfl
theorem zx_A_cons (q : Nat × Nat) (l : List (Nat × Nat)) (d i : Nat) : zx_A (q :: l) d i = if q.1 = i then q.2 else zx_A l d i := by
  show cond (Nat.beq q.1 i) q.2 (zx_A l d i) = _
  by_cases h : q.1 = i
  · rw [if_pos h]; subst h; rw [Nat.beq_refl]; rfl
  · rw [if_neg h]
    have : Nat.beq q.1 i = false := by
      cases hb : Nat.beq q.1 i with
      | false => rfl
      | true => exact absurd (Nat.eq_of_beq_eq_true hb) h
    rw [this]; rfl
theorem zx_L_eq {β : Type} (wd : Bool) (i : Nat) : ∀ (l : zxLV) (k : zxLV → β), zx_L wd i l k = k (l.filter (fun q => !(zx_drop wd i q)))
  | [], k => rfl
  | q :: l, k => by
    show cond (zx_drop wd i q) (zx_L wd i l k) (zx_L wd i l (fun r => k (q :: r))) = _
    rw [zx_L_eq wd i l, zx_L_eq wd i l, List.filter_cons]
    cases zx_drop wd i q <;> rfl
theorem zx_beq {a b : Nat} : Nat.beq a b = true ↔ a = b := ⟨Nat.eq_of_beq_eq_true, fun h => by subst h; exact Nat.beq_refl a⟩
theorem zx_blt {a b : Nat} : Nat.blt a b = true ↔ a < b := ⟨fun h => Nat.le_of_ble_eq_true h, fun h => Nat.ble_eq_true_of_le h⟩
theorem zx_ble {a b : Nat} : Nat.ble a b = true ↔ a ≤ b := ⟨Nat.le_of_ble_eq_true, Nat.ble_eq_true_of_le⟩
theorem zx_nbeq {a b : Nat} : Nat.beq a b = false ↔ ¬ a = b := by
  rw [← zx_beq, Bool.not_eq_true]
theorem zx_nblt {a b : Nat} : Nat.blt a b = false ↔ ¬ a < b := by
  rw [← zx_blt, Bool.not_eq_true]
theorem zx_nble {a b : Nat} : Nat.ble a b = false ↔ ¬ a ≤ b := by
  rw [← zx_ble, Bool.not_eq_true]
theorem zx_c1 {c a : Bool} (h : cond c a false = true) : c = true ∧ a = true := by
  cases c with
  | false => cases h
  | true => exact ⟨rfl, h⟩
theorem zx_c0 {c a : Bool} (h : cond c false a = true) : c = false ∧ a = true := by
  cases c with
  | false => exact ⟨rfl, h⟩
  | true => cases h
theorem zx_ct {c a b : Bool} (h : cond c a b = true) : (c = true ∧ a = true) ∨ (c = false ∧ b = true) := by
  cases c with
  | false => exact Or.inr ⟨rfl, h⟩
  | true => exact Or.inl ⟨rfl, h⟩
theorem zx_an {a b : Bool} (h : and a b = true) : a = true ∧ b = true := by cases a <;> cases b <;> simp_all
theorem zx_R_ok {f : Nat → Bool} : ∀ {n : Nat}, zx_R n f = true → ∀ j, j < n → f j = true
  | 0, _, j, hj => absurd hj (Nat.not_lt_zero j)
  | n + 1, h, j, hj => by
    obtain ⟨h1, h2⟩ := zx_an h
    rcases Nat.lt_succ_iff_lt_or_eq.mp hj with h3 | h3
    · exact zx_R_ok h2 j h3
    · subst h3; exact h1
-- ints, moved by 2 ^ 31
def zr_b (x : Int32) : Nat := (x.toInt + 2147483648).toNat
theorem zr_b_toInt (x : Int32) : (zr_b x : Int) = x.toInt + 2147483648 := by
  have h1 := Int32.le_toInt x
  unfold zr_b
  omega
theorem zr_b_lt (x : Int32) : zr_b x < 4294967296 := by
  have h1 := zr_b_toInt x
  have h2 := Int32.toInt_lt x
  omega
theorem zr_nI_toInt (p : Nat) : (nI p).toInt = (p : Int).bmod 4294967296 := by
  show (Int32.ofNat p).toInt = _
  rw [Int32.toInt_ofNat']
theorem zr_b_nI (p : Nat) : zr_b (nI p) = zx_u p := by
  have h1 := zr_b_toInt (nI p)
  rw [zr_nI_toInt] at h1
  unfold zx_u
  rw [Int.bmod_def] at h1
  omega
theorem zr_b_inj {x y : Int32} (h : zr_b x = zr_b y) : x = y := by
  have h1 := zr_b_toInt x
  have h2 := zr_b_toInt y
  apply Int32.toInt_inj.mp
  omega
theorem zr_u_u (p : Nat) : zx_u (zx_u p) = p % 4294967296 := by unfold zx_u; omega
theorem zr_nI_u (x : Int32) : nI (zx_u (zr_b x)) = x := by
  apply zr_b_inj
  rw [zr_b_nI, zr_u_u]
  exact Nat.mod_eq_of_lt (zr_b_lt x)
theorem zr_lt {x y : Int32} : x < y ↔ zr_b x < zr_b y := by
  have h1 := zr_b_toInt x
  have h2 := zr_b_toInt y
  rw [Int32.lt_iff_toInt_lt]
  omega
theorem zr_le {x y : Int32} : x ≤ y ↔ zr_b x ≤ zr_b y := by
  have h1 := zr_b_toInt x
  have h2 := zr_b_toInt y
  rw [Int32.le_iff_toInt_le]
  omega
theorem zr_eq {x y : Int32} : x = y ↔ zr_b x = zr_b y := ⟨fun h => by rw [h], zr_b_inj⟩
theorem zr_nI_mod (p : Nat) : nI (p % 4294967296) = nI p := by
  apply zr_b_inj
  rw [zr_b_nI, zr_b_nI]
  unfold zx_u; omega
theorem zx_ord_0 {p q : Nat} : zx_ord p q = 0 ↔ p < q := by
  unfold zx_ord
  by_cases h : p < q
  · simp [zx_blt.mpr h, h]
  · rw [zx_nblt.mpr h]
    by_cases h2 : p = q
    · simp [zx_beq.mpr h2, h]
    · simp [zx_nbeq.mpr h2, h]
theorem zx_ord_1 {p q : Nat} : zx_ord p q = 1 ↔ p = q := by
  unfold zx_ord
  by_cases h : p < q
  · simp [zx_blt.mpr h]; omega
  · rw [zx_nblt.mpr h]
    by_cases h2 : p = q
    · simp [zx_beq.mpr h2, h2]
    · simp [zx_nbeq.mpr h2, h2]
theorem zx_ord_2 {p q : Nat} : zx_ord p q = 2 ↔ q < p := by
  unfold zx_ord
  by_cases h : p < q
  · simp [zx_blt.mpr h]; omega
  · rw [zx_nblt.mpr h]
    by_cases h2 : p = q
    · simp [zx_beq.mpr h2, h2]
    · simp [zx_nbeq.mpr h2]; omega
theorem zx_ord_le (p q : Nat) : zx_ord p q ≤ 2 := by
  unfold zx_ord
  cases Nat.blt p q <;> cases Nat.beq p q <;> simp
theorem zx_ord_sw (p q : Nat) : 2 - zx_ord p q = zx_ord q p := by
  rcases Nat.lt_trichotomy p q with h | h | h
  · rw [zx_ord_0.mpr h, zx_ord_2.mpr h]
  · rw [zx_ord_1.mpr h, zx_ord_1.mpr h.symm]
  · rw [zx_ord_2.mpr h, zx_ord_0.mpr h]
theorem zn_byte (p : Nat) : (nI p).toInt8.toInt32 = nI (cond (Nat.blt (p % 256) 128) (p % 256) (p % 256 + 4294967040)) := by
  apply Int32.toInt_inj.mp
  rw [zr_nI_toInt, Int8.toInt_toInt32, Int32.toInt_toInt8, zr_nI_toInt]
  by_cases h : p % 256 < 128
  · rw [zx_blt.mpr h]; simp only [cond_true, Int.bmod_def]; omega
  · rw [zx_nblt.mpr h]; simp only [cond_false, Int.bmod_def]; omega
theorem zn_lN_toInt (p : Nat) : (lN p).toInt = (p : Int).bmod 18446744073709551616 := by
  show (Int64.ofNat p).toInt = _
  rw [Int64.toInt_ofNat']
theorem zn_i2l (p : Nat) : (nI p).toInt64 = lN (cond (Nat.blt (p % 4294967296) 2147483648) (p % 4294967296) (p % 4294967296 + 18446744069414584320)) := by
  apply Int64.toInt_inj.mp
  rw [zn_lN_toInt, Int32.toInt_toInt64, zr_nI_toInt]
  by_cases h : p % 4294967296 < 2147483648
  · rw [zx_blt.mpr h]; simp only [cond_true, Int.bmod_def]; omega
  · rw [zx_nblt.mpr h]; simp only [cond_false, Int.bmod_def]; omega
