/-- the script's cell, and the cells that were there as the frame began -/
abbrev zxBB : Type := Nat × List Nat
-- names: a byte is a sign; a name is signs and behind them 0
def zr_sign (c : Nat) : Bool := (Nat.ble 97 c && Nat.ble c 122) || (Nat.ble 48 c && Nat.ble c 57)
def zr_nmN (n : Nat) : Bool := !(Nat.beq n 0) && (List.range 8).all (fun i => Nat.beq (n / 256 ^ i) 0 || zr_sign (n / 256 ^ i % 256))
def zr_nm (x : Int64) : Bool := zr_nmN x.toBitVec.toNat
def zr_hi (σ : Nat → Int32) (i : Nat) : Int64 := (σ i).toInt64 <<< ((nI 32).toInt64 &&& 63)
def zr_lo (σ : Nat → Int32) (j : Nat) : Int64 := (σ j).toInt64 &&& lN 4294967295
def zr_l (σ : Nat → Int32) (n : Nat) : Int64 := if n < 200 then zr_hi σ (n - 100) else if n < 1000 then zr_lo σ (n - 200) else zr_hi σ ((n - 1000) / 8) ||| zr_lo σ ((n - 1000) % 8)
/-- the int that a name stands for -/
def zr_d (σ : Nat → Int32) (id : Nat) : Int32 := if id < 100 then σ id else if zr_nm (zr_l σ (1000 + (id - 100))) = true then 1 else 0
/-- the number that the bounds speak of -/
def zr_n (σ : Nat → Int32) (id : Nat) : Nat := if id < 300 then zr_b (zr_d σ id) else zx_ord (zr_b (σ ((id - 300) / 16))) (zr_b (σ ((id - 300) % 16)))
def zr (σ : Nat → Int32) (b : zxBB) (as : List Nat) (n : Nat) (v : Value) : Prop :=
  if n % 8 = 0 then v = .int (nI (n / 8)) else if n % 8 = 1 then v = .long (lN (n / 8)) else if n % 8 = 2 then (n = 2 ∧ v = .null) ∨ (n = 10 ∧ v = .ref b.1)
  else if n % 8 = 3 then ∃ q, as[n / 8]? = some q ∧ v = .ref q else if n % 8 = 4 then v = .int (zr_d σ (n / 8)) else if n % 8 = 5 then v = .long (zr_d σ (n / 8)).toInt64
  else if n % 8 = 6 then ∃ x, v = .int x else ∃ x, v = .long x ∧ (n / 8 ≠ 0 → x = zr_l σ (n / 8))
def zr_in (σ : Nat → Int32) (st : zxST) : Prop := ∀ q ∈ st, q.2.1 ≤ zr_n σ q.1 ∧ zr_n σ q.1 ≤ q.2.2
section ZR
variable {σ : Nat → Int32} {b : zxBB} {as : List Nat} {n : Nat} {v : Value}
theorem zr_0 (h : n % 8 = 0) : zr σ b as n v ↔ v = .int (nI (n / 8)) := by unfold zr; rw [if_pos h]
theorem zr_1 (h : n % 8 = 1) : zr σ b as n v ↔ v = .long (lN (n / 8)) := by unfold zr; rw [if_neg (by omega), if_pos h]
theorem zr_2' (h : n % 8 = 2) : zr σ b as n v ↔ ((n = 2 ∧ v = .null) ∨ (n = 10 ∧ v = .ref b.1)) := by unfold zr; rw [if_neg (by omega), if_neg (by omega), if_pos h]
theorem zr_3 (h : n % 8 = 3) : zr σ b as n v ↔ ∃ q, as[n / 8]? = some q ∧ v = .ref q := by unfold zr; rw [if_neg (by omega), if_neg (by omega), if_neg (by omega), if_pos h]
theorem zr_4 (h : n % 8 = 4) : zr σ b as n v ↔ v = .int (zr_d σ (n / 8)) := by unfold zr; rw [if_neg (by omega), if_neg (by omega), if_neg (by omega), if_neg (by omega), if_pos h]
theorem zr_5 (h : n % 8 = 5) : zr σ b as n v ↔ v = .long (zr_d σ (n / 8)).toInt64 := by unfold zr; rw [if_neg (by omega), if_neg (by omega), if_neg (by omega), if_neg (by omega), if_neg (by omega), if_pos h]
theorem zr_6 (h : n % 8 = 6) : zr σ b as n v ↔ ∃ x, v = .int x := by unfold zr; rw [if_neg (by omega), if_neg (by omega), if_neg (by omega), if_neg (by omega), if_neg (by omega), if_neg (by omega), if_pos h]
theorem zr_7 (h : n % 8 = 7) : zr σ b as n v ↔ ∃ x, v = .long x ∧ (n / 8 ≠ 0 → x = zr_l σ (n / 8)) := by unfold zr; rw [if_neg (by omega), if_neg (by omega), if_neg (by omega), if_neg (by omega), if_neg (by omega), if_neg (by omega), if_neg (by omega)]
theorem zx_i_iff (n : Nat) : zx_i n = true ↔ n % 8 = 0 ∨ n % 8 = 4 ∨ n % 8 = 6 := by unfold zx_i; simp only [Bool.or_eq_true, zx_beq]
theorem zx_2_iff (n : Nat) : zx_2 n = true ↔ n % 8 = 1 ∨ n % 8 = 5 ∨ n % 8 = 7 := by unfold zx_2; simp only [Bool.or_eq_true, zx_beq]
theorem zx_r_iff (n : Nat) : zx_r n = true ↔ n % 8 = 3 ∨ n = 10 := by unfold zx_r; simp only [Bool.or_eq_true, zx_beq]
theorem zr_int (hi : zx_i n = true) (h : zr σ b as n v) : ∃ x, v = .int x := by
  rcases (zx_i_iff n).mp hi with e | e | e
  · exact ⟨_, (zr_0 e).mp h⟩
  · exact ⟨_, (zr_4 e).mp h⟩
  · exact (zr_6 e).mp h
theorem zr_long (hi : zx_2 n = true) (h : zr σ b as n v) : ∃ x, v = .long x := by
  rcases (zx_2_iff n).mp hi with e | e | e
  · exact ⟨_, (zr_1 e).mp h⟩
  · exact ⟨_, (zr_5 e).mp h⟩
  · obtain ⟨x, h1, -⟩ := (zr_7 e).mp h; exact ⟨x, h1⟩
theorem zr_ref (hi : zx_r n = true) (h : zr σ b as n v) : ∃ q, v = .ref q := by
  rcases (zx_r_iff n).mp hi with e | e
  · obtain ⟨q, -, h1⟩ := (zr_3 e).mp h; exact ⟨q, h1⟩
  · subst e
    rcases (zr_2' rfl).mp h with ⟨h1, -⟩ | ⟨-, h1⟩
    · exact absurd h1 (by decide)
    · exact ⟨b.1, h1⟩
theorem zr_cat (h : zr σ b as n v) : (v.category == 2) = zx_2 n := by
  have h8 : n % 8 < 8 := Nat.mod_lt _ (by decide)
  by_cases h2 : zx_2 n = true
  · obtain ⟨x, rfl⟩ := zr_long h2 h
    rw [h2]; rfl
  · have h3 : zx_2 n = false := Bool.not_eq_true _ ▸ h2
    rw [h3]
    have hq : ¬ (n % 8 = 1 ∨ n % 8 = 5 ∨ n % 8 = 7) := fun q => h2 ((zx_2_iff n).mpr q)
    by_cases hi : zx_i n = true
    · obtain ⟨x, rfl⟩ := zr_int hi h; rfl
    · have hj : ¬ (n % 8 = 0 ∨ n % 8 = 4 ∨ n % 8 = 6) := fun q => hi ((zx_i_iff n).mpr q)
      by_cases h4 : n % 8 = 3
      · obtain ⟨q, -, rfl⟩ := (zr_3 h4).mp h; rfl
      · have h5 : n % 8 = 2 := by omega
        rcases (zr_2' h5).mp h with ⟨-, rfl⟩ | ⟨-, rfl⟩ <;> rfl
theorem zr_cat1 (hi : zx_2 n = false) (h : zr σ b as n v) : v.category = 1 := by
  have h1 := zr_cat h
  rw [hi] at h1
  rcases lv_cat v with h2 | h2
  · exact h2
  · rw [h2] at h1; cases h1
theorem zr_mono (e : List Nat) (h : zr σ b as n v) : zr σ b (as ++ e) n v := by
  by_cases h3 : n % 8 = 3
  · obtain ⟨q, h1, h2⟩ := (zr_3 h3).mp h
    refine (zr_3 h3).mpr ⟨q, ?_, h2⟩
    rw [List.getElem?_append_left (List.getElem?_eq_some_iff.mp h1).1]; exact h1
  · unfold zr at h ⊢
    rw [if_neg h3] at h ⊢
    exact h
end ZR
theorem zr_n_lt (σ : Nat → Int32) (id : Nat) : zr_n σ id ≤ 4294967295 := by
  unfold zr_n
  split
  · have := zr_b_lt (zr_d σ id); omega
  · have := zx_ord_le (zr_b (σ ((id - 300) / 16))) (zr_b (σ ((id - 300) % 16))); omega
theorem zr_n_s {σ : Nat → Int32} {id : Nat} (h : id < 300) : zr_n σ id = zr_b (zr_d σ id) := by unfold zr_n; rw [if_pos h]
theorem zr_in_cons {σ : Nat → Int32} {st : zxST} {id lo hi : Nat} (h : zr_in σ st) (h1 : lo ≤ zr_n σ id) (h2 : zr_n σ id ≤ hi) : zr_in σ ((id, lo, hi) :: st) := by
  intro q hq
  rcases List.mem_cons.mp hq with e | e
  · subst e; exact ⟨h1, h2⟩
  · exact h q e
theorem zx_V_ok {β : Type} (id : Nat) (kk : Nat → Nat → β) : ∀ st : zxST, ∃ lo hi, zx_V st id kk = kk lo hi ∧ ∀ σ, zr_in σ st → lo ≤ zr_n σ id ∧ zr_n σ id ≤ hi
  | [] => ⟨0, 4294967295, rfl, fun σ _ => ⟨Nat.zero_le _, zr_n_lt σ id⟩⟩
  | (a, lo, hi) :: st => by
    have e : zx_V ((a, lo, hi) :: st) id kk = cond (Nat.beq a id) (kk lo hi) (zx_V st id kk) := rfl
    by_cases h : a = id
    · refine ⟨lo, hi, ?_, fun σ hσ => ?_⟩
      · rw [e, zx_beq.mpr h]; rfl
      · subst h; exact hσ _ List.mem_cons_self
    · obtain ⟨lo2, hi2, e2, h2⟩ := zx_V_ok id kk st
      refine ⟨lo2, hi2, ?_, fun σ hσ => h2 σ (fun q hq => hσ q (List.mem_cons_of_mem _ hq))⟩
      rw [e, zx_nbeq.mpr h]; exact e2
theorem zx_M_ok {β : Type} (c : Nat) (st : zxST) (kk : Nat → β) : ∃ c', zx_M c st kk = kk c' ∧ (zx_i c = true → zx_i c' = true) ∧ (zx_i c = false → c' = c) ∧ ∀ σ b as v, zr_in σ st → zr σ b as c v → zr σ b as c' v := by
  unfold zx_M
  cases h4 : Nat.beq (c % 8) 4 with
  | false => exact ⟨c, rfl, id, fun _ => rfl, fun _ _ _ _ _ h => h⟩
  | true =>
    have h4' := zx_beq.mp h4
    obtain ⟨lo, hi, e, hb⟩ := zx_V_ok (c / 8) (fun lo hi => cond (Nat.beq lo hi && Nat.blt (c / 8) 300) (zx_F (8 * zx_u lo) kk) (kk c)) st
    show ∃ c', zx_V st (c / 8) (fun lo hi => cond (Nat.beq lo hi && Nat.blt (c / 8) 300) (zx_F (8 * zx_u lo) kk) (kk c)) = kk c' ∧ _
    rw [e]
    cases hl : (Nat.beq lo hi && Nat.blt (c / 8) 300) with
    | false => exact ⟨c, rfl, id, fun _ => rfl, fun _ _ _ _ _ h => h⟩
    | true =>
      obtain ⟨h1, h2⟩ := zx_an hl
      have h1 := zx_beq.mp h1
      have h2 := zx_blt.mp h2
      simp only [cond_true, zx_F_eq]
      refine ⟨8 * zx_u lo, rfl, fun _ => (zx_i_iff _).mpr (Or.inl (by omega)), fun hf => ?_, fun σ b as v hσ hv => ?_⟩
      · exact absurd ((zx_i_iff c).mpr (Or.inr (Or.inl h4'))) (by rw [hf]; decide)
      · have hv := (zr_4 h4').mp hv
        have g1 := (hb σ hσ).1
        have g2 := (hb σ hσ).2
        have g3 : zr_n σ (c / 8) = lo := Nat.le_antisymm (h1 ▸ g2) g1
        rw [zr_n_s h2] at g3
        refine (zr_0 (by omega)).mpr ?_
        rw [hv, Nat.mul_div_cancel_left _ (by decide), ← g3, zr_nI_u]
theorem zx_C_ok {c : Nat} {st : zxST} {kk : Nat → zxST → Bool} (h : zx_C c st kk = true) {σ : Nat → Int32} (hσ : zr_in σ st) : ∃ c' st', kk c' st' = true ∧ zr_in σ st' ∧ ∀ b as v, zr σ b as c v → zr σ b as c' v := by
  unfold zx_C at h
  rcases zx_ct h with ⟨h4, h⟩ | ⟨-, h⟩
  · have h4' := zx_beq.mp h4
    rw [zx_F_eq] at h
    obtain ⟨lo, hi, e, hb⟩ := zx_V_ok (c / 8) (fun lo hi => cond (Nat.ble (hi - lo) 64 && (Nat.ble lo hi && Nat.blt (c / 8) 300)) (zx_R (Nat.succ (hi - lo)) (fun j => zx_F (lo + j) (fun v => zx_F (8 * zx_u v) (fun cv => kk cv ((c / 8, v, v) :: st))))) (kk c st)) st
    rw [e] at h
    rcases zx_ct h with ⟨h5, h⟩ | ⟨-, h⟩
    · obtain ⟨-, h5⟩ := zx_an h5
      obtain ⟨h5, h6⟩ := zx_an h5
      have h6 := zx_blt.mp h6
      obtain ⟨g1, g2⟩ := hb σ hσ
      have h := zx_R_ok h (zr_n σ (c / 8) - lo) (by omega)
      rw [zx_F_eq, zx_F_eq] at h
      have e3 : lo + (zr_n σ (c / 8) - lo) = zr_n σ (c / 8) := by omega
      rw [e3] at h
      refine ⟨_, _, h, zr_in_cons hσ (Nat.le_refl _) (Nat.le_refl _), fun b as v hv => ?_⟩
      have hv := (zr_4 h4').mp hv
      refine (zr_0 (by omega)).mpr ?_
      rw [hv, Nat.mul_div_cancel_left _ (by decide), zr_n_s h6, zr_nI_u]
    · exact ⟨c, st, h, hσ, fun _ _ _ h => h⟩
  · exact ⟨c, st, h, hσ, fun _ _ _ h => h⟩
theorem zx_X_ok {st : zxST} {id b : Nat} {kk : Nat → zxST → Bool} (h : zx_X st id b kk = true) {σ : Nat → Int32} (hσ : zr_in σ st) : ∃ st', kk (zx_ord (zr_n σ id) b) st' = true ∧ zr_in σ st' := by
  unfold zx_X at h
  obtain ⟨lo, hi, e, hb⟩ := zx_V_ok id (fun lo hi => and (cond (Nat.blt lo b) (zx_F (cond (Nat.blt hi b) hi (b - 1)) (fun h1 => kk 0 ((id, lo, h1) :: st))) true) (and (cond (Nat.ble lo b && Nat.ble b hi) (kk 1 ((id, b, b) :: st)) true) (cond (Nat.blt b hi) (zx_F (cond (Nat.blt b lo) lo (Nat.succ b)) (fun l1 => kk 2 ((id, l1, hi) :: st))) true))) st
  rw [e] at h
  obtain ⟨g1, g2⟩ := hb σ hσ
  obtain ⟨h1, h⟩ := zx_an h
  obtain ⟨h2, h3⟩ := zx_an h
  rcases Nat.lt_trichotomy (zr_n σ id) b with c1 | c1 | c1
  · rw [zx_blt.mpr (by omega : lo < b)] at h1
    have h1 : zx_F (cond (Nat.blt hi b) hi (b - 1)) (fun h1 => kk 0 ((id, lo, h1) :: st)) = true := h1
    rw [zx_F_eq] at h1
    rw [zx_ord_0.mpr c1]
    refine ⟨_, h1, zr_in_cons hσ g1 ?_⟩
    cases Nat.blt hi b
    · show _ ≤ b - 1; omega
    · exact g2
  · rw [zx_ble.mpr (by omega : lo ≤ b), zx_ble.mpr (by omega : b ≤ hi)] at h2
    rw [zx_ord_1.mpr c1]
    exact ⟨_, h2, zr_in_cons hσ (by omega) (by omega)⟩
  · rw [zx_blt.mpr (by omega : b < hi)] at h3
    have h3 : zx_F (cond (Nat.blt b lo) lo (Nat.succ b)) (fun l1 => kk 2 ((id, l1, hi) :: st)) = true := h3
    rw [zx_F_eq] at h3
    rw [zx_ord_2.mpr c1]
    refine ⟨_, h3, zr_in_cons hσ ?_ g2⟩
    cases Nat.blt b lo
    · show b + 1 ≤ _; omega
    · exact g1
theorem zx_Y_ok {st : zxST} {i j : Nat} {kk : Nat → zxST → Bool} (h : zx_Y st i j kk = true) {σ : Nat → Int32} (hσ : zr_in σ st) : ∃ st', kk (zx_ord (zr_b (zr_d σ i)) (zr_b (zr_d σ j))) st' = true ∧ zr_in σ st' := by
  unfold zx_Y at h
  rcases zx_ct h with ⟨h1, h2⟩ | ⟨-, h⟩
  · have h1 := zx_beq.mp h1
    rw [h1, zx_ord_1.mpr rfl]
    exact ⟨st, h2, hσ⟩
  · obtain ⟨h1, h⟩ := zx_c1 h
    obtain ⟨h1, h2⟩ := zx_an h1
    have h1 := zx_blt.mp h1
    have h2 := zx_blt.mp h2
    rw [zx_F_eq] at h
    obtain ⟨lo, hi, e, hb⟩ := zx_V_ok (300 + 16 * i + j) (fun lo hi => and (cond (Nat.ble lo 0) (kk 0 ((300 + 16 * i + j, 0, 0) :: st)) true) (and (cond (Nat.ble lo 1 && Nat.ble 1 hi) (kk 1 ((300 + 16 * i + j, 1, 1) :: st)) true) (cond (Nat.ble 2 hi) (kk 2 ((300 + 16 * i + j, 2, 2) :: st)) true))) st
    rw [e] at h
    obtain ⟨g1, g2⟩ := hb σ hσ
    have en : zr_n σ (300 + 16 * i + j) = zx_ord (zr_b (zr_d σ i)) (zr_b (zr_d σ j)) := by
      unfold zr_n
      rw [if_neg (by omega), show (300 + 16 * i + j - 300) / 16 = i by omega, show (300 + 16 * i + j - 300) % 16 = j by omega]
      unfold zr_d
      rw [if_pos (by omega), if_pos (by omega)]
    rw [en] at g1 g2
    have hle := zx_ord_le (zr_b (zr_d σ i)) (zr_b (zr_d σ j))
    obtain ⟨k0, h⟩ := zx_an h
    obtain ⟨k1, k2⟩ := zx_an h
    generalize zx_ord (zr_b (zr_d σ i)) (zr_b (zr_d σ j)) = o at en g1 g2 hle ⊢
    rcases (show o = 0 ∨ o = 1 ∨ o = 2 by omega) with c1 | c1 | c1
    · subst c1
      rw [zx_ble.mpr (by omega : lo ≤ 0)] at k0
      exact ⟨_, k0, zr_in_cons hσ (by omega) (by omega)⟩
    · subst c1
      rw [zx_ble.mpr (by omega : lo ≤ 1), zx_ble.mpr (by omega : 1 ≤ hi)] at k1
      exact ⟨_, k1, zr_in_cons hσ (by omega) (by omega)⟩
    · subst c1
      rw [zx_ble.mpr (by omega : 2 ≤ hi)] at k2
      exact ⟨_, k2, zr_in_cons hσ (by omega) (by omega)⟩
theorem zx_K_ok {x y : Nat} {st : zxST} {kk : Nat → zxST → Bool} (h : zx_K x y st kk = true) {σ : Nat → Int32} {b : zxBB} {as : List Nat} {vx vy : Int32} (hσ : zr_in σ st) (hx : zr σ b as x (.int vx)) (hy : zr σ b as y (.int vy)) : ∃ st', kk (zx_ord (zr_b vx) (zr_b vy)) st' = true ∧ zr_in σ st' := by
  unfold zx_K at h
  obtain ⟨x', e1, -, -, m1⟩ := zx_M_ok x st (fun x => zx_M y st (fun y =>
  cond (Nat.beq (x % 8) 0) (cond (Nat.beq (y % 8) 0) (kk (zx_ord (zx_u (x / 8)) (zx_u (y / 8))) st) (cond (Nat.beq (y % 8) 4 && Nat.blt (y / 8) 300) (zx_F (y / 8) (fun id => zx_F (zx_u (x / 8)) (fun b => zx_X st id b (fun o s => kk (2 - o) s)))) false))
    (cond (Nat.beq (x % 8) 4 && Nat.blt (x / 8) 300) (cond (Nat.beq (y % 8) 0) (zx_F (x / 8) (fun id => zx_F (zx_u (y / 8)) (fun b => zx_X st id b kk))) (cond (Nat.beq (y % 8) 4) (zx_F (x / 8) (fun i => zx_F (y / 8) (fun j => zx_Y st i j kk))) false)) false)))
  rw [e1] at h
  have hx := m1 σ b as _ hσ hx
  obtain ⟨y', e2, -, -, m2⟩ := zx_M_ok y st (fun y =>
  cond (Nat.beq (x' % 8) 0) (cond (Nat.beq (y % 8) 0) (kk (zx_ord (zx_u (x' / 8)) (zx_u (y / 8))) st) (cond (Nat.beq (y % 8) 4 && Nat.blt (y / 8) 300) (zx_F (y / 8) (fun id => zx_F (zx_u (x' / 8)) (fun b => zx_X st id b (fun o s => kk (2 - o) s)))) false))
    (cond (Nat.beq (x' % 8) 4 && Nat.blt (x' / 8) 300) (cond (Nat.beq (y % 8) 0) (zx_F (x' / 8) (fun id => zx_F (zx_u (y / 8)) (fun b => zx_X st id b kk))) (cond (Nat.beq (y % 8) 4) (zx_F (x' / 8) (fun i => zx_F (y / 8) (fun j => zx_Y st i j kk))) false)) false))
  rw [e2] at h
  have hy := m2 σ b as _ hσ hy
  rcases zx_ct h with ⟨a1, h⟩ | ⟨-, h⟩
  · have a1 := zx_beq.mp a1
    have hx : vx = nI (x' / 8) := Value.int.inj ((zr_0 a1).mp hx)
    rcases zx_ct h with ⟨a2, h⟩ | ⟨-, h⟩
    · have a2 := zx_beq.mp a2
      have hy : vy = nI (y' / 8) := Value.int.inj ((zr_0 a2).mp hy)
      rw [hx, hy, zr_b_nI, zr_b_nI]
      exact ⟨st, h, hσ⟩
    · obtain ⟨a2, h⟩ := zx_c1 h
      obtain ⟨a2, a3⟩ := zx_an a2
      have a2 := zx_beq.mp a2
      have a3 := zx_blt.mp a3
      have hy : vy = zr_d σ (y' / 8) := Value.int.inj ((zr_4 a2).mp hy)
      rw [zx_F_eq, zx_F_eq] at h
      obtain ⟨st', h, hσ'⟩ := zx_X_ok h hσ
      rw [zx_ord_sw, zr_n_s a3, ← zr_b_nI, ← hx, ← hy] at h
      exact ⟨st', h, hσ'⟩
  · obtain ⟨a1, h⟩ := zx_c1 h
    obtain ⟨a1, a3⟩ := zx_an a1
    have a1 := zx_beq.mp a1
    have a3 := zx_blt.mp a3
    have hx : vx = zr_d σ (x' / 8) := Value.int.inj ((zr_4 a1).mp hx)
    rcases zx_ct h with ⟨a2, h⟩ | ⟨-, h⟩
    · have a2 := zx_beq.mp a2
      have hy : vy = nI (y' / 8) := Value.int.inj ((zr_0 a2).mp hy)
      rw [zx_F_eq, zx_F_eq] at h
      obtain ⟨st', h, hσ'⟩ := zx_X_ok h hσ
      rw [zr_n_s a3, ← zr_b_nI, ← hx, ← hy] at h
      exact ⟨st', h, hσ'⟩
    · obtain ⟨a2, h⟩ := zx_c1 h
      have a2 := zx_beq.mp a2
      have hy : vy = zr_d σ (y' / 8) := Value.int.inj ((zr_4 a2).mp hy)
      rw [zx_F_eq, zx_F_eq] at h
      obtain ⟨st', h, hσ'⟩ := zx_Y_ok h hσ
      rw [← hx, ← hy] at h
      exact ⟨st', h, hσ'⟩
