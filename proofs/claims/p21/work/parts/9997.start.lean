/-! the heap behind the constructors as a state of the second engine -/
noncomputable def s0_c (E : zxCE) (j : Nat) : Nat := match E with | (t, _, fs, es) => cond (Nat.blt t 16) (zx_A es (zx_N 74 fs 0) j) (zx_N 74 fs j)
noncomputable def S0 : fxS := fun g i j => zx_sI (s0_c (zx_G zx_h0 (fx_flat g i)) j / 8)
def s0_int (lo hi : Int) (c : Nat) : Bool := Nat.beq (c % 8) 0 && (Nat.blt (c / 8) 4294967296 && (decide (lo ≤ zx_sI (c / 8)) && decide (zx_sI (c / 8) ≤ hi)))
noncomputable def s0_ref (g' mode i j c : Nat) : Bool := match fx_to g' mode i j with | (a, b) => Nat.blt b (fx_ct a) && Nat.beq c (8 * fx_flat a b + 3)
noncomputable def s0_slot (i j c : Nat) (q : fxSl) : Bool := match q with | (so, g', mode, lo, hi) => (Nat.ble so 1 && s0_int lo hi c) || ((Nat.beq so 2 && zx_2 c) || (Nat.beq so 3 && s0_ref g' mode i j c))
noncomputable def s0_ints (q : fxSl) (d : Nat) (es : List (Nat × Nat)) : Bool := match q with | (_, _, _, lo, hi) => s0_int lo hi d && es.all (fun q => s0_int lo hi q.2)
noncomputable def s0_refs (q : fxSl) (i n d : Nat) (es : List (Nat × Nat)) : Bool := match q with | (_, g', mode, _, _) => (List.range n).all (fun j => s0_ref g' mode i j (zx_A es d j))
noncomputable def s0_cell (E : zxCE) (g i : Nat) : Bool := match E with
  | (t, n, fs, es) => Nat.beq t (fx_kd g) && cond (Nat.blt t 16) (Nat.beq n (fx_n g) && cond (Nat.blt t 4) (s0_ints (fx_sl g 0) (zx_N 74 fs 0) es) (cond (Nat.beq t 4) true (s0_refs (fx_sl g 0) i n (zx_N 74 fs 0) es)))
      (Nat.beq (zx_Z fs) (fx_n g) && (List.range (fx_n g)).all (fun j => s0_slot i j (zx_N 74 fs j) (fx_sl g j)))
noncomputable def s0_all : Bool := (List.range 80).all (fun g => (List.range (fx_ct g)).all (fun i => Nat.blt (fx_flat g i) 1142 && s0_cell (zx_G zx_h0 (fx_flat g i)) g i))
set_option maxRecDepth 20000 in
theorem s0_all_ok : s0_all = true := by decide +kernel
theorem s0_get {g i : Nat} (h : i < fx_ct g) : fx_flat g i < 1142 ∧ s0_cell (zx_G zx_h0 (fx_flat g i)) g i = true := by
  obtain ⟨h1, h2⟩ := zx_an (List.all_eq_true.mp (List.all_eq_true.mp s0_all_ok g (List.mem_range.mpr (fx_g80 h))) i (List.mem_range.mpr h))
  exact ⟨zx_blt.mp h1, h2⟩
theorem s0_int_ok {lo hi : Int} {c : Nat} (h : s0_int lo hi c = true) : c % 8 = 0 ∧ c / 8 < 4294967296 ∧ lo ≤ zx_sI (c / 8) ∧ zx_sI (c / 8) ≤ hi := by
  obtain ⟨h1, h2⟩ := zx_an h
  obtain ⟨h2, h3⟩ := zx_an h2
  obtain ⟨h3, h4⟩ := zx_an h3
  exact ⟨zx_beq.mp h1, zx_blt.mp h2, of_decide_eq_true h3, of_decide_eq_true h4⟩
theorem s0_A {P : Nat → Prop} {d : Nat} (hd : P d) : ∀ (es : List (Nat × Nat)), (∀ q ∈ es, P q.2) → ∀ j, P (zx_A es d j)
  | [], _, j => hd
  | q :: es, h, j => by
    rw [zx_A_cons]
    split
    · exact h q List.mem_cons_self
    · exact s0_A hd es (fun q hq => h q (List.mem_cons_of_mem _ hq)) j
theorem s0_Z {α : Type} : ∀ (l : List α), zx_Z l = l.length
  | [] => rfl
  | x :: l => by
    show Nat.succ (zx_Z l) = _
    rw [s0_Z l]; rfl
theorem s0_nI {σ : Nat → Int32} {b : zxBB} {as : List Nat} {lo hi : Int} {c : Nat} {v : Value} (h : s0_int lo hi c = true) (hz : zr σ b as c v) : v = .int (Int32.ofInt (zx_sI (c / 8))) := by
  obtain ⟨h1, h2, -, -⟩ := s0_int_ok h
  exact ((zr_0 h1).mp hz).trans (fz_nI (as := as) h2).1
theorem s0_ref_ok {σ : Nat → Int32} {b : zxBB} {as : List Nat} {g' mode i j c : Nat} {v : Value} (h : s0_ref g' mode i j c = true) (hz : zr σ b as c v) : ∃ a, fr_at as (fx_to g' mode i j) = some a ∧ v = .ref a := by
  unfold s0_ref at h
  generalize fx_to g' mode i j = q at h ⊢
  obtain ⟨x, y⟩ := q
  obtain ⟨h1, h2⟩ := zx_an h
  have h1 := zx_blt.mp h1
  have h2 := zx_beq.mp h2
  obtain ⟨a, e1, e2⟩ := (zr_3 (by omega)).mp hz
  refine ⟨a, ?_, e2⟩
  unfold fr_at
  rw [if_pos (show (x, y).2 < fx_ct (x, y).1 from h1)]
  rw [show c / 8 = fx_flat x y by omega] at e1
  exact e1
theorem s0_E {σ : Nat → Int32} {b : zxBB} {as : List Nat} {tys : List (ClassId × FieldType)} {g i : Nat} {e : va_E} (hi : i < fx_ct g) (h : zr_E σ b as tys (zx_G zx_h0 (fx_flat g i)) e) : fr_E (S0 g i) as tys g i e := by
  have hc := (s0_get hi).2
  have hS : S0 g i = fun j => zx_sI (s0_c (zx_G zx_h0 (fx_flat g i)) j / 8) := rfl
  rw [hS]
  generalize zx_G zx_h0 (fx_flat g i) = E at hc h ⊢
  obtain ⟨t, n, fs, es⟩ := E
  obtain ⟨ht, hc⟩ := zx_an hc
  have ht : t = fx_kd g := zx_beq.mp ht
  rcases h with ⟨h16, fs', rfl, hfs⟩ | ⟨h16, h0, -, cA, t0, hty, hE⟩
  · have h16 : 16 ≤ t := h16
    rw [zx_nblt.mpr (show ¬ t < 16 by omega)] at hc
    obtain ⟨hz, hc⟩ := zx_an hc
    have hz := zx_beq.mp hz
    rw [s0_Z] at hz
    have hfs : zr_2 (zr σ b as) fs fs' := hfs
    have hlen : fs.length = fs'.length := zr_2_len hfs
    refine Or.inl ⟨ht ▸ h16, fs', by rw [← ht], by omega, fun j w hj => ?_⟩
    have hjl : j < fs.length := by rw [hlen]; exact (List.getElem?_eq_some_iff.mp hj).1
    have hq := List.all_eq_true.mp hc j (List.mem_range.mpr (by omega))
    have e1 : zx_N 74 fs j = fs[j] := by rw [zx_N_eq, List.getElem?_eq_getElem hjl]; rfl
    obtain ⟨vv, f1, f2⟩ := zr_2_get hfs (List.getElem?_eq_getElem hjl)
    rw [hj] at f1
    cases f1
    unfold fr_f
    have hT : s0_c (t, n, fs, es) j = fs[j] := by
      show cond (Nat.blt t 16) (zx_A es (zx_N 74 fs 0) j) (zx_N 74 fs j) = _
      rw [zx_nblt.mpr (show ¬ t < 16 by omega)]
      exact e1
    rw [e1] at hq
    generalize fx_sl g j = sl at hq ⊢
    obtain ⟨so, g', mode, lo, hi2⟩ := sl
    show (so ≤ 1 ∧ w = .int (Int32.ofInt (zx_sI (s0_c (t, n, fs, es) j / 8)))) ∨ (so = 2 ∧ ∃ x, w = .long x) ∨ (so = 3 ∧ ∃ a, fr_at as (fx_to g' mode i j) = some a ∧ w = .ref a)
    rw [hT]
    rcases Bool.or_eq_true_iff.mp (show ((Nat.ble so 1 && s0_int lo hi2 fs[j]) || ((Nat.beq so 2 && zx_2 fs[j]) || (Nat.beq so 3 && s0_ref g' mode i j fs[j]))) = true from hq) with q | q
    · obtain ⟨q1, q2⟩ := zx_an q
      exact Or.inl ⟨zx_ble.mp q1, s0_nI q2 f2⟩
    rcases Bool.or_eq_true_iff.mp q with q | q
    · obtain ⟨q1, q2⟩ := zx_an q
      exact Or.inr (Or.inl ⟨zx_beq.mp q1, zr_long q2 f2⟩)
    · obtain ⟨q1, q2⟩ := zx_an q
      exact Or.inr (Or.inr ⟨zx_beq.mp q1, s0_ref_ok q2 f2⟩)
  · have h16 : t < 16 := h16
    have h0 : 0 < t := h0
    rw [zx_blt.mpr h16] at hc
    obtain ⟨hn, hc⟩ := zx_an hc
    have hn : n = fx_n g := zx_beq.mp hn
    have hT : ∀ j, s0_c (t, n, fs, es) j = zx_A es (zx_N 74 fs 0) j := by
      intro j
      show cond (Nat.blt t 16) (zx_A es (zx_N 74 fs 0) j) (zx_N 74 fs j) = _
      rw [zx_blt.mpr h16]; rfl
    refine Or.inr ⟨ht ▸ h16, ht ▸ h0, cA, t0, ht ▸ hty, ?_⟩
    rcases hE with ⟨h4, f, rfl, hf⟩ | ⟨h4, f, rfl, hf⟩ | ⟨h4, f, rfl, hf⟩
    · have h4 : t < 4 := h4
      rw [zx_blt.mpr h4] at hc
      refine Or.inl ⟨ht ▸ h4, f, by rw [← hn], fun j hj => ?_⟩
      have hz : zr σ b as (zx_A es (zx_N 74 fs 0) j) (.int (f j)) := hf j (by show j < n; omega)
      show f j = Int32.ofInt (zx_sI (s0_c (t, n, fs, es) j / 8))
      rw [hT]
      generalize fx_sl g 0 = sl at hc
      obtain ⟨so, g', mode, lo, hi2⟩ := sl
      obtain ⟨c1, c2⟩ := zx_an (show (s0_int lo hi2 (zx_N 74 fs 0) && es.all (fun q => s0_int lo hi2 q.2)) = true from hc)
      have := s0_nI (s0_A (P := fun c => s0_int lo hi2 c = true) c1 es (fun q hq => List.all_eq_true.mp c2 q hq) j) hz
      injection this
    · have h4 : t = 4 := h4
      exact Or.inr (Or.inl ⟨ht ▸ h4, f, by rw [← hn]⟩)
    · have h4 : 4 < t := h4
      rw [zx_nblt.mpr (show ¬ t < 4 by omega), zx_nbeq.mpr (show ¬ t = 4 by omega)] at hc
      refine Or.inr (Or.inr ⟨ht ▸ h4, f, by rw [← hn], fun j hj => ?_⟩)
      have hz : zr σ b as (zx_A es (zx_N 74 fs 0) j) (va_rf (f j)) := hf j (by show j < n; omega)
      generalize fx_sl g 0 = sl at hc ⊢
      obtain ⟨so, g', mode, lo, hi2⟩ := sl
      have hq := List.all_eq_true.mp (show (List.range n).all (fun j => s0_ref g' mode i j (zx_A es (zx_N 74 fs 0) j)) = true from hc) j (List.mem_range.mpr (by omega))
      obtain ⟨a, k1, k2⟩ := s0_ref_ok hq hz
      refine ⟨a, k1, ?_⟩
      cases hfj : f j with
      | none => rw [hfj] at k2; cases k2
      | some a' => rw [hfj] at k2; cases k2; rfl
theorem s0_T : fr_T S0 := by
  intro g i j hi hj h2 h3
  have hc := (s0_get hi).2
  show _ ≤ zx_sI (s0_c (zx_G zx_h0 (fx_flat g i)) j / 8) ∧ zx_sI (s0_c (zx_G zx_h0 (fx_flat g i)) j / 8) ≤ _
  generalize zx_G zx_h0 (fx_flat g i) = E at hc ⊢
  obtain ⟨t, n, fs, es⟩ := E
  obtain ⟨ht, hc⟩ := zx_an hc
  have ht : t = fx_kd g := zx_beq.mp ht
  by_cases h16 : t < 16
  · rw [zx_blt.mpr h16] at hc
    obtain ⟨hn, hc⟩ := zx_an hc
    have hT : s0_c (t, n, fs, es) j = zx_A es (zx_N 74 fs 0) j := by
      show cond (Nat.blt t 16) (zx_A es (zx_N 74 fs 0) j) (zx_N 74 fs j) = _
      rw [zx_blt.mpr h16]; rfl
    rw [hT]
    obtain ⟨-, so, g', mode, lo, hi2, hsl, hcase⟩ := fx_arr hi (by omega)
    rw [hsl] at h2 h3 hc ⊢
    have h2 : so ≠ 2 := h2
    have h3 : so ≠ 3 := h3
    by_cases h4 : t < 4
    · rw [zx_blt.mpr h4] at hc
      obtain ⟨c1, c2⟩ := zx_an (show (s0_int lo hi2 (zx_N 74 fs 0) && es.all (fun q => s0_int lo hi2 q.2)) = true from hc)
      have := s0_int_ok (s0_A (P := fun c => s0_int lo hi2 c = true) c1 es (fun q hq => List.all_eq_true.mp c2 q hq) j)
      exact this.2.2
    · omega
  · rw [zx_nblt.mpr h16] at hc
    obtain ⟨hz, hc⟩ := zx_an hc
    have hT : s0_c (t, n, fs, es) j = zx_N 74 fs j := by
      show cond (Nat.blt t 16) (zx_A es (zx_N 74 fs 0) j) (zx_N 74 fs j) = _
      rw [zx_nblt.mpr h16]; rfl
    rw [hT]
    have hq := List.all_eq_true.mp hc j (List.mem_range.mpr hj)
    generalize fx_sl g j = sl at hq h2 h3 ⊢
    obtain ⟨so, g', mode, lo, hi2⟩ := sl
    have h2 : so ≠ 2 := h2
    have h3 : so ≠ 3 := h3
    rcases Bool.or_eq_true_iff.mp (show ((Nat.ble so 1 && s0_int lo hi2 (zx_N 74 fs j)) || ((Nat.beq so 2 && zx_2 (zx_N 74 fs j)) || (Nat.beq so 3 && s0_ref g' mode i j (zx_N 74 fs j)))) = true from hq) with q | q
    · exact (s0_int_ok (zx_an q).2).2.2
    rcases Bool.or_eq_true_iff.mp q with q | q
    · exact absurd (zx_beq.mp (zx_an q).1) h2
    · exact absurd (zx_beq.mp (zx_an q).1) h3
/-- the heap behind the constructors stands for S0 -/
theorem s0_HP {G : va_G} {σ : Nat → Int32} {b : zxBB} {s : State} {A : Nat → Prop} {as : List Nat} {H : Heap} (h : zr_HP G σ b s A as zx_h0 H) : fr_HP G s A as S0 H := by
  obtain ⟨tys, ws, hK, hW, hP, hD⟩ := h
  refine ⟨s0_T, tys, ws, hK, ⟨fun k q hq => zr_as_in hW hq, fun g i hi => ?_⟩, hP, hD, fun a ha => ?_⟩
  · obtain ⟨q, e, k1, k2, k3⟩ := hW.2.2.1 (fx_flat g i) (show fx_flat g i < 1142 from (s0_get hi).1)
    exact ⟨q, e, k1, k2, s0_E hi k3⟩
  · obtain ⟨k, hk, rfl⟩ := List.mem_iff_getElem.mp ha
    obtain ⟨q, e, k1, k2, -⟩ := hW.2.2.1 k (by rw [← hW.1]; exact hk)
    rw [List.getElem?_eq_getElem hk] at k1
    cases k1
    exact hD.2 k _ k2
