def zr_2 {α β : Type} (R : α → β → Prop) : List α → List β → Prop
  | [], [] => True
  | a :: l, b :: l' => R a b ∧ zr_2 R l l'
  | _, _ => False
section Z2
variable {α β : Type} {R R' : α → β → Prop}
theorem zr_2_get : ∀ {l : List α} {l' : List β} {i : Nat} {a : α}, zr_2 R l l' → l[i]? = some a → ∃ b, l'[i]? = some b ∧ R a b
  | [], [], i, a, _, h => by simp at h
  | x :: l, y :: l', 0, a, h, h1 => by
    simp only [List.getElem?_cons_zero, Option.some.injEq] at h1
    subst h1; exact ⟨y, rfl, h.1⟩
  | x :: l, y :: l', i + 1, a, h, h1 => by
    simp only [List.getElem?_cons_succ] at h1 ⊢
    exact zr_2_get h.2 h1
  | [], _ :: _, _, _, h, _ => h.elim
  | _ :: _, [], _, _, h, _ => h.elim
theorem zr_2_set {a : α} {b : β} (hab : R a b) : ∀ {l : List α} {l' : List β} {i : Nat}, zr_2 R l l' → zr_2 R (l.set i a) (l'.set i b)
  | [], [], i, h => by simp [zr_2]
  | x :: l, y :: l', 0, h => ⟨hab, h.2⟩
  | x :: l, y :: l', i + 1, h => ⟨h.1, zr_2_set hab h.2⟩
  | [], _ :: _, _, h => h.elim
  | _ :: _, [], _, h => h.elim
theorem zr_2_len : ∀ {l : List α} {l' : List β}, zr_2 R l l' → l.length = l'.length
  | [], [], _ => rfl
  | x :: l, y :: l', h => by rw [List.length_cons, List.length_cons, zr_2_len h.2]
  | [], _ :: _, h => h.elim
  | _ :: _, [], h => h.elim
theorem zr_2_mono (hr : ∀ a b, R a b → R' a b) : ∀ {l : List α} {l' : List β}, zr_2 R l l' → zr_2 R' l l'
  | [], [], _ => trivial
  | x :: l, y :: l', h => ⟨hr _ _ h.1, zr_2_mono hr h.2⟩
  | [], _ :: _, h => h.elim
  | _ :: _, [], h => h.elim
theorem zr_2_app : ∀ {l1 l2 : List α} {l1' l2' : List β}, zr_2 R l1 l1' → zr_2 R l2 l2' → zr_2 R (l1 ++ l2) (l1' ++ l2')
  | [], _, [], _, _, h => h
  | x :: l, _, y :: l', _, h, h2 => ⟨h.1, zr_2_app h.2 h2⟩
  | [], _, _ :: _, _, h, _ => h.elim
  | _ :: _, _, [], _, h, _ => h.elim
theorem zr_2_split : ∀ {l1 l2 : List α} {vs : List β}, zr_2 R (l1 ++ l2) vs → ∃ v1 v2, vs = v1 ++ v2 ∧ zr_2 R l1 v1 ∧ zr_2 R l2 v2
  | [], l2, vs, h => ⟨[], vs, rfl, trivial, h⟩
  | x :: l, l2, y :: vs, h => by
    obtain ⟨v1, v2, e, h1, h2⟩ := zr_2_split h.2
    exact ⟨y :: v1, v2, by rw [e]; rfl, ⟨h.1, h1⟩, h2⟩
  | _ :: _, _, [], h => h.elim
theorem zr_2_rev : ∀ {l : List α} {l' : List β}, zr_2 R l l' → zr_2 R l.reverse l'.reverse
  | [], [], _ => trivial
  | x :: l, y :: l', h => by
    rw [List.reverse_cons, List.reverse_cons]
    exact zr_2_app (zr_2_rev h.2) ⟨h.1, trivial⟩
  | [], _ :: _, h => h.elim
  | _ :: _, [], h => h.elim
end Z2
def zr_ty (t : Nat) : FieldType := if t = 1 then .int else if t = 2 then .byte else if t = 3 then .boolean else if t = 4 then .long else if t = 5 then .object "StubHouse$Node" else .object "StubHouse$Tape"
noncomputable def zr_c (E : zxCE) (j : Nat) : Nat := zx_A E.2.2.2 (zx_N 74 E.2.2.1 0) j
def zr_E (σ : Nat → Int32) (b : zxBB) (as : List Nat) (tys : List (ClassId × FieldType)) (E : zxCE) (e : va_E) : Prop :=
  (16 ≤ E.1 ∧ ∃ fs : List Value, e = .inr (E.1 - 16, fs) ∧ zr_2 (zr σ b as) E.2.2.1 fs) ∨
  (E.1 < 16 ∧ 0 < E.1 ∧ E.2.1 < 2147483648 ∧ ∃ (cA : ClassId) (t0 : Nat), tys[t0]? = some (cA, zr_ty E.1) ∧
    ((E.1 < 4 ∧ ∃ f : Nat → Int32, e = .inl (cA, E.2.1, .inl f) ∧ ∀ j, j < E.2.1 → zr σ b as (zr_c E j) (.int (f j))) ∨
     (E.1 = 4 ∧ ∃ f : Nat → Int64, e = .inl (cA, E.2.1, .inr (.inl f)) ∧ ∀ j, j < E.2.1 → zr σ b as (zr_c E j) (.long (f j))) ∨
     (4 < E.1 ∧ ∃ f : Nat → Option Nat, e = .inl (cA, E.2.1, .inr (.inr (.inr (.inr f)))) ∧ ∀ j, j < E.2.1 → zr σ b as (zr_c E j) (va_rf (f j)))))
theorem zr_E_mono {σ : Nat → Int32} {b : zxBB} {as : List Nat} {tys : List (ClassId × FieldType)} {E : zxCE} {e : va_E} (e1 : List Nat) (e2 : List (ClassId × FieldType)) (h : zr_E σ b as tys E e) : zr_E σ b (as ++ e1) (tys ++ e2) E e := by
  rcases h with ⟨h1, fs, h2, h3⟩ | ⟨h1, h2, h3, cA, t0, h4, h5⟩
  · exact Or.inl ⟨h1, fs, h2, zr_2_mono (fun _ _ h => zr_mono e1 h) h3⟩
  · refine Or.inr ⟨h1, h2, h3, cA, t0, ?_, ?_⟩
    · rw [List.getElem?_append_left (List.getElem?_eq_some_iff.mp h4).1]; exact h4
    · rcases h5 with ⟨a, f, c, d⟩ | ⟨a, f, c, d⟩ | ⟨a, f, c, d⟩
      · exact Or.inl ⟨a, f, c, fun j hj => zr_mono e1 (d j hj)⟩
      · exact Or.inr (Or.inl ⟨a, f, c, fun j hj => zr_mono e1 (d j hj)⟩)
      · exact Or.inr (Or.inr ⟨a, f, c, fun j hj => zr_mono e1 (d j hj)⟩)
def zr_W (σ : Nat → Int32) (b : zxBB) (as : List Nat) (tys : List (ClassId × FieldType)) (hp : zxHP) (ws : va_W) : Prop :=
  as.length = hp.1 ∧ ws.length = hp.1 ∧ (∀ k, k < hp.1 → ∃ (q : Nat) (e : va_E), as[k]? = some q ∧ ws[k]? = some (q, e) ∧ zr_E σ b as tys (zx_G hp k) e) ∧ b.2 <+: as
theorem zr_W_get {σ : Nat → Int32} {b : zxBB} {as : List Nat} {tys : List (ClassId × FieldType)} {hp : zxHP} {ws : va_W} (h : zr_W σ b as tys hp ws) {k q : Nat} (hk : as[k]? = some q) : ∃ e, ws[k]? = some (q, e) ∧ zr_E σ b as tys (zx_G hp k) e := by
  have hl : k < hp.1 := by rw [← h.1]; exact (List.getElem?_eq_some_iff.mp hk).1
  obtain ⟨q', e, h1, h2, h3⟩ := h.2.2.1 k hl
  rw [hk] at h1
  cases h1
  exact ⟨e, h2, h3⟩
theorem zx_G_eq (n : Nat) (cs : List (List zxCE)) (k : Nat) : zx_G (n, cs) k = (((cs[k / 32]?).getD [])[k % 32]?).getD (0, 0, [], []) := by
  show zx_N (0, 0, [], []) (zx_N [] cs (k / 32)) (k % 32) = _
  rw [zx_N_eq, zx_N_eq]
theorem zx_H_ok {β : Type} (hp : zxHP) (k : Nat) (E : zxCE) (kk : zxHP → β) (hE : (zx_G hp k).1 ≠ 0) : ∃ hp', zx_H hp k E kk = kk hp' ∧ hp'.1 = hp.1 ∧ ∀ j, zx_G hp' j = if j = k then E else zx_G hp j := by
  obtain ⟨n, cs⟩ := hp
  rw [zx_G_eq] at hE
  have h1 : k / 32 < cs.length := by
    apply Nat.lt_of_not_le
    intro q
    rw [List.getElem?_eq_none q] at hE
    simp at hE
  have h2 : k % 32 < ((cs[k / 32]?).getD []).length := by
    apply Nat.lt_of_not_le
    intro q
    rw [List.getElem?_eq_none q] at hE
    simp at hE
  refine ⟨(n, cs.set (k / 32) (((cs[k / 32]?).getD []).set (k % 32) E)), ?_, rfl, fun j => ?_⟩
  · show zx_S (zx_N [] cs (k / 32)) (k % 32) E (fun ch => zx_S cs (k / 32) ch (fun cs2 => kk (n, cs2))) = _
    rw [zx_S_eq, zx_S_eq, zx_N_eq]
  · rw [zx_G_eq, zx_G_eq]
    by_cases hj : j = k
    · rw [if_pos hj]
      subst hj
      rw [List.getElem?_set_self h1]
      simp only [Option.getD_some]
      rw [List.getElem?_set_self h2]
      rfl
    · rw [if_neg hj]
      by_cases hd : j / 32 = k / 32
      · have hm : j % 32 ≠ k % 32 := by omega
        rw [hd, List.getElem?_set_self h1]
        simp only [Option.getD_some]
        rw [List.getElem?_set_ne (Ne.symm hm)]
      · rw [List.getElem?_set_ne (Ne.symm hd)]
theorem zx_B_ok {hp : zxHP} {E : zxCE} {kk : Nat → zxHP → Bool} (h : zx_B hp E kk = true) : ∃ hp', kk hp.1 hp' = true ∧ hp'.1 = hp.1 + 1 ∧ zx_G hp' hp.1 = E ∧ ∀ j, j < hp.1 → zx_G hp' j = zx_G hp j := by
  obtain ⟨n, cs⟩ := hp
  have h : zx_F (Nat.succ n) (fun n1 => cond (Nat.beq (n % 32) 0) (cond (Nat.beq (zx_Z cs) (n / 32)) (zx_P cs [E] (fun cs2 => kk n (n1, cs2))) false)
    (cond (Nat.beq (zx_Z (zx_N [] cs (n / 32))) (n % 32) && Nat.blt (n / 32) (zx_Z cs)) (zx_P (zx_N [] cs (n / 32)) E (fun ch => zx_S cs (n / 32) ch (fun cs2 => kk n (n1, cs2)))) false)) = true := h
  rw [zx_F_eq] at h
  rcases zx_ct h with ⟨h0, h1⟩ | ⟨h0, h1⟩
  · have h0 := zx_beq.mp h0
    obtain ⟨h2, h3⟩ := zx_c1 h1
    have h2 := zx_beq.mp h2
    rw [zx_Z_eq] at h2
    rw [zx_P_eq] at h3
    refine ⟨_, h3, rfl, ?_, fun j hj => ?_⟩
    · rw [zx_G_eq, List.getElem?_append_right (by simp only; omega)]
      simp only
      rw [h2, h0]; simp
    · simp only at hj
      rw [zx_G_eq, zx_G_eq, List.getElem?_append_left (by omega)]
  · have h0 := zx_nbeq.mp h0
    obtain ⟨h2, h3⟩ := zx_c1 h1
    obtain ⟨h2, h4⟩ := zx_an h2
    have h2 := zx_beq.mp h2
    have h4 := zx_blt.mp h4
    rw [zx_Z_eq, zx_N_eq] at h2
    rw [zx_Z_eq] at h4
    rw [zx_P_eq, zx_S_eq, zx_N_eq] at h3
    refine ⟨_, h3, rfl, ?_, fun j hj => ?_⟩
    · rw [zx_G_eq, List.getElem?_set_self h4]
      simp only [Option.getD_some]
      rw [List.getElem?_append_right (by omega)]
      rw [h2]; simp
    · simp only at hj
      rw [zx_G_eq, zx_G_eq]
      by_cases hd : j / 32 = n / 32
      · rw [hd, List.getElem?_set_self h4]
        simp only [Option.getD_some]
        rw [List.getElem?_append_left (by omega)]
      · rw [List.getElem?_set_ne (Ne.symm hd)]
theorem zr_W_set {σ : Nat → Int32} {b : zxBB} {as : List Nat} {tys : List (ClassId × FieldType)} {hp hp' : zxHP} {ws : va_W} (h : zr_W σ b as tys hp ws) {k q : Nat} (hk : as[k]? = some q) {E : zxCE} {e : va_E} (h1 : hp'.1 = hp.1) (h2 : ∀ j, zx_G hp' j = if j = k then E else zx_G hp j) (hE : zr_E σ b as tys E e) : zr_W σ b as tys hp' (ws.set k (q, e)) := by
  refine ⟨by rw [h1]; exact h.1, by rw [h1, List.length_set]; exact h.2.1, fun j hj => ?_, h.2.2.2⟩
  rw [h1] at hj
  obtain ⟨q', e', g1, g2, g3⟩ := h.2.2.1 j hj
  rw [h2 j]
  by_cases hjk : j = k
  · rw [if_pos hjk]
    subst hjk
    refine ⟨q, e, hk, ?_, hE⟩
    rw [List.getElem?_set_self (by rw [h.2.1]; exact hj)]
  · rw [if_neg hjk]
    refine ⟨q', e', g1, ?_, g3⟩
    rw [List.getElem?_set_ne (Ne.symm hjk)]; exact g2
theorem zr_W_push {σ : Nat → Int32} {b : zxBB} {as : List Nat} {tys : List (ClassId × FieldType)} {hp hp' : zxHP} {ws : va_W} (h : zr_W σ b as tys hp ws) {q : Nat} {E : zxCE} {e : va_E} (t2 : List (ClassId × FieldType)) (h1 : hp'.1 = hp.1 + 1) (h2 : zx_G hp' hp.1 = E) (h3 : ∀ j, j < hp.1 → zx_G hp' j = zx_G hp j) (hE : zr_E σ b (as ++ [q]) (tys ++ t2) E e) : zr_W σ b (as ++ [q]) (tys ++ t2) hp' (ws ++ [(q, e)]) := by
  refine ⟨by rw [h1, List.length_append, h.1]; rfl, by rw [h1, List.length_append, h.2.1]; rfl, fun j hj => ?_, List.IsPrefix.trans h.2.2.2 (List.prefix_append as [q])⟩
  by_cases hl : j < hp.1
  · obtain ⟨q', e', g1, g2, g3⟩ := h.2.2.1 j hl
    refine ⟨q', e', ?_, ?_, ?_⟩
    · rw [List.getElem?_append_left (by rw [h.1]; exact hl)]; exact g1
    · rw [List.getElem?_append_left (by rw [h.2.1]; exact hl)]; exact g2
    · rw [h3 j hl]; exact zr_E_mono [q] t2 g3
  · have hj : j = hp.1 := by omega
    subst hj
    refine ⟨q, e, ?_, ?_, by rw [h2]; exact hE⟩
    · rw [List.getElem?_append_right (by rw [h.1]; exact Nat.le_refl _), h.1]; simp
    · rw [List.getElem?_append_right (by rw [h.2.1]; exact Nat.le_refl _), h.2.1]; simp
def zr_LV (σ : Nat → Int32) (b : zxBB) (as : List Nat) (lv : zxLV) (lv' : List (Nat × Value)) : Prop := zr_2 (fun q q' => q.1 = q'.1 ∧ zr σ b as q.2 q'.2) lv lv'
theorem zr_LV_get {σ : Nat → Int32} {b : zxBB} {as : List Nat} {a c : Nat} (hc : c ≠ 74) : ∀ {lv : zxLV} {lv' : List (Nat × Value)}, zr_LV σ b as lv lv' → zx_A lv 74 a = c → ∃ v, (a, v) ∈ lv' ∧ zr σ b as c v
  | [], [], _, h => absurd h.symm hc
  | x :: l, y :: l', h, h1 => by
    rw [zx_A_cons] at h1
    by_cases hx : x.1 = a
    · rw [if_pos hx] at h1
      refine ⟨y.2, ?_, by rw [← h1]; exact h.1.2⟩
      rw [← hx, h.1.1]; exact List.mem_cons_self
    · rw [if_neg hx] at h1
      obtain ⟨v, g1, g2⟩ := zr_LV_get hc h.2 h1
      exact ⟨v, List.mem_cons_of_mem _ g1, g2⟩
  | [], _ :: _, h, _ => h.elim
  | _ :: _, [], h, _ => h.elim
theorem zr_LV_fil {σ : Nat → Int32} {b : zxBB} {as : List Nat} {wd : Bool} {i : Nat} {P : Nat × Value → Bool} (hP : ∀ (a c : Nat) (v : Value), zr σ b as c v → P (a, v) = !(zx_drop wd i (a, c))) : ∀ {lv : zxLV} {lv' : List (Nat × Value)}, zr_LV σ b as lv lv' → zr_LV σ b as (lv.filter (fun q => !(zx_drop wd i q))) (lv'.filter P)
  | [], [], _ => trivial
  | (a, c) :: l, (a', v) :: l', h => by
    have e := hP a c v h.1.2
    have ea : a = a' := h.1.1
    subst ea
    rw [List.filter_cons, List.filter_cons, e]
    cases zx_drop wd i (a, c)
    · exact ⟨h.1, zr_LV_fil hP h.2⟩
    · exact zr_LV_fil hP h.2
  | [], _ :: _, h => h.elim
  | _ :: _, [], h => h.elim
theorem zx_eqb (a i : Nat) : (a == i) = Nat.beq a i := by rw [Bool.eq_iff_iff, zx_beq, beq_iff_eq]
theorem zr_P1 {σ : Nat → Int32} {b : zxBB} {as : List Nat} (i : Nat) (a c : Nat) (v : Value) (h : zr σ b as c v) : (fun q : Nat × Value => !(q.1 == i) && !(q.1 + 1 == i && q.2.category == 2)) (a, v) = !(zx_drop false i (a, c)) := by
  show (!(a == i) && !(a + 1 == i && v.category == 2)) = !(Nat.beq a i || ((Nat.beq (Nat.succ a) i && zx_2 c) || (false && Nat.beq a (Nat.succ i))))
  rw [zr_cat h]
  have e1 : (a == i) = Nat.beq a i := zx_eqb a i
  have e2 : (a + 1 == i) = Nat.beq (Nat.succ a) i := zx_eqb (a + 1) i
  rw [e1, e2]
  cases Nat.beq a i <;> cases Nat.beq (Nat.succ a) i <;> cases zx_2 c <;> rfl
theorem zr_P2 {σ : Nat → Int32} {b : zxBB} {as : List Nat} (i : Nat) (a c : Nat) (v : Value) (h : zr σ b as c v) : (fun q : Nat × Value => !(q.1 == i) && (!(q.1 == i + 1) && !(q.1 + 1 == i && q.2.category == 2))) (a, v) = !(zx_drop true i (a, c)) := by
  show (!(a == i) && (!(a == i + 1) && !(a + 1 == i && v.category == 2))) = !(Nat.beq a i || ((Nat.beq (Nat.succ a) i && zx_2 c) || (true && Nat.beq a (Nat.succ i))))
  rw [zr_cat h]
  have e1 : (a == i) = Nat.beq a i := zx_eqb a i
  have e2 : (a + 1 == i) = Nat.beq (Nat.succ a) i := zx_eqb (a + 1) i
  have e3 : (a == i + 1) = Nat.beq a (Nat.succ i) := zx_eqb a (i + 1)
  rw [e1, e2, e3]
  cases Nat.beq a i <;> cases Nat.beq (Nat.succ a) i <;> cases zx_2 c <;> cases Nat.beq a (Nat.succ i) <;> rfl
def zr_HP (G : va_G) (σ : Nat → Int32) (b : zxBB) (s : State) (A : Nat → Prop) (as : List Nat) (hp : zxHP) (H : Heap) : Prop :=
  ∃ (tys : List (ClassId × FieldType)) (ws : va_W), va_K G vwCl tys s ∧ zr_W σ b as tys hp ws ∧ va_P G vwCl ws H ∧ va_D A ws
/-- the machine's state is as the abstract one says -/
def zr_R (G : va_G) (σ : Nat → Int32) (b : zxBB) (A : Nat → Prop) (nL : Nat) (s : State) (H : Heap) (locs : List Loc) (ls : Array Slot) (vs : List Value) (lv : zxLV) (stk : List Nat) (hp : zxHP) (st : zxST) : Prop :=
  zr_in σ st ∧ va_S A s.heap H locs ∧ ∃ as, zr_HP G σ b s A as hp H ∧ (∃ lv', lv_has ls nL lv' ∧ zr_LV σ b as lv lv') ∧ zr_2 (zr σ b as) stk vs
def zr_KK (p : Program) (l : Launch) (e : Env) (R : Room) (s : State) (m : MethodId) (args : Array Value) (below : List Frame) (meth : Method) (c : Code) (Q : State → Prop) (G : va_G) (σ : Nat → Int32) (b : zxBB) (A : Nat → Prop) (nL : Nat) (k : zxKT) : Prop :=
  ∀ (pc : Nat) (lv : zxLV) (stk : List Nat) (hp : zxHP) (st : zxST) (u w : Nat) (H : Heap) (locs : List Loc) (ls : Array Slot) (vs : List Value), k pc lv stk hp st u w = true → zr_R G σ b A nL s H locs ls vs lv stk hp st → W p l e R s m args below meth c H locs u w Q (F0 m pc ls vs)
