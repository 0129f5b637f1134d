/-! the instructions of the second engine are the machine's -/
theorem fz_in (x : Int32) : -2147483648 ≤ x.toInt ∧ x.toInt < 2147483648 := ⟨Int32.le_toInt x, Int32.toInt_lt x⟩
theorem fz_of (x : Int32) : Int32.ofInt x.toInt = x := Int32.ofInt_toInt x
theorem fz_to {z : Int} (h : -2147483648 ≤ z ∧ z < 2147483648) : (Int32.ofInt z).toInt = z := by
  rw [Int32.toInt_ofInt]
  show z.bmod 4294967296 = z
  rw [Int.bmod_def]
  omega
theorem fl_in (x : Int64) : -9223372036854775808 ≤ x.toInt ∧ x.toInt < 9223372036854775808 := ⟨Int64.le_toInt x, Int64.toInt_lt x⟩
theorem fl_to {z : Int} (h : -9223372036854775808 ≤ z ∧ z < 9223372036854775808) : (Int64.ofInt z).toInt = z := by
  rw [Int64.toInt_ofInt]
  show z.bmod 18446744073709551616 = z
  rw [Int.bmod_def]
  omega
theorem fz_lt {x y : Int} (hx : -2147483648 ≤ x ∧ x < 2147483648) (hy : -2147483648 ≤ y ∧ y < 2147483648) : Int32.ofInt x < Int32.ofInt y ↔ x < y := by
  rw [Int32.lt_iff_toInt_lt, fz_to hx, fz_to hy]
theorem fz_le {x y : Int} (hx : -2147483648 ≤ x ∧ x < 2147483648) (hy : -2147483648 ≤ y ∧ y < 2147483648) : Int32.ofInt x ≤ Int32.ofInt y ↔ x ≤ y := by
  rw [Int32.le_iff_toInt_le, fz_to hx, fz_to hy]
theorem fz_eq {x y : Int} (hx : -2147483648 ≤ x ∧ x < 2147483648) (hy : -2147483648 ≤ y ∧ y < 2147483648) : Int32.ofInt x = Int32.ofInt y ↔ x = y := by
  constructor
  · intro h
    rw [← fz_to hx, ← fz_to hy, h]
  · intro h; rw [h]
theorem fz_cl {z : Int} (h0 : 0 ≤ z) (h1 : z < 2147483648) : (Int32.ofInt z).toNatClampNeg = z.toNat := by
  show (Int32.ofInt z).toInt.toNat = _
  rw [fz_to ⟨by omega, h1⟩]
theorem fz_vp {z : Int} {n : Nat} (h0 : 0 ≤ z) (h1 : z < (n : Int)) (hn : n < 2147483648) : vp_in (Int32.ofInt z) n := by
  intro h
  rw [fz_cl h0 (by omega)] at h
  rcases h with h | h
  · have h : Int32.ofInt z < Int32.ofInt 0 := h
    rw [fz_lt ⟨by omega, by omega⟩ ⟨by omega, by omega⟩] at h
    omega
  · omega
def fr_L (as : List Nat) (ls : Array Slot) (nL : Nat) (lv : fxL) : Prop := ∃ lv' : List (Nat × Value), lv_has ls nL lv' ∧ ∀ i v, fx_lk lv i = some v → ∃ w, (i, w) ∈ lv' ∧ fr_v as v w
def fr_R (G : va_G) (A : Nat → Prop) (nL : Nat) (s : State) (as : List Nat) (H : Heap) (locs : List Loc) (ls : Array Slot) (vs : List Value) (lv : fxL) (stk : List fxV) (S : fxS) : Prop :=
  va_S A s.heap H locs ∧ fr_HP G s A as S H ∧ fr_L as ls nL lv ∧ zr_2 (fr_v as) stk vs
def fr_KK (cu cw : Nat) (p : Program) (l : Launch) (e : Env) (R : Room) (s : State) (m : MethodId) (args : Array Value) (below : List Frame) (meth : Method) (c : Code) (Q : State → Prop) (G : va_G) (A : Nat → Prop) (nL : Nat) (as : List Nat) (k : fxZ) : Prop :=
  ∀ (pc : Nat) (lv : fxL) (stk : List fxV) (S : fxS) (H : Heap) (locs : List Loc) (ls : Array Slot) (vs : List Value), k pc lv stk S → fr_R G A nL s as H locs ls vs lv stk S → W p l e R s m args below meth c H locs cu cw Q (F0 m pc ls vs)
def fr_HO (cu cw : Nat) (hd : fxH) (P : zkPT) : Prop := ∀ (p : Program) (l : Launch) (e : Env) (R : Room) (s : State) (m : MethodId) (args : Array Value) (below : List Frame) (meth : Method) (c : Code) (Q : State → Prop) (cc : ByteArray) (nL : Nat) (G : va_G) (A : Nat → Prop) (as : List Nat) (y : MethodName) (pc a b nxt : Nat) (d : List Nat) (lv : fxL) (stk : List fxV) (S : fxS) (k : fxZ) (H : Heap) (locs : List Loc) (ls : Array Slot) (vs : List Value),
  zk_Cx p s m args meth c A y cc nL → P y cc nL pc a b nxt d → hd a b nxt d lv stk S k → fr_R G A nL s as H locs ls vs lv stk S → fr_KK cu cw p l e R s m args below meth c Q G A nL as k → W p l e R s m args below meth c H locs cu cw Q (F0 m pc ls vs)
section FV
variable {as : List Nat} {r : List fxV} {vs : List Value}
theorem fv_c {x : fxV} (h : zr_2 (fr_v as) (x :: r) vs) : ∃ w vr, vs = w :: vr ∧ fr_v as x w ∧ zr_2 (fr_v as) r vr := by
  rcases vs with _ | ⟨w, vr⟩
  · exact h.elim
  · exact ⟨w, vr, rfl, h.1, h.2⟩
theorem fv_n (h : zr_2 (fr_v as) [] vs) : vs = [] := by
  rcases vs with _ | ⟨w, vr⟩
  · rfl
  · exact h.elim
theorem fv_i {z : Int} (h : zr_2 (fr_v as) (.inl z :: r) vs) : ∃ vr, vs = .int (Int32.ofInt z) :: vr ∧ (-2147483648 ≤ z ∧ z < 2147483648) ∧ zr_2 (fr_v as) r vr := by
  obtain ⟨w, vr, rfl, ⟨rfl, h1⟩, h2⟩ := fv_c h
  exact ⟨vr, rfl, h1, h2⟩
theorem fv_l {z : Int} (h : zr_2 (fr_v as) (.inr (.inl z) :: r) vs) : ∃ vr, vs = .long (Int64.ofInt z) :: vr ∧ (-9223372036854775808 ≤ z ∧ z < 9223372036854775808) ∧ zr_2 (fr_v as) r vr := by
  obtain ⟨w, vr, rfl, ⟨rfl, h1⟩, h2⟩ := fv_c h
  exact ⟨vr, rfl, h1, h2⟩
theorem fv_r {q : Nat × Nat} (h : zr_2 (fr_v as) (.inr (.inr q) :: r) vs) : ∃ a vr, vs = .ref a :: vr ∧ fr_at as q = some a ∧ zr_2 (fr_v as) r vr := by
  obtain ⟨w, vr, rfl, ⟨a, h1, rfl⟩, h2⟩ := fv_c h
  exact ⟨a, vr, rfl, h1, h2⟩
theorem fr_int (x : Int32) : fr_v as (.inl x.toInt) (.int x) := ⟨by rw [fz_of], fz_in x⟩
theorem fr_long (x : Int64) : fr_v as (.inr (.inl x.toInt)) (.long x) := ⟨by rw [Int64.ofInt_toInt], fl_in x⟩
theorem fr_cat {v : fxV} {w : Value} (h : fr_v as v w) : w.category = if fx_long v = true then 2 else 1 := by
  rcases v with z | z | q
  · obtain ⟨rfl, -⟩ := h; rfl
  · obtain ⟨rfl, -⟩ := h; rfl
  · obtain ⟨a, -, rfl⟩ := h; rfl
end FV
section FI
variable {stk : List fxV}
theorem fi_1 {P : Int → List fxV → Prop} (h : match stk with | .inl x :: r => P x r | _ => False) : ∃ x r, stk = .inl x :: r ∧ P x r := by
  rcases stk with _ | ⟨x | x | x, r⟩
  · exact h.elim
  · exact ⟨x, r, rfl, h⟩
  · exact h.elim
  · exact h.elim
theorem fi_l {P : Int → List fxV → Prop} (h : match stk with | .inr (.inl x) :: r => P x r | _ => False) : ∃ x r, stk = .inr (.inl x) :: r ∧ P x r := by
  rcases stk with _ | ⟨x | x | x, r⟩
  · exact h.elim
  · exact h.elim
  · exact ⟨x, r, rfl, h⟩
  · exact h.elim
theorem fi_r {P : Nat × Nat → List fxV → Prop} (h : match stk with | .inr (.inr x) :: r => P x r | _ => False) : ∃ x r, stk = .inr (.inr x) :: r ∧ P x r := by
  rcases stk with _ | ⟨x | x | x, r⟩
  · exact h.elim
  · exact h.elim
  · exact h.elim
  · exact ⟨x, r, rfl, h⟩
theorem fi_2 {P : Int → Int → List fxV → Prop} (h : match stk with | .inl y :: .inl x :: r => P x y r | _ => False) : ∃ x y r, stk = .inl y :: .inl x :: r ∧ P x y r := by
  rcases stk with _ | ⟨y | y | y, _ | ⟨x | x | x, r⟩⟩
  · exact h.elim
  · exact h.elim
  · exact ⟨x, y, r, rfl, h⟩
  all_goals exact h.elim
theorem fi_2l {P : Int → Int → List fxV → Prop} (h : match stk with | .inr (.inl y) :: .inr (.inl x) :: r => P x y r | _ => False) : ∃ x y r, stk = .inr (.inl y) :: .inr (.inl x) :: r ∧ P x y r := by
  rcases stk with _ | ⟨y | y | y, _ | ⟨x | x | x, r⟩⟩
  · exact h.elim
  · exact h.elim
  · exact h.elim
  · exact h.elim
  · exact h.elim
  · exact h.elim
  · exact h.elim
  · exact ⟨x, y, r, rfl, h⟩
  all_goals exact h.elim
theorem fi_il {P : Int → Int → List fxV → Prop} (h : match stk with | .inl y :: .inr (.inl x) :: r => P x y r | _ => False) : ∃ x y r, stk = .inl y :: .inr (.inl x) :: r ∧ P x y r := by
  rcases stk with _ | ⟨y | y | y, _ | ⟨x | x | x, r⟩⟩
  · exact h.elim
  · exact h.elim
  · exact h.elim
  · exact ⟨x, y, r, rfl, h⟩
  all_goals exact h.elim
theorem fi_c {P : fxV → List fxV → Prop} (h : match stk with | c :: r => P c r | _ => False) : ∃ c r, stk = c :: r ∧ P c r := by
  rcases stk with _ | ⟨c, r⟩
  · exact h.elim
  · exact ⟨c, r, rfl, h⟩
theorem fi_cc {P : fxV → fxV → List fxV → Prop} (h : match stk with | c :: e :: r => P c e r | _ => False) : ∃ c e r, stk = c :: e :: r ∧ P c e r := by
  rcases stk with _ | ⟨c, _ | ⟨e, r⟩⟩
  · exact h.elim
  · exact h.elim
  · exact ⟨c, e, r, rfl, h⟩
theorem fc_f {b : Bool} {P : Prop} (h : cond b False P) : b = false ∧ P := by
  cases b
  · exact ⟨rfl, h⟩
  · exact h.elim
theorem fc_t {b : Bool} {P : Prop} (h : cond b P False) : b = true ∧ P := by
  cases b
  · exact h.elim
  · exact ⟨rfl, h⟩
theorem fc_b {b : Bool} {P Q : Prop} (h : cond b P Q) : (b = true ∧ P) ∨ (b = false ∧ Q) := by
  cases b
  · exact Or.inr ⟨rfl, h⟩
  · exact Or.inl ⟨rfl, h⟩
end FI
theorem fx_lk_sto : ∀ (lv : fxL) (i : Nat) (v : fxV) (j : Nat) (w : fxV), fx_lk (fx_sto lv i v) j = some w → (j = i ∧ w = v) ∨ (j ≠ i ∧ fx_lk lv j = some w ∧ ¬ (j + 1 = i ∧ fx_long w = true) ∧ ¬ (fx_long v = true ∧ j = i + 1))
  | [], i, v, j, w, h => by cases h
  | a :: l, 0, v, 0, w, h => Or.inl ⟨rfl, (Option.some.inj h).symm⟩
  | a :: l, 0, v, j + 1, w, h => by
    refine Or.inr ⟨Nat.succ_ne_zero j, ?_⟩
    have h : fx_lk (cond (fx_long v) (fx_n0 l) l) j = some w := h
    cases hv : fx_long v with
    | false => rw [hv] at h; exact ⟨h, fun q => absurd q.1 (by omega), fun q => absurd q.1 (by decide)⟩
    | true =>
      rw [hv] at h
      rcases l with _ | ⟨b, l⟩
      · cases h
      · rcases j with _ | j
        · cases h
        · exact ⟨h, fun q => absurd q.1 (by omega), fun q => absurd q.2 (by omega)⟩
  | a :: l, 1, v, 0, w, h => by
    have h : fx_dw a = some w := h
    refine Or.inr ⟨by decide, ?_⟩
    rcases a with _ | b
    · cases h
    · have h : cond (fx_long b) none (some b) = some w := h
      cases hb : fx_long b with
      | true => rw [hb] at h; cases h
      | false =>
        rw [hb] at h
        have h := Option.some.inj h
        subst h
        exact ⟨rfl, fun q => absurd q.2 (by rw [hb]; decide), fun q => absurd q.2 (by omega)⟩
  | a :: l, 1, v, j + 1, w, h => by
    rcases fx_lk_sto l 0 v j w h with ⟨h1, h2⟩ | ⟨h1, h2, h3, h4⟩
    · exact Or.inl ⟨by omega, h2⟩
    · exact Or.inr ⟨by omega, h2, fun q => absurd q.1 (by omega), fun q => h4 ⟨q.1, by omega⟩⟩
  | a :: l, i + 2, v, 0, w, h => Or.inr ⟨by omega, h, fun q => absurd q.1 (by omega), fun q => absurd q.2 (by omega)⟩
  | a :: l, i + 2, v, j + 1, w, h => by
    rcases fx_lk_sto l (i + 1) v j w h with ⟨h1, h2⟩ | ⟨h1, h2, h3, h4⟩
    · exact Or.inl ⟨by omega, h2⟩
    · exact Or.inr ⟨by omega, h2, fun q => h3 ⟨by omega, q.2⟩, fun q => h4 ⟨q.1, by omega⟩⟩
theorem fr_sto1 {as : List Nat} {ls ls' : Array Slot} {nL : Nat} {lv : fxL} {lv' : List (Nat × Value)} (hlv : ∀ i v, fx_lk lv i = some v → ∃ w, (i, w) ∈ lv' ∧ fr_v as v w) {i : Nat} {v : fxV} {w : Value} (hv : fr_v as v w) (h1 : fx_long v = false) (h : lv_has ls' nL ((i, w) :: lv'.filter (fun q => !(q.1 == i) && !(q.1 + 1 == i && q.2.category == 2)))) : fr_L as ls' nL (fx_sto lv i v) := by
  refine ⟨_, h, fun j u hj => ?_⟩
  rcases fx_lk_sto lv i v j u hj with ⟨rfl, rfl⟩ | ⟨k1, k2, k3, k4⟩
  · exact ⟨w, List.mem_cons_self, hv⟩
  · obtain ⟨x, m1, m2⟩ := hlv j u k2
    refine ⟨x, List.mem_cons_of_mem _ (List.mem_filter.mpr ⟨m1, ?_⟩), m2⟩
    have hc := fr_cat m2
    by_cases hq : j + 1 = i
    · have hl : fx_long u = false := Bool.eq_false_iff.mpr (fun q => k3 ⟨hq, q⟩)
      rw [hl] at hc
      simp [k1, hc]
    · simp [k1, hq]
theorem fr_sto2 {as : List Nat} {ls ls' : Array Slot} {nL : Nat} {lv : fxL} {lv' : List (Nat × Value)} (hlv : ∀ i v, fx_lk lv i = some v → ∃ w, (i, w) ∈ lv' ∧ fr_v as v w) {i : Nat} {v : fxV} {w : Value} (hv : fr_v as v w) (h1 : fx_long v = true) (h : lv_has ls' nL ((i, w) :: lv'.filter (fun q => !(q.1 == i) && (!(q.1 == i + 1) && !(q.1 + 1 == i && q.2.category == 2))))) : fr_L as ls' nL (fx_sto lv i v) := by
  refine ⟨_, h, fun j u hj => ?_⟩
  rcases fx_lk_sto lv i v j u hj with ⟨rfl, rfl⟩ | ⟨k1, k2, k3, k4⟩
  · exact ⟨w, List.mem_cons_self, hv⟩
  · obtain ⟨x, m1, m2⟩ := hlv j u k2
    refine ⟨x, List.mem_cons_of_mem _ (List.mem_filter.mpr ⟨m1, ?_⟩), m2⟩
    have hc := fr_cat m2
    have k5 : j ≠ i + 1 := fun q => k4 ⟨h1, q⟩
    by_cases hq : j + 1 = i
    · have hl : fx_long u = false := Bool.eq_false_iff.mpr (fun q => k3 ⟨hq, q⟩)
      rw [hl] at hc
      simp [k1, k5, hc]
    · simp [k1, k5, hq]
