/-! calls, and how a frame ends -/
def fr_o (as : List Nat) (r : Option fxV) (v : Option Value) : Prop := match r, v with
  | none, none => True
  | some x, some w => fr_v as x w
  | _, _ => False
noncomputable def fr_Pre (G : va_G) (S : fxS) (as : List Nat) (sz : Nat) : State → Prop := fun U => U.heap.size = sz ∧ fr_HP G U (fun _ => True) as S U.heap ∧ zk_N U
noncomputable def fr_Post (G : va_G) (k : fxK) (as : List Nat) (sz : Nat) : Array Value → State → Outcome → State → Prop := fun _ st0 oc t =>
  (∃ (r : Option fxV) (v : Option Value) (S' : fxS), k r S' ∧ oc = .returned v ∧ fr_o as r v ∧ fr_HP G t (zk_fr as sz) as S' t.heap) ∧ va_F (zk_fr as sz) st0 t
noncomputable def fr_Call (M2 : zkMS) (rm : List (Nat × Nat × Nat)) (l : Launch) : fxC := fun b args S k => ∀ (y : MethodName) (cc : ByteArray) (mL : Nat) (ret : Option FieldType) (f w mL' : Nat), M2[b]? = some (y, cc, mL, ret) → rm[b]? = some (f, w, mL') → ∀ (G : va_G) (as : List Nat) (av : List Value) (sz : Nat), zr_2 (fr_v as) args av →
  Met l y (Cond.code y cc mL ret :: zk_T) { frames := f, cells := 0, slots := 0, locals := w } (va_Pc av (fr_Pre G S as sz)) (fr_Post G k as sz) 0 0 (zk_fr as sz)
noncomputable def fr_Z (M2 : zkMS) (rm : List (Nat × Nat × Nat)) (l : Launch) (b : Nat) (k : fxK) : fxZ := fun pc lv stk S => ∀ (y : MethodName) (cc : ByteArray) (mL : Nat) (ret : Option FieldType) (f w mL' : Nat), M2[b]? = some (y, cc, mL, ret) → rm[b]? = some (f, w, mL') → ∀ (p : Program) (e : Env) (s : State) (m : MethodId) (args : Array Value) (below : List Frame) (meth : Method) (c : Code) (G : va_G) (as : List Nat) (H : Heap) (locs : List Loc) (ls : Array Slot) (vs : List Value),
  zk_Cx p s m args meth c (zk_fr as s.heap.size) y cc mL → meth.sig.returnType = ret → meth.locks = false → fr_R G (zk_fr as s.heap.size) mL s as H locs ls vs lv stk S → W p l e { frames := f, cells := 0, slots := 0, locals := w } s m args below meth c H locs 0 0 (MQ below (fr_Post G k as s.heap.size) args s 0 0 (zk_fr as s.heap.size)) (F0 m pc ls vs)
theorem fr_HP_moved {G : va_G} {u U : State} {A : Nat → Prop} {as : List Nat} {S : fxS} {H : Heap} (hvm : u.vm.Alike U.vm) (h : fr_HP G u A as S H) : fr_HP G U A as S H := by
  obtain ⟨hT, tys, ws, hK, h⟩ := h
  exact ⟨hT, tys, ws, va_K.moved hvm hK, h⟩
theorem fr_blind (G : va_G) (S : fxS) (as : List Nat) (sz : Nat) (av : List Value) : FrameBlind (va_Pc av (fr_Pre G S as sz)) := by
  intro a U g mk ⟨h0, h1, h2, h3⟩
  exact ⟨h0, h1, fr_HP_moved (Vm.Alike.refl U.vm) h2, zk_N_same (u := U) rfl h3⟩
theorem fx_lk_mask (live : List Nat) : ∀ (lv : fxL) (i j : Nat) (v : fxV), fx_lk (fx_mask live i lv) j = some v → fx_lk lv j = some v
  | [], _, _, _, h => h
  | a :: l, i, 0, v, h => by
    have h : cond (fx_has live i) a none = some v := h
    cases hq : fx_has live i with
    | true => rw [hq] at h; exact h
    | false => rw [hq] at h; cases h
  | a :: l, i, j + 1, v, h => fx_lk_mask live l (i + 1) j v h
theorem fr_L_mask {as : List Nat} {ls : Array Slot} {nL : Nat} {lv : fxL} (live : List Nat) (h : fr_L as ls nL lv) : fr_L as ls nL (fx_mask live 0 lv) := by
  obtain ⟨lv', h1, h2⟩ := h
  exact ⟨lv', h1, fun i v hv => h2 i v (fx_lk_mask live lv 0 i v hv)⟩
/-- the locals of a frame that begins -/
def fx_pad : Nat → fxL
  | 0 => []
  | n + 1 => none :: fx_pad n
def fx_args : List fxV → fxL
  | [] => []
  | v :: l => some v :: cond (fx_long v) (none :: fx_args l) (fx_args l)
def fx_ent (mL : Nat) (args : List fxV) : fxL := fx_args args ++ fx_pad (mL - fx_cat args)
theorem fx_pad_no : ∀ (n j : Nat) (u : fxV), fx_lk (fx_pad n) j = some u → False
  | 0, _, _, h => by cases h
  | _ + 1, 0, _, h => by cases h
  | n + 1, j + 1, u, h => fx_pad_no n j u h
theorem fx_args_ok {as : List Nat} {n : Nat} : ∀ {l : List fxV} {vs : List Value} (i : Nat), zr_2 (fr_v as) l vs → ∀ (j : Nat) (u : fxV), fx_lk (fx_args l ++ fx_pad n) j = some u → ∃ w, (i + j, w) ∈ lv_args i vs ∧ fr_v as u w
  | [], vs, i, _, j, u, h => (fx_pad_no n j u h).elim
  | v :: l, [], i, hh, j, u, h => hh.elim
  | v :: l, w :: vs, i, hh, 0, u, h => by
    have h : some v = some u := h
    cases h
    exact ⟨w, List.mem_cons_self, hh.1⟩
  | v :: l, w :: vs, i, hh, j + 1, u, h => by
    have h : fx_lk (cond (fx_long v) (none :: fx_args l) (fx_args l) ++ fx_pad n) j = some u := h
    have hc := fr_cat hh.1
    cases hv : fx_long v with
    | false =>
      rw [hv] at h hc
      obtain ⟨w', m1, m2⟩ := fx_args_ok (i + 1) hh.2 j u h
      refine ⟨w', ?_, m2⟩
      rw [show i + (j + 1) = i + 1 + j by omega]
      refine List.mem_cons_of_mem _ ?_
      have : (if w.category = 2 then i + 2 else i + 1) = i + 1 := if_neg (by rw [hc]; decide)
      rw [this]
      exact m1
    | true =>
      rw [hv] at h hc
      rcases j with _ | j
      · cases h
      · have h : fx_lk (fx_args l ++ fx_pad n) j = some u := h
        obtain ⟨w', m1, m2⟩ := fx_args_ok (i + 2) hh.2 j u h
        refine ⟨w', ?_, m2⟩
        rw [show i + (j + 1 + 1) = i + 2 + j by omega]
        refine List.mem_cons_of_mem _ ?_
        have : (if w.category = 2 then i + 2 else i + 1) = i + 2 := if_pos (by rw [hc]; rfl)
        rw [this]
        exact m1
theorem fx_cat_sl {as : List Nat} : ∀ {l : List fxV} {vs : List Value}, zr_2 (fr_v as) l vs → (lg_sl vs).length = fx_cat l ∧ (vs.map fun v => v.category).sum = fx_cat l
  | [], [], _ => ⟨rfl, rfl⟩
  | v :: l, w :: vs, h => by
    obtain ⟨h1, h2⟩ := fx_cat_sl h.2
    have hc := fr_cat h.1
    unfold lg_sl at h1 ⊢
    rw [List.flatMap_cons, List.length_append, h1, List.map_cons, List.sum_cons, h2]
    show _ = cond (fx_long v) (fx_cat l + 2) (fx_cat l + 1) ∧ _ = cond (fx_long v) (fx_cat l + 2) (fx_cat l + 1)
    cases hv : fx_long v with
    | true => rw [hv] at hc; have hc : w.category = 2 := hc; rw [if_pos hc, hc]; exact ⟨Nat.add_comm _ _, Nat.add_comm _ _⟩
    | false => rw [hv] at hc; have hc : w.category = 1 := hc; rw [if_neg (by omega), hc]; exact ⟨Nat.add_comm _ _, Nat.add_comm _ _⟩
  | [], _ :: _, h => h.elim
  | _ :: _, [], h => h.elim
theorem fx_take_ok {k : List fxV → List fxV → Prop} : ∀ {n : Nat} {stk acc : List fxV}, fx_take n stk acc k → ∃ pre rest, stk = pre ++ rest ∧ pre.length = n ∧ k (pre.reverse ++ acc) rest
  | 0, stk, acc, h => ⟨[], stk, rfl, rfl, h⟩
  | n + 1, [], acc, h => h.elim
  | n + 1, c :: r, acc, h => by
    obtain ⟨pre, rest, h1, h2, h3⟩ := fx_take_ok (n := n) (stk := r) (acc := c :: acc) h
    refine ⟨c :: pre, rest, by rw [h1]; rfl, by rw [List.length_cons, h2], ?_⟩
    rw [List.reverse_cons, List.append_assoc]
    exact h3
section FC
variable {cu cw : Nat} {M2 : zkMS} {rm : List (Nat × Nat × Nat)} {p : Program} {l : Launch} {e : Env} {R : Room} {s : State} {m : MethodId} {args : Array Value} {below : List Frame} {meth : Method} {c : Code} {Q : State → Prop} {G : va_G} {A : Nat → Prop} {as : List Nat} {S : fxS} {H : Heap} {locs : List Loc} {ls : Array Slot}
theorem fx_after {k : fxK} {pc : Nat} {vs0 restv : List Value} {ar : Array Value} (hr : va_Run p l e R s m args below meth c H locs cu cw 0 0 (F0 m pc ls vs0) restv (fr_Post G k as H.size ar) (zk_fr as H.size)) (hS : va_S A s.heap H locs) (hf : ∀ q, zk_fr as H.size q → A q)
    (kk : ∀ (r : Option fxV) (v : Option Value) (S' : fxS) (H1 : Heap) (locs1 : List Loc), k r S' → fr_o as r v → fr_HP G s A as S' H1 → va_S A s.heap H1 locs1 → W p l e R s m args below meth c H1 locs1 cu cw Q (F0 m (pc + 3) ls (v.toList ++ restv))) : W p l e R s m args below meth c H locs cu cw Q (F0 m pc ls vs0) := by
  intro T hT X
  obtain ⟨v, st₀, t, T', L, h0, X', hL, e1, e2, ⟨⟨r, v', S', k1, k2, k3, k5⟩, hz, hk⟩, stp⟩ := hr T hT X
  cases k2
  rw [h0] at hz hk
  have hvm : s.vm.Alike t.vm := by rw [← e2]; exact X'.warmed.alike
  obtain ⟨hT', tys, ws, hK, hW, hP, hD, hAs⟩ := k5
  obtain ⟨t2, a1, b1⟩ := kk r v S' T'.heap (locs ++ L) k1 k3 ⟨hT', tys, ws, va_K.moved hvm.symm hK, hW, by rw [e1]; exact hP, hD.weaken (fun _ q _ h => hf q.1 h), fun a ha => hf a (hAs a ha)⟩
    ⟨Nat.le_trans hS.1 (by rw [e1]; exact hz), fun q h1 h2 => by rw [e1, hk q (Nat.lt_of_lt_of_le h1 hS.1) (fun z => h2 (hf q z))]; exact hS.2.1 q h1 h2, fun q hq => by
      rcases List.mem_append.mp hq with h | h
      · exact hS.2.2 q h
      · exact hf _ (hL q h)⟩ T' rfl X'
  exact ⟨t2, stp t2 a1, b1⟩
/-- a call, whatever its kind -/
theorem fx_do {k : fxK} {bn pc : Nat} {cargs : List fxV} {av vrest vs0 : List Value} {rl : Nat × Nat} (hC : fr_Call M2 rm l bn cargs S k) (hro : fx_room rm rl bn = true) (hrl : rl.1 < 9999) (hR : R.frames = rl.1 ∧ R.locals = rl.2) {y2 : MethodName} {cc2 : ByteArray} {mL2 : Nat} {ret2 : Option FieldType} (hms : M2[bn]? = some (y2, cc2, mL2, ret2)) (hrm : ∀ f w mL', rm[bn]? = some (f, w, mL') → mL' = mL2) (hav : zr_2 (fr_v as) cargs av) (hS : va_S A s.heap H locs) (hHP : fr_HP G s A as S H) (hN : zk_N s) (hA : ∀ q, s.heap.size ≤ q → A q)
    (run : ∀ (rmm : Room), Met l y2 (Cond.code y2 cc2 mL2 ret2 :: zk_T) rmm (va_Pc av (fr_Pre G S as H.size)) (fr_Post G k as H.size) 0 0 (zk_fr as H.size) → rmm.cells = 0 → rmm.slots = 0 → rmm.frames + 1 ≤ R.frames → 8 + (mL2 + 11) + rmm.locals ≤ R.locals → FrameBlind (va_Pc av (fr_Pre G S as H.size)) → (∀ U : State, U.heap = H → s.WarmedH U.vm → va_Pc av (fr_Pre G S as H.size) av.toArray U) → va_Run p l e R s m args below meth c H locs cu cw 0 0 (F0 m pc ls vs0) vrest (fr_Post G k as H.size av.toArray) (zk_fr as H.size))
    (kk : ∀ (r : Option fxV) (v : Option Value) (S' : fxS) (H1 : Heap) (locs1 : List Loc), k r S' → fr_o as r v → fr_HP G s A as S' H1 → va_S A s.heap H1 locs1 → W p l e R s m args below meth c H1 locs1 cu cw Q (F0 m (pc + 3) ls (v.toList ++ vrest))) : W p l e R s m args below meth c H locs cu cw Q (F0 m pc ls vs0) := by
  unfold fx_room at hro
  rw [zx_N_eq] at hro
  cases hb : rm[bn]? with
  | none =>
    rw [hb] at hro
    have hro : (Nat.ble (9999 + 1) rl.1 && Nat.ble (19 + 9999 + 9999) rl.2) = true := hro
    have := zx_ble.mp (zx_an hro).1
    omega
  | some q =>
    obtain ⟨f, w, mL'⟩ := q
    rw [hb] at hro
    have hro : (Nat.ble (f + 1) rl.1 && Nat.ble (19 + mL' + w) rl.2) = true := hro
    obtain ⟨q1, q2⟩ := zx_an hro
    have q1 := zx_ble.mp q1
    have q2 := zx_ble.mp q2
    have hml := hrm f w mL' hb
    subst hml
    have hmet := hC y2 cc2 mL' ret2 f w mL' hms hb G as av H.size hav
    obtain ⟨hT, tys, ws, hK, hW, hP, hD, hAs⟩ := hHP
    have hrun := run _ hmet rfl rfl (by show f + 1 ≤ R.frames; omega) (by show 8 + (mL' + 11) + w ≤ R.locals; omega) (fr_blind G S as H.size av)
      (fun U hU hWm => ⟨rfl, by rw [hU], ⟨hT, tys, ws, va_K.moved hWm.alike hK, hW, by rw [hU]; exact hP, hD.weaken (fun _ _ _ _ => trivial), fun _ _ => trivial⟩, zk_N_warm hWm hN⟩)
    refine fx_after hrun hS (fun q hq => ?_) kk
    rcases hq with hq | hq
    · exact hAs q hq
    · exact hA q (Nat.le_trans hS.1 hq)
end FC
