abbrev zxRow : Type := Nat × Nat × Nat × Nat × List Nat
abbrev zxTB : Type := List (List zxRow)
abbrev zxMS : Type := List (zxTB × Nat × Nat × Nat)
abbrev zxKL : Type := Nat → zxHP → zxST → Bool
abbrev zxRT : Type := Nat → zxTB → Nat → Nat → Nat → Nat → Nat → Nat → zxKL → zxKT → zxKT
noncomputable def zx_row (tb : zxTB) (pc : Nat) : zxRow := zx_N (999, 0, 0, 0, []) (zx_N [] tb (pc / 16)) (pc % 16)
noncomputable def zx_take (n : Nat) : List Nat → List Nat → (List Nat → List Nat → Bool) → Bool := Nat.rec (motive := fun _ => List Nat → List Nat → (List Nat → List Nat → Bool) → Bool) (fun stk acc k => k acc stk) (fun _ ih stk acc k => match stk with | c :: r => ih r (c :: acc) k | [] => false) n
noncomputable def zx_args (l : List Nat) : Nat → (zxLV → Bool) → Bool := List.rec (motive := fun _ => Nat → (zxLV → Bool) → Bool) (fun _ k => k []) (fun c _ ih i k => zx_F (cond (zx_2 c) (i + 2) (i + 1)) (fun j => ih j (fun r => k ((i, c) :: r)))) l
noncomputable def zx_cat (l : List Nat) : Nat := List.rec (motive := fun _ => Nat) 0 (fun c _ ih => cond (zx_2 c) (ih + 2) (ih + 1)) l
def zh_fail : zxHD := fun _ _ _ _ _ _ _ _ _ _ _ => false
/-- a call of the method b: its frame by ih, then on with kc -/
noncomputable def zx_call (ms : zxMS) (ih : zxRT) (fr lo cu cw b : Nat) (args rest : List Nat) (hp : zxHP) (st : zxST) (u w : Nat) (kc : List Nat → zxHP → zxST → Nat → Nat → Bool) : Bool :=
  match zx_N ([], 0, 0, 0) ms b with
  | (tb2, mL, bu, bw) => cond (Nat.blt b (zx_Z ms) && (Nat.ble 1 fr && (Nat.ble (19 + mL) lo && (Nat.ble (zx_cat args) mL && Nat.ble (zx_cat rest) 8))))
      (zx_F (fr - 1) (fun fr2 => zx_F (lo - (19 + mL)) (fun lo2 => zx_args args 0 (fun lv2 => zx_F (u + bu) (fun u2 => zx_F (w + bw) (fun w2 => cond (Nat.ble u2 cu && Nat.ble w2 cw)
        (ih b tb2 fr2 lo2 bu bw 0 99999 (fun c hp2 st2 => cond (Nat.beq c 75) (kc rest hp2 st2 u2 w2) (kc (c :: rest) hp2 st2 u2 w2)) (fun _ _ _ _ _ _ _ => false) 0 lv2 [] hp st 0 0) false)))))) false
def zx_hn (h : zxHP) : Nat := match h with | (n, _) => n
/-- no name in a heap -/
def zx_cl (c : Nat) : Bool := Nat.blt (c % 8) 4 || Nat.beq c 6
def zx_clean (h : zxHP) : Bool := match h with | (_, cs) => cs.all (fun ch => ch.all (fun E => match E with | (_, _, fs, es) => fs.all zx_cl && es.all (fun q => match q with | (_, v) => zx_cl v)))
def zx_de1 : DecidableEq (List Nat × List (Nat × Nat)) := fun a b => @instDecidableEqProd _ _ inferInstance inferInstance a b
def zx_de2 : DecidableEq (Nat × List Nat × List (Nat × Nat)) := fun a b => @instDecidableEqProd _ _ inferInstance zx_de1 a b
def zx_de3 : DecidableEq zxCE := fun a b => @instDecidableEqProd _ _ inferInstance zx_de2 a b
def zx_de4 : DecidableEq (List (List zxCE)) := fun a b => @instDecidableEqList _ (@instDecidableEqList _ zx_de3) a b
def zx_de5 : DecidableEq zxHP := fun a b => @instDecidableEqProd _ _ inferInstance zx_de4 a b
def zx_bk (c x1 nxt u w : Nat) (hp2 : zxHP) : zxKT := fun pc2 lv2 stk2 hp3 _ u2 w2 => and (Nat.beq pc2 nxt) (and (decide (lv2 = ([(2, 788), (0, c), (1, x1)] : List (Nat × Nat)))) (and (decide (stk2 = ([] : List Nat))) (and (@decide (hp3 = hp2) (zx_de5 hp3 hp2)) (and (Nat.beq u2 u) (Nat.beq w2 w)))))
theorem zx_bk_ok {c x1 nxt u w pc2 u2 w2 : Nat} {hp2 hp3 : zxHP} {lv2 : zxLV} {stk2 : List Nat} {st : zxST} (h : zx_bk c x1 nxt u w hp2 pc2 lv2 stk2 hp3 st u2 w2 = true) : pc2 = nxt ∧ lv2 = [(2, 788), (0, c), (1, x1)] ∧ stk2 = [] ∧ hp3 = hp2 ∧ u2 = u ∧ w2 = w := by
  obtain ⟨h1, h⟩ := Bool.and_eq_true_iff.mp (show and _ _ = true from h)
  obtain ⟨h2, h⟩ := Bool.and_eq_true_iff.mp h
  obtain ⟨h3, h⟩ := Bool.and_eq_true_iff.mp h
  obtain ⟨h4, h⟩ := Bool.and_eq_true_iff.mp h
  obtain ⟨h5, h6⟩ := Bool.and_eq_true_iff.mp h
  exact ⟨Nat.eq_of_beq_eq_true h1, of_decide_eq_true h2, of_decide_eq_true h3, @of_decide_eq_true _ (zx_de5 hp3 hp2) h4, Nat.eq_of_beq_eq_true h5, Nat.eq_of_beq_eq_true h6⟩
/-- calls, ends, the script, a loop that changes one number alone (80) -/
noncomputable def zx_spec (ms : zxMS) (ih : zxRT) (y : Nat) (tb : zxTB) (fr lo cu cw sc sp : Nat) (kl : zxKL) (ks : zxKT) (op a b nxt : Nat) (d : List Nat) (lv : zxLV) (stk : List Nat) (hp : zxHP) (st : zxST) (u w : Nat) : Bool :=
  cond (Nat.beq op 70) (match d with | [n, t] => zx_take n stk [] (fun args rest => match args with | c :: _ => cond (Nat.beq (c % 8) 3) (match zx_G hp (c / 8) with | (t2, _, _, _) => cond (Nat.beq t2 t) (zx_call ms ih fr lo cu cw b args rest hp st u w (fun stk2 hp2 st2 u2 w2 => ih y tb fr lo cu cw sc sp kl ks nxt lv stk2 hp2 st2 u2 w2)) false) false | [] => false) | _ => false)
  (cond (Nat.beq op 73) (match d with | [n] => zx_take n stk [] (fun args rest => zx_call ms ih fr lo cu cw b args rest hp st u w (fun stk2 hp2 st2 u2 w2 => ih y tb fr lo cu cw sc sp kl ks nxt lv stk2 hp2 st2 u2 w2)) | _ => false)
  (cond (Nat.beq op 64) (match stk with | [c] => cond (zx_i c) (zx_M c st (fun c => kl c hp st)) false | _ => false)
  (cond (Nat.beq op 65) (match stk with | [c] => cond (zx_i c) (zx_M c st (fun c => cond (Nat.beq c 0 || Nat.beq c 8) (kl c hp st) false)) false | _ => false)
  (cond (Nat.beq op 67) (match stk with | [] => kl 75 hp st | _ => false)
  (cond (Nat.beq op 66) (match stk with | [c] => cond (zx_2 c) (kl c hp st) false | _ => false)
  (cond (Nat.beq op 71 || Nat.beq op 72) (match d with | [n] => zx_take n stk [] (fun args rest => match args with | c :: _ => cond (Nat.beq (c % 8) 3) (zx_call ms ih fr lo cu cw b args rest hp st u w (fun stk2 hp2 st2 u2 w2 => ih y tb fr lo cu cw sc sp kl ks nxt lv stk2 hp2 st2 u2 w2)) false | [] => false) | _ => false)
  (cond (Nat.beq op 74) (match d with | [n, t, t'] => zx_take n stk [] (fun args rest => match args with | c :: _ => cond (Nat.beq (c % 8) 3) (match zx_G hp (c / 8) with | (t2, _, _, _) => cond (Nat.beq t2 t || Nat.beq t2 t') (zx_call ms ih fr lo cu cw b args rest hp st u w (fun stk2 hp2 st2 u2 w2 => ih y tb fr lo cu cw sc sp kl ks nxt lv stk2 hp2 st2 u2 w2)) false) false | [] => false) | _ => false)
  (cond (Nat.beq op 75) (match stk with | c :: r => cond (Nat.beq (c % 8) 3 && (Nat.ble 1 fr && (Nat.ble 60 lo && Nat.ble (zx_cat r) 8))) (ih y tb fr lo cu cw sc sp kl ks nxt lv r hp st u w) false | [] => false)
  (cond (Nat.beq op 76) (cond (Nat.ble 1 fr && Nat.ble 60 lo) (zh_copy a b nxt d lv stk hp st u w (fun pc lv stk hp st u w => cond (Nat.ble u cu && Nat.ble w cw) (ih y tb fr lo cu cw sc sp kl ks pc lv stk hp st u w) false)) false)
  (cond (Nat.beq op 77) (match stk with | c :: r => cond (Nat.beq (c % 8) 7 && (Nat.ble 1000 (c / 8) && (Nat.blt (c / 8) 1064 && (Nat.ble 2 fr && (Nat.ble 60 lo && Nat.ble (zx_cat r) 8))))) (zx_F (c / 8 - 900) (fun id => zx_V st id (fun lw hg => cond (Nat.ble 2147483648 lw && Nat.ble hg 2147483649) (zx_F (8 * id + 4) (fun v => ih y tb fr lo cu cw sc sp kl ks nxt lv (v :: r) hp st u w)) (zx_F (8 * id + 4) (fun v => ih y tb fr lo cu cw sc sp kl ks nxt lv (v :: r) hp ((id, 2147483648, 2147483649) :: st) u w))))) false | [] => false)
  (cond (Nat.beq op 78) (match stk with | i :: c :: r => cond (Nat.beq c 10 && (Nat.beq (i % 8) 0 && Nat.blt (Nat.succ (i / 8)) sc)) (zx_F (i + 4) (fun v => ih y tb fr lo cu cw sc sp kl ks nxt lv (v :: r) hp st u w)) false | _ => false)
  (cond (Nat.beq op 79) (match stk with | c :: r => cond (Nat.beq c 10 && Nat.blt 0 sc) (zx_F (8 * (sc - 1)) (fun v => ih y tb fr lo cu cw sc sp kl ks nxt lv (v :: r) hp st u w)) false | _ => false)
  (cond (Nat.beq op 80) (match d with | [kc, slot] => (match stk with | [] => zx_F (zx_A lv 74 1) (fun x1 => zx_F (zx_A lv 74 0) (fun c => cond (Nat.beq (x1 % 8) 4 && (Nat.blt (x1 / 8) 98 && (Nat.beq (c % 8) 3 && (Nat.beq (zx_A lv 74 2) 0 && st.all (fun q => Nat.blt q.1 98))))) (match zx_G hp kc with | (t, n, fs, es) => cond (Nat.blt kc (zx_hn hp) && (Nat.ble 16 t && (zx_i (zx_N 74 fs slot) && Nat.blt slot (zx_Z fs)))) (zx_S fs slot 6 (fun fs2 => zx_H hp kc (t, n, fs2, es) (fun hp2 => and (zx_clean hp2) (and (ih y tb fr lo cu cw sc nxt (fun _ _ _ => false) (zx_bk c x1 nxt u w hp2) b [(2, 788), (0, c), (1, x1)] [] hp2 st u w) (ih y tb fr lo cu cw sc sp kl ks a [(2, 6), (0, c), (1, x1)] [] hp2 st u w))))) false) false)) | _ => false) | _ => false)
  false)))))))))))))
noncomputable def zx_body (ms : zxMS) (pr : List zxHD) (ih : zxRT) : zxRT := fun y tb fr lo cu cw sc sp kl ks pc lv stk hp st u w =>
  cond (Nat.beq pc sp) (ks pc lv stk hp st u w)
  (match zx_row tb pc with
   | (op, a, b, nxt, d) => cond (Nat.blt op 55) (zx_N zh_fail zx_hands op a b nxt d lv stk hp st u w (fun pc lv stk hp st u w => cond (Nat.ble u cu && Nat.ble w cw) (ih y tb fr lo cu cw sc sp kl ks pc lv stk hp st u w) false))
      (cond (Nat.blt op 64) (cond (Nat.ble 1 fr && Nat.ble 60 lo) (zx_N zh_fail pr (op - 55) a b nxt d lv stk hp st u w (fun pc lv stk hp st u w => cond (Nat.ble u cu && Nat.ble w cw) (ih y tb fr lo cu cw sc sp kl ks pc lv stk hp st u w) false)) false)
        (zx_spec ms ih y tb fr lo cu cw sc sp kl ks op a b nxt d lv stk hp st u w)))
noncomputable def zx_run (ms : zxMS) (pr : List zxHD) (fuel : Nat) : zxRT := Nat.rec (motive := fun _ => zxRT) (fun _ _ _ _ _ _ _ _ _ _ _ _ _ _ _ _ _ => false) (fun _ ih => zx_body ms pr ih) fuel
theorem zx_take_ok {k : List Nat → List Nat → Bool} : ∀ {n : Nat} {stk acc : List Nat}, zx_take n stk acc k = true → ∃ pre rest, stk = pre ++ rest ∧ pre.length = n ∧ k (pre.reverse ++ acc) rest = true
  | 0, stk, acc, h => ⟨[], stk, rfl, rfl, h⟩
  | n + 1, [], acc, h => absurd h Bool.false_ne_true
  | n + 1, c :: r, acc, h => by
    obtain ⟨pre, rest, h1, h2, h3⟩ := zx_take_ok (n := n) (stk := r) (acc := c :: acc) h
    refine ⟨c :: pre, rest, by rw [h1]; rfl, by rw [List.length_cons, h2], ?_⟩
    rw [List.reverse_cons, List.append_assoc]
    exact h3
def zx_argl : Nat → List Nat → zxLV
  | _, [] => []
  | i, c :: l => (i, c) :: zx_argl (cond (zx_2 c) (i + 2) (i + 1)) l
theorem zx_args_eq : ∀ (l : List Nat) (i : Nat) (k : zxLV → Bool), zx_args l i k = k (zx_argl i l)
  | [], i, k => rfl
  | c :: l, i, k => by
    show zx_F (cond (zx_2 c) (i + 2) (i + 1)) (fun j => zx_args l j (fun r => k ((i, c) :: r))) = _
    rw [zx_F_eq, zx_args_eq l]
    rfl
theorem zx_argl_ok {σ : Nat → Int32} {b : zxBB} {as : List Nat} : ∀ {l : List Nat} {vs : List Value} (i : Nat), zr_2 (zr σ b as) l vs → zr_LV σ b as (zx_argl i l) (lv_args i vs)
  | [], [], i, _ => trivial
  | c :: l, v :: vs, i, h => by
    refine ⟨⟨rfl, h.1⟩, ?_⟩
    have e : (cond (zx_2 c) (i + 2) (i + 1)) = if v.category = 2 then i + 2 else i + 1 := by
      have h1 := zr_cat h.1
      cases h2 : zx_2 c with
      | true => rw [h2] at h1; rw [if_pos (beq_iff_eq.mp h1)]; rfl
      | false => rw [h2] at h1; rw [if_neg (fun q => by rw [q] at h1; exact absurd h1 (by decide))]; rfl
    rw [← e]
    exact zx_argl_ok _ h.2
  | [], _ :: _, _, h => h.elim
  | _ :: _, [], _, h => h.elim
theorem zx_cat_sum {σ : Nat → Int32} {b : zxBB} {as : List Nat} : ∀ {l : List Nat} {vs : List Value}, zr_2 (zr σ b as) l vs → (vs.map fun v => v.category).sum = zx_cat l
  | [], [], _ => rfl
  | c :: l, v :: vs, h => by
    show _ = cond (zx_2 c) (zx_cat l + 2) (zx_cat l + 1)
    rw [List.map_cons, List.sum_cons, zx_cat_sum h.2]
    have h1 := zr_cat h.1
    cases h2 : zx_2 c with
    | true => rw [h2] at h1; rw [beq_iff_eq.mp h1]; exact Nat.add_comm _ _
    | false =>
      rw [zr_cat1 h2 h.1]; exact Nat.add_comm _ _
  | [], _ :: _, h => h.elim
  | _ :: _, [], h => h.elim
theorem zx_cat_sl {σ : Nat → Int32} {b : zxBB} {as : List Nat} : ∀ {l : List Nat} {vs : List Value}, zr_2 (zr σ b as) l vs → (lg_sl vs).length = zx_cat l
  | [], [], _ => rfl
  | c :: l, v :: vs, h => by
    show _ = cond (zx_2 c) (zx_cat l + 2) (zx_cat l + 1)
    have ih := zx_cat_sl h.2
    unfold lg_sl at ih ⊢
    rw [List.flatMap_cons, List.length_append, ih]
    have h1 := zr_cat h.1
    cases h2 : zx_2 c with
    | true => rw [h2] at h1; rw [if_pos (beq_iff_eq.mp h1)]; exact Nat.add_comm _ _
    | false => rw [if_neg (by rw [zr_cat1 h2 h.1]; decide)]; exact Nat.add_comm _ _
  | [], _ :: _, h => h.elim
  | _ :: _, [], h => h.elim
theorem zr_bb {σ : Nat → Int32} {b1 b2 : zxBB} (h : b1.1 = b2.1) : zr σ b1 = zr σ b2 := by
  funext as n v
  unfold zr
  rw [h]
theorem zr_W_bb {σ : Nat → Int32} {b1 b2 : zxBB} {as : List Nat} {tys : List (ClassId × FieldType)} {hp : zxHP} {ws : va_W} (h : b1.1 = b2.1) (hp2 : b2.2 <+: as) (hW : zr_W σ b1 as tys hp ws) : zr_W σ b2 as tys hp ws := by
  refine ⟨hW.1, hW.2.1, fun k hk => ?_, hp2⟩
  obtain ⟨q, e, h1, h2, h3⟩ := hW.2.2.1 k hk
  refine ⟨q, e, h1, h2, ?_⟩
  unfold zr_E at h3 ⊢
  rw [zr_bb h] at h3
  exact h3
/-- the cells that a call may change -/
def zk_fr (as : List Nat) (sz : Nat) : Nat → Prop := fun q => q ∈ as ∨ sz ≤ q
def zk_Pre (G : va_G) (σ : Nat → Int32) (b : Nat) (as : List Nat) (hp : zxHP) (sz : Nat) : State → Prop := fun U => U.heap.size = sz ∧ zr_HP G σ (b, as) U (fun _ => True) as hp U.heap ∧ zk_N U
def zk_res (σ : Nat → Int32) (b : zxBB) (as : List Nat) (c : Nat) (v : Option Value) : Prop := (c = 75 ∧ v = none) ∨ (c ≠ 75 ∧ ∃ x, v = some x ∧ zr σ b as c x)
def zk_Post (G : va_G) (σ : Nat → Int32) (b : Nat) (as : List Nat) (sz : Nat) (kl : zxKL) : Array Value → State → Outcome → State → Prop := fun _ st0 oc t =>
  (∃ (c : Nat) (v : Option Value) (hp2 : zxHP) (st2 : zxST) (as2 : List Nat), kl c hp2 st2 = true ∧ oc = .returned v ∧ zk_res σ (b, as) as2 c v ∧ zr_in σ st2 ∧ zr_HP G σ (b, as) t (zk_fr as sz) as2 hp2 t.heap) ∧ va_F (zk_fr as sz) st0 t
theorem zr_HP_moved {G : va_G} {σ : Nat → Int32} {b : zxBB} {u U : State} {A : Nat → Prop} {as : List Nat} {hp : zxHP} {H : Heap} (hvm : u.vm.Alike U.vm) (h : zr_HP G σ b u A as hp H) : zr_HP G σ b U A as hp H := by
  obtain ⟨tys, ws, hK, h⟩ := h
  exact ⟨tys, ws, va_K.moved hvm hK, h⟩
theorem zk_N_warm {s U : State} (hW : s.WarmedH U.vm) (h : zk_N s) : zk_N U :=
  ⟨va_Nw.warmM hW h.1, va_Nw.warmM hW h.2.1, va_Nw.warmM hW h.2.2.1, va_AO.moved hW.alike h.2.2.2.1, va_AO.moved hW.alike h.2.2.2.2⟩
theorem zk_N_same {u U : State} (hv : u.vm = U.vm) (h : zk_N u) : zk_N U :=
  ⟨va_Nw.same rfl hv h.1, va_Nw.same rfl hv h.2.1, va_Nw.same rfl hv h.2.2.1, va_AO.moved (by rw [hv]; exact Vm.Alike.refl _) h.2.2.2.1, va_AO.moved (by rw [hv]; exact Vm.Alike.refl _) h.2.2.2.2⟩
theorem zk_blind (G : va_G) (σ : Nat → Int32) (b : Nat) (as : List Nat) (hp : zxHP) (sz : Nat) (av : List Value) : FrameBlind (va_Pc av (zk_Pre G σ b as hp sz)) := by
  intro a U g mk ⟨h0, h1, h2, h3⟩
  exact ⟨h0, h1, zr_HP_moved (Vm.Alike.refl U.vm) h2, zk_N_same (u := U) rfl h3⟩
section ZC
variable {p : Program} {l : Launch} {e : Env} {R : Room} {s : State} {m : MethodId} {args : Array Value} {below : List Frame} {meth : Method} {c : Code} {Q : State → Prop} {G : va_G} {σ : Nat → Int32} {b : zxBB} {A : Nat → Prop} {hp : zxHP} {st : zxST} {u w : Nat} {H : Heap} {locs : List Loc} {ls : Array Slot}
/-- behind a call -/
theorem zx_after {as : List Nat} {kl : zxKL} {bu bw pc : Nat} {vs0 restv : List Value} {ar : Array Value} (hr : va_Run p l e R s m args below meth c H locs u w bu bw (F0 m pc ls vs0) restv (zk_Post G σ b.1 as H.size kl ar) (zk_fr as H.size)) (hS : va_S A s.heap H locs) (hf : ∀ q, zk_fr as H.size q → A q)
    (kk : ∀ (r : Nat) (v : Option Value) (hp2 : zxHP) (st2 : zxST) (as2 : List Nat) (H1 : Heap) (locs1 : List Loc), kl r hp2 st2 = true → zk_res σ (b.1, as) as2 r v → zr_in σ st2 → zr_HP G σ (b.1, as) s A as2 hp2 H1 → va_S A s.heap H1 locs1 → W p l e R s m args below meth c H1 locs1 (u + bu) (w + bw) Q (F0 m (pc + 3) ls (v.toList ++ restv))) : W p l e R s m args below meth c H locs u w Q (F0 m pc ls vs0) := by
  intro T hT X
  obtain ⟨v, st₀, t, T', L, h0, X', hL, e1, e2, ⟨⟨r, v', hp2, st2, as2, k1, k2, k3, k4, k5⟩, hz, hk⟩, stp⟩ := hr T hT X
  cases k2
  rw [h0] at hz hk
  have hvm : s.vm.Alike t.vm := by rw [← e2]; exact X'.warmed.alike
  obtain ⟨tys, ws, hK, hW, hP, hD⟩ := k5
  obtain ⟨t2, a1, b1⟩ := kk r v hp2 st2 as2 T'.heap (locs ++ L) k1 k3 k4 ⟨tys, ws, va_K.moved hvm.symm hK, hW, by rw [e1]; exact hP, hD.weaken (fun _ q _ h => hf q.1 h)⟩
    ⟨Nat.le_trans hS.1 (by rw [e1]; exact hz), fun q h1 h2 => by rw [e1, hk q (Nat.lt_of_lt_of_le h1 hS.1) (fun z => h2 (hf q z))]; exact hS.2.1 q h1 h2, fun q hq => by
      rcases List.mem_append.mp hq with h | h
      · exact hS.2.2 q h
      · exact hf _ (hL q h)⟩ T' rfl X'
  exact ⟨t2, stp t2 a1, b1⟩
end ZC
