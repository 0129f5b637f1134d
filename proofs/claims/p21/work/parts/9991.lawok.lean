/-! the law's engine is sound -/
section LW
variable {p : Program} {l : Launch} {e : Env} {R : Room} {s : State} {m : MethodId} {args : Array Value} {below : List Frame} {meth : Method} {c : Code} {Q : State → Prop} {G : va_G} {A : Nat → Prop} {as : List Nat} {b LN cu cw : Nat} {xs : Nat → Int32} {y : MethodName} {cc : ByteArray} {tb : zxTB} {f w : Nat} {cuts : List (Nat × List Nat)}
def lw_K (p : Program) (l : Launch) (e : Env) (R : Room) (s : State) (m : MethodId) (args : Array Value) (below : List Frame) (meth : Method) (c : Code) (Q : State → Prop) (G : va_G) (A : Nat → Prop) (as : List Nat) (cu cw : Nat) : fxZ := fun pc lv stk S => ∀ (H : Heap) (locs : List Loc) (ls : Array Slot) (vs : List Value), fr_R G A 4 s as H locs ls vs lv stk S → W p l e R s m args below meth c H locs cu cw Q (F0 m pc ls vs)
theorem fr_at_sc (b : Nat) : fr_at as (1000 + b, 0) = some b := by
  unfold fr_at
  split
  · rename_i h
    have := fx_g80 h
    have : 1000 + b < 80 := this
    omega
  · rw [if_pos (show 1000 ≤ 1000 + b by omega)]
    show some (1000 + b - 1000) = some b
    rw [show 1000 + b - 1000 = b by omega]
set_option maxRecDepth 20000 in
set_option maxHeartbeats 2000000 in
theorem fxL_ok (hC : zk_C) (hro : ∀ pc, zk_ro fx_ms2 fx_Ps y cc 4 (some .boolean) pc (zx_row tb pc)) (hop : ∀ pc, (zx_row tb pc).1 < 71 ∨ (zx_row tb pc).1 = 78 ∨ (zx_row tb pc).1 = 79 ∨ (zx_row tb pc).1 = 999)
    (hCx : zk_Cx p s m args meth c A y cc 4) (hR : R.frames = f ∧ R.locals = w) (hf : f < 9999) (hcu : cu ≤ R.cells) (hcw : cw ≤ R.slots) (hX : va_X b LN xs s s.heap) (hbz : b < s.heap.size) (hbA : ¬ A b) (hLN : LN < 2147483648)
    (hret : ∀ (pc : Nat) (ls : Array Slot) (H : Heap) (locs : List Loc), va_S A s.heap H locs → decode cc pc = .ok (.ireturn, 1) → W p l e R s m args below meth c H locs cu cw Q (F0 m pc ls [.int 1])) :
    ∀ (n pc : Nat) (lv : fxL) (stk : List fxV) (S : fxS), fxLaw (1000 + b) (fun j => (xs j).toInt) (LN : Int) (fC l) fx_rm tb (f, w) cuts (lw_K p l e R s m args below meth c Q G A as cu cw) (fun r _ => r = some (.inl 1)) n pc lv stk S → lw_K p l e R s m args below meth c Q G A as cu cw pc lv stk S
  | 0, pc, lv, stk, S, h => h.elim
  | n + 1, pc, lv, stk, S, h => by
    intro H locs ls vs r
    have h : fxL_step (1000 + b) (fun j => (xs j).toInt) (LN : Int) (fC l) fx_rm tb (f, w) (fun r _ => r = some (.inl 1)) (fun pc lv stk S => match fx_cut cuts pc with | some live => lw_K p l e R s m args below meth c Q G A as cu cw pc (fx_mask live 0 lv) stk S | none => fxLaw (1000 + b) (fun j => (xs j).toInt) (LN : Int) (fC l) fx_rm tb (f, w) cuts (lw_K p l e R s m args below meth c Q G A as cu cw) (fun r _ => r = some (.inl 1)) n pc lv stk S) pc lv stk S := h
    have kk : fr_KK cu cw p l e R s m args below meth c Q G A 4 as (fun pc lv stk S => match fx_cut cuts pc with | some live => lw_K p l e R s m args below meth c Q G A as cu cw pc (fx_mask live 0 lv) stk S | none => fxLaw (1000 + b) (fun j => (xs j).toInt) (LN : Int) (fC l) fx_rm tb (f, w) cuts (lw_K p l e R s m args below meth c Q G A as cu cw) (fun r _ => r = some (.inl 1)) n pc lv stk S) := by
      intro pc lv stk S H locs ls vs hk r
      split at hk
      · exact hk H locs ls vs ⟨r.1, r.2.1, fr_L_mask _ r.2.2.1, r.2.2.2⟩
      · exact fxL_ok hC hro hop hCx hR hf hcu hcw hX hbz hbA hLN hret n pc lv stk S hk H locs ls vs r
    generalize (fun pc lv stk S => match fx_cut cuts pc with | some live => lw_K p l e R s m args below meth c Q G A as cu cw pc (fx_mask live 0 lv) stk S | none => fxLaw (1000 + b) (fun j => (xs j).toInt) (LN : Int) (fC l) fx_rm tb (f, w) cuts (lw_K p l e R s m args below meth c Q G A as cu cw) (fun r _ => r = some (.inl 1)) n pc lv stk S : fxZ) = kz at h kk
    have hrw := hro pc
    have hopp := hop pc
    unfold fxL_step fx_step at h
    generalize zx_row tb pc = row at h hrw hopp
    obtain ⟨op, a, b2, nxt, d⟩ := row
    obtain ⟨r1, r2, r64, r65, r66, r67, rc, r75, r76, r77, r78, r79, -⟩ := hrw
    dsimp only at r1 r2 r64 r65 r66 r67 rc r75 r76 r77 r78 r79 h hopp
    obtain ⟨hx, hb, hml, hown, hts, hnm, hA, hN⟩ := id hCx
    obtain ⟨hS, hHP, hL, hV⟩ := id r
    rcases fc_b h with ⟨h1, h⟩ | ⟨h1, h⟩
    · -- the script's ints
      obtain ⟨hn, hdec⟩ := r78 (zx_beq.mp h1)
      rcases stk with _ | ⟨x | x | x, _ | ⟨q | q | q, rr⟩⟩
      case cons.inl.cons.inr.inr =>
        obtain ⟨rfl, ⟨h0, hl⟩, h9⟩ := h
        obtain ⟨vr1, rfl, hz, hV1⟩ := fv_i hV
        obtain ⟨qa, vr, rfl, hqa, hV2⟩ := fv_r hV1
        have hqb : b = qa := Option.some.inj ((fr_at_sc b).symm.trans hqa)
        rw [← hqb]
        refine va_sld hx hb hX hbz hbA hS (fz_vp h0 hl hLN) hdec (hn ▸ kk _ _ _ _ _ _ _ _ (h9 _ (fz_in _).1 (fz_in _).2 rfl) ⟨hS, hHP, hL, ⟨?_, fz_in _⟩, hV2⟩)
        rw [fz_of, fz_cl h0 (by omega)]
      all_goals exact h.elim
    rcases fc_b h with ⟨h1, h⟩ | ⟨-, h⟩
    · -- their number
      obtain ⟨hn, hdec⟩ := r79 (zx_beq.mp h1)
      rcases stk with _ | ⟨q | q | q, rr⟩
      case cons.inr.inr =>
        obtain ⟨rfl, h9⟩ := h
        obtain ⟨qa, vr, rfl, hqa, hV2⟩ := fv_r hV
        have hqb : b = qa := Option.some.inj ((fr_at_sc b).symm.trans hqa)
        rw [← hqb]
        exact va_slen hx hb hX hbz hbA hS hdec (hn ▸ kk _ _ _ _ _ _ _ _ h9 ⟨hS, hHP, hL, ⟨rfl, by omega⟩, hV2⟩)
      all_goals exact h.elim
    rcases fc_b h with ⟨h1, h⟩ | ⟨h1, h⟩
    · exact zr_2_N (R := fr_HO cu cw) (fr_no _) (fx_hands_ok hC) op p l e _ s m args below meth c _ cc 4 G A as y pc a b2 nxt d lv stk S kz H locs ls vs hCx (r1 (zx_blt.mp h1)) h r kk
    have h55 := zx_nblt.mp h1
    rcases fc_b h with ⟨h1, h⟩ | ⟨h1, h⟩
    · exact zr_2_N (R := fr_HO cu cw) (fr_no _) fx_more_ok (op - 55) p l e _ s m args below meth c _ cc 4 G A as y pc a b2 nxt d lv stk S kz H locs ls vs hCx (r2 (by omega) (by have := zx_blt.mp h1; omega)) h r kk
    rcases fc_b h with ⟨ho, h⟩ | ⟨-, h⟩
    · obtain ⟨-, hrt⟩ := r64 (zx_beq.mp ho)
      cases hrt
    rcases fc_b h with ⟨ho, h⟩ | ⟨-, h⟩
    · -- ireturn of a boolean
      obtain ⟨hdec, hrt⟩ := r65 (zx_beq.mp ho)
      rcases stk with _ | ⟨z | z | z, _ | ⟨x, rr⟩⟩
      case cons.inl.nil =>
        obtain ⟨-, h⟩ := h
        cases h
        obtain ⟨vr, rfl, hz, hV⟩ := fv_i hV
        have := fv_n hV
        subst this
        exact hret pc ls H locs hS hdec
      all_goals exact h.elim
    rcases fc_b h with ⟨ho, h⟩ | ⟨-, h⟩
    · obtain ⟨-, hrt⟩ := r66 (zx_beq.mp ho)
      cases hrt
    rcases fc_b h with ⟨ho, h⟩ | ⟨-, h⟩
    · obtain ⟨-, hrt⟩ := r67 (zx_beq.mp ho)
      cases hrt
    have after : ∀ (restc : List fxV) (vrest : List Value), zr_2 (fr_v as) restc vrest → nxt = pc + 3 → ∀ (rv : Option fxV) (v : Option Value) (S' : fxS) (H1 : Heap) (locs1 : List Loc), kz nxt lv (fx_ret rv restc) S' → fr_o as rv v → fr_HP G s A as S' H1 → va_S A s.heap H1 locs1 → W p l e R s m args below meth c H1 locs1 cu cw Q (F0 m (pc + 3) ls (v.toList ++ vrest)) := by
      intro restc vrest hrest hn rv v S' H1 locs1 hk hv hHP1 hS1
      rcases rv with _ | x
      · rcases v with _ | v
        · exact hn ▸ kk _ _ _ _ _ _ _ _ hk ⟨hS1, hHP1, hL, hrest⟩
        · exact hv.elim
      · rcases v with _ | v
        · exact hv.elim
        · exact hn ▸ kk _ _ _ _ _ _ _ _ hk ⟨hS1, hHP1, hL, hv, hrest⟩
    obtain ⟨lv', hl, hlv⟩ := id hL
    rcases fc_b h with ⟨ho, h⟩ | ⟨ho, h⟩
    · -- invokevirtual
      have ho := zx_beq.mp ho
      obtain ⟨hn, y2, cc2, mL2, ret2, n2, hms2, hme, hpar, alt⟩ := rc (by omega) (by omega)
      rcases alt with ⟨-, t, q, rfl, ht16, hvw, hq1, hlink, hinst, hsel, hdec⟩ | ⟨e, -⟩ | ⟨e, -⟩ | ⟨e, -⟩ | ⟨e, -⟩
      · obtain ⟨pre, rest, rfl, hlen, h⟩ := fx_take_ok (show fx_take (n2 + 1) stk [] _ from h)
        rw [List.append_nil] at h
        obtain ⟨vpre, vrest, rfl, hpre, hrest⟩ := zr_2_split hV
        have hav := zr_2_rev hpre
        have hlv2 : vpre.length = n2 + 1 := by rw [← zr_2_len hpre]; exact hlen
        generalize hca : pre.reverse = cargs at h hav
        rcases cargs with _ | ⟨c0, ctl⟩
        · exact h.elim
        obtain ⟨h3, h⟩ := fc_t h
        obtain ⟨h3, h4⟩ := zx_an h3
        obtain ⟨h4, h5⟩ := zx_an h4
        have h3 := zx_beq.mp h3
        have h4 := zx_ble.mp h4
        generalize hva : vpre.reverse = av at hav
        rcases av with _ | ⟨v0, As⟩
        · exact hav.elim
        rcases c0 with z | z | ⟨g, i⟩
        · exact absurd (show 0 = t from h3) (by omega)
        · exact absurd (show 0 = t from h3) (by omega)
        obtain ⟨qa, hqa, rfl⟩ := hav.1
        have h3 : fx_kd g = t := h3
        obtain ⟨hT, tys, ws, hK, hW, hP, hD, hAs⟩ := id hHP
        obtain ⟨hi, e0, he, hE⟩ := fr_W_get hW hqa (by omega)
        have hvp : vpre = As.reverse ++ [.ref qa] := by rw [← List.reverse_reverse vpre, hva, List.reverse_cons]
        have hAl : As.length = n2 := by
          have : (Value.ref qa :: As).length = n2 + 1 := by rw [← hva, List.length_reverse]; exact hlv2
          exact Nat.succ.inj this
        have hroom : (vrest.map fun v => v.category).sum ≤ 8 := by rw [(fx_cat_sl hrest).2]; exact h4
        refine fx_do h h5 hf hR hms2 (fun f2 w2 m2 hb2 => fx_hrm b2 _ _ _ _ f2 w2 m2 hms2 hb2) hav hS hHP hN hA ?_ (after rest vrest hrest hn)
        intro rmm hmet e1 e2 e3 e4 hbl hpc
        have hcw2 : CallW R s args y.cls y2.cls (a % 65536) y2 cc2 mL2 ret2 (Cond.code y2 cc2 mL2 ret2 :: zk_T) rmm 0 0 n2 := ⟨callB_of n2 hts (zk_good (fun w h => h) (fun w hw => by rcases List.mem_cons.mp hw with rfl | hw; exact hme.1; exact hw)) rfl e1 e2 (hts _ hme.2.2.1) (hts _ hlink) ⟨hme.2.2.2.1, hme.2.2.2.2, hpar⟩ ⟨e3, e4⟩, hts _ hinst, hts _ hsel⟩
        rcases hE with ⟨g16, fs, rfl, -⟩ | ⟨g16, -⟩
        · exact va_runV ⟨hx, hb, hml, hown, hts⟩ hmet hcw2 ⟨hbl, hq1 ▸ va_recv hK hP (ci := fx_kd g - 16) (q0 := fx_flat g i) (by rw [h3]; exact hvw) he, hpc⟩ rfl hAl hl.1 (by rw [hvp]; simp) (lv_room hroom) hdec ⟨hcu, hcw⟩
        · omega
      · exact absurd (ho.symm.trans e) (by decide)
      · exact absurd (ho.symm.trans e) (by decide)
      · exact absurd (ho.symm.trans e) (by decide)
      · exact absurd (ho.symm.trans e) (by decide)
    have ho70 : op ≠ 70 := fun q => by
      rw [q] at ho
      exact absurd ho (by decide)
    exfalso
    clear r1 r2 r64 r65 r66 r67 rc r75 r76 r77 r78 r79
    rcases fc_b h with ⟨ho, -⟩ | ⟨-, h⟩
    · have := zx_beq.mp ho; omega
    rcases fc_b h with ⟨ho, -⟩ | ⟨-, h⟩
    · have := zx_beq.mp ho; omega
    rcases fc_b h with ⟨ho, -⟩ | ⟨-, h⟩
    · have := zx_beq.mp ho; omega
    rcases fc_b h with ⟨ho, -⟩ | ⟨-, h⟩
    · have := zx_beq.mp ho; omega
    obtain ⟨ho, -⟩ := fc_t h
    have := zx_beq.mp ho
    omega
end LW
