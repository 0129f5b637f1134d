/-! the second engine is sound -/
section FQ
variable {p : Program} {l : Launch} {e : Env} {R : Room} {s : State} {m : MethodId} {args : Array Value} {below : List Frame} {meth : Method} {c : Code} {Q : State → Prop} {u w : Nat} {H : Heap} {locs : List Loc} {ls : Array Slot}
/-- a call that changes nothing -/
theorem fq_quiet {pc : Nat} {v0 : Option Value} {vs0 rest : List Value} (hr : va_Run p l e R s m args below meth c H locs u w 0 0 (F0 m pc ls vs0) rest (fun st0 oc t => oc = .returned v0 ∧ t.heap = st0.heap) (fun _ => False)) (kk : W p l e R s m args below meth c H locs u w Q (F0 m (pc + 3) ls (v0.toList ++ rest))) : W p l e R s m args below meth c H locs u w Q (F0 m pc ls vs0) := by
  intro T hT X
  obtain ⟨v, st₀, t, T', L, h0, X', hLL, e1, e2, ⟨k1, k2⟩, stp⟩ := hr T hT X
  cases k1
  have hLn : L = [] := by
    rcases L with _ | ⟨x0, L⟩
    · rfl
    · exact (hLL x0 List.mem_cons_self).elim
  subst hLn
  rw [List.append_nil] at X'
  obtain ⟨t2, a1, b1⟩ := kk T' (by rw [e1, k2, h0]) X'
  exact ⟨t2, stp t2 a1, b1⟩
end FQ
section FK
variable {M2 : zkMS} {rm : List (Nat × Nat × Nat)} {l : Launch} {b : Nat} {k : fxK} {tb : zxTB} {cuts : List (Nat × List Nat)} {y : MethodName} {cc : ByteArray} {mL : Nat} {ret : Option FieldType} {f w : Nat}
set_option maxRecDepth 20000 in
set_option maxHeartbeats 2000000 in
theorem fx_ok (hC : zk_C) (hms : M2[b]? = some (y, cc, mL, ret)) (hrmb : rm[b]? = some (f, w, mL)) (hf : f < 9999) (hrm : ∀ (b2 : Nat) (y2 : MethodName) (cc2 : ByteArray) (mL2 : Nat) (ret2 : Option FieldType) (f2 w2 m2 : Nat), M2[b2]? = some (y2, cc2, mL2, ret2) → rm[b2]? = some (f2, w2, m2) → m2 = mL2) (hro : ∀ pc, zk_ro M2 fx_Ps y cc mL ret pc (zx_row tb pc)) (hr90 : ∀ pc, fx_r90 y cc pc (zx_row tb pc)) :
    ∀ (n pc : Nat) (lv : fxL) (stk : List fxV) (S : fxS), fx (fr_Call M2 rm l) rm tb (f, w) cuts (fr_Z M2 rm l b k) k n pc lv stk S → fr_Z M2 rm l b k pc lv stk S
  | 0, pc, lv, stk, S, h => h.elim
  | n + 1, pc, lv, stk, S, h => by
    intro y' cc' mL' ret' f' w' m' hms' hrm' p e s m args below meth c G as H locs ls vs hCx hret hlocks r
    rw [hms] at hms'
    cases hms'
    rw [hrmb] at hrm'
    cases hrm'
    have h : fx_step (fr_Call M2 rm l) rm tb (f, w) k (fun pc lv stk S => match fx_cut cuts pc with | some live => fr_Z M2 rm l b k pc (fx_mask live 0 lv) stk S | none => fx (fr_Call M2 rm l) rm tb (f, w) cuts (fr_Z M2 rm l b k) k n pc lv stk S) pc lv stk S := h
    have kk : fr_KK 0 0 p l e { frames := f, cells := 0, slots := 0, locals := w } s m args below meth c (MQ below (fr_Post G k as s.heap.size) args s 0 0 (zk_fr as s.heap.size)) G (zk_fr as s.heap.size) mL as (fun pc lv stk S => match fx_cut cuts pc with | some live => fr_Z M2 rm l b k pc (fx_mask live 0 lv) stk S | none => fx (fr_Call M2 rm l) rm tb (f, w) cuts (fr_Z M2 rm l b k) k n pc lv stk S) := by
      intro pc lv stk S H locs ls vs hk r
      split at hk
      · exact hk y cc mL ret f w mL hms hrmb p e s m args below meth c G as H locs ls vs hCx hret hlocks ⟨r.1, r.2.1, fr_L_mask _ r.2.2.1, r.2.2.2⟩
      · exact fx_ok hC hms hrmb hf hrm hro hr90 n pc lv stk S hk y cc mL ret f w mL hms hrmb p e s m args below meth c G as H locs ls vs hCx hret hlocks r
    generalize (fun pc lv stk S => match fx_cut cuts pc with | some live => fr_Z M2 rm l b k pc (fx_mask live 0 lv) stk S | none => fx (fr_Call M2 rm l) rm tb (f, w) cuts (fr_Z M2 rm l b k) k n pc lv stk S : fxZ) = kz at h kk
    have hrw := hro pc
    have hrw9 := hr90 pc
    unfold fx_step at h
    generalize zx_row tb pc = row at h hrw hrw9
    obtain ⟨op, a, b2, nxt, d⟩ := row
    obtain ⟨r1, r2, r64, r65, r66, r67, rc, r75, r76, r77, -, -, -⟩ := hrw
    dsimp only at r1 r2 r64 r65 r66 r67 rc r75 r76 r77 h
    rcases fc_b h with ⟨h1, h⟩ | ⟨h1, h⟩
    · exact zr_2_N (R := fr_HO 0 0) (fr_no _) (fx_hands_ok hC) op p l e _ s m args below meth c _ cc mL G (zk_fr as s.heap.size) as y pc a b2 nxt d lv stk S kz H locs ls vs hCx (r1 (zx_blt.mp h1)) h r kk
    have h55 := zx_nblt.mp h1
    rcases fc_b h with ⟨h1, h⟩ | ⟨h1, h⟩
    · exact zr_2_N (R := fr_HO 0 0) (fr_no _) fx_more_ok (op - 55) p l e _ s m args below meth c _ cc mL G (zk_fr as s.heap.size) as y pc a b2 nxt d lv stk S kz H locs ls vs hCx (r2 (by omega) (by have := zx_blt.mp h1; omega)) h r kk
    obtain ⟨hx, hb, hml, hown, hts, hnm, hA, hN⟩ := id hCx
    obtain ⟨hS, hHP, hL, hV⟩ := id r
    have hq : ∀ (rv : Option fxV) (v : Option Value), k rv S → fr_o as rv v → ∀ t : State, t.heap = H → s.WarmedH t.vm → fr_Post G k as s.heap.size args s (.returned v) t := fun rv v hk hv t ht hwm =>
      ⟨⟨rv, v, S, hk, rfl, hv, by rw [ht]; exact fr_HP_moved hwm.alike hHP⟩, hS.F ht⟩
    rcases fc_b h with ⟨ho, h⟩ | ⟨-, h⟩
    · -- ireturn
      obtain ⟨hdec, hrt⟩ := r64 (zx_beq.mp ho)
      rcases stk with _ | ⟨z | z | z, _ | ⟨x, rr⟩⟩
      case cons.inl.nil =>
        obtain ⟨vr, rfl, hz, hV⟩ := fv_i hV
        have := fv_n hV
        subst this
        exact W.zret hx hb (hret.trans hrt) (vp_nar_int _) (hq (some (.inl z)) _ h ⟨rfl, hz⟩) hS.2.2 hdec
      all_goals exact h.elim
    rcases fc_b h with ⟨ho, h⟩ | ⟨-, h⟩
    · -- ireturn of a boolean
      obtain ⟨hdec, hrt⟩ := r65 (zx_beq.mp ho)
      rcases stk with _ | ⟨z | z | z, _ | ⟨x, rr⟩⟩
      case cons.inl.nil =>
        obtain ⟨h01, h⟩ := h
        obtain ⟨vr, rfl, hz, hV⟩ := fv_i hV
        have := fv_n hV
        subst this
        refine W.zret hx hb (hret.trans hrt) ?_ (hq (some (.inl z)) _ h ⟨rfl, hz⟩) hS.2.2 hdec
        rcases (show z = 0 ∨ z = 1 by omega) with rfl | rfl
        · decide
        · decide
      all_goals exact h.elim
    rcases fc_b h with ⟨ho, h⟩ | ⟨-, h⟩
    · -- lreturn
      obtain ⟨hdec, hrt⟩ := r66 (zx_beq.mp ho)
      rcases stk with _ | ⟨z | z | z, _ | ⟨x, rr⟩⟩
      case cons.inr.inl.nil =>
        obtain ⟨vr, rfl, hz, hV⟩ := fv_l hV
        have := fv_n hV
        subst this
        exact W.lret hx hb (hret.trans hrt) (hq (some (.inr (.inl z))) _ h ⟨rfl, hz⟩) hS.2.2 hdec
      all_goals exact h.elim
    rcases fc_b h with ⟨ho, h⟩ | ⟨-, h⟩
    · -- return
      obtain ⟨hdec, hrt⟩ := r67 (zx_beq.mp ho)
      rcases stk with _ | ⟨z, rr⟩
      · have := fv_n hV
        subst this
        exact W.vret hx hb (hret.trans hrt) (hq none none h trivial) hS.2.2 hdec
      · exact h.elim
    have after : ∀ (restc : List fxV) (vrest : List Value), zr_2 (fr_v as) restc vrest → nxt = pc + 3 → ∀ (rv : Option fxV) (v : Option Value) (S' : fxS) (H1 : Heap) (locs1 : List Loc), kz nxt lv (fx_ret rv restc) S' → fr_o as rv v → fr_HP G s (zk_fr as s.heap.size) as S' H1 → va_S (zk_fr as s.heap.size) s.heap H1 locs1 → W p l e { frames := f, cells := 0, slots := 0, locals := w } s m args below meth c H1 locs1 0 0 (MQ below (fr_Post G k as s.heap.size) args s 0 0 (zk_fr as s.heap.size)) (F0 m (pc + 3) ls (v.toList ++ vrest)) := by
      intro restc vrest hrest hn rv v S' H1 locs1 hk hv hHP1 hS1
      rcases rv with _ | x
      · rcases v with _ | v
        · exact hn ▸ kk _ _ _ _ _ _ _ _ hk ⟨hS1, hHP1, hL, hrest⟩
        · exact hv.elim
      · rcases v with _ | v
        · exact hv.elim
        · exact hn ▸ kk _ _ _ _ _ _ _ _ hk ⟨hS1, hHP1, hL, hv, hrest⟩
    obtain ⟨lv', hl, hlv⟩ := id hL
    rcases fc_b h with ⟨ho, h⟩ | ⟨-, h⟩
    · -- invokevirtual
      have ho := zx_beq.mp ho
      obtain ⟨hn, y2, cc2, mL2, ret2, n2, hms2, hme, hpar, alt⟩ := rc (by omega) (by omega)
      rcases alt with ⟨-, t, q, rfl, ht16, hvw, hq1, hlink, hinst, hsel, hdec⟩ | ⟨e, -⟩ | ⟨e, -⟩ | ⟨e, -⟩ | ⟨e, -⟩
      · obtain ⟨pre, rest, rfl, hlen, h⟩ := fx_take_ok (show fx_take (n2 + 1) stk [] _ from h)
        rw [List.append_nil] at h
        obtain ⟨vpre, vrest, rfl, hpre, hrest⟩ := zr_2_split hV
        have hav := zr_2_rev hpre
        have hlv2 : vpre.length = n2 + 1 := by rw [← zr_2_len hpre]; exact hlen
        generalize hca : pre.reverse = cargs at h hav
        rcases cargs with _ | ⟨c0, ctl⟩
        · exact h.elim
        obtain ⟨h3, h⟩ := fc_t h
        obtain ⟨h3, h4⟩ := zx_an h3
        obtain ⟨h4, h5⟩ := zx_an h4
        have h3 := zx_beq.mp h3
        have h4 := zx_ble.mp h4
        generalize hva : vpre.reverse = av at hav
        rcases av with _ | ⟨v0, As⟩
        · exact hav.elim
        rcases c0 with z | z | ⟨g, i⟩
        · exact absurd (show 0 = t from h3) (by omega)
        · exact absurd (show 0 = t from h3) (by omega)
        obtain ⟨qa, hqa, rfl⟩ := hav.1
        have h3 : fx_kd g = t := h3
        obtain ⟨hT, tys, ws, hK, hW, hP, hD, hAs⟩ := id hHP
        obtain ⟨hi, e0, he, hE⟩ := fr_W_get hW hqa (by omega)
        have hvp : vpre = As.reverse ++ [.ref qa] := by rw [← List.reverse_reverse vpre, hva, List.reverse_cons]
        have hAl : As.length = n2 := by
          have : (Value.ref qa :: As).length = n2 + 1 := by rw [← hva, List.length_reverse]; exact hlv2
          exact Nat.succ.inj this
        have hroom : (vrest.map fun v => v.category).sum ≤ 8 := by rw [(fx_cat_sl hrest).2]; exact h4
        refine fx_do h h5 hf ⟨rfl, rfl⟩ hms2 (fun f2 w2 m2 hb2 => hrm b2 _ _ _ _ f2 w2 m2 hms2 hb2) hav hS hHP hN hA ?_ (after rest vrest hrest hn)
        intro rmm hmet e1 e2 e3 e4 hbl hpc
        have hcw : CallW { frames := f, cells := 0, slots := 0, locals := w } s args y.cls y2.cls (a % 65536) y2 cc2 mL2 ret2 (Cond.code y2 cc2 mL2 ret2 :: zk_T) rmm 0 0 n2 := ⟨callB_of n2 hts (zk_good (fun w h => h) (fun w hw => by rcases List.mem_cons.mp hw with rfl | hw; exact hme.1; exact hw)) rfl e1 e2 (hts _ hme.2.2.1) (hts _ hlink) ⟨hme.2.2.2.1, hme.2.2.2.2, hpar⟩ ⟨e3, e4⟩, hts _ hinst, hts _ hsel⟩
        rcases hE with ⟨g16, fs, rfl, -⟩ | ⟨g16, -⟩
        · exact va_runV ⟨hx, hb, hml, hown, hts⟩ hmet hcw ⟨hbl, hq1 ▸ va_recv hK hP (ci := fx_kd g - 16) (q0 := fx_flat g i) (by rw [h3]; exact hvw) he, hpc⟩ rfl hAl hl.1 (by rw [hvp]; simp) (lv_room hroom) hdec ⟨Nat.le_refl _, Nat.le_refl _⟩
        · omega
      · exact absurd (ho.symm.trans e) (by decide)
      · exact absurd (ho.symm.trans e) (by decide)
      · exact absurd (ho.symm.trans e) (by decide)
      · exact absurd (ho.symm.trans e) (by decide)
    rcases fc_b h with ⟨ho, h⟩ | ⟨-, h⟩
    · -- invokestatic
      have ho := zx_beq.mp ho
      obtain ⟨hn, y2, cc2, mL2, ret2, n2, hms2, hme, hpar, alt⟩ := rc (by omega) (by omega)
      rcases alt with ⟨e, -⟩ | ⟨e, -⟩ | ⟨e, -⟩ | ⟨-, rfl, hlink, hstat, hdec⟩ | ⟨e, -⟩
      · exact absurd (ho.symm.trans e) (by decide)
      · exact absurd (ho.symm.trans e) (by decide)
      · exact absurd (ho.symm.trans e) (by decide)
      · obtain ⟨pre, rest, rfl, hlen, h⟩ := fx_take_ok (show fx_take n2 stk [] _ from h)
        rw [List.append_nil] at h
        obtain ⟨vpre, vrest, rfl, hpre, hrest⟩ := zr_2_split hV
        have hav := zr_2_rev hpre
        have hlv2 : vpre.length = n2 := by rw [← zr_2_len hpre]; exact hlen
        obtain ⟨h3, h⟩ := fc_t h
        obtain ⟨h4, h5⟩ := zx_an h3
        have h4 := zx_ble.mp h4
        have hroom : (vrest.map fun v => v.category).sum ≤ 8 := by rw [(fx_cat_sl hrest).2]; exact h4
        refine fx_do h h5 hf ⟨rfl, rfl⟩ hms2 (fun f2 w2 m2 hb2 => hrm b2 _ _ _ _ f2 w2 m2 hms2 hb2) hav hS hHP hN hA ?_ (after rest vrest hrest hn)
        intro rmm hmet e1 e2 e3 e4 hbl hpc
        exact va_runS ⟨hx, hb, hml, hown, hts⟩ hmet ⟨callB_of n2 hts (zk_good (fun w h => h) (fun w hw => by rcases List.mem_cons.mp hw with rfl | hw; exact hme.1; exact hw)) rfl e1 e2 (hts _ hme.2.2.1) (hts _ hlink) ⟨hme.2.2.2.1, hme.2.2.2.2, hpar⟩ ⟨e3, e4⟩, hts _ hstat⟩ ⟨hbl, hpc⟩ rfl (by rw [List.length_reverse]; exact hlv2) hl.1 (by rw [List.reverse_reverse]) (lv_room hroom) hdec ⟨Nat.le_refl _, Nat.le_refl _⟩
      · exact absurd (ho.symm.trans e) (by decide)
    rcases fc_b h with ⟨ho, h⟩ | ⟨-, h⟩
    · -- an inherited method
      have ho := zx_beq.mp ho
      obtain ⟨hn, y2, cc2, mL2, ret2, n2, hms2, hme, hpar, alt⟩ := rc (by omega) (by omega)
      rcases alt with ⟨e, -⟩ | ⟨e, -⟩ | ⟨e, -⟩ | ⟨e, -⟩ | ⟨-, t, t', q, q', x, rfl, ht16, ht16', hvw, hvw', hy2, hlink, hsame, hsel, hsel', hinst, hdec⟩
      · exact absurd (ho.symm.trans e) (by decide)
      · exact absurd (ho.symm.trans e) (by decide)
      · exact absurd (ho.symm.trans e) (by decide)
      · exact absurd (ho.symm.trans e) (by decide)
      · obtain ⟨pre, rest, rfl, hlen, h⟩ := fx_take_ok (show fx_take (n2 + 1) stk [] _ from h)
        rw [List.append_nil] at h
        obtain ⟨vpre, vrest, rfl, hpre, hrest⟩ := zr_2_split hV
        have hav := zr_2_rev hpre
        have hlv2 : vpre.length = n2 + 1 := by rw [← zr_2_len hpre]; exact hlen
        generalize hca : pre.reverse = cargs at h hav
        rcases cargs with _ | ⟨c0, ctl⟩
        · exact h.elim
        obtain ⟨h3, h⟩ := fc_t h
        obtain ⟨h3, h4⟩ := zx_an h3
        obtain ⟨h4, h5⟩ := zx_an h4
        have h4 := zx_ble.mp h4
        generalize hva : vpre.reverse = av at hav
        rcases av with _ | ⟨v0, As⟩
        · exact hav.elim
        have h3 : ∃ qq : vw_C, 16 ≤ fx_kind c0 ∧ vwCl[fx_kind c0 - 16]? = some qq ∧ Cond.selects qq.1 x y2 ∈ zk_T := by
          rcases Bool.or_eq_true_iff.mp h3 with g | g
          · rw [zx_beq.mp g]; exact ⟨q, ht16, hvw, hsel⟩
          · rw [zx_beq.mp g]; exact ⟨q', ht16', hvw', hsel'⟩
        obtain ⟨qq, hk16, hvq, hsq⟩ := h3
        rcases c0 with z | z | ⟨g, i⟩
        · exact absurd (show 16 ≤ 0 from hk16) (by omega)
        · exact absurd (show 16 ≤ 0 from hk16) (by omega)
        obtain ⟨qa, hqa, rfl⟩ := hav.1
        have hk16 : 16 ≤ fx_kd g := hk16
        have hvq : vwCl[fx_kd g - 16]? = some qq := hvq
        obtain ⟨hT, tys, ws, hK, hW, hP, hD, hAs⟩ := id hHP
        obtain ⟨hi, e0, he, hE⟩ := fr_W_get hW hqa (by omega)
        have hdx : y2.desc = x.desc := by rw [hy2]
        have hvp : vpre = As.reverse ++ [.ref qa] := by rw [← List.reverse_reverse vpre, hva, List.reverse_cons]
        have hAl : As.length = n2 := by
          have : (Value.ref qa :: As).length = n2 + 1 := by rw [← hva, List.length_reverse]; exact hlv2
          exact Nat.succ.inj this
        have hroom : (vrest.map fun v => v.category).sum ≤ 8 := by rw [(fx_cat_sl hrest).2]; exact h4
        refine fx_do h h5 hf ⟨rfl, rfl⟩ hms2 (fun f2 w2 m2 hb2 => hrm b2 _ _ _ _ f2 w2 m2 hms2 hb2) hav hS hHP hN hA ?_ (after rest vrest hrest hn)
        intro rmm hmet e1 e2 e3 e4 hbl hpc
        have hin : ∀ w ∈ va_wsU y.cls (a % 65536) qq.1 y2.cls x y2 (Cond.code y2 cc2 mL2 ret2 :: zk_T), w ∈ zk_T := by
          intro w hw
          simp only [va_wsU, List.cons_append, List.nil_append, List.mem_cons] at hw
          rcases hw with rfl | rfl | rfl | rfl | rfl | rfl | hw
          · exact hlink
          · exact hsame
          · exact hsq
          · exact hinst
          · exact hme.2.2.1
          · exact hme.1
          · exact hw
        have hcw := va_cwU (R := { frames := f, cells := 0, slots := 0, locals := w }) (rm := rmm) (mc := 0) (ms := 0) n2 hts (zk_good (fun w h => h) hin) rfl e1 e2 hy2 ⟨hme.2.2.2.1, hme.2.2.2.2, hdx ▸ hpar⟩ ⟨e3, e4⟩
        rcases hE with ⟨g16, fs, rfl, -⟩ | ⟨g16, -⟩
        · exact va_runU ⟨hx, hb, hml, hown, hts⟩ hmet hcw ⟨hbl, va_recv hK hP (ci := fx_kd g - 16) (q0 := fx_flat g i) hvq he, hpc⟩ rfl hAl hl.1 (by rw [hvp]; simp) (lv_room hroom) hdec ⟨Nat.le_refl _, Nat.le_refl _⟩
        · omega
    rcases fc_b h with ⟨ho, h⟩ | ⟨-, h⟩
    · -- arraycopy
      obtain ⟨hn, ha, hlink, hnat, hstat, hini, hdec⟩ := r76 (zx_beq.mp ho)
      obtain ⟨h3, h⟩ := fc_t h
      obtain ⟨q1, q2⟩ := zx_an h3
      exact fo_acopy hx hb hml hts hown hlink hnat hstat hini (zx_ble.mp q1) (zx_ble.mp q2) hdec hn h r kk
    rcases fc_b h with ⟨ho, h⟩ | ⟨-, h⟩
    · -- Math's methods
      obtain ⟨hn, hini, hdec, hw⟩ := hrw9 (zx_beq.mp ho)
      obtain ⟨h3, h⟩ := fc_t h
      obtain ⟨q1, q2⟩ := zx_an h3
      exact fo_math hx hb hml hts hown hini (zx_ble.mp q1) (zx_ble.mp q2) hdec hn hw h r kk
    obtain ⟨ho, h⟩ := fc_t h
    -- a name's check
    obtain ⟨hn, y2, cc2, mL2, hm8, hnmk, hme, hpar, hlink, hstat, hdec⟩ := r77 (zx_beq.mp ho)
    rcases stk with _ | ⟨z | z | z, rr⟩
    case cons.inr.inl =>
      obtain ⟨h3, h⟩ := fc_t h
      obtain ⟨h4, h5⟩ := zx_an h3
      obtain ⟨h5, h6⟩ := zx_an h5
      have h4 := zx_ble.mp h4
      have h5 := zx_ble.mp h5
      have h6 := zx_ble.mp h6
      have h5 : 2 ≤ f := h5
      have h6 : 60 ≤ w := h6
      obtain ⟨vr, rfl, hz, hV⟩ := fv_l hV
      have hroom : (vr.map fun v => v.category).sum ≤ 8 := by rw [(fx_cat_sl hV).2]; exact h4
      have hrun := va_runS (l := l) (e := e) (below := below) (meth := meth) (H := H) (locs := locs) (cells := 0) (slots := 0) (rest := vr) (As := [.long (Int64.ofInt z)]) (g := F0 m pc ls (.long (Int64.ofInt z) :: vr)) (R := { frames := f, cells := 0, slots := 0, locals := w }) ⟨hx, hb, hml, hown, hts⟩ (hnmk l (Int64.ofInt z)) ⟨callB_of 1 hts (zk_good (fun w h => h) (fun w hw => by rcases List.mem_cons.mp hw with rfl | hw; exact hme.1; exact hw)) rfl rfl rfl (hts _ hme.2.2.1) (hts _ hlink) ⟨hme.2.2.2.1, hme.2.2.2.2, hpar⟩ ⟨by show 1 + 1 ≤ f; exact h5, by show 8 + (mL2 + 11) + 30 ≤ w; omega⟩, hts _ hstat⟩ ⟨fun _ _ _ _ q => q, fun _ _ _ => ⟨rfl, trivial⟩⟩ rfl rfl hl.1 rfl (lv_room hroom) hdec ⟨Nat.le_refl _, Nat.le_refl _⟩
      refine fq_quiet hrun ?_
      have h01 : ∀ u : Int, (u = 0 ∨ u = 1) → W p l e { frames := f, cells := 0, slots := 0, locals := w } s m args below meth c H locs 0 0 (MQ below (fr_Post G k as s.heap.size) args s 0 0 (zk_fr as s.heap.size)) (F0 m (pc + 3) ls (.int (Int32.ofInt u) :: vr)) := by
        intro u hu
        exact hn ▸ kk _ _ _ _ _ _ _ _ (h u (by omega) (by omega)) ⟨hS, hHP, hL, ⟨rfl, by omega, by omega⟩, hV⟩
      by_cases hnm3 : zr_nm (Int64.ofInt z) = true
      · rw [if_pos hnm3]; exact h01 1 (Or.inr rfl)
      · rw [if_neg hnm3]; exact h01 0 (Or.inl rfl)
    all_goals exact h.elim
/-- a call by its frame -/
theorem fx_call (hC : zk_C) (hms : M2[b]? = some (y, cc, mL, ret)) (hme : zk_meth y cc mL ret) {args : List fxV} {S : fxS} (hle : fx_cat args ≤ mL) (h : fr_Z M2 rm l b k 0 (fx_ent mL args) [] S) : fr_Call M2 rm l b args S k := by
  intro y' cc' mL' ret' f' w' m' hms' hrm' G as av sz hav
  rw [hms] at hms'
  cases hms'
  refine Met.ofW (cc := cc) (maxL := mL) (ret := ret) hme.2.1 rfl ?_
  intro p e s m args' below meth c s₁ B hml hv
  obtain ⟨rfl, hsz, hHP, hN⟩ := hv
  have hts := atoms_spec (ws := Cond.code y cc mL ret :: zk_T) B.pre
  have hown : s.vm.findClass y.cls = some m.cls := findClass_of_methodNamed B.named
  have hnm : meth.name = y.name := (name_of_methodNamed B.named B.method).1
  subst hsz
  have hl := lv_entry av (n := mL) (by rw [(fx_cat_sl hav).1]; exact hle)
  rw [lg_entry_eq]
  generalize (lg_sl av ++ List.replicate (mL - (lg_sl av).length) Slot.unset).toArray = ls at hl ⊢
  obtain ⟨hT, tys, ws, hK, hW, hP, hD, hAs⟩ := hHP
  refine h y cc mL ret f' w' m' hms hrm' p e s m av.toArray below meth c G as s.heap [] ls [] ⟨B.exec, B.bytes, hml, hown, fun w hw => hts w (List.mem_cons_of_mem _ hw), fun q => hnm.trans q, fun q hq => Or.inr hq, hN⟩ B.returns B.notSynchronized ⟨va_S.rf, ⟨hT, tys, ws, hK, hW, hP, hD.weaken (fun k q hq _ => ?_), fun a ha => Or.inl ha⟩, ⟨lv_args 0 av, hl, fun i v hv => ?_⟩, trivial⟩
  · exact Or.inl (hW.1 k q hq)
  · obtain ⟨w, m1, m2⟩ := fx_args_ok 0 hav i v hv
    rw [Nat.zero_add] at m1
    exact ⟨w, m1, m2⟩
end FK
