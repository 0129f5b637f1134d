theorem zr_2_N {α β : Type} {R : α → β → Prop} {d : α} {d' : β} (hd : R d d') : ∀ {l : List α} {l' : List β}, zr_2 R l l' → ∀ i, R (zx_N d l i) (zx_N d' l' i)
  | [], [], _, i => hd
  | x :: l, y :: l', h, 0 => h.1
  | x :: l, y :: l', h, i + 1 => zr_2_N hd h.2 i
  | [], _ :: _, h, _ => h.elim
  | _ :: _, [], h, _ => h.elim
theorem zk_fail : zk_HO zh_fail (fun _ _ _ _ _ _ _ _ => False) := by
  intro p l e R s m args below meth c Q cc nL G σ b A y pc a a2 nxt d lv stk hp st u w k H locs ls vs _ hf
  exact hf.elim
set_option maxRecDepth 20000 in
set_option maxHeartbeats 2000000 in
theorem zx_ok {ms : zxMS} {ms2 : zkMS} {pr : List zxHD} {Ps : List zkPT} (hC : zk_C) (hM : zk_MS ms ms2 Ps) (hPs : zr_2 zk_HP pr Ps) (l : Launch) (G : va_G) : ∀ (n : Nat) (σ : Nat → Int32), zk_IH ms ms2 pr Ps l G σ n
  | 0, σ => fun _ _ _ _ _ _ _ _ _ _ _ _ _ _ _ _ _ _ _ _ _ _ _ _ _ _ _ _ _ _ _ _ _ _ _ _ _ h => absurd h Bool.false_ne_true
  | n + 1, σ => by
    have ihn := zx_ok hC hM hPs l G n σ
    have ihs := zx_ok hC hM hPs l G n
    intro p e R s m args below meth c Q b A i y cc mL ret tb fr lo cu cw sc sp kl ks pc lv stk hp st u w H locs ls vs h hro hCx hR hu hw hsc hret hks r
    have h : zx_body ms pr (zx_run ms pr n) i tb fr lo cu cw sc sp kl ks pc lv stk hp st u w = true := h
    unfold zx_body at h
    rcases zx_ct h with ⟨-, h⟩ | ⟨-, h⟩
    · exact hks _ _ _ _ _ _ _ _ _ _ _ h r
    have hrw := hro pc
    generalize zx_row tb pc = row at h hrw
    obtain ⟨op, a, b2, nxt, d⟩ := row
    obtain ⟨r1, r2, r64, r65, r66, r67, rc, r75, r76, r77, r78, r79, r80⟩ := hrw
    dsimp only at r1 r2 r64 r65 r66 r67 rc r75 r76 r77 r78 r79 r80
    have kk : zr_KK p l e R s m args below meth c Q G σ b A mL (fun pc lv stk hp st u w => cond (Nat.ble u cu && Nat.ble w cw) (zx_run ms pr n i tb fr lo cu cw sc sp kl ks pc lv stk hp st u w) false) := by
      intro pc lv stk hp st u w H locs ls vs hk r
      obtain ⟨h1, hk⟩ := zx_c1 hk
      exact ihn p e R s m args below meth c Q b A i y cc mL ret tb fr lo cu cw sc sp kl ks pc lv stk hp st u w H locs ls vs hk hro hCx hR (zx_ble.mp (zx_an h1).1) (zx_ble.mp (zx_an h1).2) hsc hret hks r
    have hkb : ∀ pc lv stk hp st u w, (fun pc lv stk hp st u w => cond (Nat.ble u cu && Nat.ble w cw) (zx_run ms pr n i tb fr lo cu cw sc sp kl ks pc lv stk hp st u w) false) pc lv stk hp st u w = true → u ≤ R.cells ∧ w ≤ R.slots := by
      intro pc lv stk hp st u w hk
      obtain ⟨h1, -⟩ := zx_c1 hk
      rw [hR.2.2.1, hR.2.2.2]
      exact ⟨zx_ble.mp (zx_an h1).1, zx_ble.mp (zx_an h1).2⟩
    have go : ∀ (pc2 : Nat) (stk2 : List Nat) (st2 : zxST) (vs2 : List Value), zx_run ms pr n i tb fr lo cu cw sc sp kl ks pc2 lv stk2 hp st2 u w = true → zr_R G σ b A mL s H locs ls vs2 lv stk2 hp st2 → W p l e R s m args below meth c H locs u w Q (F0 m pc2 ls vs2) := fun pc2 stk2 st2 vs2 hk r2 =>
      ihn p e R s m args below meth c Q b A i y cc mL ret tb fr lo cu cw sc sp kl ks pc2 lv stk2 hp st2 u w H locs ls vs2 hk hro hCx hR hu hw hsc hret hks r2
    have h : cond (Nat.blt op 55) (zx_N zh_fail zx_hands op a b2 nxt d lv stk hp st u w (fun pc lv stk hp st u w => cond (Nat.ble u cu && Nat.ble w cw) (zx_run ms pr n i tb fr lo cu cw sc sp kl ks pc lv stk hp st u w) false))
      (cond (Nat.blt op 64) (cond (Nat.ble 1 fr && Nat.ble 60 lo) (zx_N zh_fail pr (op - 55) a b2 nxt d lv stk hp st u w (fun pc lv stk hp st u w => cond (Nat.ble u cu && Nat.ble w cw) (zx_run ms pr n i tb fr lo cu cw sc sp kl ks pc lv stk hp st u w) false)) false)
        (zx_spec ms (zx_run ms pr n) i tb fr lo cu cw sc sp kl ks op a b2 nxt d lv stk hp st u w)) = true := h
    rcases zx_ct h with ⟨h1, h⟩ | ⟨h1, h⟩
    · exact zr_2_N zk_fail (zk_hands hC) op p l e R s m args below meth c Q cc mL G σ b A y pc a b2 nxt d lv stk hp st u w _ H locs ls vs hCx (r1 (zx_blt.mp h1)) hkb h r kk
    have h55 := zx_nblt.mp h1
    rcases zx_ct h with ⟨h1, h⟩ | ⟨-, h⟩
    · obtain ⟨hfl, h⟩ := zx_c1 h
      obtain ⟨hf1, hf2⟩ := zx_an hfl
      exact zr_2_N (zk_HP_of zk_fail) hPs (op - 55) p l e R s m args below meth c Q cc mL G σ b A y pc a b2 nxt d lv stk hp st u w _ H locs ls vs (by rw [hR.1]; exact zx_ble.mp hf1) (by rw [hR.2.1]; exact zx_ble.mp hf2) (by rw [hR.2.2.1]; exact hu) (by rw [hR.2.2.2]; exact hw) hCx (r2 (by omega) (zx_blt.mp h1)) hkb h r kk
    obtain ⟨hx, hb, hml, hown, hts, hnm, hA, hN⟩ := id hCx
    obtain ⟨hσ, hS, as, hHP, ⟨lv', hl, hL⟩, hV⟩ := id r
    unfold zx_spec at h
    rcases zx_ct h with ⟨ho, h⟩ | ⟨-, h⟩
    · -- 70: invokevirtual
      have ho := zx_beq.mp ho
      obtain ⟨hn, y2, cc2, mL2, ret2, n2, hms, hme, hpar, alt⟩ := rc (by omega) (by omega)
      rcases alt with ⟨-, t, q, rfl, ht16, hvw, hq1, hlink, hinst, hsel, hdec⟩ | ⟨e, -⟩ | ⟨e, -⟩ | ⟨e, -⟩ | ⟨e, -⟩
      · obtain ⟨pre, rest, rfl, hlen, h⟩ := zx_take_ok (show zx_take (n2 + 1) stk [] _ = true from h)
        rw [List.append_nil] at h
        obtain ⟨vpre, vrest, rfl, hpre, hrest⟩ := zr_2_split hV
        have hav := zr_2_rev hpre
        have hlv : vpre.length = n2 + 1 := by rw [← zr_2_len hpre]; exact hlen
        generalize hca : pre.reverse = cargs at h hav
        rcases cargs with _ | ⟨c0, ctl⟩
        · exact absurd h Bool.false_ne_true
        obtain ⟨h3, h⟩ := zx_c1 h
        generalize hva : vpre.reverse = av at hav
        rcases av with _ | ⟨v0, As⟩
        · exact hav.elim
        obtain ⟨qa, hqa, rfl⟩ := (zr_3 (zx_beq.mp h3)).mp hav.1
        obtain ⟨tys, ws, hK, hW, hP, hD⟩ := id hHP
        obtain ⟨e0, he, hE⟩ := zr_W_get hW hqa
        generalize zx_G hp (c0 / 8) = E at h hE
        obtain ⟨t2, n0, fs, es⟩ := E
        obtain ⟨h4, h⟩ := zx_c1 h
        have h4 := zx_beq.mp h4
        have hvp : vpre = As.reverse ++ [.ref qa] := by rw [← List.reverse_reverse vpre, hva, List.reverse_cons]
        have hAl : As.length = n2 := by
          have : (Value.ref qa :: As).length = n2 + 1 := by rw [← hva, List.length_reverse]; exact hlv
          exact Nat.succ.inj this
        refine zx_do ihn hM h hro hCx hR hsc hret hks hσ hS hHP ⟨lv', hl, hL⟩ hrest hav hn ?_
        intro y3 cc3 mL3 ret3 bu bw rm Qc hms3 hmet e1 e2 e3 e4 e5 e6 e7 hbl hpc
        rw [hms] at hms3
        cases hms3
        have hcw : CallW R s args y.cls y2.cls (a % 65536) y2 cc2 mL2 ret2 (Cond.code y2 cc2 mL2 ret2 :: zk_T) rm bu bw n2 := ⟨callB_of n2 hts (zk_good (fun w h => h) (fun w hw => by rcases List.mem_cons.mp hw with rfl | hw; exact hme.1; exact hw)) rfl e1 e2 (hts _ hme.2.2.1) (hts _ hlink) ⟨hme.2.2.2.1, hme.2.2.2.2, hpar⟩ ⟨e3, e4⟩, hts _ hinst, hts _ hsel⟩
        rcases hE with ⟨g16, fs', rfl, -⟩ | ⟨g16, -⟩
        · exact va_runV ⟨hx, hb, hml, hown, hts⟩ hmet hcw ⟨hbl, hq1 ▸ va_recv hK hP (ci := t2 - 16) (q0 := c0 / 8) (by rw [h4]; exact hvw) he, hpc⟩ rfl hAl hl.1 (by rw [hvp]; simp) (lv_room e7) hdec ⟨e5, e6⟩
        · exact absurd (show t2 < 16 from g16) (by omega)
      · exact absurd (ho.symm.trans e) (by decide)
      · exact absurd (ho.symm.trans e) (by decide)
      · exact absurd (ho.symm.trans e) (by decide)
      · exact absurd (ho.symm.trans e) (by decide)
    rcases zx_ct h with ⟨ho, h⟩ | ⟨-, h⟩
    · -- 73: invokestatic
      have ho := zx_beq.mp ho
      obtain ⟨hn, y2, cc2, mL2, ret2, n2, hms, hme, hpar, alt⟩ := rc (by omega) (by omega)
      rcases alt with ⟨e, -⟩ | ⟨e, -⟩ | ⟨e, -⟩ | ⟨-, rfl, hlink, hstat, hdec⟩ | ⟨e, -⟩
      · exact absurd (ho.symm.trans e) (by decide)
      · exact absurd (ho.symm.trans e) (by decide)
      · exact absurd (ho.symm.trans e) (by decide)
      · obtain ⟨pre, rest, rfl, hlen, h⟩ := zx_take_ok (show zx_take n2 stk [] _ = true from h)
        rw [List.append_nil] at h
        obtain ⟨vpre, vrest, rfl, hpre, hrest⟩ := zr_2_split hV
        have hav := zr_2_rev hpre
        have hlv : vpre.length = n2 := by rw [← zr_2_len hpre]; exact hlen
        refine zx_do ihn hM h hro hCx hR hsc hret hks hσ hS hHP ⟨lv', hl, hL⟩ hrest hav hn ?_
        intro y3 cc3 mL3 ret3 bu bw rm Qc hms3 hmet e1 e2 e3 e4 e5 e6 e7 hbl hpc
        rw [hms] at hms3
        cases hms3
        exact va_runS ⟨hx, hb, hml, hown, hts⟩ hmet ⟨callB_of n2 hts (zk_good (fun w h => h) (fun w hw => by rcases List.mem_cons.mp hw with rfl | hw; exact hme.1; exact hw)) rfl e1 e2 (hts _ hme.2.2.1) (hts _ hlink) ⟨hme.2.2.2.1, hme.2.2.2.2, hpar⟩ ⟨e3, e4⟩, hts _ hstat⟩ ⟨hbl, hpc⟩ rfl (by rw [List.length_reverse]; exact hlv) hl.1 (by rw [List.reverse_reverse]) (lv_room e7) hdec ⟨e5, e6⟩
      · exact absurd (ho.symm.trans e) (by decide)
    rcases zx_ct h with ⟨ho, h⟩ | ⟨-, h⟩
    · -- 64: ireturn
      obtain ⟨hdec, hrt⟩ := r64 (zx_beq.mp ho)
      rcases stk with _ | ⟨x, _ | ⟨x2, rr⟩⟩
      · exact absurd h Bool.false_ne_true
      · rcases vs with _ | ⟨vx, _ | ⟨vx2, vr⟩⟩
        · exact hV.elim
        · obtain ⟨h3, h⟩ := zx_c1 h
          obtain ⟨xv, rfl⟩ := zr_int h3 hV.1
          obtain ⟨x', e1, hi, -, m1⟩ := zx_M_ok x st (fun c => kl c hp st)
          have h := e1.symm.trans h
          have hi := (zx_i_iff x').mp (hi h3)
          exact hret x' hp st u w pc ls _ H locs as h hu hw hσ hS hHP (Or.inr (Or.inl ⟨by omega, xv, rfl, m1 σ b as _ hσ hV.1, ⟨_, hrt, vp_nar_int xv⟩, hdec⟩))
        · exact hV.2.elim
      · exact absurd h Bool.false_ne_true
    rcases zx_ct h with ⟨ho, h⟩ | ⟨-, h⟩
    · -- 65: ireturn of a boolean
      obtain ⟨hdec, hrt⟩ := r65 (zx_beq.mp ho)
      rcases stk with _ | ⟨x, _ | ⟨x2, rr⟩⟩
      · exact absurd h Bool.false_ne_true
      · rcases vs with _ | ⟨vx, _ | ⟨vx2, vr⟩⟩
        · exact hV.elim
        · obtain ⟨h3, h⟩ := zx_c1 h
          obtain ⟨xv, rfl⟩ := zr_int h3 hV.1
          obtain ⟨x', e1, hi, -, m1⟩ := zx_M_ok x st (fun c => cond (Nat.beq c 0 || Nat.beq c 8) (kl c hp st) false)
          have h := e1.symm.trans h
          obtain ⟨h4, h⟩ := zx_c1 h
          have hi := (zx_i_iff x').mp (hi h3)
          have hv := m1 σ b as _ hσ hV.1
          have hfit := zk_fit (sort := 1) (ty := .boolean) (Or.inr (Or.inl ⟨rfl, rfl⟩)) (show zx_fit 1 x' = true from h4) hv
          exact hret x' hp st u w pc ls _ H locs as h hu hw hσ hS hHP (Or.inr (Or.inl ⟨by omega, xv, rfl, hv, ⟨_, hrt, hfit.1⟩, hdec⟩))
        · exact hV.2.elim
      · exact absurd h Bool.false_ne_true
    rcases zx_ct h with ⟨ho, h⟩ | ⟨-, h⟩
    · -- 67: return
      obtain ⟨hdec, hrt⟩ := r67 (zx_beq.mp ho)
      rcases stk with _ | ⟨x, rr⟩
      · rcases vs with _ | ⟨vx, vr⟩
        · exact hret 75 hp st u w pc ls _ H locs as h hu hw hσ hS hHP (Or.inl ⟨rfl, rfl, hrt, hdec⟩)
        · exact hV.elim
      · exact absurd h Bool.false_ne_true
    rcases zx_ct h with ⟨ho, h⟩ | ⟨-, h⟩
    · -- 66: lreturn
      obtain ⟨hdec, hrt⟩ := r66 (zx_beq.mp ho)
      rcases stk with _ | ⟨x, _ | ⟨x2, rr⟩⟩
      · exact absurd h Bool.false_ne_true
      · rcases vs with _ | ⟨vx, _ | ⟨vx2, vr⟩⟩
        · exact hV.elim
        · obtain ⟨h3, h⟩ := zx_c1 h
          obtain ⟨xv, rfl⟩ := zr_long h3 hV.1
          have hi := (zx_2_iff x).mp h3
          exact hret x hp st u w pc ls _ H locs as h hu hw hσ hS hHP (Or.inr (Or.inr ⟨by omega, xv, rfl, hV.1, hrt, hdec⟩))
        · exact hV.2.elim
      · exact absurd h Bool.false_ne_true
    rcases zx_ct h with ⟨ho, h⟩ | ⟨-, h⟩
    · -- 71, 72: constructors
      have ho : op = 71 ∨ op = 72 := (Bool.or_eq_true_iff.mp ho).imp zx_beq.mp zx_beq.mp
      obtain ⟨hn, y2, cc2, mL2, ret2, n2, hms, hme, hpar, alt⟩ := rc (by omega) (by omega)
      have hcom : d = [n2 + 1] ∧ y2.name = "<init>" ∧ ret2 = none ∧ (Cond.methodLink y.cls (a % 65536) y2 ∈ zk_T ∨ va_Nw (.methodLinkNest y.cls (a % 65536) y2 "StubHouse") s) ∧ Cond.instanceMethod y2 ∈ zk_T ∧ decode cc pc = .ok (.invokespecial (a % 65536), 3) := by
        rcases alt with ⟨e, -⟩ | ⟨-, k1, k2, k3, k4, k5, k6⟩ | ⟨-, k1, k2, k3, k4, k5, k6⟩ | ⟨e, -⟩ | ⟨e, -⟩
        · omega
        · exact ⟨k1, k2, k3, Or.inl k4, k5, k6⟩
        · exact ⟨k1, k2, k3, Or.inr (k4 s hN), k5, k6⟩
        · omega
        · omega
      obtain ⟨rfl, hini, rfl, hlk, hinst, hdec⟩ := hcom
      obtain ⟨pre, rest, rfl, hlen, h⟩ := zx_take_ok (show zx_take (n2 + 1) stk [] _ = true from h)
      rw [List.append_nil] at h
      obtain ⟨vpre, vrest, rfl, hpre, hrest⟩ := zr_2_split hV
      have hav := zr_2_rev hpre
      have hlv : vpre.length = n2 + 1 := by rw [← zr_2_len hpre]; exact hlen
      generalize hca : pre.reverse = cargs at h hav
      rcases cargs with _ | ⟨c0, ctl⟩
      · exact absurd h Bool.false_ne_true
      obtain ⟨h3, h⟩ := zx_c1 h
      generalize hva : vpre.reverse = av at hav
      rcases av with _ | ⟨v0, As⟩
      · exact hav.elim
      obtain ⟨qa, hqa, rfl⟩ := (zr_3 (zx_beq.mp h3)).mp hav.1
      have hvp : vpre = As.reverse ++ [.ref qa] := by rw [← List.reverse_reverse vpre, hva, List.reverse_cons]
      have hAl : As.length = n2 := by
        have : (Value.ref qa :: As).length = n2 + 1 := by rw [← hva, List.length_reverse]; exact hlv
        exact Nat.succ.inj this
      refine zx_do ihn hM h hro hCx hR hsc hret hks hσ hS hHP ⟨lv', hl, hL⟩ hrest hav hn ?_
      intro y3 cc3 mL3 ret3 bu bw rm Qc hms3 hmet e1 e2 e3 e4 e5 e6 e7 hbl hpc
      rw [hms] at hms3
      cases hms3
      have hG : GoodIn zk_T (Cond.code y2 cc2 mL2 none :: zk_T) := zk_good (fun w h => h) (fun w hw => by rcases List.mem_cons.mp hw with rfl | hw; exact hme.1; exact hw)
      rcases hlk with hlink | hlink
      · exact va_runI ⟨hx, hb, hml, hown, hts⟩ hmet ⟨callB_of n2 hts hG rfl e1 e2 (hts _ hme.2.2.1) (hts _ hlink) ⟨hme.2.2.2.1, hme.2.2.2.2, hpar⟩ ⟨e3, e4⟩, hini, hts _ hinst⟩ ⟨hbl, hpc⟩ rfl hAl hl.1 (by rw [hvp]; simp) (lv_room e7) hdec ⟨e5, e6⟩
      · exact va_runIN ⟨hx, hb, hml, hown, hts⟩ hmet ⟨va_cnB n2 hts hG rfl e1 e2 hlink (hts _ hme.2.2.1) ⟨hme.2.2.2.1, hme.2.2.2.2, hpar⟩ ⟨e3, e4⟩, hini, hts _ hinst⟩ ⟨hbl, hpc⟩ rfl hAl hl.1 (by rw [hvp]; simp) (lv_room e7) hdec ⟨e5, e6⟩
    rcases zx_ct h with ⟨ho, h⟩ | ⟨-, h⟩
    · -- 74: an inherited method
      have ho := zx_beq.mp ho
      obtain ⟨hn, y2, cc2, mL2, ret2, n2, hms, hme, hpar, alt⟩ := rc (by omega) (by omega)
      rcases alt with ⟨e, -⟩ | ⟨e, -⟩ | ⟨e, -⟩ | ⟨e, -⟩ | ⟨-, t, t', q, q', x, rfl, ht16, ht16', hvw, hvw', hy2, hlink, hsame, hsel, hsel', hinst, hdec⟩
      · exact absurd (ho.symm.trans e) (by decide)
      · exact absurd (ho.symm.trans e) (by decide)
      · exact absurd (ho.symm.trans e) (by decide)
      · exact absurd (ho.symm.trans e) (by decide)
      · obtain ⟨pre, rest, rfl, hlen, h⟩ := zx_take_ok (show zx_take (n2 + 1) stk [] _ = true from h)
        rw [List.append_nil] at h
        obtain ⟨vpre, vrest, rfl, hpre, hrest⟩ := zr_2_split hV
        have hav := zr_2_rev hpre
        have hlv : vpre.length = n2 + 1 := by rw [← zr_2_len hpre]; exact hlen
        generalize hca : pre.reverse = cargs at h hav
        rcases cargs with _ | ⟨c0, ctl⟩
        · exact absurd h Bool.false_ne_true
        obtain ⟨h3, h⟩ := zx_c1 h
        generalize hva : vpre.reverse = av at hav
        rcases av with _ | ⟨v0, As⟩
        · exact hav.elim
        obtain ⟨qa, hqa, rfl⟩ := (zr_3 (zx_beq.mp h3)).mp hav.1
        obtain ⟨tys, ws, hK, hW, hP, hD⟩ := id hHP
        obtain ⟨e0, he, hE⟩ := zr_W_get hW hqa
        generalize zx_G hp (c0 / 8) = E at h hE
        obtain ⟨t2, n0, fs, es⟩ := E
        obtain ⟨h4, h⟩ := zx_c1 h
        have h4 : ∃ qq : vw_C, 16 ≤ t2 ∧ vwCl[t2 - 16]? = some qq ∧ Cond.selects qq.1 x y2 ∈ zk_T := by
          rcases Bool.or_eq_true_iff.mp h4 with g | g
          · rw [zx_beq.mp g]; exact ⟨q, ht16, hvw, hsel⟩
          · rw [zx_beq.mp g]; exact ⟨q', ht16', hvw', hsel'⟩
        obtain ⟨qq, ht2, hvq, hsq⟩ := h4
        have hdx : y2.desc = x.desc := by rw [hy2]
        have hvp : vpre = As.reverse ++ [.ref qa] := by rw [← List.reverse_reverse vpre, hva, List.reverse_cons]
        have hAl : As.length = n2 := by
          have : (Value.ref qa :: As).length = n2 + 1 := by rw [← hva, List.length_reverse]; exact hlv
          exact Nat.succ.inj this
        refine zx_do ihn hM h hro hCx hR hsc hret hks hσ hS hHP ⟨lv', hl, hL⟩ hrest hav hn ?_
        intro y3 cc3 mL3 ret3 bu bw rm Qc hms3 hmet e1 e2 e3 e4 e5 e6 e7 hbl hpc
        rw [hms] at hms3
        cases hms3
        have hin : ∀ w ∈ va_wsU y.cls (a % 65536) qq.1 y2.cls x y2 (Cond.code y2 cc2 mL2 ret2 :: zk_T), w ∈ zk_T := by
          intro w hw
          simp only [va_wsU, List.cons_append, List.nil_append, List.mem_cons] at hw
          rcases hw with rfl | rfl | rfl | rfl | rfl | rfl | hw
          · exact hlink
          · exact hsame
          · exact hsq
          · exact hinst
          · exact hme.2.2.1
          · exact hme.1
          · exact hw
        have hcw := va_cwU (R := R) (rm := rm) (mc := bu) (ms := bw) n2 hts (zk_good (fun w h => h) hin) rfl e1 e2 hy2 ⟨hme.2.2.2.1, hme.2.2.2.2, hdx ▸ hpar⟩ ⟨e3, e4⟩
        rcases hE with ⟨g16, fs', rfl, -⟩ | ⟨g16, -⟩
        · exact va_runU ⟨hx, hb, hml, hown, hts⟩ hmet hcw ⟨hbl, va_recv hK hP (ci := t2 - 16) (q0 := c0 / 8) hvq he, hpc⟩ rfl hAl hl.1 (by rw [hvp]; simp) (lv_room e7) hdec ⟨e5, e6⟩
        · exact absurd (show t2 < 16 from g16) (by omega)
    rcases zx_ct h with ⟨ho, h⟩ | ⟨-, h⟩
    · -- 75: Object's constructor
      obtain ⟨hn, hlink, hinst, hcode, hdec⟩ := r75 (zx_beq.mp ho)
      rcases stk with _ | ⟨x, rr⟩
      · exact absurd h Bool.false_ne_true
      rcases vs with _ | ⟨vx, vr⟩
      · exact hV.elim
      obtain ⟨h3, h⟩ := zx_c1 h
      have g1 := zx_an h3
      have g2 := zx_an g1.2
      have g3 := zx_an g2.2
      obtain ⟨qa, hqa, rfl⟩ := (zr_3 (zx_beq.mp g1.1)).mp hV.1
      have q1 := zx_ble.mp g2.1
      have q2 := zx_ble.mp g3.1
      have q3 := zx_ble.mp g3.2
      refine W.objInit hx hb hown (hts _ hlink) (hts _ hinst) (hts _ hcode) rfl (by rw [hml]; exact hl.1) rfl hdec (by rw [hR.1]; exact q1) ?_ ?_
      · have := lv_room (m := m) (pc := pc) (ls := ls) (rest := Value.ref qa :: vr) (show (vr.map fun v => v.category).sum ≤ 8 by rw [zx_cat_sum hV.2]; exact q3)
        rw [hR.2.1]
        omega
      · exact W.eq (g2 := F0 m nxt ls vr) (by rw [hn]) (go nxt rr st vr h ⟨hσ, hS, as, hHP, ⟨lv', hl, hL⟩, hV.2⟩)
    rcases zx_ct h with ⟨ho, h⟩ | ⟨-, h⟩
    · -- 76: arraycopy
      obtain ⟨hn, ha, hlink, hnat, hstat, hini, hdec⟩ := r76 (zx_beq.mp ho)
      obtain ⟨h3, h⟩ := zx_c1 h
      obtain ⟨q1, q2⟩ := zx_an h3
      exact zo_copy hx hb hml hts hown hlink hnat hstat hini (by rw [hR.1]; exact zx_ble.mp q1) (by rw [hR.2.1]; exact zx_ble.mp q2) hdec hn h r kk
    rcases zx_ct h with ⟨ho, h⟩ | ⟨-, h⟩
    · -- 77: a name's check
      obtain ⟨hn, y2, cc2, mL2, hm8, hnmk, hme, hpar, hlink, hstat, hdec⟩ := r77 (zx_beq.mp ho)
      rcases stk with _ | ⟨x, rr⟩
      · exact absurd h Bool.false_ne_true
      rcases vs with _ | ⟨vx, vr⟩
      · exact hV.elim
      obtain ⟨h3, h⟩ := zx_c1 h
      have g1 := zx_an h3
      have g2 := zx_an g1.2
      have g3 := zx_an g2.2
      have g4 := zx_an g3.2
      have g5 := zx_an g4.2
      have q0 := zx_beq.mp g1.1
      have q1 := zx_ble.mp g2.1
      have q2 := zx_blt.mp g3.1
      have q3 := zx_ble.mp g4.1
      have q4 := zx_ble.mp g5.1
      have q5 := zx_ble.mp g5.2
      obtain ⟨xv, rfl, hxv⟩ := (zr_7 q0).mp hV.1
      have hxv := hxv (by omega)
      have hrun := va_runS (l := l) (e := e) (below := below) (meth := meth) (H := H) (locs := locs) (cells := u) (slots := w) (rest := vr) (As := [.long xv]) (g := F0 m pc ls (.long xv :: vr)) (R := R) ⟨hx, hb, hml, hown, hts⟩ (hnmk l xv) ⟨callB_of 1 hts (zk_good (fun w h => h) (fun w hw => by rcases List.mem_cons.mp hw with rfl | hw; exact hme.1; exact hw)) rfl rfl rfl (hts _ hme.2.2.1) (hts _ hlink) ⟨hme.2.2.2.1, hme.2.2.2.2, hpar⟩ ⟨by rw [hR.1]; exact q3, by rw [hR.2.1]; show 8 + (mL2 + 11) + 30 ≤ lo; omega⟩, hts _ hstat⟩ ⟨fun _ _ _ _ q => q, fun _ _ _ => ⟨rfl, trivial⟩⟩ rfl rfl hl.1 rfl (lv_room (by rw [zx_cat_sum hV.2]; exact q5)) hdec ⟨by rw [hR.2.2.1]; exact hu, by rw [hR.2.2.2]; exact hw⟩
      intro T hT X
      obtain ⟨v, st₀, t, T', L, h0, X', hLL, e1, e2, ⟨k1, k2⟩, stp⟩ := hrun T hT X
      cases k1
      have hLn : L = [] := by
        rcases L with _ | ⟨x0, L⟩
        · rfl
        · exact (hLL x0 List.mem_cons_self).elim
      subst hLn
      rw [List.append_nil] at X'
      rw [zx_F_eq] at h
      have hid : x / 8 - 900 < 300 := by omega
      have hdv : zr_d σ (x / 8 - 900) = if zr_nm xv = true then 1 else 0 := by
        unfold zr_d
        rw [if_neg (by omega), show 1000 + (x / 8 - 900 - 100) = x / 8 by omega, hxv]
      have hbn : 2147483648 ≤ zr_n σ (x / 8 - 900) ∧ zr_n σ (x / 8 - 900) ≤ 2147483649 := by
        rw [zr_n_s hid, hdv]
        split
        · exact ⟨by decide, by decide⟩
        · exact ⟨by decide, by decide⟩
      have hzv : zr σ b as (8 * (x / 8 - 900) + 4) (.int (if zr_nm xv = true then 1 else 0)) := by
        have e8 : (8 * (x / 8 - 900) + 4) / 8 = x / 8 - 900 := by omega
        have e4 : (8 * (x / 8 - 900) + 4) % 8 = 4 := by omega
        refine (zr_4 e4).mpr ?_
        rw [e8, hdv]
      obtain ⟨lw, hg, e3, -⟩ := zx_V_ok (x / 8 - 900) (fun lw hg => cond (Nat.ble 2147483648 lw && Nat.ble hg 2147483649) (zx_F (8 * (x / 8 - 900) + 4) (fun v => zx_run ms pr n i tb fr lo cu cw sc sp kl ks nxt lv (v :: rr) hp st u w)) (zx_F (8 * (x / 8 - 900) + 4) (fun v => zx_run ms pr n i tb fr lo cu cw sc sp kl ks nxt lv (v :: rr) hp ((x / 8 - 900, 2147483648, 2147483649) :: st) u w))) st
      rw [e3] at h
      have hgo : W p l e R s m args below meth c H locs u w Q (F0 m nxt ls (.int (if zr_nm xv = true then 1 else 0) :: vr)) := by
        rcases zx_ct h with ⟨-, h⟩ | ⟨-, h⟩
        · rw [zx_F_eq] at h
          exact go nxt _ st _ h ⟨hσ, hS, as, hHP, ⟨lv', hl, hL⟩, hzv, hV.2⟩
        · rw [zx_F_eq] at h
          exact go nxt _ _ _ h ⟨zr_in_cons hσ hbn.1 hbn.2, hS, as, hHP, ⟨lv', hl, hL⟩, hzv, hV.2⟩
      obtain ⟨t2, a1, b1⟩ := hgo T' (by rw [e1, k2, h0]) X'
      exact ⟨t2, stp t2 (by rw [hn] at a1; exact a1), b1⟩
    rcases zx_ct h with ⟨ho, h⟩ | ⟨-, h⟩
    · -- 78: the script's ints
      obtain ⟨hn, hdec⟩ := r78 (zx_beq.mp ho)
      rcases stk with _ | ⟨x, _ | ⟨x2, rr⟩⟩
      · exact absurd h Bool.false_ne_true
      · exact absurd h Bool.false_ne_true
      rcases vs with _ | ⟨vx, _ | ⟨vx2, vr⟩⟩
      · exact hV.elim
      · exact hV.2.elim
      obtain ⟨h3, h⟩ := zx_c1 h
      have g1 := zx_an h3
      have g2 := zx_an g1.2
      have q0 := zx_beq.mp g1.1
      have q1 := zx_beq.mp g2.1
      have q2 := zx_blt.mp g2.2
      obtain ⟨L, xs, rfl, hL99, hX, hbl, hbA, hxs⟩ := hsc (by omega)
      obtain ⟨hv1, hv2, hv3⟩ := hV
      have hv1 := (zr_0 q1).mp hv1
      subst hv1
      rw [q0] at hv2
      rcases (zr_2' rfl).mp hv2 with ⟨q, -⟩ | ⟨-, rfl⟩
      · exact absurd q (by decide)
      rw [zx_F_eq] at h
      have hlt : x / 8 < L := by omega
      refine va_sld hx hb hX hbl hbA hS (vp_in_nI hlt (by omega)) hdec (hn ▸ go nxt _ st _ h ⟨hσ, hS, as, hHP, ⟨lv', hl, hL⟩, ?_, hv3⟩)
      refine (zr_4 (by omega)).mpr ?_
      rw [nI_clamp (by omega), ← hxs _ hlt, show (x + 4) / 8 = x / 8 by omega, zr_d_s (by omega)]
    rcases zx_ct h with ⟨ho, h⟩ | ⟨-, h⟩
    · -- 79: the script's length
      obtain ⟨hn, hdec⟩ := r79 (zx_beq.mp ho)
      rcases stk with _ | ⟨x, rr⟩
      · exact absurd h Bool.false_ne_true
      rcases vs with _ | ⟨vx, vr⟩
      · exact hV.elim
      obtain ⟨h3, h⟩ := zx_c1 h
      have g1 := zx_an h3
      have q0 := zx_beq.mp g1.1
      have q2 := zx_blt.mp g1.2
      obtain ⟨L, xs, rfl, hL99, hX, hbl, hbA, hxs⟩ := hsc (by omega)
      obtain ⟨hv2, hv3⟩ := hV
      rw [q0] at hv2
      rcases (zr_2' rfl).mp hv2 with ⟨q, -⟩ | ⟨-, rfl⟩
      · exact absurd q (by decide)
      rw [zx_F_eq] at h
      refine va_slen hx hb hX hbl hbA hS hdec (hn ▸ go nxt _ st _ h ⟨hσ, hS, as, hHP, ⟨lv', hl, hL⟩, ?_, hv3⟩)
      refine (zr_0 (by omega)).mpr ?_
      rw [Nat.mul_div_cancel_left _ (by decide)]
      rfl
    rcases zx_ct h with ⟨ho, h⟩ | ⟨-, h⟩
    · -- 80: a loop that changes one number alone
      obtain ⟨rfl, hb2, d1, d2, d3, d4, d5⟩ := r80 (zx_beq.mp ho)
      rcases d with _ | ⟨kc, _ | ⟨slot, _ | ⟨d3', d'⟩⟩⟩
      · exact absurd h Bool.false_ne_true
      · exact absurd h Bool.false_ne_true
      · rcases stk with _ | ⟨x, rr⟩
        · rcases vs with _ | ⟨vx, vr⟩
          · have h : zx_F (zx_A lv 74 1) (fun x1 => zx_F (zx_A lv 74 0) (fun c => cond (Nat.beq (x1 % 8) 4 && (Nat.blt (x1 / 8) 98 && (Nat.beq (c % 8) 3 && (Nat.beq (zx_A lv 74 2) 0 && st.all (fun q => Nat.blt q.1 98))))) (match zx_G hp kc with | (t, n0, fs, es) => cond (Nat.blt kc (zx_hn hp) && (Nat.ble 16 t && (zx_i (zx_N 74 fs slot) && Nat.blt slot (zx_Z fs)))) (zx_S fs slot 6 (fun fs2 => zx_H hp kc (t, n0, fs2, es) (fun hp2 => and (zx_clean hp2) (and (zx_run ms pr n i tb fr lo cu cw sc nxt (fun _ _ _ => false) (zx_bk c x1 nxt u w hp2) b2 [(2, 788), (0, c), (1, x1)] [] hp2 st u w) (zx_run ms pr n i tb fr lo cu cw sc sp kl ks a [(2, 6), (0, c), (1, x1)] [] hp2 st u w))))) false) false)) = true := h
            rw [zx_F_eq, zx_F_eq] at h
            obtain ⟨g, h⟩ := zx_c1 h
            have a1 := zx_an g
            have a2 := zx_an a1.2
            have a3 := zx_an a2.2
            have a4 := zx_an a3.2
            have g1 := zx_beq.mp a1.1
            have g2 := zx_blt.mp a2.1
            have g3 := zx_beq.mp a3.1
            have g4 := zx_beq.mp a4.1
            have g5 : ∀ q ∈ st, q.1 < 98 := fun q hq => zx_blt.mp (List.all_eq_true.mp a4.2 q hq)
            obtain ⟨v1, m1, z1⟩ := zr_LV_get (fun q => by rw [q] at g1; exact absurd g1 (by decide)) hL (rfl : zx_A lv 74 1 = _)
            obtain ⟨v0, m0, z0⟩ := zr_LV_get (fun q => by rw [q] at g3; exact absurd g3 (by decide)) hL (rfl : zx_A lv 74 0 = _)
            obtain ⟨v2, m2, z2⟩ := zr_LV_get (by decide) hL g4
            obtain ⟨qa, hqa, rfl⟩ := (zr_3 g3).mp z0
            obtain ⟨X, hXe⟩ : ∃ X, v1 = .int X := ⟨_, (zr_4 g1).mp z1⟩
            subst hXe
            have z2 := (zr_0 rfl).mp z2
            obtain ⟨tys, ws, hK, hW, hP, hD⟩ := hHP
            have hkc : kc < hp.1 := by
              generalize zx_G hp kc = E at h
              obtain ⟨t, n0, fs, es⟩ := E
              obtain ⟨g, -⟩ := zx_c1 h
              exact zx_blt.mp (zx_an g).1
            obtain ⟨qk, ek, hqk, hek, hEk⟩ := hW.2.2.1 kc hkc
            have hne : (zx_G hp kc).1 ≠ 0 := by
              rcases hEk with ⟨g, -⟩ | ⟨-, g, -⟩ <;> omega
            generalize hGd : zx_G hp kc = E at h hEk
            obtain ⟨t, n0, fs, es⟩ := E
            obtain ⟨g, h⟩ := zx_c1 h
            have c1 := zx_an g
            have c2 := zx_an c1.2
            have c3 := zx_an c2.2
            have b1 := zx_ble.mp c2.1
            have b2' := c3.1
            rw [zx_S_eq] at h
            obtain ⟨hp', e3, zz2, zz3⟩ := zx_H_ok hp kc (t, n0, fs.set slot 6, es) (fun hp2 => and (zx_clean hp2) (and (zx_run ms pr n i tb fr lo cu cw sc nxt (fun _ _ _ => false) (zx_bk (zx_A lv 74 0) (zx_A lv 74 1) nxt u w hp2) b2 [(2, 788), (0, zx_A lv 74 0), (1, zx_A lv 74 1)] [] hp2 st u w) (zx_run ms pr n i tb fr lo cu cw sc sp kl ks a [(2, 6), (0, zx_A lv 74 0), (1, zx_A lv 74 1)] [] hp2 st u w))) hne
            rw [e3] at h
            obtain ⟨hcl, h⟩ := zx_an h
            obtain ⟨hbody, hexit⟩ := zx_an h
            rcases hEk with ⟨-, fs', rfl, hfs⟩ | ⟨g, -⟩
            · have hW2 : zr_W σ b as tys hp' ws := by
                have hslot := zx_N_some (rfl : zx_N 74 fs slot = _) (fun q => by rw [q] at b2'; exact absurd b2' (by decide))
                obtain ⟨vv, f1, f2⟩ := zr_2_get hfs hslot
                obtain ⟨xv, rfl⟩ := zr_int b2' f2
                have hfs2 : zr_2 (zr σ b as) (fs.set slot 6) fs' := by
                  have h6 : zr σ b as 6 (.int xv) := zr_any
                  have hs := zr_2_set (i := slot) h6 hfs
                  rw [show fs'.set slot (.int xv) = fs' from by
                    apply List.ext_getElem?
                    intro j
                    by_cases hj : slot = j
                    · subst hj
                      rw [List.getElem?_set_self (List.getElem?_eq_some_iff.mp f1).1, f1]
                    · rw [List.getElem?_set_ne hj]] at hs
                  exact hs
                have hw2 := zr_W_set (e := .inr (t - 16, fs')) hW hqk zz2 zz3 (Or.inl ⟨b1, fs', rfl, hfs2⟩)
                rw [show ws.set kc (qk, .inr (t - 16, fs')) = ws from by
                  apply List.ext_getElem?
                  intro j
                  by_cases hj : kc = j
                  · subst hj
                    rw [List.getElem?_set_self (List.getElem?_eq_some_iff.mp hek).1, hek]
                  · rw [List.getElem?_set_ne hj]] at hw2
                exact hw2
              have hl3 : lv_has ls 3 [(2, .int (nI 0)), (0, .ref qa), (1, .int X)] := by
                refine ⟨hl.1, hl.2.1, fun q hq => ?_⟩
                simp only [List.mem_cons, List.not_mem_nil, or_false] at hq
                rcases hq with rfl | rfl | rfl
                · have := hl.2.2 _ m2; rw [z2] at this; exact this
                · exact hl.2.2 _ m0
                · exact hl.2.2 _ m1
              exact zx_loop ihs hro hCx hR hu hw hsc hret hks hσ g5 g1 g2 g3 hcl hbody hexit hb2 d1 d2 d3 d4 d5 (X.toInt - (nI 0).toInt).toNat (nI 0) qa H locs ls as (by omega) hS ⟨tys, ws, hK, hW2, hP, hD⟩ hl3 z0 z1
            · exact absurd (show t < 16 from g) (by omega)
          · exact hV.elim
        · exact absurd h Bool.false_ne_true
      · exact absurd h Bool.false_ne_true
    · exact absurd h Bool.false_ne_true
