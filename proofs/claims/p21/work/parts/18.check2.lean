/-- places of a method's words: its code, its class's 'initialized', 'instanceMethod' or 'static', 'selects' -/
abbrev zkMH : Type := List (Nat × Nat × Nat × Nat)
noncomputable def zc_meth (q : MethodName × ByteArray × Nat × Option FieldType) (h : Nat × Nat × Nat × Nat) : Bool := match q, h with
  | (y, cc, mL, ret), (h1, h2, _, _) => decide (zk_h h1 = .code y cc mL ret) && (decide (zk_h h2 = .initialized y.cls) && decide (plainName y.cls = true ∧ y.cls ≠ "java/lang/invoke/MethodHandle" ∧ y.cls ≠ "java/lang/invoke/VarHandle"))
theorem zc_meth_ok {y : MethodName} {cc : ByteArray} {mL : Nat} {ret : Option FieldType} {h : Nat × Nat × Nat × Nat} (hc : zc_meth (y, cc, mL, ret) h = true) : zk_meth y cc mL ret := by
  obtain ⟨h1, h2, h3, h4⟩ := h
  obtain ⟨g1, g⟩ := zx_an hc
  obtain ⟨g2, g3⟩ := zx_an g
  obtain ⟨k1, k2, k3⟩ := of_decide_eq_true g3
  exact ⟨zk_h_eq g1 rfl rfl, k1, zk_h_eq g2 rfl rfl, k2, k3⟩
/-- a call's row -/
noncomputable def zc_call (ms2 : zkMS) (mh : zkMH) (y : MethodName) (cc : ByteArray) (pc op a b nxt : Nat) (d : List Nat) : Bool :=
  match ms2[b]?, mh[b]? with
  | some (y2, _, _, ret2), some (_, _, h3, h4) => Nat.beq nxt (pc + 3) && (match (parseMethodDescriptor y2.desc).map (fun q => q.parameters.length) with
    | some n => cond (Nat.beq op 70) (match d with | [m, t] => Nat.beq m (n + 1) && (Nat.ble 16 t && (match vwCl[t - 16]? with | some (C, _, _) => decide (C = y2.cls) && (decide (zk_h (a / 65536) = .methodLink y.cls (a % 65536) y2) && (decide (zk_h h3 = .instanceMethod y2) && (decide (zk_h h4 = .selects y2.cls y2 y2) && decide (decode cc pc = .ok (.invokevirtual (a % 65536), 3))))) | none => false)) | _ => false)
        (cond (Nat.beq op 71) (decide (d = [n + 1] ∧ y2.name = "<init>" ∧ ret2 = none ∧ decode cc pc = .ok (.invokespecial (a % 65536), 3)) && (decide (zk_h (a / 65536) = .methodLink y.cls (a % 65536) y2) && decide (zk_h h3 = .instanceMethod y2)))
        (cond (Nat.beq op 72) (decide (d = [n + 1] ∧ y2.name = "<init>" ∧ ret2 = none ∧ decode cc pc = .ok (.invokespecial (a % 65536), 3)) && (decide (zk_h h3 = .instanceMethod y2) && (decide (y.cls = "StubHouse$Library" ∧ a % 65536 = 38 ∧ y2 = ⟨"StubHouse$Tape", "<init>", "()V"⟩) || (decide (y.cls = "StubHouse$Reader" ∧ a % 65536 = 3 ∧ y2 = ⟨"StubHouse$Drive", "<init>", "()V"⟩) || decide (y.cls = "StubHouse$Writer" ∧ a % 65536 = 3 ∧ y2 = ⟨"StubHouse$Drive", "<init>", "()V"⟩)))))
        (cond (Nat.beq op 73) (decide (d = [n] ∧ decode cc pc = .ok (.invokestatic (a % 65536), 3)) && (decide (zk_h (a / 65536) = .methodLink y.cls (a % 65536) y2) && decide (zk_h h3 = .static y2)))
        (match d with | [m, t, t'] => Nat.beq m (n + 1) && (Nat.ble 16 t && (Nat.ble 16 t' && (match zk_h (a / 65536 % 65536) with | .methodLink o i x => decide (o = y.cls ∧ i = a % 65536 ∧ y2 = ⟨y2.cls, x.name, x.desc⟩) && (decide (zk_h (a / 4294967296 % 65536) = .sameMethod x.cls y2.cls x.name x.desc) && (decide (zk_h h3 = .instanceMethod y2) && (decide (decode cc pc = .ok (.invokevirtual (a % 65536), 3)) && (match vwCl[t - 16]?, vwCl[t' - 16]? with | some (C, _, _), some (C', _, _) => decide (zk_h (a / 281474976710656 % 65536) = .selects C x y2) && decide (zk_h (a / 18446744073709551616) = .selects C' x y2) | _, _ => false)))) | _ => false))) | _ => false))))
    | none => false)
  | _, _ => false
theorem zc_call_ok {ms2 : zkMS} {mh : zkMH} (hall : ∀ (i : Nat) (y : MethodName) (cc : ByteArray) (mL : Nat) (ret : Option FieldType), ms2[i]? = some (y, cc, mL, ret) → zk_meth y cc mL ret) {Ps : List zkPT} {y : MethodName} {cc : ByteArray} {pc op a b nxt : Nat} {d : List Nat} (ho : 70 ≤ op ∧ op ≤ 74) (h : zc_call ms2 mh y cc pc op a b nxt d = true) :
    nxt = pc + 3 ∧ ∃ (y2 : MethodName) (cc2 : ByteArray) (mL2 : Nat) (ret2 : Option FieldType) (n : Nat), ms2[b]? = some (y2, cc2, mL2, ret2) ∧ zk_meth y2 cc2 mL2 ret2 ∧ (parseMethodDescriptor y2.desc).map (fun q => q.parameters.length) = some n ∧
    ((op = 70 ∧ ∃ t q, d = [n + 1, t] ∧ 16 ≤ t ∧ vwCl[t - 16]? = some q ∧ q.1 = y2.cls ∧ Cond.methodLink y.cls (a % 65536) y2 ∈ zk_T ∧ Cond.instanceMethod y2 ∈ zk_T ∧ Cond.selects y2.cls y2 y2 ∈ zk_T ∧ decode cc pc = .ok (.invokevirtual (a % 65536), 3)) ∨
     (op = 71 ∧ d = [n + 1] ∧ y2.name = "<init>" ∧ ret2 = none ∧ Cond.methodLink y.cls (a % 65536) y2 ∈ zk_T ∧ Cond.instanceMethod y2 ∈ zk_T ∧ decode cc pc = .ok (.invokespecial (a % 65536), 3)) ∨
     (op = 72 ∧ d = [n + 1] ∧ y2.name = "<init>" ∧ ret2 = none ∧ (∀ U, zk_N U → va_Nw (.methodLinkNest y.cls (a % 65536) y2 "StubHouse") U) ∧ Cond.instanceMethod y2 ∈ zk_T ∧ decode cc pc = .ok (.invokespecial (a % 65536), 3)) ∨
     (op = 73 ∧ d = [n] ∧ Cond.methodLink y.cls (a % 65536) y2 ∈ zk_T ∧ Cond.static y2 ∈ zk_T ∧ decode cc pc = .ok (.invokestatic (a % 65536), 3)) ∨
     (op = 74 ∧ ∃ (t t' : Nat) (q q' : vw_C) (x : MethodName), d = [n + 1, t, t'] ∧ 16 ≤ t ∧ 16 ≤ t' ∧ vwCl[t - 16]? = some q ∧ vwCl[t' - 16]? = some q' ∧ y2 = ⟨y2.cls, x.name, x.desc⟩ ∧ Cond.methodLink y.cls (a % 65536) x ∈ zk_T ∧ Cond.sameMethod x.cls y2.cls x.name x.desc ∈ zk_T ∧ Cond.selects q.1 x y2 ∈ zk_T ∧ Cond.selects q'.1 x y2 ∈ zk_T ∧ Cond.instanceMethod y2 ∈ zk_T ∧ decode cc pc = .ok (.invokevirtual (a % 65536), 3))) := by
  unfold zc_call at h
  cases hm : ms2[b]? with
  | none => rw [hm] at h; exact absurd h Bool.false_ne_true
  | some q =>
    obtain ⟨y2, cc2, mL2, ret2⟩ := q
    cases hh : mh[b]? with
    | none => rw [hm, hh] at h; exact absurd h Bool.false_ne_true
    | some q2 =>
      obtain ⟨h1, h2, h3, h4⟩ := q2
      rw [hm, hh] at h
      obtain ⟨g1, g⟩ := zx_an h
      cases hp : (parseMethodDescriptor y2.desc).map (fun q => q.parameters.length) with
      | none => simp only [hp] at g; exact absurd g Bool.false_ne_true
      | some n =>
        simp only [hp] at g
        refine ⟨zx_beq.mp g1, y2, cc2, mL2, ret2, n, rfl, hall b y2 cc2 mL2 ret2 hm, hp, ?_⟩
        rcases zx_ct g with ⟨o, g⟩ | ⟨o0, g⟩
        · rcases d with _ | ⟨m, _ | ⟨t, _ | ⟨t2, d⟩⟩⟩
          · exact absurd g Bool.false_ne_true
          · exact absurd g Bool.false_ne_true
          · obtain ⟨k1, g⟩ := zx_an g
            obtain ⟨k2, g⟩ := zx_an g
            cases hv : vwCl[t - 16]? with
            | none => simp only [hv] at g; exact absurd g Bool.false_ne_true
            | some C =>
              obtain ⟨C, T, N⟩ := C
              simp only [hv] at g
              obtain ⟨k3, g⟩ := zx_an g
              obtain ⟨k4, g⟩ := zx_an g
              obtain ⟨k5, g⟩ := zx_an g
              obtain ⟨k6, k7⟩ := zx_an g
              exact Or.inl ⟨zx_beq.mp o, t, (C, T, N), by rw [zx_beq.mp k1], zx_ble.mp k2, hv, of_decide_eq_true k3, zk_h_eq k4 rfl rfl, zk_h_eq k5 rfl rfl, zk_h_eq k6 rfl rfl, of_decide_eq_true k7⟩
          · exact absurd g Bool.false_ne_true
        · rcases zx_ct g with ⟨o, g⟩ | ⟨o1, g⟩
          · obtain ⟨k1, g⟩ := zx_an g
            obtain ⟨k2, k3⟩ := zx_an g
            obtain ⟨e1, e2, e3, e4⟩ := of_decide_eq_true k1
            exact Or.inr (Or.inl ⟨zx_beq.mp o, e1, e2, e3, zk_h_eq k2 rfl rfl, zk_h_eq k3 rfl rfl, e4⟩)
          · rcases zx_ct g with ⟨o, g⟩ | ⟨o2, g⟩
            · obtain ⟨k1, g⟩ := zx_an g
              obtain ⟨k2, k3⟩ := zx_an g
              obtain ⟨e1, e2, e3, e4⟩ := of_decide_eq_true k1
              refine Or.inr (Or.inr (Or.inl ⟨zx_beq.mp o, e1, e2, e3, fun U hU => ?_, zk_h_eq k2 rfl rfl, e4⟩))
              rcases Bool.or_eq_true_iff.mp k3 with q | q
              · obtain ⟨f1, f2, f3⟩ := of_decide_eq_true q
                rw [f1, f2, f3]; exact hU.1
              · rcases Bool.or_eq_true_iff.mp q with q | q
                · obtain ⟨f1, f2, f3⟩ := of_decide_eq_true q
                  rw [f1, f2, f3]; exact hU.2.1
                · obtain ⟨f1, f2, f3⟩ := of_decide_eq_true q
                  rw [f1, f2, f3]; exact hU.2.2.1
            · rcases zx_ct g with ⟨o, g⟩ | ⟨o3, g⟩
              · obtain ⟨k1, g⟩ := zx_an g
                obtain ⟨k2, k3⟩ := zx_an g
                obtain ⟨e1, e2⟩ := of_decide_eq_true k1
                exact Or.inr (Or.inr (Or.inr (Or.inl ⟨zx_beq.mp o, e1, zk_h_eq k2 rfl rfl, zk_h_eq k3 rfl rfl, e2⟩)))
              · have o0 := zx_nbeq.mp o0
                have o1 := zx_nbeq.mp o1
                have o2 := zx_nbeq.mp o2
                have o3 := zx_nbeq.mp o3
                rcases d with _ | ⟨m, _ | ⟨t, _ | ⟨t2, _ | ⟨t3, d⟩⟩⟩⟩
                · exact absurd g Bool.false_ne_true
                · exact absurd g Bool.false_ne_true
                · exact absurd g Bool.false_ne_true
                · obtain ⟨k1, g⟩ := zx_an g
                  obtain ⟨k2, g⟩ := zx_an g
                  obtain ⟨k2', g⟩ := zx_an g
                  cases hw : zk_h (a / 65536 % 65536) with
                  | methodLink o i x =>
                    simp only [hw] at g
                    obtain ⟨k4, g⟩ := zx_an g
                    obtain ⟨k5, g⟩ := zx_an g
                    obtain ⟨k6, g⟩ := zx_an g
                    obtain ⟨k7, g⟩ := zx_an g
                    obtain ⟨e1, e2, e3⟩ := of_decide_eq_true k4
                    cases hv : vwCl[t - 16]? with
                    | none => simp only [hv] at g; exact absurd g Bool.false_ne_true
                    | some C =>
                      cases hv2 : vwCl[t2 - 16]? with
                      | none => simp only [hv, hv2] at g; exact absurd g Bool.false_ne_true
                      | some C' =>
                        obtain ⟨C, T, N⟩ := C
                        obtain ⟨C', T', N'⟩ := C'
                        simp only [hv, hv2] at g
                        obtain ⟨k8, k9⟩ := zx_an g
                        have hmem := zk_h_in hw rfl rfl
                        rw [e1, e2] at hmem
                        exact Or.inr (Or.inr (Or.inr (Or.inr ⟨by omega, t, t2, (C, T, N), (C', T', N'), x, by rw [zx_beq.mp k1], zx_ble.mp k2, zx_ble.mp k2', hv, hv2, e3, hmem, zk_h_eq k5 rfl rfl, zk_h_eq k8 rfl rfl, zk_h_eq k9 rfl rfl, zk_h_eq k6 rfl rfl, of_decide_eq_true k7⟩)))
                  | _ => simp only [hw] at g; exact absurd g Bool.false_ne_true
                · exact absurd g Bool.false_ne_true
/-- a row's check; nm the two methods that check names, by their numbers among nms -/
noncomputable def zc_ro (ms2 : zkMS) (mh : zkMH) (Cs : List zkCK) (nms : List (MethodName × ByteArray × Nat)) (y : MethodName) (cc : ByteArray) (mL : Nat) (ret : Option FieldType) (pc : Nat) (r : zxRow) : Bool := match r with
  | (op, a, b, nxt, d) => cond (Nat.blt op 55) (zx_N (fun _ _ _ _ _ _ _ _ => false) zc_props op y cc mL pc a b nxt d)
    (cond (Nat.blt op 64) (zx_N (fun _ _ _ _ _ _ _ _ => false) Cs (op - 55) y cc mL pc a b nxt d)
    (cond (Nat.blt op 68) (cond (Nat.beq op 64) (decide (decode cc pc = .ok (.ireturn, 1) ∧ ret = some .int)) (cond (Nat.beq op 65) (decide (decode cc pc = .ok (.ireturn, 1) ∧ ret = some .boolean)) (cond (Nat.beq op 66) (decide (decode cc pc = .ok (.lreturn, 1) ∧ ret = some .long)) (decide (decode cc pc = .ok (.return_, 1) ∧ ret = none)))))
    (cond (Nat.blt op 70) false
    (cond (Nat.blt op 75) (zc_call ms2 mh y cc pc op a b nxt d)
    (cond (Nat.beq op 75) (decide (nxt = pc + 3 ∧ decode cc pc = .ok (.invokespecial (a % 65536), 3)) && (decide (zk_h (a / 65536) = .methodLink y.cls (a % 65536) Lib.objectInit) && (decide (zk_h 23 = .instanceMethod Lib.objectInit) && decide (zk_h 24 = .code Lib.objectInit ⟨#[0xb1]⟩ 1 none))))
    (cond (Nat.beq op 76) (decide (nxt = pc + 3 ∧ a < 65536 ∧ decode cc pc = .ok (.invokestatic a, 3)) && (decide (zk_h (b % 65536) = .methodLink y.cls a arraycopyName) && (decide (zk_h (b / 65536 % 65536) = .native arraycopyName) && (decide (zk_h (b / 4294967296 % 65536) = .static arraycopyName) && decide (zk_h (b / 281474976710656) = .initialized "java/lang/System")))))
    (cond (Nat.beq op 77) (match nms[b]? with
      | some (y2, cc2, mL2) => decide (nxt = pc + 3 ∧ mL2 ≤ 8 ∧ (parseMethodDescriptor y2.desc).map (fun q => q.parameters.length) = some 1 ∧ decode cc pc = .ok (.invokestatic (a % 65536), 3)) && (decide (zk_h (a / 65536) = .methodLink y.cls (a % 65536) y2) && (match d with | [h1, h2, h3] => decide (zk_h h3 = .static y2) && zc_meth (y2, cc2, mL2, some .boolean) (h1, h2, 0, 0) | _ => false))
      | none => false)
    (cond (Nat.beq op 78) (decide (nxt = pc + 1 ∧ decode cc pc = .ok (.iaload, 1)))
    (cond (Nat.beq op 79) (decide (nxt = pc + 1 ∧ decode cc pc = .ok (.arraylength, 1))) (cond (Nat.beq op 80) (decide (mL = 3 ∧ b = pc + 5 ∧ decode cc pc = .ok (.iload_n 2, 1) ∧ decode cc (pc + 1) = .ok (.iload_n 1, 1) ∧ decode cc (pc + 2) = .ok (.if_icmp .ge ((a : Int) - ((pc + 2 : Nat) : Int)), 3) ∧ decode cc nxt = .ok (.iinc 2 1, 3) ∧ decode cc (nxt + 3) = .ok (.goto ((pc : Int) - ((nxt + 3 : Nat) : Int)), 3))) true))))))))))
theorem zc_ro_ok {ms2 : zkMS} {mh : zkMH} {Cs : List zkCK} {Ps : List zkPT} {nms : List (MethodName × ByteArray × Nat)} (hall : ∀ (i : Nat) (y : MethodName) (cc : ByteArray) (mL : Nat) (ret : Option FieldType), ms2[i]? = some (y, cc, mL, ret) → zk_meth y cc mL ret) (hCs : zr_2 zk_CO Cs Ps) (hnms : ∀ (i : Nat) (y : MethodName) (cc : ByteArray) (mL : Nat), nms[i]? = some (y, cc, mL) → zk_nm y cc mL)
    {y : MethodName} {cc : ByteArray} {mL : Nat} {ret : Option FieldType} {pc : Nat} {r : zxRow} (h : zc_ro ms2 mh Cs nms y cc mL ret pc r = true) : zk_ro ms2 Ps y cc mL ret pc r := by
  obtain ⟨op, a, b, nxt, d⟩ := r
  have hfail : zk_CO (fun _ _ _ _ _ _ _ _ => false) (fun _ _ _ _ _ _ _ _ => False) := fun _ _ _ _ _ _ _ _ q => absurd q Bool.false_ne_true
  unfold zk_ro
  dsimp only
  rcases zx_ct h with ⟨o, h⟩ | ⟨o55, h⟩
  · have o := zx_blt.mp o
    exact ⟨fun _ => zr_2_N hfail zc_props_ok op y cc mL pc a b nxt d h, by omega, by omega, by omega, by omega, by omega, by omega, by omega, by omega, by omega, by omega, by omega, by omega⟩
  have o55 := zx_nblt.mp o55
  rcases zx_ct h with ⟨o, h⟩ | ⟨o64, h⟩
  · have o := zx_blt.mp o
    exact ⟨by omega, fun _ _ => zr_2_N hfail hCs (op - 55) y cc mL pc a b nxt d h, by omega, by omega, by omega, by omega, by omega, by omega, by omega, by omega, by omega, by omega, by omega⟩
  have o64 := zx_nblt.mp o64
  rcases zx_ct h with ⟨o, h⟩ | ⟨o68, h⟩
  · have o := zx_blt.mp o
    rcases zx_ct h with ⟨p1, h⟩ | ⟨p1, h⟩
    · have p1 := zx_beq.mp p1
      exact ⟨by omega, by omega, fun _ => of_decide_eq_true h, by omega, by omega, by omega, by omega, by omega, by omega, by omega, by omega, by omega, by omega⟩
    have p1 := zx_nbeq.mp p1
    rcases zx_ct h with ⟨p2, h⟩ | ⟨p2, h⟩
    · have p2 := zx_beq.mp p2
      exact ⟨by omega, by omega, by omega, fun _ => of_decide_eq_true h, by omega, by omega, by omega, by omega, by omega, by omega, by omega, by omega, by omega⟩
    have p2 := zx_nbeq.mp p2
    rcases zx_ct h with ⟨p3, h⟩ | ⟨p3, h⟩
    · have p3 := zx_beq.mp p3
      exact ⟨by omega, by omega, by omega, by omega, fun _ => of_decide_eq_true h, by omega, by omega, by omega, by omega, by omega, by omega, by omega, by omega⟩
    have p3 := zx_nbeq.mp p3
    exact ⟨by omega, by omega, by omega, by omega, by omega, fun _ => of_decide_eq_true h, by omega, by omega, by omega, by omega, by omega, by omega, by omega⟩
  have o68 := zx_nblt.mp o68
  obtain ⟨o70, h⟩ := zx_c0 h
  have o70 := zx_nblt.mp o70
  rcases zx_ct h with ⟨o, h⟩ | ⟨o75, h⟩
  · have o := zx_blt.mp o
    exact ⟨by omega, by omega, by omega, by omega, by omega, by omega, fun _ _ => zc_call_ok (Ps := Ps) hall ⟨by omega, by omega⟩ h, by omega, by omega, by omega, by omega, by omega, by omega⟩
  have o75 := zx_nblt.mp o75
  rcases zx_ct h with ⟨o, h⟩ | ⟨n75, h⟩
  · have o := zx_beq.mp o
    refine ⟨by omega, by omega, by omega, by omega, by omega, by omega, by omega, fun _ => ?_, by omega, by omega, by omega, by omega, by omega⟩
    obtain ⟨k1, g⟩ := zx_an h
    obtain ⟨k2, g⟩ := zx_an g
    obtain ⟨k3, k4⟩ := zx_an g
    obtain ⟨e1, e2⟩ := of_decide_eq_true k1
    exact ⟨e1, zk_h_eq k2 rfl rfl, zk_h_eq k3 rfl rfl, zk_h_eq k4 rfl rfl, e2⟩
  have n75 := zx_nbeq.mp n75
  rcases zx_ct h with ⟨o, h⟩ | ⟨n76, h⟩
  · have o := zx_beq.mp o
    refine ⟨by omega, by omega, by omega, by omega, by omega, by omega, by omega, by omega, fun _ => ?_, by omega, by omega, by omega, by omega⟩
    obtain ⟨k1, g⟩ := zx_an h
    obtain ⟨k2, g⟩ := zx_an g
    obtain ⟨k3, g⟩ := zx_an g
    obtain ⟨k4, k5⟩ := zx_an g
    obtain ⟨e1, e2, e3⟩ := of_decide_eq_true k1
    exact ⟨e1, e2, zk_h_eq k2 rfl rfl, zk_h_eq k3 rfl rfl, zk_h_eq k4 rfl rfl, zk_h_eq k5 rfl rfl, e3⟩
  have n76 := zx_nbeq.mp n76
  rcases zx_ct h with ⟨o, h⟩ | ⟨n77, h⟩
  · have o := zx_beq.mp o
    refine ⟨by omega, by omega, by omega, by omega, by omega, by omega, by omega, by omega, by omega, fun _ => ?_, by omega, by omega, by omega⟩
    cases hm : nms[b]? with
    | none => rw [hm] at h; exact absurd h Bool.false_ne_true
    | some q =>
      obtain ⟨y2, cc2, mL2⟩ := q
      rw [hm] at h
      obtain ⟨k1, g⟩ := zx_an h
      obtain ⟨k2, g⟩ := zx_an g
      obtain ⟨e1, e2, e3, e4⟩ := of_decide_eq_true k1
      rcases d with _ | ⟨d1, _ | ⟨d2, _ | ⟨d3, _ | ⟨d4, d⟩⟩⟩⟩
      · exact absurd g Bool.false_ne_true
      · exact absurd g Bool.false_ne_true
      · exact absurd g Bool.false_ne_true
      · obtain ⟨k3, k4⟩ := zx_an g
        exact ⟨e1, y2, cc2, mL2, e2, hnms b y2 cc2 mL2 hm, zc_meth_ok k4, e3, zk_h_eq k2 rfl rfl, zk_h_eq k3 rfl rfl, e4⟩
      · exact absurd g Bool.false_ne_true
  have n77 := zx_nbeq.mp n77
  rcases zx_ct h with ⟨o, h⟩ | ⟨n78, h⟩
  · have o := zx_beq.mp o
    exact ⟨by omega, by omega, by omega, by omega, by omega, by omega, by omega, by omega, by omega, by omega, fun _ => of_decide_eq_true h, by omega, by omega⟩
  have n78 := zx_nbeq.mp n78
  rcases zx_ct h with ⟨o, h⟩ | ⟨n79, h⟩
  · have o := zx_beq.mp o
    exact ⟨by omega, by omega, by omega, by omega, by omega, by omega, by omega, by omega, by omega, by omega, by omega, fun _ => of_decide_eq_true h, by omega⟩
  rcases zx_ct h with ⟨o, h⟩ | ⟨n80, h⟩
  · have o := zx_beq.mp o
    exact ⟨by omega, by omega, by omega, by omega, by omega, by omega, by omega, by omega, by omega, by omega, by omega, by omega, fun _ => of_decide_eq_true h⟩
  have n80 := zx_nbeq.mp n80
  have n79 := zx_nbeq.mp n79
  exact ⟨by omega, by omega, by omega, by omega, by omega, by omega, by omega, by omega, by omega, by omega, by omega, by omega, by omega⟩
/-- all rows of a method -/
noncomputable def zc_all (ms2 : zkMS) (mh : zkMH) (Cs : List zkCK) (nms : List (MethodName × ByteArray × Nat)) (y : MethodName) (cc : ByteArray) (mL : Nat) (ret : Option FieldType) (tb : zxTB) : Bool := (List.range (16 * tb.length)).all (fun pc => zc_ro ms2 mh Cs nms y cc mL ret pc (zx_row tb pc))
theorem zc_all_ok {ms2 : zkMS} {mh : zkMH} {Cs : List zkCK} {Ps : List zkPT} {nms : List (MethodName × ByteArray × Nat)} (hall : ∀ (i : Nat) (y : MethodName) (cc : ByteArray) (mL : Nat) (ret : Option FieldType), ms2[i]? = some (y, cc, mL, ret) → zk_meth y cc mL ret) (hCs : zr_2 zk_CO Cs Ps) (hnms : ∀ (i : Nat) (y : MethodName) (cc : ByteArray) (mL : Nat), nms[i]? = some (y, cc, mL) → zk_nm y cc mL)
    {y : MethodName} {cc : ByteArray} {mL : Nat} {ret : Option FieldType} {tb : zxTB} (h : zc_all ms2 mh Cs nms y cc mL ret tb = true) : ∀ pc, zk_ro ms2 Ps y cc mL ret pc (zx_row tb pc) := by
  intro pc
  by_cases hp : pc < 16 * tb.length
  · exact zc_ro_ok hall hCs hnms (List.all_eq_true.mp h pc (List.mem_range.mpr hp))
  · have e : zx_row tb pc = (999, 0, 0, 0, []) := by
      unfold zx_row
      rw [zx_N_eq, zx_N_eq, List.getElem?_eq_none (l := tb) (by omega)]
      rfl
    rw [e]
    unfold zk_ro
    dsimp only
    exact ⟨by omega, by omega, by omega, by omega, by omega, by omega, by omega, by omega, by omega, by omega, by omega, by omega, by omega⟩
