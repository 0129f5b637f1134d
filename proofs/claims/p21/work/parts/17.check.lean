/-- the tables by pieces: a word's place is 400 times its piece and its place there -/
def zk_tab : List (List Cond) := [tables_1_1, tables_1_2, tables_1_3, tables_1_4, tables_1_5, tables_1_6, tables_1_7, tables_1_8, tables_1_9, k2_sels lw_privs_1, k2_sels lw_privs_2, k2_sels lw_privs_3, k2_sels lw_privs_4, k2_sels lw_privs_5, k2_sels lw_privs_6, k2_sels lw_privs_7, k2_sels lw_privs_8, k2_sels lw_privs_9, k2_sels lw_privs_10]
theorem zk_tab_in : ∀ l ∈ zk_tab, ∀ w ∈ l, w ∈ lw_tbl := by
  intro l hl w hw
  have e : lw_tbl = k2_sels (lw_privs_1 ++ (lw_privs_2 ++ (lw_privs_3 ++ (lw_privs_4 ++ (lw_privs_5 ++ (lw_privs_6 ++ (lw_privs_7 ++ (lw_privs_8 ++ (lw_privs_9 ++ lw_privs_10))))))))) ++ (tables_1_1 ++ (tables_1_2 ++ (tables_1_3 ++ (tables_1_4 ++ (tables_1_5 ++ (tables_1_6 ++ (tables_1_7 ++ (tables_1_8 ++ tables_1_9)))))))) := rfl
  rw [e]
  unfold k2_sels
  simp only [List.map_append, List.mem_append]
  simp only [zk_tab, k2_sels, List.mem_cons, List.not_mem_nil, or_false] at hl
  rcases hl with rfl | rfl | rfl | rfl | rfl | rfl | rfl | rfl | rfl | rfl | rfl | rfl | rfl | rfl | rfl | rfl | rfl | rfl | rfl <;> simp only [hw, true_or, or_true]
noncomputable def zk_h (n : Nat) : Cond := zx_N Cond.tt (zx_N [] zk_tab (n / 400)) (n % 400)
def zk_is (w : Cond) : Bool := match w with | .tt => false | _ => true
theorem zk_h_in {n : Nat} {w : Cond} (h : zk_h n = w) (ht : zk_is w = true) (hg : goodWord w = true) : w ∈ zk_T := by
  refine zk_mem ?_ hg
  have hne : w ≠ Cond.tt := fun q => by rw [q] at ht; exact absurd ht (by decide)
  have h1 := zx_N_some h hne
  have hl : zx_N [] zk_tab (n / 400) ≠ [] := fun q => by rw [q] at h1; simp at h1
  have h2 := zx_N_some (rfl : zx_N [] zk_tab (n / 400) = _) hl
  exact zk_tab_in _ (List.mem_of_getElem? h2) _ (List.mem_of_getElem? h1)
theorem zk_h_eq {n : Nat} {w : Cond} (h : decide (zk_h n = w) = true) (ht : zk_is w = true) (hg : goodWord w = true) : w ∈ zk_T := zk_h_in (of_decide_eq_true h) ht hg
abbrev zkCK : Type := MethodName → ByteArray → Nat → Nat → Nat → Nat → Nat → List Nat → Bool
def zk_CO (ck : zkCK) (P : zkPT) : Prop := ∀ y cc nL pc a b nxt d, ck y cc nL pc a b nxt d = true → P y cc nL pc a b nxt d
noncomputable def zc_get : zkCK := fun y cc _ pc a b nxt d => d.all (fun t => Nat.ble 16 t && (match vwCl[t - 16]? with
    | some (_, T, N) => Nat.blt b N && (match zk_h (a / 65536 % 65536) with
      | .fieldLink o i r n ds => decide (o = y.cls ∧ i = a % 65536 ∧ n = (T b).2.1 ∧ ds = (T b).2.2.1) && (decide ((T b).1 = r) || decide (zk_h (a / 4294967296) = .sameField r (T b).1 (T b).2.1 (T b).2.2.1))
      | _ => false)
    | none => false)) && decide (decode cc pc = .ok (.getfield (a % 65536), 3) ∧ nxt = pc + 3)
theorem zc_get_ok : zk_CO zc_get zp_get := by
  intro y cc nL pc a b nxt d h
  obtain ⟨h1, h2⟩ := zx_an h
  obtain ⟨h3, h4⟩ := of_decide_eq_true h2
  refine ⟨fun t ht => ?_, h3, h4⟩
  have h5 := List.all_eq_true.mp h1 t ht
  obtain ⟨h6, h7⟩ := zx_an h5
  refine ⟨zx_ble.mp h6, ?_⟩
  cases hv : vwCl[t - 16]? with
  | none => rw [hv] at h7; exact absurd h7 Bool.false_ne_true
  | some q =>
    obtain ⟨C, T, N⟩ := q
    rw [hv] at h7
    obtain ⟨h8, h9⟩ := zx_an h7
    cases hw : zk_h (a / 65536 % 65536) with
    | fieldLink o i r n ds =>
      rw [hw] at h9
      obtain ⟨g1, g2⟩ := zx_an h9
      obtain ⟨rfl, rfl, rfl, rfl⟩ := of_decide_eq_true g1
      refine ⟨C, T, N, r, rfl, zx_blt.mp h8, zk_h_in hw rfl rfl, ?_⟩
      rcases Bool.or_eq_true_iff.mp g2 with q | q
      · exact Or.inl (of_decide_eq_true q)
      · exact Or.inr (zk_h_eq q rfl rfl)
    | _ => rw [hw] at h9; exact absurd h9 Bool.false_ne_true
def zk_sortB (sort : Nat) (ty : FieldType) : Bool := match ty with | .int => Nat.beq sort 0 | .boolean => Nat.beq sort 1 | .long => Nat.beq sort 2 | .object _ => Nat.beq sort 3 | .array _ => Nat.beq sort 3 | _ => false
theorem zk_sortB_ok {sort : Nat} {ty : FieldType} (h : zk_sortB sort ty = true) : zk_sort sort ty := by
  cases ty with
  | int => exact Or.inl ⟨zx_beq.mp h, rfl⟩
  | boolean => exact Or.inr (Or.inl ⟨zx_beq.mp h, rfl⟩)
  | long => exact Or.inr (Or.inr (Or.inl ⟨zx_beq.mp h, rfl⟩))
  | object n => exact Or.inr (Or.inr (Or.inr ⟨zx_beq.mp h, Or.inl ⟨n, rfl⟩⟩))
  | array t => exact Or.inr (Or.inr (Or.inr ⟨zx_beq.mp h, Or.inr ⟨t, rfl⟩⟩))
  | _ => exact absurd h Bool.false_ne_true
noncomputable def zc_putG (fin : Bool) : zkCK := fun y cc _ pc a b nxt d => d.all (fun t => Nat.ble 16 t && (match vwCl[t - 16]? with
    | some (_, T, N) => Nat.blt (b % 64) N && ((match zk_h (a / 65536 % 65536) with
      | .fieldLink o i r n ds => decide (o = y.cls ∧ i = a % 65536 ∧ n = (T (b % 64)).2.1 ∧ ds = (T (b % 64)).2.2.1) && (decide ((T (b % 64)).1 = r) || decide (zk_h (a / 4294967296) = .sameField r (T (b % 64)).1 (T (b % 64)).2.1 (T (b % 64)).2.2.1))
      | _ => false) && (decide ((T (b % 64)).2.2.2 = fin) && ((!fin || decide ((T (b % 64)).1 = y.cls)) && (match parseFieldDescriptor (T (b % 64)).2.2.1 with | some ty => zk_sortB (b / 64 % 4) ty | none => false))))
    | none => false)) && (decide (decode cc pc = .ok (.putfield (a % 65536), 3) ∧ nxt = pc + 3) && (!fin || decide (y.name = "<init>")))
theorem zc_putG_ok (fin : Bool) {y : MethodName} {cc : ByteArray} {nL pc a b nxt : Nat} {d : List Nat} (h : zc_putG fin y cc nL pc a b nxt d = true) : zk_put fin y.cls (a % 65536) b d ∧ (fin = true → y.name = "<init>") ∧ decode cc pc = .ok (.putfield (a % 65536), 3) ∧ nxt = pc + 3 := by
  obtain ⟨h1, h2⟩ := zx_an h
  obtain ⟨h2, h2f⟩ := zx_an h2
  obtain ⟨h3, h4⟩ := of_decide_eq_true h2
  refine ⟨fun t ht => ?_, fun q => ?_, h3, h4⟩
  · have h5 := List.all_eq_true.mp h1 t ht
    obtain ⟨h6, h7⟩ := zx_an h5
    refine ⟨zx_ble.mp h6, ?_⟩
    cases hv : vwCl[t - 16]? with
    | none => rw [hv] at h7; exact absurd h7 Bool.false_ne_true
    | some q =>
      obtain ⟨C, T, N⟩ := q
      rw [hv] at h7
      obtain ⟨h8, h9⟩ := zx_an h7
      obtain ⟨h9, k1⟩ := zx_an h9
      obtain ⟨k1, k2⟩ := zx_an k1
      obtain ⟨k2, k3⟩ := zx_an k2
      cases hw : zk_h (a / 65536 % 65536) with
      | fieldLink o i r n ds =>
        rw [hw] at h9
        obtain ⟨g1, g2⟩ := zx_an h9
        obtain ⟨rfl, rfl, rfl, rfl⟩ := of_decide_eq_true g1
        refine ⟨C, T, N, r, rfl, zx_blt.mp h8, zk_h_in hw rfl rfl, ?_, of_decide_eq_true k1, fun q => ?_, ?_⟩
        · rcases Bool.or_eq_true_iff.mp g2 with q | q
          · exact Or.inl (of_decide_eq_true q)
          · exact Or.inr (zk_h_eq q rfl rfl)
        · rw [q] at k2; exact of_decide_eq_true k2
        · cases hty : parseFieldDescriptor (T (b % 64)).2.2.1 with
          | none => rw [hty] at k3; exact absurd k3 Bool.false_ne_true
          | some ty => rw [hty] at k3; exact ⟨ty, rfl, zk_sortB_ok k3⟩
      | _ => rw [hw] at h9; exact absurd h9 Bool.false_ne_true
  · rw [q] at h2f; exact of_decide_eq_true h2f
noncomputable def zc_new : zkCK := fun y cc _ pc a b nxt d => (match vwCl[b]? with
    | some (C, T, N) => decide (zk_h (a / 65536 % 65536) = .classLink y.cls (a % 65536) C) && (decide (zk_h (a / 4294967296 % 65536) = .instantiable C N) && (decide (zk_h (a / 281474976710656) = .initialized C) && (decide (d.length = N) && (d.all (fun c => (zk_df c).isSome) && (List.range N).all (fun j => decide ((parseFieldDescriptor (T j).2.2.1).map defaultValue = some ((zk_df (d.getD j 0)).getD .null)))))))
    | none => false) && decide (decode cc pc = .ok (.new (a % 65536), 3) ∧ nxt = pc + 3)
theorem zc_new_ok : zk_CO zc_new zp_new := by
  intro y cc nL pc a b nxt d h
  obtain ⟨h1, h2⟩ := zx_an h
  obtain ⟨h3, h4⟩ := of_decide_eq_true h2
  refine ⟨?_, h3, h4⟩
  cases hv : vwCl[b]? with
  | none => rw [hv] at h1; exact absurd h1 Bool.false_ne_true
  | some q =>
    obtain ⟨C, T, N⟩ := q
    rw [hv] at h1
    obtain ⟨g1, h1⟩ := zx_an h1
    obtain ⟨g2, h1⟩ := zx_an h1
    obtain ⟨g3, h1⟩ := zx_an h1
    obtain ⟨g4, h1⟩ := zx_an h1
    obtain ⟨g5, g6⟩ := zx_an h1
    exact ⟨C, T, N, hv, zk_h_eq g1 rfl rfl, zk_h_eq g2 rfl rfl, zk_h_eq g3 rfl rfl, of_decide_eq_true g4, fun c hc => List.all_eq_true.mp g5 c hc, fun j hj => of_decide_eq_true (List.all_eq_true.mp g6 j (List.mem_range.mpr hj))⟩
noncomputable def zc_ldc : zkCK := fun y cc _ pc a b nxt _ => decide (zk_h (b / 65536) = .constant y.cls (b % 65536) (nI (a / 8))) && decide (a % 8 = 0 ∧ decode cc pc = .ok (.ldc (b % 65536), 2) ∧ nxt = pc + 2)
theorem zc_ldc_ok : zk_CO zc_ldc zp_ldc := by
  intro y cc nL pc a b nxt d h
  obtain ⟨h1, h2⟩ := zx_an h
  obtain ⟨h3, h4⟩ := of_decide_eq_true h2
  exact ⟨h3, zk_h_eq h1 rfl rfl, h4⟩
noncomputable def zc_ldc2 : zkCK := fun y cc _ pc a b nxt _ => decide (zk_h (b / 65536) = .constantLong y.cls (b % 65536) (lN (a / 8))) && decide (a % 8 = 1 ∧ decode cc pc = .ok (.ldc2_w (b % 65536), 3) ∧ nxt = pc + 3)
theorem zc_ldc2_ok : zk_CO zc_ldc2 zp_ldc2 := by
  intro y cc nL pc a b nxt d h
  obtain ⟨h1, h2⟩ := zx_an h
  obtain ⟨h3, h4⟩ := of_decide_eq_true h2
  exact ⟨h3, zk_h_eq h1 rfl rfl, h4⟩
noncomputable def zc_newa : zkCK := fun _ cc _ pc a b nxt d => decide (zk_h (a / 65536) = .arrayClass (zr_ty b)) && decide (((b < 4 ∧ 0 < b ∧ d = [0]) ∨ (b = 4 ∧ d = [1])) ∧ decode cc pc = .ok (.newarray (zk_at b), 2) ∧ nxt = pc + 2)
theorem zc_newa_ok : zk_CO zc_newa zp_newa := by
  intro y cc nL pc a b nxt d h
  obtain ⟨h1, h2⟩ := zx_an h
  obtain ⟨h3, h4⟩ := of_decide_eq_true h2
  exact ⟨h3, zk_h_eq h1 rfl rfl, h4⟩
noncomputable def zc_newq : zkCK := fun y cc _ pc a b nxt d => ((Nat.beq b 5 && decide (zk_h (a / 65536) = .classLink y.cls (a % 65536) "StubHouse$Node")) || (Nat.beq b 6 && decide (zk_h (a / 65536) = .classLink y.cls (a % 65536) "StubHouse$Tape"))) && decide (d = [2] ∧ decode cc pc = .ok (.anewarray (a % 65536), 3) ∧ nxt = pc + 3)
theorem zc_newq_ok : zk_CO zc_newq zp_newq := by
  intro y cc nL pc a b nxt d h
  obtain ⟨h1, h2⟩ := zx_an h
  obtain ⟨h3, h4⟩ := of_decide_eq_true h2
  refine ⟨?_, h3, h4⟩
  rcases Bool.or_eq_true_iff.mp h1 with q | q
  · obtain ⟨q1, q2⟩ := zx_an q
    exact Or.inl ⟨zx_beq.mp q1, zk_h_eq q2 rfl rfl⟩
  · obtain ⟨q1, q2⟩ := zx_an q
    exact Or.inr ⟨zx_beq.mp q1, zk_h_eq q2 rfl rfl⟩
def zc_aload_n : zkCK := fun _ cc nL pc a b nxt d => decide (a < 4 ∧ decode cc pc = .ok (.aload_n (Fin.ofNat 4 a), 1) ∧ nxt = pc + 1)
theorem zc_aload_n_ok : zk_CO zc_aload_n zp_aload_n := by
  intro y cc nL pc a b nxt d h
  unfold zc_aload_n at h
  have h := of_decide_eq_true h
  exact h
def zc_iload_n : zkCK := fun _ cc nL pc a b nxt d => decide (a < 4 ∧ decode cc pc = .ok (.iload_n (Fin.ofNat 4 a), 1) ∧ nxt = pc + 1)
theorem zc_iload_n_ok : zk_CO zc_iload_n zp_iload_n := by
  intro y cc nL pc a b nxt d h
  unfold zc_iload_n at h
  have h := of_decide_eq_true h
  exact h
def zc_lload_n : zkCK := fun _ cc nL pc a b nxt d => decide (a < 4 ∧ decode cc pc = .ok (.lload_n (Fin.ofNat 4 a), 1) ∧ nxt = pc + 1)
theorem zc_lload_n_ok : zk_CO zc_lload_n zp_lload_n := by
  intro y cc nL pc a b nxt d h
  unfold zc_lload_n at h
  have h := of_decide_eq_true h
  exact h
def zc_aload : zkCK := fun _ cc nL pc a b nxt d => decide (decode cc pc = .ok (.aload a, 2) ∧ nxt = pc + 2)
theorem zc_aload_ok : zk_CO zc_aload zp_aload := by
  intro y cc nL pc a b nxt d h
  unfold zc_aload at h
  have h := of_decide_eq_true h
  exact h
def zc_iload : zkCK := fun _ cc nL pc a b nxt d => decide (decode cc pc = .ok (.iload a, 2) ∧ nxt = pc + 2)
theorem zc_iload_ok : zk_CO zc_iload zp_iload := by
  intro y cc nL pc a b nxt d h
  unfold zc_iload at h
  have h := of_decide_eq_true h
  exact h
def zc_lload : zkCK := fun _ cc nL pc a b nxt d => decide (decode cc pc = .ok (.lload a, 2) ∧ nxt = pc + 2)
theorem zc_lload_ok : zk_CO zc_lload zp_lload := by
  intro y cc nL pc a b nxt d h
  unfold zc_lload at h
  have h := of_decide_eq_true h
  exact h
def zc_istore_n : zkCK := fun _ cc nL pc a b nxt d => decide (a < 4 ∧ decode cc pc = .ok (.istore_n (Fin.ofNat 4 a), 1) ∧ nxt = pc + 1 ∧ b = nL)
theorem zc_istore_n_ok : zk_CO zc_istore_n zp_istore_n := by
  intro y cc nL pc a b nxt d h
  unfold zc_istore_n at h
  have h := of_decide_eq_true h
  exact h
def zc_istore : zkCK := fun _ cc nL pc a b nxt d => decide (decode cc pc = .ok (.istore a, 2) ∧ nxt = pc + 2 ∧ b = nL)
theorem zc_istore_ok : zk_CO zc_istore zp_istore := by
  intro y cc nL pc a b nxt d h
  unfold zc_istore at h
  have h := of_decide_eq_true h
  exact h
def zc_astore_n : zkCK := fun _ cc nL pc a b nxt d => decide (a < 4 ∧ decode cc pc = .ok (.astore_n (Fin.ofNat 4 a), 1) ∧ nxt = pc + 1 ∧ b = nL)
theorem zc_astore_n_ok : zk_CO zc_astore_n zp_astore_n := by
  intro y cc nL pc a b nxt d h
  unfold zc_astore_n at h
  have h := of_decide_eq_true h
  exact h
def zc_astore : zkCK := fun _ cc nL pc a b nxt d => decide (decode cc pc = .ok (.astore a, 2) ∧ nxt = pc + 2 ∧ b = nL)
theorem zc_astore_ok : zk_CO zc_astore zp_astore := by
  intro y cc nL pc a b nxt d h
  unfold zc_astore at h
  have h := of_decide_eq_true h
  exact h
def zc_iconst : zkCK := fun _ cc nL pc a b nxt d => decide (a % 8 = 0 ∧ a / 8 < 4294967296 ∧ decode cc pc = .ok (.iconst (zx_sI (a / 8)), 1) ∧ nxt = pc + 1)
theorem zc_iconst_ok : zk_CO zc_iconst zp_iconst := by
  intro y cc nL pc a b nxt d h
  unfold zc_iconst at h
  have h := of_decide_eq_true h
  exact h
def zc_bipush : zkCK := fun _ cc nL pc a b nxt d => decide (a % 8 = 0 ∧ (Int8.ofInt (zx_sI (a / 8))).toInt32 = nI (a / 8) ∧ decode cc pc = .ok (.bipush (zx_sI (a / 8)), 2) ∧ nxt = pc + 2)
theorem zc_bipush_ok : zk_CO zc_bipush zp_bipush := by
  intro y cc nL pc a b nxt d h
  unfold zc_bipush at h
  have h := of_decide_eq_true h
  exact h
def zc_sipush : zkCK := fun _ cc nL pc a b nxt d => decide (a % 8 = 0 ∧ (Int16.ofInt (zx_sI (a / 8))).toInt32 = nI (a / 8) ∧ decode cc pc = .ok (.sipush (zx_sI (a / 8)), 3) ∧ nxt = pc + 3)
theorem zc_sipush_ok : zk_CO zc_sipush zp_sipush := by
  intro y cc nL pc a b nxt d h
  unfold zc_sipush at h
  have h := of_decide_eq_true h
  exact h
def zc_lconst : zkCK := fun _ cc nL pc a b nxt d => decide (a % 8 = 1 ∧ a / 8 < 2 ∧ decode cc pc = .ok (.lconst (Fin.ofNat 2 (a / 8)), 1) ∧ nxt = pc + 1)
theorem zc_lconst_ok : zk_CO zc_lconst zp_lconst := by
  intro y cc nL pc a b nxt d h
  unfold zc_lconst at h
  have h := of_decide_eq_true h
  exact h
def zc_icmp : zkCK := fun _ cc nL pc a b nxt d => decide ((1 ≤ b ∧ b ≤ 6) ∧ decode cc pc = .ok (.if_icmp (zx_cd b) ((a : Int) - (pc : Int)), 3) ∧ nxt = pc + 3)
theorem zc_icmp_ok : zk_CO zc_icmp zp_icmp := by
  intro y cc nL pc a b nxt d h
  unfold zc_icmp at h
  have h := of_decide_eq_true h
  exact h
def zc_if : zkCK := fun _ cc nL pc a b nxt d => decide ((1 ≤ b ∧ b ≤ 6) ∧ decode cc pc = .ok (.ifCond (zx_cd b) ((a : Int) - (pc : Int)), 3) ∧ nxt = pc + 3)
theorem zc_if_ok : zk_CO zc_if zp_if := by
  intro y cc nL pc a b nxt d h
  unfold zc_if at h
  have h := of_decide_eq_true h
  exact h
def zc_goto : zkCK := fun _ cc nL pc a b nxt d => decide (decode cc pc = .ok (.goto ((a : Int) - (pc : Int)), 3))
theorem zc_goto_ok : zk_CO zc_goto zp_goto := by
  intro y cc nL pc a b nxt d h
  unfold zc_goto at h
  have h := of_decide_eq_true h
  exact h
def zc_switch : zkCK := fun _ cc nL pc a b nxt d => decide (decode cc pc = .ok (.tableswitch ((a : Int) - pc) ((b : Int) - 2147483648) ((b : Int) - 2147483648 + d.length - 1) (d.map (fun t : Nat => (t : Int) - (pc : Int))).toArray, nxt - pc))
theorem zc_switch_ok : zk_CO zc_switch zp_switch := by
  intro y cc nL pc a b nxt d h
  unfold zc_switch at h
  have h := of_decide_eq_true h
  exact h
def zc_aald : zkCK := fun _ cc nL pc a b nxt d => decide ((4 < a ∧ a < 16) ∧ decode cc pc = .ok (.aaload, 1) ∧ nxt = pc + 1)
theorem zc_aald_ok : zk_CO zc_aald zp_aald := by
  intro y cc nL pc a b nxt d h
  unfold zc_aald at h
  have h := of_decide_eq_true h
  exact h
def zc_astq : zkCK := fun _ cc nL pc a b nxt d => decide (((a = 5 ∧ b = 20) ∨ (a = 6 ∧ b = 23)) ∧ decode cc pc = .ok (.aastore, 1) ∧ nxt = pc + 1)
theorem zc_astq_ok : zk_CO zc_astq zp_astq := by
  intro y cc nL pc a b nxt d h
  unfold zc_astq at h
  have h := of_decide_eq_true h
  exact h
def zc_op (I : Instr) : zkCK := fun _ cc _ pc _ _ nxt _ => decide (decode cc pc = .ok (I, 1) ∧ nxt = pc + 1)
theorem zc_op_ok (I : Instr) : zk_CO (zc_op I) (zp_op I) := by
  intro y cc nL pc a b nxt d h
  unfold zc_op at h
  have h := of_decide_eq_true h
  exact h
def zc_arr (kd : Nat) (I : Instr) : zkCK := fun _ cc _ pc a _ nxt _ => decide (a = kd ∧ decode cc pc = .ok (I, 1) ∧ nxt = pc + 1)
theorem zc_arr_ok (kd : Nat) (I : Instr) : zk_CO (zc_arr kd I) (zp_arr kd I) := by
  intro y cc nL pc a b nxt d h
  unfold zc_arr at h
  have h := of_decide_eq_true h
  exact h
def zc_iinc : zkCK := fun _ cc nL pc a b nxt d => match d with | [n] => decide (n < 4294967296 ∧ decode cc pc = .ok (.iinc a (zx_sI n), 3) ∧ nxt = pc + 3 ∧ b = nL) | _ => false
theorem zc_iinc_ok : zk_CO zc_iinc zp_iinc := by
  intro y cc nL pc a b nxt d h
  rcases d with _ | ⟨n, _ | ⟨n2, d⟩⟩
  · exact absurd h Bool.false_ne_true
  · exact ⟨n, rfl, of_decide_eq_true h⟩
  · exact absurd h Bool.false_ne_true
theorem zc_put_ok : zk_CO (zc_putG false) zp_put := fun _ _ _ _ _ _ _ _ h => ⟨(zc_putG_ok false h).1, (zc_putG_ok false h).2.2⟩
theorem zc_putF_ok : zk_CO (zc_putG true) zp_putF := fun _ _ _ _ _ _ _ _ h => ⟨(zc_putG_ok true h).1, (zc_putG_ok true h).2.1 rfl, (zc_putG_ok true h).2.2⟩
noncomputable def zc_props : List zkCK := [zc_aload_n, zc_iload_n, zc_get, zc_iconst, zc_iload, (zc_op .iadd), zc_icmp, zc_if, (zc_arr 1 .iaload), zc_goto, zc_iinc, zc_bipush, zc_sipush, zc_istore_n, zc_istore, (zc_putG false), (zc_arr 1 .iastore), (zc_op .imul), zc_aald, (zc_op .isub), (zc_op .i2l), (zc_op .lcmp), zc_lload_n, zc_lload, zc_ldc2, zc_lconst, (zc_op .dup), (zc_op .pop), (zc_op .dup_x1), zc_aload, zc_astore_n, zc_astore, (zc_arr 2 .baload), (zc_arr 3 .baload), (zc_arr 2 .bastore), (zc_arr 3 .bastore), (zc_arr 4 .laload), (zc_arr 4 .lastore), zc_astq, (zc_op .i2b), (zc_op .l2i), (zc_op .lshl), (zc_op .lushr), (zc_op .land), (zc_op .lor), (zc_op .iand), zc_switch, zc_new, zc_newa, zc_newq, (zc_op .arraylength), zc_ldc, (zc_putG true)]
theorem zc_props_ok : zr_2 zk_CO zc_props zk_props := ⟨zc_aload_n_ok, zc_iload_n_ok, zc_get_ok, zc_iconst_ok, zc_iload_ok, (zc_op_ok .iadd), zc_icmp_ok, zc_if_ok, (zc_arr_ok 1 .iaload), zc_goto_ok, zc_iinc_ok, zc_bipush_ok, zc_sipush_ok, zc_istore_n_ok, zc_istore_ok, zc_put_ok, (zc_arr_ok 1 .iastore), (zc_op_ok .imul), zc_aald_ok, (zc_op_ok .isub), (zc_op_ok .i2l), (zc_op_ok .lcmp), zc_lload_n_ok, zc_lload_ok, zc_ldc2_ok, zc_lconst_ok, (zc_op_ok .dup), (zc_op_ok .pop), (zc_op_ok .dup_x1), zc_aload_ok, zc_astore_n_ok, zc_astore_ok, (zc_arr_ok 2 .baload), (zc_arr_ok 3 .baload), (zc_arr_ok 2 .bastore), (zc_arr_ok 3 .bastore), (zc_arr_ok 4 .laload), (zc_arr_ok 4 .lastore), zc_astq_ok, (zc_op_ok .i2b), (zc_op_ok .l2i), (zc_op_ok .lshl), (zc_op_ok .lushr), (zc_op_ok .land), (zc_op_ok .lor), (zc_op_ok .iand), zc_switch_ok, zc_new_ok, zc_newa_ok, zc_newq_ok, (zc_op_ok .arraylength), zc_ldc_ok, zc_putF_ok, trivial⟩
