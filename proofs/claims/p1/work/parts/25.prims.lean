/-! the loops that are one instruction each, in a list, with the checks of their rows -/
noncomputable def zx_pr : List zxHD := [zq_fill, zq_copy, zq_back, zq_claim, zq_hand]
def zk_Ps : List zkPT := [zq_Pfill, zq_Pcopy, zq_Pback, zq_Pclaim, zq_Phand]
theorem zk_Ps_ok (hC : zk_C) : zr_2 zk_HP zx_pr zk_Ps := ⟨zk_HP_of zq_fill_ok, zk_HP_of (zq_copy_ok hC), zk_HP_of (zq_back_ok hC), zq_claim_ok hC, zk_HP_of (zq_hand_ok hC), trivial⟩
def zc_Pfill : zkCK := fun _ cc nL pc _ _ nxt _ => decide (cc = prog_17_method_103_code) && decide (nL = 4 ∧ pc = 5 ∧ nxt = 20)
def zc_Pcopy : zkCK := fun y cc nL pc _ _ nxt _ => decide (y.cls = "StubHouseModel") && (decide (cc = prog_14_method_7_code) && decide (nL = 2 ∧ pc = 2 ∧ nxt = 36))
def zc_Pback : zkCK := fun y cc nL pc _ _ nxt _ => decide (y.cls = "StubHouseModel") && (decide (cc = prog_14_method_49_code) && decide (nL = 6 ∧ pc = 61 ∧ nxt = 95))
def zc_Pclaim : zkCK := fun y cc nL pc _ _ nxt _ => decide (y.cls = "StubHouse$Log") && (decide (cc = prog_5_method_11_code) && decide (nL = 3 ∧ pc = 17 ∧ nxt = 50))
def zc_Phand : zkCK := fun y cc nL pc _ _ nxt _ => decide (y.cls = "StubHouse") && (decide (cc = prog_1_method_8_code) && decide (nL = 4 ∧ pc = 31 ∧ nxt = 57))
def zk_Cs : List zkCK := [zc_Pfill, zc_Pcopy, zc_Pback, zc_Pclaim, zc_Phand]
theorem zk_Cs_ok : zr_2 zk_CO zk_Cs zk_Ps := by
  refine ⟨?_, ?_, ?_, ?_, ?_, trivial⟩
  · intro y cc nL pc a b nxt d h
    obtain ⟨h1, h2⟩ := zx_an h
    exact ⟨of_decide_eq_true h1, of_decide_eq_true h2⟩
  all_goals
    intro y cc nL pc a b nxt d h
    obtain ⟨h0, h⟩ := zx_an h
    obtain ⟨h1, h2⟩ := zx_an h
    exact ⟨of_decide_eq_true h0, of_decide_eq_true h1, of_decide_eq_true h2⟩
