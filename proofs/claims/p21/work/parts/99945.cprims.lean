/-! the loops that are one instruction each, in a list, with the checks of their rows -/
noncomputable def zx_pr : List zxHD := [zq_fill, zq_copy]
def zk_Ps : List zkPT := [zq_Pfill, zq_Pcopy]
theorem zk_Ps_ok (hC : zk_C) : zr_2 zk_HP zx_pr zk_Ps := ⟨zk_HP_of zq_fill_ok, zk_HP_of (zq_copy_ok hC), trivial⟩
def zc_Pfill : zkCK := fun _ cc nL pc _ _ nxt _ => decide (cc = prog_17_method_103_code) && decide (nL = 4 ∧ pc = 5 ∧ nxt = 20)
def zc_Pcopy : zkCK := fun y cc nL pc _ _ nxt _ => decide (y.cls = "StubHouseModel") && (decide (cc = prog_14_method_7_code) && decide (nL = 2 ∧ pc = 2 ∧ nxt = 36))
def zk_Cs : List zkCK := [zc_Pfill, zc_Pcopy]
theorem zk_Cs_ok : zr_2 zk_CO zk_Cs zk_Ps := by
  refine ⟨?_, ?_, trivial⟩
  · intro y cc nL pc a b nxt d h
    obtain ⟨h1, h2⟩ := zx_an h
    exact ⟨of_decide_eq_true h1, of_decide_eq_true h2⟩
  all_goals
    intro y cc nL pc a b nxt d h
    obtain ⟨h0, h⟩ := zx_an h
    obtain ⟨h1, h2⟩ := zx_an h
    exact ⟨of_decide_eq_true h0, of_decide_eq_true h1, of_decide_eq_true h2⟩
