/-! contracts of the reference: steps, what is told -/
theorem c_actDone_1 {l : Launch} {k : fxK} {S : fxS}  (p0 : COL S) (p1 : WTM S) (p2 : INJ S) (p3 : AON S) (p4 : USE S) (p5 : SNP S) (p6 : REC S) (p7 : SGM S) (p8 : WNW S) (p9 : WNR S) (hk : ∀ (S' : fxS) , (fxfr [(49, 7), (49, 36), (49, 42), (49, 43), (49, 45), (49, 46), (49, 47), (49, 48), (50, 9999), (52, 9999), (53, 9999), (55, 9999), (56, 9999), (57, 9999), (58, 9999), (62, 9999), (63, 9999), (65, 9999), (66, 9999), (67, 9999), (70, 9999), (71, 9999), (72, 9999), (75, 9999), (77, 9999)] S S' ∧ (COL S') ∧ (WTM S') ∧ (INJ S') ∧ (AON S') ∧ (USE S') ∧ (SNP S') ∧ (REC S') ∧ (SGM S') ∧ (WNW S') ∧ (WNR S')) → k none S') : fC l 282 [.inr (.inr (49, 0)), .inl (1 : Int)] S k := by
  refine fxe_282 (Nat.le_of_ble_eq_true rfl) (fxz_282 400 ?_)
  refine And.intro (show 0 ≤ (1 : Int) ∧ (1 : Int) < 2 by omega) ?_
  intro z1 (z1a : (0 : Int) ≤ z1) (z1b : z1 ≤ (5 : Int)) (z1c : z1 = S 72 0 1)
  have wr : S 72 0 1 ≠ 5 ∧ (S 72 0 1 = 4 → 0 ≤ S 70 0 1) := p9
  refine And.intro (by decide) ?_
  refine And.intro (show 0 ≤ (1 : Int) ∧ (1 : Int) < 2 by omega) ?_
  refine And.intro (show (0 : Int) ≤ (0 : Int) ∧ (0 : Int) ≤ (5 : Int) by omega) ?_
  have w2 : (fx_up S 72 0 1 (0 : Int)) 72 0 0 = S 72 0 0 := if_neg (fun q => absurd q.2.2 (by decide))
  have w3 : (fx_up S 72 0 1 (0 : Int)) 72 0 1 = (0 : Int) := fx_up_at _ _ _ _ _
  have w4 : (fx_up S 72 0 1 (0 : Int)) 70 0 0 = S 70 0 0 := rfl
  have w5 : (fx_up S 72 0 1 (0 : Int)) 70 0 1 = S 70 0 1 := rfl
  have g6 : COL (fx_up S 72 0 1 (0 : Int)) := fx_pup COL_stab rfl p0
  have g7 : WTM (fx_up S 72 0 1 (0 : Int)) := fx_pup WTM_stab rfl p1
  have g8 : INJ (fx_up S 72 0 1 (0 : Int)) := fx_pup INJ_stab rfl p2
  have g9 : AON (fx_up S 72 0 1 (0 : Int)) := fx_pup AON_stab rfl p3
  have g10 : USE (fx_up S 72 0 1 (0 : Int)) := fx_pup USE_stab rfl p4
  have g11 : SNP (fx_up S 72 0 1 (0 : Int)) := fx_pup SNP_stab rfl p5
  have g12 : REC (fx_up S 72 0 1 (0 : Int)) := fx_pup REC_stab rfl p6
  have g13 : SGM (fx_up S 72 0 1 (0 : Int)) := fx_pup SGM_stab rfl p7
  have g14 : WNW (fx_up S 72 0 1 (0 : Int)) := WNW_72 p8
  refine And.intro (fun (h15 : (z1 ≠ (2 : Int) : Prop)) => ?_) (fun (h15 : (z1 = (2 : Int) : Prop)) => ?_)
  ·
    refine And.intro (fun (h16 : (z1 ≠ (3 : Int) : Prop)) => ?_) (fun (h16 : (z1 = (3 : Int) : Prop)) => ?_)
    ·
      refine And.intro (fun (h17 : (z1 ≠ (4 : Int) : Prop)) => ?_) (fun (h17 : (z1 = (4 : Int) : Prop)) => ?_)
      ·
        refine And.intro (fun (h18 : (z1 ≠ (5 : Int) : Prop)) => ?_) (fun (h18 : (z1 = (5 : Int) : Prop)) => ?_)
        ·
          have rd : RECd (fx_up S 72 0 1 (0 : Int)) := g12.1
          refine c_StubHouseModel_purge  g6 rd (fun (S19 : fxS) ⟨(f20 : fxfr [(49, 36), (75, 9999)] (fx_up S 72 0 1 (0 : Int)) S19), (g21 : REC S19)⟩ => ?_)
          have w22 : S19 72 0 0 = (fx_up S 72 0 1 (0 : Int)) 72 0 0 := f20 72 0 0 rfl
          have w23 : S19 72 0 1 = (fx_up S 72 0 1 (0 : Int)) 72 0 1 := f20 72 0 1 rfl
          have w24 : S19 70 0 0 = (fx_up S 72 0 1 (0 : Int)) 70 0 0 := f20 70 0 0 rfl
          have w25 : S19 70 0 1 = (fx_up S 72 0 1 (0 : Int)) 70 0 1 := f20 70 0 1 rfl
          have g26 : COL S19 := fx_pfr COL_stab f20 rfl g6
          have g27 : WTM S19 := fx_pfr WTM_stab f20 rfl g7
          have g28 : INJ S19 := fx_pfr INJ_stab f20 rfl g8
          have g29 : AON S19 := fx_pfr AON_stab f20 rfl g9
          have g30 : USE S19 := fx_pfr USE_stab f20 rfl g10
          have g31 : SNP S19 := fx_pfr SNP_stab f20 rfl g11
          have g32 : SGM S19 := fx_pfr SGM_stab f20 rfl g13
          have g33 : WNW S19 := fx_pfr WNW_stab f20 rfl g14
          exact hk S19 ⟨(fxfr_tr (fxfr_up fxfr_rfl rfl) f20 rfl), g26, g27, g28, g29, g30, g31, g21, g32, g33, by first | exact WNR_of (by omega) (by omega) | exact WNW_n5 (by omega) (by omega) | (exfalso; omega)⟩
        ·
          refine c_StubHouseModel_writeDone  g6 g7 g8 g9 g10 g11 g12 g13 (show 0 ≤ S 70 0 0 by omega) (show S 63 0 (S 70 0 0).toNat + S 49 0 51 ≤ 6000 by omega) (fun (S34 : fxS) ⟨(f35 : fxfr [(49, 7), (49, 43), (50, 9999), (53, 9999), (55, 9999), (56, 9999), (58, 9999), (62, 9999), (63, 9999), (67, 9999), (71, 9999)] (fx_up S 72 0 1 (0 : Int)) S34), (g36 : COL S34), (g37 : WTM S34), (g38 : INJ S34), (g39 : AON S34), (g40 : USE S34), (g41 : SNP S34), (g42 : REC S34), (g43 : SGM S34)⟩ => ?_)
          have w44 : S34 72 0 0 = (fx_up S 72 0 1 (0 : Int)) 72 0 0 := f35 72 0 0 rfl
          have w45 : S34 72 0 1 = (fx_up S 72 0 1 (0 : Int)) 72 0 1 := f35 72 0 1 rfl
          have w46 : S34 70 0 0 = (fx_up S 72 0 1 (0 : Int)) 70 0 0 := f35 70 0 0 rfl
          have w47 : S34 70 0 1 = (fx_up S 72 0 1 (0 : Int)) 70 0 1 := f35 70 0 1 rfl
          have rd : RECd S34 := g42.1
          refine c_StubHouseModel_purge  g36 rd (fun (S48 : fxS) ⟨(f49 : fxfr [(49, 36), (75, 9999)] S34 S48), (g50 : REC S48)⟩ => ?_)
          have w51 : S48 72 0 0 = S34 72 0 0 := f49 72 0 0 rfl
          have w52 : S48 72 0 1 = S34 72 0 1 := f49 72 0 1 rfl
          have w53 : S48 70 0 0 = S34 70 0 0 := f49 70 0 0 rfl
          have w54 : S48 70 0 1 = S34 70 0 1 := f49 70 0 1 rfl
          have g55 : COL S48 := fx_pfr COL_stab f49 rfl g36
          have g56 : WTM S48 := fx_pfr WTM_stab f49 rfl g37
          have g57 : INJ S48 := fx_pfr INJ_stab f49 rfl g38
          have g58 : AON S48 := fx_pfr AON_stab f49 rfl g39
          have g59 : USE S48 := fx_pfr USE_stab f49 rfl g40
          have g60 : SNP S48 := fx_pfr SNP_stab f49 rfl g41
          have g61 : SGM S48 := fx_pfr SGM_stab f49 rfl g43
          exact hk S48 ⟨(fxfr_tr (fxfr_tr (fxfr_up fxfr_rfl rfl) f35 rfl) f49 rfl), g55, g56, g57, g58, g59, g60, g50, g61, by first | exact WNR_of (by omega) (by omega) | exact WNW_n5 (by omega) (by omega) | (exfalso; omega), by first | exact WNR_of (by omega) (by omega) | exact WNW_n5 (by omega) (by omega) | (exfalso; omega)⟩
      ·
        refine c_StubHouseModel_readDone  g6 g7 g8 g9 g10 g11 g12 g13 (show 0 ≤ S 70 0 1 by omega) (fun (S62 : fxS) ⟨(f63 : fxfr [(49, 7), (49, 42), (49, 43), (49, 45), (49, 46), (49, 47), (49, 48), (50, 9999), (52, 9999), (53, 9999), (55, 9999), (56, 9999), (57, 9999), (58, 9999), (65, 9999), (66, 9999), (67, 9999), (71, 9999), (77, 9999)] (fx_up S 72 0 1 (0 : Int)) S62), (g64 : COL S62), (g65 : WTM S62), (g66 : INJ S62), (g67 : AON S62), (g68 : USE S62), (g69 : SNP S62), (g70 : REC S62), (g71 : SGM S62)⟩ => ?_)
        have w72 : S62 72 0 0 = (fx_up S 72 0 1 (0 : Int)) 72 0 0 := f63 72 0 0 rfl
        have w73 : S62 72 0 1 = (fx_up S 72 0 1 (0 : Int)) 72 0 1 := f63 72 0 1 rfl
        have w74 : S62 70 0 0 = (fx_up S 72 0 1 (0 : Int)) 70 0 0 := f63 70 0 0 rfl
        have w75 : S62 70 0 1 = (fx_up S 72 0 1 (0 : Int)) 70 0 1 := f63 70 0 1 rfl
        have g76 : WNW S62 := fx_pfr WNW_stab f63 rfl g14
        have rd : RECd S62 := g70.1
        refine c_StubHouseModel_purge  g64 rd (fun (S77 : fxS) ⟨(f78 : fxfr [(49, 36), (75, 9999)] S62 S77), (g79 : REC S77)⟩ => ?_)
        have w80 : S77 72 0 0 = S62 72 0 0 := f78 72 0 0 rfl
        have w81 : S77 72 0 1 = S62 72 0 1 := f78 72 0 1 rfl
        have w82 : S77 70 0 0 = S62 70 0 0 := f78 70 0 0 rfl
        have w83 : S77 70 0 1 = S62 70 0 1 := f78 70 0 1 rfl
        have g84 : COL S77 := fx_pfr COL_stab f78 rfl g64
        have g85 : WTM S77 := fx_pfr WTM_stab f78 rfl g65
        have g86 : INJ S77 := fx_pfr INJ_stab f78 rfl g66
        have g87 : AON S77 := fx_pfr AON_stab f78 rfl g67
        have g88 : USE S77 := fx_pfr USE_stab f78 rfl g68
        have g89 : SNP S77 := fx_pfr SNP_stab f78 rfl g69
        have g90 : SGM S77 := fx_pfr SGM_stab f78 rfl g71
        have g91 : WNW S77 := fx_pfr WNW_stab f78 rfl g76
        exact hk S77 ⟨(fxfr_tr (fxfr_tr (fxfr_up fxfr_rfl rfl) f63 rfl) f78 rfl), g84, g85, g86, g87, g88, g89, g79, g90, g91, by first | exact WNR_of (by omega) (by omega) | exact WNW_n5 (by omega) (by omega) | (exfalso; omega)⟩
    ·
      refine And.intro (show 0 ≤ (1 : Int) ∧ (1 : Int) < 2 by omega) ?_
      intro z92 (z92a : (0 : Int) ≤ z92) (z92b : z92 ≤ (7100 : Int)) (z92c : z92 = S 74 0 1)
      refine And.intro (show 0 ≤ (1 : Int) ∧ (1 : Int) < 2 by omega) ?_
      refine And.intro (show (0 : Int) ≤ z92 ∧ z92 ≤ (7100 : Int) by omega) ?_
      have w93 : (fx_up (fx_up S 72 0 1 (0 : Int)) 71 0 1 z92) 72 0 0 = (fx_up S 72 0 1 (0 : Int)) 72 0 0 := rfl
      have w94 : (fx_up (fx_up S 72 0 1 (0 : Int)) 71 0 1 z92) 72 0 1 = (fx_up S 72 0 1 (0 : Int)) 72 0 1 := rfl
      have w95 : (fx_up (fx_up S 72 0 1 (0 : Int)) 71 0 1 z92) 70 0 0 = (fx_up S 72 0 1 (0 : Int)) 70 0 0 := rfl
      have w96 : (fx_up (fx_up S 72 0 1 (0 : Int)) 71 0 1 z92) 70 0 1 = (fx_up S 72 0 1 (0 : Int)) 70 0 1 := rfl
      have g97 : COL (fx_up (fx_up S 72 0 1 (0 : Int)) 71 0 1 z92) := fx_pup COL_stab rfl g6
      have g98 : WTM (fx_up (fx_up S 72 0 1 (0 : Int)) 71 0 1 z92) := fx_pup WTM_stab rfl g7
      have g99 : INJ (fx_up (fx_up S 72 0 1 (0 : Int)) 71 0 1 z92) := fx_pup INJ_stab rfl g8
      have g100 : AON (fx_up (fx_up S 72 0 1 (0 : Int)) 71 0 1 z92) := fx_pup AON_stab rfl g9
      have g101 : USE (fx_up (fx_up S 72 0 1 (0 : Int)) 71 0 1 z92) := fx_pup USE_stab rfl g10
      have g102 : SNP (fx_up (fx_up S 72 0 1 (0 : Int)) 71 0 1 z92) := fx_pup SNP_stab rfl g11
      have g103 : REC (fx_up (fx_up S 72 0 1 (0 : Int)) 71 0 1 z92) := fx_pup REC_stab rfl g12
      have g104 : SGM (fx_up (fx_up S 72 0 1 (0 : Int)) 71 0 1 z92) := fx_pup SGM_stab rfl g13
      have g105 : WNW (fx_up (fx_up S 72 0 1 (0 : Int)) 71 0 1 z92) := fx_pup WNW_stab rfl g14
      have rd : RECd (fx_up (fx_up S 72 0 1 (0 : Int)) 71 0 1 z92) := g103.1
      refine c_StubHouseModel_purge  g97 rd (fun (S106 : fxS) ⟨(f107 : fxfr [(49, 36), (75, 9999)] (fx_up (fx_up S 72 0 1 (0 : Int)) 71 0 1 z92) S106), (g108 : REC S106)⟩ => ?_)
      have w109 : S106 72 0 0 = (fx_up (fx_up S 72 0 1 (0 : Int)) 71 0 1 z92) 72 0 0 := f107 72 0 0 rfl
      have w110 : S106 72 0 1 = (fx_up (fx_up S 72 0 1 (0 : Int)) 71 0 1 z92) 72 0 1 := f107 72 0 1 rfl
      have w111 : S106 70 0 0 = (fx_up (fx_up S 72 0 1 (0 : Int)) 71 0 1 z92) 70 0 0 := f107 70 0 0 rfl
      have w112 : S106 70 0 1 = (fx_up (fx_up S 72 0 1 (0 : Int)) 71 0 1 z92) 70 0 1 := f107 70 0 1 rfl
      have g113 : COL S106 := fx_pfr COL_stab f107 rfl g97
      have g114 : WTM S106 := fx_pfr WTM_stab f107 rfl g98
      have g115 : INJ S106 := fx_pfr INJ_stab f107 rfl g99
      have g116 : AON S106 := fx_pfr AON_stab f107 rfl g100
      have g117 : USE S106 := fx_pfr USE_stab f107 rfl g101
      have g118 : SNP S106 := fx_pfr SNP_stab f107 rfl g102
      have g119 : SGM S106 := fx_pfr SGM_stab f107 rfl g104
      have g120 : WNW S106 := fx_pfr WNW_stab f107 rfl g105
      exact hk S106 ⟨(fxfr_tr (fxfr_up (fxfr_up fxfr_rfl rfl) rfl) f107 rfl), g113, g114, g115, g116, g117, g118, g108, g119, g120, by first | exact WNR_of (by omega) (by omega) | exact WNW_n5 (by omega) (by omega) | (exfalso; omega)⟩
  ·
    refine And.intro (show 0 ≤ (1 : Int) ∧ (1 : Int) < 2 by omega) ?_
    refine And.intro (show (-2 : Int) ≤ (-2 : Int) ∧ (-2 : Int) ≤ (5 : Int) by omega) ?_
    have w121 : (fx_up (fx_up S 72 0 1 (0 : Int)) 70 0 1 (-2 : Int)) 72 0 0 = (fx_up S 72 0 1 (0 : Int)) 72 0 0 := rfl
    have w122 : (fx_up (fx_up S 72 0 1 (0 : Int)) 70 0 1 (-2 : Int)) 72 0 1 = (fx_up S 72 0 1 (0 : Int)) 72 0 1 := rfl
    have w123 : (fx_up (fx_up S 72 0 1 (0 : Int)) 70 0 1 (-2 : Int)) 70 0 0 = (fx_up S 72 0 1 (0 : Int)) 70 0 0 := if_neg (fun q => absurd q.2.2 (by decide))
    have w124 : (fx_up (fx_up S 72 0 1 (0 : Int)) 70 0 1 (-2 : Int)) 70 0 1 = (-2 : Int) := fx_up_at _ _ _ _ _
    have g125 : COL (fx_up (fx_up S 72 0 1 (0 : Int)) 70 0 1 (-2 : Int)) := fx_pup COL_stab rfl g6
    have g126 : WTM (fx_up (fx_up S 72 0 1 (0 : Int)) 70 0 1 (-2 : Int)) := fx_pup WTM_stab rfl g7
    have g127 : INJ (fx_up (fx_up S 72 0 1 (0 : Int)) 70 0 1 (-2 : Int)) := fx_pup INJ_stab rfl g8
    have g128 : AON (fx_up (fx_up S 72 0 1 (0 : Int)) 70 0 1 (-2 : Int)) := fx_pup AON_stab rfl g9
    have g129 : USE (fx_up (fx_up S 72 0 1 (0 : Int)) 70 0 1 (-2 : Int)) := fx_pup USE_stab rfl g10
    have g130 : SNP (fx_up (fx_up S 72 0 1 (0 : Int)) 70 0 1 (-2 : Int)) := fx_pup SNP_stab rfl g11
    have g131 : REC (fx_up (fx_up S 72 0 1 (0 : Int)) 70 0 1 (-2 : Int)) := fx_pup REC_stab rfl g12
    have g132 : SGM (fx_up (fx_up S 72 0 1 (0 : Int)) 70 0 1 (-2 : Int)) := fx_pup SGM_stab rfl g13
    have g133 : WNW (fx_up (fx_up S 72 0 1 (0 : Int)) 70 0 1 (-2 : Int)) := WNW_70 g14
    refine And.intro (show 0 ≤ (1 : Int) ∧ (1 : Int) < 2 by omega) ?_
    refine And.intro (show (0 : Int) ≤ (0 : Int) ∧ (0 : Int) ≤ (7100 : Int) by omega) ?_
    have w134 : (fx_up (fx_up (fx_up S 72 0 1 (0 : Int)) 70 0 1 (-2 : Int)) 71 0 1 (0 : Int)) 72 0 0 = (fx_up (fx_up S 72 0 1 (0 : Int)) 70 0 1 (-2 : Int)) 72 0 0 := rfl
    have w135 : (fx_up (fx_up (fx_up S 72 0 1 (0 : Int)) 70 0 1 (-2 : Int)) 71 0 1 (0 : Int)) 72 0 1 = (fx_up (fx_up S 72 0 1 (0 : Int)) 70 0 1 (-2 : Int)) 72 0 1 := rfl
    have w136 : (fx_up (fx_up (fx_up S 72 0 1 (0 : Int)) 70 0 1 (-2 : Int)) 71 0 1 (0 : Int)) 70 0 0 = (fx_up (fx_up S 72 0 1 (0 : Int)) 70 0 1 (-2 : Int)) 70 0 0 := rfl
    have w137 : (fx_up (fx_up (fx_up S 72 0 1 (0 : Int)) 70 0 1 (-2 : Int)) 71 0 1 (0 : Int)) 70 0 1 = (fx_up (fx_up S 72 0 1 (0 : Int)) 70 0 1 (-2 : Int)) 70 0 1 := rfl
    have g138 : COL (fx_up (fx_up (fx_up S 72 0 1 (0 : Int)) 70 0 1 (-2 : Int)) 71 0 1 (0 : Int)) := fx_pup COL_stab rfl g125
    have g139 : WTM (fx_up (fx_up (fx_up S 72 0 1 (0 : Int)) 70 0 1 (-2 : Int)) 71 0 1 (0 : Int)) := fx_pup WTM_stab rfl g126
    have g140 : INJ (fx_up (fx_up (fx_up S 72 0 1 (0 : Int)) 70 0 1 (-2 : Int)) 71 0 1 (0 : Int)) := fx_pup INJ_stab rfl g127
    have g141 : AON (fx_up (fx_up (fx_up S 72 0 1 (0 : Int)) 70 0 1 (-2 : Int)) 71 0 1 (0 : Int)) := fx_pup AON_stab rfl g128
    have g142 : USE (fx_up (fx_up (fx_up S 72 0 1 (0 : Int)) 70 0 1 (-2 : Int)) 71 0 1 (0 : Int)) := fx_pup USE_stab rfl g129
    have g143 : SNP (fx_up (fx_up (fx_up S 72 0 1 (0 : Int)) 70 0 1 (-2 : Int)) 71 0 1 (0 : Int)) := fx_pup SNP_stab rfl g130
    have g144 : REC (fx_up (fx_up (fx_up S 72 0 1 (0 : Int)) 70 0 1 (-2 : Int)) 71 0 1 (0 : Int)) := fx_pup REC_stab rfl g131
    have g145 : SGM (fx_up (fx_up (fx_up S 72 0 1 (0 : Int)) 70 0 1 (-2 : Int)) 71 0 1 (0 : Int)) := fx_pup SGM_stab rfl g132
    have g146 : WNW (fx_up (fx_up (fx_up S 72 0 1 (0 : Int)) 70 0 1 (-2 : Int)) 71 0 1 (0 : Int)) := fx_pup WNW_stab rfl g133
    have rd : RECd (fx_up (fx_up (fx_up S 72 0 1 (0 : Int)) 70 0 1 (-2 : Int)) 71 0 1 (0 : Int)) := g144.1
    refine c_StubHouseModel_purge  g138 rd (fun (S147 : fxS) ⟨(f148 : fxfr [(49, 36), (75, 9999)] (fx_up (fx_up (fx_up S 72 0 1 (0 : Int)) 70 0 1 (-2 : Int)) 71 0 1 (0 : Int)) S147), (g149 : REC S147)⟩ => ?_)
    have w150 : S147 72 0 0 = (fx_up (fx_up (fx_up S 72 0 1 (0 : Int)) 70 0 1 (-2 : Int)) 71 0 1 (0 : Int)) 72 0 0 := f148 72 0 0 rfl
    have w151 : S147 72 0 1 = (fx_up (fx_up (fx_up S 72 0 1 (0 : Int)) 70 0 1 (-2 : Int)) 71 0 1 (0 : Int)) 72 0 1 := f148 72 0 1 rfl
    have w152 : S147 70 0 0 = (fx_up (fx_up (fx_up S 72 0 1 (0 : Int)) 70 0 1 (-2 : Int)) 71 0 1 (0 : Int)) 70 0 0 := f148 70 0 0 rfl
    have w153 : S147 70 0 1 = (fx_up (fx_up (fx_up S 72 0 1 (0 : Int)) 70 0 1 (-2 : Int)) 71 0 1 (0 : Int)) 70 0 1 := f148 70 0 1 rfl
    have g154 : COL S147 := fx_pfr COL_stab f148 rfl g138
    have g155 : WTM S147 := fx_pfr WTM_stab f148 rfl g139
    have g156 : INJ S147 := fx_pfr INJ_stab f148 rfl g140
    have g157 : AON S147 := fx_pfr AON_stab f148 rfl g141
    have g158 : USE S147 := fx_pfr USE_stab f148 rfl g142
    have g159 : SNP S147 := fx_pfr SNP_stab f148 rfl g143
    have g160 : SGM S147 := fx_pfr SGM_stab f148 rfl g145
    have g161 : WNW S147 := fx_pfr WNW_stab f148 rfl g146
    exact hk S147 ⟨(fxfr_tr (fxfr_up (fxfr_up (fxfr_up fxfr_rfl rfl) rfl) rfl) f148 rfl), g154, g155, g156, g157, g158, g159, g149, g160, g161, by first | exact WNR_of (by omega) (by omega) | exact WNW_n5 (by omega) (by omega) | (exfalso; omega)⟩
theorem c_actDone_0 {l : Launch} {k : fxK} {S : fxS}  (p0 : COL S) (p1 : WTM S) (p2 : INJ S) (p3 : AON S) (p4 : USE S) (p5 : SNP S) (p6 : REC S) (p7 : SGM S) (p8 : WNW S) (p9 : WNR S) (hk : ∀ (S' : fxS) , (fxfr [(49, 7), (49, 36), (49, 42), (49, 43), (49, 45), (49, 46), (49, 47), (49, 48), (50, 9999), (52, 9999), (53, 9999), (55, 9999), (56, 9999), (57, 9999), (58, 9999), (62, 9999), (63, 9999), (65, 9999), (66, 9999), (67, 9999), (70, 9999), (71, 9999), (72, 9999), (75, 9999), (77, 9999)] S S' ∧ (COL S') ∧ (WTM S') ∧ (INJ S') ∧ (AON S') ∧ (USE S') ∧ (SNP S') ∧ (REC S') ∧ (SGM S') ∧ (WNW S') ∧ (WNR S')) → k none S') : fC l 282 [.inr (.inr (49, 0)), .inl (0 : Int)] S k := by
  refine fxe_282 (Nat.le_of_ble_eq_true rfl) (fxz_282 400 ?_)
  refine And.intro (show 0 ≤ (0 : Int) ∧ (0 : Int) < 2 by omega) ?_
  intro z1 (z1a : (0 : Int) ≤ z1) (z1b : z1 ≤ (5 : Int)) (z1c : z1 = S 72 0 0)
  have ww : (S 72 0 0 = 5 → 0 ≤ S 70 0 0 ∧ S 63 0 (S 70 0 0).toNat + S 49 0 51 ≤ 6000 ∧ S 49 0 51 ≤ 1200) ∧ S 72 0 0 ≠ 4 := p8
  refine And.intro (by decide) ?_
  refine And.intro (show 0 ≤ (0 : Int) ∧ (0 : Int) < 2 by omega) ?_
  refine And.intro (show (0 : Int) ≤ (0 : Int) ∧ (0 : Int) ≤ (5 : Int) by omega) ?_
  have w2 : (fx_up S 72 0 0 (0 : Int)) 72 0 0 = (0 : Int) := fx_up_at _ _ _ _ _
  have w3 : (fx_up S 72 0 0 (0 : Int)) 72 0 1 = S 72 0 1 := if_neg (fun q => absurd q.2.2 (by decide))
  have w4 : (fx_up S 72 0 0 (0 : Int)) 70 0 0 = S 70 0 0 := rfl
  have w5 : (fx_up S 72 0 0 (0 : Int)) 70 0 1 = S 70 0 1 := rfl
  have g6 : COL (fx_up S 72 0 0 (0 : Int)) := fx_pup COL_stab rfl p0
  have g7 : WTM (fx_up S 72 0 0 (0 : Int)) := fx_pup WTM_stab rfl p1
  have g8 : INJ (fx_up S 72 0 0 (0 : Int)) := fx_pup INJ_stab rfl p2
  have g9 : AON (fx_up S 72 0 0 (0 : Int)) := fx_pup AON_stab rfl p3
  have g10 : USE (fx_up S 72 0 0 (0 : Int)) := fx_pup USE_stab rfl p4
  have g11 : SNP (fx_up S 72 0 0 (0 : Int)) := fx_pup SNP_stab rfl p5
  have g12 : REC (fx_up S 72 0 0 (0 : Int)) := fx_pup REC_stab rfl p6
  have g13 : SGM (fx_up S 72 0 0 (0 : Int)) := fx_pup SGM_stab rfl p7
  have g14 : WNR (fx_up S 72 0 0 (0 : Int)) := WNR_72 p9
  refine And.intro (fun (h15 : (z1 ≠ (2 : Int) : Prop)) => ?_) (fun (h15 : (z1 = (2 : Int) : Prop)) => ?_)
  ·
    refine And.intro (fun (h16 : (z1 ≠ (3 : Int) : Prop)) => ?_) (fun (h16 : (z1 = (3 : Int) : Prop)) => ?_)
    ·
      refine And.intro (fun (h17 : (z1 ≠ (4 : Int) : Prop)) => ?_) (fun (h17 : (z1 = (4 : Int) : Prop)) => ?_)
      ·
        refine And.intro (fun (h18 : (z1 ≠ (5 : Int) : Prop)) => ?_) (fun (h18 : (z1 = (5 : Int) : Prop)) => ?_)
        ·
          have rd : RECd (fx_up S 72 0 0 (0 : Int)) := g12.1
          refine c_StubHouseModel_purge  g6 rd (fun (S19 : fxS) ⟨(f20 : fxfr [(49, 36), (75, 9999)] (fx_up S 72 0 0 (0 : Int)) S19), (g21 : REC S19)⟩ => ?_)
          have w22 : S19 72 0 0 = (fx_up S 72 0 0 (0 : Int)) 72 0 0 := f20 72 0 0 rfl
          have w23 : S19 72 0 1 = (fx_up S 72 0 0 (0 : Int)) 72 0 1 := f20 72 0 1 rfl
          have w24 : S19 70 0 0 = (fx_up S 72 0 0 (0 : Int)) 70 0 0 := f20 70 0 0 rfl
          have w25 : S19 70 0 1 = (fx_up S 72 0 0 (0 : Int)) 70 0 1 := f20 70 0 1 rfl
          have g26 : COL S19 := fx_pfr COL_stab f20 rfl g6
          have g27 : WTM S19 := fx_pfr WTM_stab f20 rfl g7
          have g28 : INJ S19 := fx_pfr INJ_stab f20 rfl g8
          have g29 : AON S19 := fx_pfr AON_stab f20 rfl g9
          have g30 : USE S19 := fx_pfr USE_stab f20 rfl g10
          have g31 : SNP S19 := fx_pfr SNP_stab f20 rfl g11
          have g32 : SGM S19 := fx_pfr SGM_stab f20 rfl g13
          have g33 : WNR S19 := fx_pfr WNR_stab f20 rfl g14
          exact hk S19 ⟨(fxfr_tr (fxfr_up fxfr_rfl rfl) f20 rfl), g26, g27, g28, g29, g30, g31, g21, g32, by first | exact WNR_of (by omega) (by omega) | exact WNW_n5 (by omega) (by omega) | (exfalso; omega), g33⟩
        ·
          refine c_StubHouseModel_writeDone  g6 g7 g8 g9 g10 g11 g12 g13 (show 0 ≤ S 70 0 0 by omega) (show S 63 0 (S 70 0 0).toNat + S 49 0 51 ≤ 6000 by omega) (fun (S34 : fxS) ⟨(f35 : fxfr [(49, 7), (49, 43), (50, 9999), (53, 9999), (55, 9999), (56, 9999), (58, 9999), (62, 9999), (63, 9999), (67, 9999), (71, 9999)] (fx_up S 72 0 0 (0 : Int)) S34), (g36 : COL S34), (g37 : WTM S34), (g38 : INJ S34), (g39 : AON S34), (g40 : USE S34), (g41 : SNP S34), (g42 : REC S34), (g43 : SGM S34)⟩ => ?_)
          have w44 : S34 72 0 0 = (fx_up S 72 0 0 (0 : Int)) 72 0 0 := f35 72 0 0 rfl
          have w45 : S34 72 0 1 = (fx_up S 72 0 0 (0 : Int)) 72 0 1 := f35 72 0 1 rfl
          have w46 : S34 70 0 0 = (fx_up S 72 0 0 (0 : Int)) 70 0 0 := f35 70 0 0 rfl
          have w47 : S34 70 0 1 = (fx_up S 72 0 0 (0 : Int)) 70 0 1 := f35 70 0 1 rfl
          have g48 : WNR S34 := fx_pfr WNR_stab f35 rfl g14
          have rd : RECd S34 := g42.1
          refine c_StubHouseModel_purge  g36 rd (fun (S49 : fxS) ⟨(f50 : fxfr [(49, 36), (75, 9999)] S34 S49), (g51 : REC S49)⟩ => ?_)
          have w52 : S49 72 0 0 = S34 72 0 0 := f50 72 0 0 rfl
          have w53 : S49 72 0 1 = S34 72 0 1 := f50 72 0 1 rfl
          have w54 : S49 70 0 0 = S34 70 0 0 := f50 70 0 0 rfl
          have w55 : S49 70 0 1 = S34 70 0 1 := f50 70 0 1 rfl
          have g56 : COL S49 := fx_pfr COL_stab f50 rfl g36
          have g57 : WTM S49 := fx_pfr WTM_stab f50 rfl g37
          have g58 : INJ S49 := fx_pfr INJ_stab f50 rfl g38
          have g59 : AON S49 := fx_pfr AON_stab f50 rfl g39
          have g60 : USE S49 := fx_pfr USE_stab f50 rfl g40
          have g61 : SNP S49 := fx_pfr SNP_stab f50 rfl g41
          have g62 : SGM S49 := fx_pfr SGM_stab f50 rfl g43
          have g63 : WNR S49 := fx_pfr WNR_stab f50 rfl g48
          exact hk S49 ⟨(fxfr_tr (fxfr_tr (fxfr_up fxfr_rfl rfl) f35 rfl) f50 rfl), g56, g57, g58, g59, g60, g61, g51, g62, by first | exact WNR_of (by omega) (by omega) | exact WNW_n5 (by omega) (by omega) | (exfalso; omega), g63⟩
      ·
        refine c_StubHouseModel_readDone  g6 g7 g8 g9 g10 g11 g12 g13 (show 0 ≤ S 70 0 1 by omega) (fun (S64 : fxS) ⟨(f65 : fxfr [(49, 7), (49, 42), (49, 43), (49, 45), (49, 46), (49, 47), (49, 48), (50, 9999), (52, 9999), (53, 9999), (55, 9999), (56, 9999), (57, 9999), (58, 9999), (65, 9999), (66, 9999), (67, 9999), (71, 9999), (77, 9999)] (fx_up S 72 0 0 (0 : Int)) S64), (g66 : COL S64), (g67 : WTM S64), (g68 : INJ S64), (g69 : AON S64), (g70 : USE S64), (g71 : SNP S64), (g72 : REC S64), (g73 : SGM S64)⟩ => ?_)
        have w74 : S64 72 0 0 = (fx_up S 72 0 0 (0 : Int)) 72 0 0 := f65 72 0 0 rfl
        have w75 : S64 72 0 1 = (fx_up S 72 0 0 (0 : Int)) 72 0 1 := f65 72 0 1 rfl
        have w76 : S64 70 0 0 = (fx_up S 72 0 0 (0 : Int)) 70 0 0 := f65 70 0 0 rfl
        have w77 : S64 70 0 1 = (fx_up S 72 0 0 (0 : Int)) 70 0 1 := f65 70 0 1 rfl
        have g78 : WNR S64 := fx_pfr WNR_stab f65 rfl g14
        have rd : RECd S64 := g72.1
        refine c_StubHouseModel_purge  g66 rd (fun (S79 : fxS) ⟨(f80 : fxfr [(49, 36), (75, 9999)] S64 S79), (g81 : REC S79)⟩ => ?_)
        have w82 : S79 72 0 0 = S64 72 0 0 := f80 72 0 0 rfl
        have w83 : S79 72 0 1 = S64 72 0 1 := f80 72 0 1 rfl
        have w84 : S79 70 0 0 = S64 70 0 0 := f80 70 0 0 rfl
        have w85 : S79 70 0 1 = S64 70 0 1 := f80 70 0 1 rfl
        have g86 : COL S79 := fx_pfr COL_stab f80 rfl g66
        have g87 : WTM S79 := fx_pfr WTM_stab f80 rfl g67
        have g88 : INJ S79 := fx_pfr INJ_stab f80 rfl g68
        have g89 : AON S79 := fx_pfr AON_stab f80 rfl g69
        have g90 : USE S79 := fx_pfr USE_stab f80 rfl g70
        have g91 : SNP S79 := fx_pfr SNP_stab f80 rfl g71
        have g92 : SGM S79 := fx_pfr SGM_stab f80 rfl g73
        have g93 : WNR S79 := fx_pfr WNR_stab f80 rfl g78
        exact hk S79 ⟨(fxfr_tr (fxfr_tr (fxfr_up fxfr_rfl rfl) f65 rfl) f80 rfl), g86, g87, g88, g89, g90, g91, g81, g92, by first | exact WNR_of (by omega) (by omega) | exact WNW_n5 (by omega) (by omega) | (exfalso; omega), g93⟩
    ·
      refine And.intro (show 0 ≤ (0 : Int) ∧ (0 : Int) < 2 by omega) ?_
      intro z94 (z94a : (0 : Int) ≤ z94) (z94b : z94 ≤ (7100 : Int)) (z94c : z94 = S 74 0 0)
      refine And.intro (show 0 ≤ (0 : Int) ∧ (0 : Int) < 2 by omega) ?_
      refine And.intro (show (0 : Int) ≤ z94 ∧ z94 ≤ (7100 : Int) by omega) ?_
      have w95 : (fx_up (fx_up S 72 0 0 (0 : Int)) 71 0 0 z94) 72 0 0 = (fx_up S 72 0 0 (0 : Int)) 72 0 0 := rfl
      have w96 : (fx_up (fx_up S 72 0 0 (0 : Int)) 71 0 0 z94) 72 0 1 = (fx_up S 72 0 0 (0 : Int)) 72 0 1 := rfl
      have w97 : (fx_up (fx_up S 72 0 0 (0 : Int)) 71 0 0 z94) 70 0 0 = (fx_up S 72 0 0 (0 : Int)) 70 0 0 := rfl
      have w98 : (fx_up (fx_up S 72 0 0 (0 : Int)) 71 0 0 z94) 70 0 1 = (fx_up S 72 0 0 (0 : Int)) 70 0 1 := rfl
      have g99 : COL (fx_up (fx_up S 72 0 0 (0 : Int)) 71 0 0 z94) := fx_pup COL_stab rfl g6
      have g100 : WTM (fx_up (fx_up S 72 0 0 (0 : Int)) 71 0 0 z94) := fx_pup WTM_stab rfl g7
      have g101 : INJ (fx_up (fx_up S 72 0 0 (0 : Int)) 71 0 0 z94) := fx_pup INJ_stab rfl g8
      have g102 : AON (fx_up (fx_up S 72 0 0 (0 : Int)) 71 0 0 z94) := fx_pup AON_stab rfl g9
      have g103 : USE (fx_up (fx_up S 72 0 0 (0 : Int)) 71 0 0 z94) := fx_pup USE_stab rfl g10
      have g104 : SNP (fx_up (fx_up S 72 0 0 (0 : Int)) 71 0 0 z94) := fx_pup SNP_stab rfl g11
      have g105 : REC (fx_up (fx_up S 72 0 0 (0 : Int)) 71 0 0 z94) := fx_pup REC_stab rfl g12
      have g106 : SGM (fx_up (fx_up S 72 0 0 (0 : Int)) 71 0 0 z94) := fx_pup SGM_stab rfl g13
      have g107 : WNR (fx_up (fx_up S 72 0 0 (0 : Int)) 71 0 0 z94) := fx_pup WNR_stab rfl g14
      have rd : RECd (fx_up (fx_up S 72 0 0 (0 : Int)) 71 0 0 z94) := g105.1
      refine c_StubHouseModel_purge  g99 rd (fun (S108 : fxS) ⟨(f109 : fxfr [(49, 36), (75, 9999)] (fx_up (fx_up S 72 0 0 (0 : Int)) 71 0 0 z94) S108), (g110 : REC S108)⟩ => ?_)
      have w111 : S108 72 0 0 = (fx_up (fx_up S 72 0 0 (0 : Int)) 71 0 0 z94) 72 0 0 := f109 72 0 0 rfl
      have w112 : S108 72 0 1 = (fx_up (fx_up S 72 0 0 (0 : Int)) 71 0 0 z94) 72 0 1 := f109 72 0 1 rfl
      have w113 : S108 70 0 0 = (fx_up (fx_up S 72 0 0 (0 : Int)) 71 0 0 z94) 70 0 0 := f109 70 0 0 rfl
      have w114 : S108 70 0 1 = (fx_up (fx_up S 72 0 0 (0 : Int)) 71 0 0 z94) 70 0 1 := f109 70 0 1 rfl
      have g115 : COL S108 := fx_pfr COL_stab f109 rfl g99
      have g116 : WTM S108 := fx_pfr WTM_stab f109 rfl g100
      have g117 : INJ S108 := fx_pfr INJ_stab f109 rfl g101
      have g118 : AON S108 := fx_pfr AON_stab f109 rfl g102
      have g119 : USE S108 := fx_pfr USE_stab f109 rfl g103
      have g120 : SNP S108 := fx_pfr SNP_stab f109 rfl g104
      have g121 : SGM S108 := fx_pfr SGM_stab f109 rfl g106
      have g122 : WNR S108 := fx_pfr WNR_stab f109 rfl g107
      exact hk S108 ⟨(fxfr_tr (fxfr_up (fxfr_up fxfr_rfl rfl) rfl) f109 rfl), g115, g116, g117, g118, g119, g120, g110, g121, by first | exact WNR_of (by omega) (by omega) | exact WNW_n5 (by omega) (by omega) | (exfalso; omega), g122⟩
  ·
    refine And.intro (show 0 ≤ (0 : Int) ∧ (0 : Int) < 2 by omega) ?_
    refine And.intro (show (-2 : Int) ≤ (-2 : Int) ∧ (-2 : Int) ≤ (5 : Int) by omega) ?_
    have w123 : (fx_up (fx_up S 72 0 0 (0 : Int)) 70 0 0 (-2 : Int)) 72 0 0 = (fx_up S 72 0 0 (0 : Int)) 72 0 0 := rfl
    have w124 : (fx_up (fx_up S 72 0 0 (0 : Int)) 70 0 0 (-2 : Int)) 72 0 1 = (fx_up S 72 0 0 (0 : Int)) 72 0 1 := rfl
    have w125 : (fx_up (fx_up S 72 0 0 (0 : Int)) 70 0 0 (-2 : Int)) 70 0 0 = (-2 : Int) := fx_up_at _ _ _ _ _
    have w126 : (fx_up (fx_up S 72 0 0 (0 : Int)) 70 0 0 (-2 : Int)) 70 0 1 = (fx_up S 72 0 0 (0 : Int)) 70 0 1 := if_neg (fun q => absurd q.2.2 (by decide))
    have g127 : COL (fx_up (fx_up S 72 0 0 (0 : Int)) 70 0 0 (-2 : Int)) := fx_pup COL_stab rfl g6
    have g128 : WTM (fx_up (fx_up S 72 0 0 (0 : Int)) 70 0 0 (-2 : Int)) := fx_pup WTM_stab rfl g7
    have g129 : INJ (fx_up (fx_up S 72 0 0 (0 : Int)) 70 0 0 (-2 : Int)) := fx_pup INJ_stab rfl g8
    have g130 : AON (fx_up (fx_up S 72 0 0 (0 : Int)) 70 0 0 (-2 : Int)) := fx_pup AON_stab rfl g9
    have g131 : USE (fx_up (fx_up S 72 0 0 (0 : Int)) 70 0 0 (-2 : Int)) := fx_pup USE_stab rfl g10
    have g132 : SNP (fx_up (fx_up S 72 0 0 (0 : Int)) 70 0 0 (-2 : Int)) := fx_pup SNP_stab rfl g11
    have g133 : REC (fx_up (fx_up S 72 0 0 (0 : Int)) 70 0 0 (-2 : Int)) := fx_pup REC_stab rfl g12
    have g134 : SGM (fx_up (fx_up S 72 0 0 (0 : Int)) 70 0 0 (-2 : Int)) := fx_pup SGM_stab rfl g13
    have g135 : WNR (fx_up (fx_up S 72 0 0 (0 : Int)) 70 0 0 (-2 : Int)) := WNR_70 g14
    refine And.intro (show 0 ≤ (0 : Int) ∧ (0 : Int) < 2 by omega) ?_
    refine And.intro (show (0 : Int) ≤ (0 : Int) ∧ (0 : Int) ≤ (7100 : Int) by omega) ?_
    have w136 : (fx_up (fx_up (fx_up S 72 0 0 (0 : Int)) 70 0 0 (-2 : Int)) 71 0 0 (0 : Int)) 72 0 0 = (fx_up (fx_up S 72 0 0 (0 : Int)) 70 0 0 (-2 : Int)) 72 0 0 := rfl
    have w137 : (fx_up (fx_up (fx_up S 72 0 0 (0 : Int)) 70 0 0 (-2 : Int)) 71 0 0 (0 : Int)) 72 0 1 = (fx_up (fx_up S 72 0 0 (0 : Int)) 70 0 0 (-2 : Int)) 72 0 1 := rfl
    have w138 : (fx_up (fx_up (fx_up S 72 0 0 (0 : Int)) 70 0 0 (-2 : Int)) 71 0 0 (0 : Int)) 70 0 0 = (fx_up (fx_up S 72 0 0 (0 : Int)) 70 0 0 (-2 : Int)) 70 0 0 := rfl
    have w139 : (fx_up (fx_up (fx_up S 72 0 0 (0 : Int)) 70 0 0 (-2 : Int)) 71 0 0 (0 : Int)) 70 0 1 = (fx_up (fx_up S 72 0 0 (0 : Int)) 70 0 0 (-2 : Int)) 70 0 1 := rfl
    have g140 : COL (fx_up (fx_up (fx_up S 72 0 0 (0 : Int)) 70 0 0 (-2 : Int)) 71 0 0 (0 : Int)) := fx_pup COL_stab rfl g127
    have g141 : WTM (fx_up (fx_up (fx_up S 72 0 0 (0 : Int)) 70 0 0 (-2 : Int)) 71 0 0 (0 : Int)) := fx_pup WTM_stab rfl g128
    have g142 : INJ (fx_up (fx_up (fx_up S 72 0 0 (0 : Int)) 70 0 0 (-2 : Int)) 71 0 0 (0 : Int)) := fx_pup INJ_stab rfl g129
    have g143 : AON (fx_up (fx_up (fx_up S 72 0 0 (0 : Int)) 70 0 0 (-2 : Int)) 71 0 0 (0 : Int)) := fx_pup AON_stab rfl g130
    have g144 : USE (fx_up (fx_up (fx_up S 72 0 0 (0 : Int)) 70 0 0 (-2 : Int)) 71 0 0 (0 : Int)) := fx_pup USE_stab rfl g131
    have g145 : SNP (fx_up (fx_up (fx_up S 72 0 0 (0 : Int)) 70 0 0 (-2 : Int)) 71 0 0 (0 : Int)) := fx_pup SNP_stab rfl g132
    have g146 : REC (fx_up (fx_up (fx_up S 72 0 0 (0 : Int)) 70 0 0 (-2 : Int)) 71 0 0 (0 : Int)) := fx_pup REC_stab rfl g133
    have g147 : SGM (fx_up (fx_up (fx_up S 72 0 0 (0 : Int)) 70 0 0 (-2 : Int)) 71 0 0 (0 : Int)) := fx_pup SGM_stab rfl g134
    have g148 : WNR (fx_up (fx_up (fx_up S 72 0 0 (0 : Int)) 70 0 0 (-2 : Int)) 71 0 0 (0 : Int)) := fx_pup WNR_stab rfl g135
    have rd : RECd (fx_up (fx_up (fx_up S 72 0 0 (0 : Int)) 70 0 0 (-2 : Int)) 71 0 0 (0 : Int)) := g146.1
    refine c_StubHouseModel_purge  g140 rd (fun (S149 : fxS) ⟨(f150 : fxfr [(49, 36), (75, 9999)] (fx_up (fx_up (fx_up S 72 0 0 (0 : Int)) 70 0 0 (-2 : Int)) 71 0 0 (0 : Int)) S149), (g151 : REC S149)⟩ => ?_)
    have w152 : S149 72 0 0 = (fx_up (fx_up (fx_up S 72 0 0 (0 : Int)) 70 0 0 (-2 : Int)) 71 0 0 (0 : Int)) 72 0 0 := f150 72 0 0 rfl
    have w153 : S149 72 0 1 = (fx_up (fx_up (fx_up S 72 0 0 (0 : Int)) 70 0 0 (-2 : Int)) 71 0 0 (0 : Int)) 72 0 1 := f150 72 0 1 rfl
    have w154 : S149 70 0 0 = (fx_up (fx_up (fx_up S 72 0 0 (0 : Int)) 70 0 0 (-2 : Int)) 71 0 0 (0 : Int)) 70 0 0 := f150 70 0 0 rfl
    have w155 : S149 70 0 1 = (fx_up (fx_up (fx_up S 72 0 0 (0 : Int)) 70 0 0 (-2 : Int)) 71 0 0 (0 : Int)) 70 0 1 := f150 70 0 1 rfl
    have g156 : COL S149 := fx_pfr COL_stab f150 rfl g140
    have g157 : WTM S149 := fx_pfr WTM_stab f150 rfl g141
    have g158 : INJ S149 := fx_pfr INJ_stab f150 rfl g142
    have g159 : AON S149 := fx_pfr AON_stab f150 rfl g143
    have g160 : USE S149 := fx_pfr USE_stab f150 rfl g144
    have g161 : SNP S149 := fx_pfr SNP_stab f150 rfl g145
    have g162 : SGM S149 := fx_pfr SGM_stab f150 rfl g147
    have g163 : WNR S149 := fx_pfr WNR_stab f150 rfl g148
    exact hk S149 ⟨(fxfr_tr (fxfr_up (fxfr_up (fxfr_up fxfr_rfl rfl) rfl) rfl) f150 rfl), g156, g157, g158, g159, g160, g161, g151, g162, by first | exact WNR_of (by omega) (by omega) | exact WNW_n5 (by omega) (by omega) | (exfalso; omega), g163⟩
theorem c_goOn_1 {l : Launch} {k : fxK} {S : fxS}  (p0 : COL S) (p1 : WTM S) (p2 : INJ S) (p3 : AON S) (p4 : USE S) (p5 : SNP S) (p6 : REC S) (p7 : SGM S) (p8 : WNW S) (p9 : WNR S) (hk : ∀ (S' : fxS) , (fxfr [(49, 7), (49, 36), (49, 39), (49, 40), (49, 41), (49, 42), (49, 43), (49, 45), (49, 46), (49, 47), (49, 48), (49, 55), (50, 9999), (52, 9999), (53, 9999), (55, 9999), (56, 9999), (57, 9999), (58, 9999), (62, 9999), (63, 9999), (64, 9999), (65, 9999), (66, 9999), (67, 9999), (70, 9999), (71, 9999), (72, 9999), (73, 9999), (74, 9999), (75, 9999), (77, 9999)] S S' ∧ (COL S') ∧ (WTM S') ∧ (INJ S') ∧ (AON S') ∧ (USE S') ∧ (SNP S') ∧ (REC S') ∧ (SGM S') ∧ (WNW S') ∧ (WNR S')) → k none S') : fC l 283 [.inr (.inr (49, 0)), .inl (1 : Int)] S k := by
  refine fxe_283 (Nat.le_of_ble_eq_true rfl) (fxz_283 400 ?_)
  refine And.intro (show 0 ≤ (1 : Int) ∧ (1 : Int) < 2 by omega) ?_
  intro z1 (z1a : (0 : Int) ≤ z1) (z1b : z1 ≤ (5 : Int)) (z1c : z1 = S 72 0 1)
  refine And.intro (fun (h2 : (z1 ≠ (0 : Int) : Prop)) => ?_) (fun (h2 : (z1 = (0 : Int) : Prop)) => ?_)
  ·
    refine And.intro (show 0 ≤ (1 : Int) ∧ (1 : Int) < 2 by omega) ?_
    intro z3 (z3a : (0 : Int) ≤ z3) (z3b : z3 ≤ (5 : Int)) (z3c : z3 = S 72 0 1)
    refine And.intro (fun (h4 : (z3 = (0 : Int) : Prop)) => ?_) (fun (h4 : (z3 ≠ (0 : Int) : Prop)) => ?_)
    ·
      exact hk S ⟨fxfr_rfl, p0, p1, p2, p3, p4, p5, p6, p7, p8, p9⟩
    ·
      refine And.intro (show 0 ≤ (1 : Int) ∧ (1 : Int) < 2 by omega) ?_
      intro z5 (z5a : (-2147483648 : Int) ≤ z5) (z5b : z5 ≤ (2147483647 : Int)) (z5c : z5 = S 73 0 1)
      intro z6 (z6a : -2147483648 ≤ z6) (z6b : z6 < 2147483648) (z6c : -2147483648 ≤ (z5 - (1 : Int)) ∧ (z5 - (1 : Int)) < 2147483648 → z6 = (z5 - (1 : Int)))
      refine And.intro (show 0 ≤ (1 : Int) ∧ (1 : Int) < 2 by omega) ?_
      refine And.intro (show (-2147483648 : Int) ≤ z6 ∧ z6 ≤ (2147483647 : Int) by omega) ?_
      have w7 : (fx_up S 73 0 1 z6) 72 0 0 = S 72 0 0 := rfl
      have w8 : (fx_up S 73 0 1 z6) 72 0 1 = S 72 0 1 := rfl
      have g9 : COL (fx_up S 73 0 1 z6) := fx_pup COL_stab rfl p0
      have g10 : WTM (fx_up S 73 0 1 z6) := fx_pup WTM_stab rfl p1
      have g11 : INJ (fx_up S 73 0 1 z6) := fx_pup INJ_stab rfl p2
      have g12 : AON (fx_up S 73 0 1 z6) := fx_pup AON_stab rfl p3
      have g13 : USE (fx_up S 73 0 1 z6) := fx_pup USE_stab rfl p4
      have g14 : SNP (fx_up S 73 0 1 z6) := fx_pup SNP_stab rfl p5
      have g15 : REC (fx_up S 73 0 1 z6) := fx_pup REC_stab rfl p6
      have g16 : SGM (fx_up S 73 0 1 z6) := fx_pup SGM_stab rfl p7
      have g17 : WNW (fx_up S 73 0 1 z6) := fx_pup WNW_stab rfl p8
      have g18 : WNR (fx_up S 73 0 1 z6) := fx_pup WNR_stab rfl p9
      refine And.intro (show 0 ≤ (1 : Int) ∧ (1 : Int) < 2 by omega) ?_
      intro z19 (z19a : (-2147483648 : Int) ≤ z19) (z19b : z19 ≤ (2147483647 : Int)) (z19c : z19 = z6)
      refine And.intro (fun (h20 : (z19 ≠ (0 : Int) : Prop)) => ?_) (fun (h20 : (z19 = (0 : Int) : Prop)) => ?_)
      ·
        exact hk (fx_up S 73 0 1 z6) ⟨(fxfr_up fxfr_rfl rfl), g9, g10, g11, g12, g13, g14, g15, g16, g17, g18⟩
      ·
        refine c_actDone_1  g9 g10 g11 g12 g13 g14 g15 g16 g17 g18 (fun (S21 : fxS) ⟨(f22 : fxfr [(49, 7), (49, 36), (49, 42), (49, 43), (49, 45), (49, 46), (49, 47), (49, 48), (50, 9999), (52, 9999), (53, 9999), (55, 9999), (56, 9999), (57, 9999), (58, 9999), (62, 9999), (63, 9999), (65, 9999), (66, 9999), (67, 9999), (70, 9999), (71, 9999), (72, 9999), (75, 9999), (77, 9999)] (fx_up S 73 0 1 z6) S21), (g23 : COL S21), (g24 : WTM S21), (g25 : INJ S21), (g26 : AON S21), (g27 : USE S21), (g28 : SNP S21), (g29 : REC S21), (g30 : SGM S21), (g31 : WNW S21), (g32 : WNR S21)⟩ => ?_)
        exact hk S21 ⟨(fxfr_tr (fxfr_up fxfr_rfl rfl) f22 rfl), g23, g24, g25, g26, g27, g28, g29, g30, g31, g32⟩
  ·
    refine And.intro (fun h => absurd h (by decide)) (fun _ => ?_)
    refine c_StubHouseModel_readerBegins  p0 p1 p2 p3 p4 p5 p6 p7 p8 (show S 72 0 1 = 0 by omega) (fun (S33 : fxS) ⟨(f34 : fxfr [(49, 7), (49, 39), (49, 40), (49, 41), (49, 55), (50, 9999), (53, 9999), (55, 9999), (56, 9999), (58, 9999), (63, 9999), (64, 9999), (65, 9999), (66, 9999), (67, 9999), (70, 9999), (71, 9999), (72, 9999), (73, 9999), (74, 9999)] S S33), (q35 : S33 72 0 1 ≠ 5 ∧ (S33 72 0 1 = 4 → 0 ≤ S33 70 0 1)), (g36 : COL S33), (g37 : WTM S33), (g38 : INJ S33), (g39 : AON S33), (g40 : USE S33), (g41 : SNP S33), (g42 : REC S33), (g43 : SGM S33), (g44 : WNW S33)⟩ => ?_)
    have wr : WNR S33 := WNR_of (by omega) (by omega)
    have rd : RECd S33 := g42.1
    refine c_StubHouseModel_purge  g36 rd (fun (S45 : fxS) ⟨(f46 : fxfr [(49, 36), (75, 9999)] S33 S45), (g47 : REC S45)⟩ => ?_)
    have w48 : S45 72 0 0 = S33 72 0 0 := f46 72 0 0 rfl
    have w49 : S45 72 0 1 = S33 72 0 1 := f46 72 0 1 rfl
    have g50 : COL S45 := fx_pfr COL_stab f46 rfl g36
    have g51 : WTM S45 := fx_pfr WTM_stab f46 rfl g37
    have g52 : INJ S45 := fx_pfr INJ_stab f46 rfl g38
    have g53 : AON S45 := fx_pfr AON_stab f46 rfl g39
    have g54 : USE S45 := fx_pfr USE_stab f46 rfl g40
    have g55 : SNP S45 := fx_pfr SNP_stab f46 rfl g41
    have g56 : SGM S45 := fx_pfr SGM_stab f46 rfl g43
    have g57 : WNW S45 := fx_pfr WNW_stab f46 rfl g44
    have g58 : WNR S45 := fx_pfr WNR_stab f46 rfl wr
    refine And.intro (show 0 ≤ (1 : Int) ∧ (1 : Int) < 2 by omega) ?_
    intro z59 (z59a : (0 : Int) ≤ z59) (z59b : z59 ≤ (5 : Int)) (z59c : z59 = S45 72 0 1)
    refine And.intro (fun (h60 : (z59 = (0 : Int) : Prop)) => ?_) (fun (h60 : (z59 ≠ (0 : Int) : Prop)) => ?_)
    ·
      exact hk S45 ⟨(fxfr_tr (fxfr_tr fxfr_rfl f34 rfl) f46 rfl), g50, g51, g52, g53, g54, g55, g47, g56, g57, g58⟩
    ·
      refine And.intro (show 0 ≤ (1 : Int) ∧ (1 : Int) < 2 by omega) ?_
      intro z61 (z61a : (-2147483648 : Int) ≤ z61) (z61b : z61 ≤ (2147483647 : Int)) (z61c : z61 = S45 73 0 1)
      intro z62 (z62a : -2147483648 ≤ z62) (z62b : z62 < 2147483648) (z62c : -2147483648 ≤ (z61 - (1 : Int)) ∧ (z61 - (1 : Int)) < 2147483648 → z62 = (z61 - (1 : Int)))
      refine And.intro (show 0 ≤ (1 : Int) ∧ (1 : Int) < 2 by omega) ?_
      refine And.intro (show (-2147483648 : Int) ≤ z62 ∧ z62 ≤ (2147483647 : Int) by omega) ?_
      have w63 : (fx_up S45 73 0 1 z62) 72 0 0 = S45 72 0 0 := rfl
      have w64 : (fx_up S45 73 0 1 z62) 72 0 1 = S45 72 0 1 := rfl
      have g65 : COL (fx_up S45 73 0 1 z62) := fx_pup COL_stab rfl g50
      have g66 : WTM (fx_up S45 73 0 1 z62) := fx_pup WTM_stab rfl g51
      have g67 : INJ (fx_up S45 73 0 1 z62) := fx_pup INJ_stab rfl g52
      have g68 : AON (fx_up S45 73 0 1 z62) := fx_pup AON_stab rfl g53
      have g69 : USE (fx_up S45 73 0 1 z62) := fx_pup USE_stab rfl g54
      have g70 : SNP (fx_up S45 73 0 1 z62) := fx_pup SNP_stab rfl g55
      have g71 : REC (fx_up S45 73 0 1 z62) := fx_pup REC_stab rfl g47
      have g72 : SGM (fx_up S45 73 0 1 z62) := fx_pup SGM_stab rfl g56
      have g73 : WNW (fx_up S45 73 0 1 z62) := fx_pup WNW_stab rfl g57
      have g74 : WNR (fx_up S45 73 0 1 z62) := fx_pup WNR_stab rfl g58
      refine And.intro (show 0 ≤ (1 : Int) ∧ (1 : Int) < 2 by omega) ?_
      intro z75 (z75a : (-2147483648 : Int) ≤ z75) (z75b : z75 ≤ (2147483647 : Int)) (z75c : z75 = z62)
      refine And.intro (fun (h76 : (z75 ≠ (0 : Int) : Prop)) => ?_) (fun (h76 : (z75 = (0 : Int) : Prop)) => ?_)
      ·
        exact hk (fx_up S45 73 0 1 z62) ⟨(fxfr_up (fxfr_tr (fxfr_tr fxfr_rfl f34 rfl) f46 rfl) rfl), g65, g66, g67, g68, g69, g70, g71, g72, g73, g74⟩
      ·
        refine c_actDone_1  g65 g66 g67 g68 g69 g70 g71 g72 g73 g74 (fun (S77 : fxS) ⟨(f78 : fxfr [(49, 7), (49, 36), (49, 42), (49, 43), (49, 45), (49, 46), (49, 47), (49, 48), (50, 9999), (52, 9999), (53, 9999), (55, 9999), (56, 9999), (57, 9999), (58, 9999), (62, 9999), (63, 9999), (65, 9999), (66, 9999), (67, 9999), (70, 9999), (71, 9999), (72, 9999), (75, 9999), (77, 9999)] (fx_up S45 73 0 1 z62) S77), (g79 : COL S77), (g80 : WTM S77), (g81 : INJ S77), (g82 : AON S77), (g83 : USE S77), (g84 : SNP S77), (g85 : REC S77), (g86 : SGM S77), (g87 : WNW S77), (g88 : WNR S77)⟩ => ?_)
        exact hk S77 ⟨(fxfr_tr (fxfr_up (fxfr_tr (fxfr_tr fxfr_rfl f34 rfl) f46 rfl) rfl) f78 rfl), g79, g80, g81, g82, g83, g84, g85, g86, g87, g88⟩
theorem c_goOn_0 {l : Launch} {k : fxK} {S : fxS}  (p0 : COL S) (p1 : WTM S) (p2 : INJ S) (p3 : AON S) (p4 : USE S) (p5 : SNP S) (p6 : REC S) (p7 : SGM S) (p8 : WNW S) (p9 : WNR S) (hk : ∀ (S' : fxS) , (fxfr [(49, 7), (49, 13), (49, 36), (49, 38), (49, 42), (49, 43), (49, 45), (49, 46), (49, 47), (49, 48), (49, 49), (49, 51), (49, 53), (49, 54), (50, 9999), (52, 9999), (53, 9999), (55, 9999), (56, 9999), (57, 9999), (58, 9999), (62, 9999), (63, 9999), (65, 9999), (66, 9999), (67, 9999), (70, 9999), (71, 9999), (72, 9999), (73, 9999), (74, 9999), (75, 9999), (76, 9999), (77, 9999), (78, 9999)] S S' ∧ (COL S') ∧ (WTM S') ∧ (INJ S') ∧ (AON S') ∧ (USE S') ∧ (SNP S') ∧ (REC S') ∧ (SGM S') ∧ (WNW S') ∧ (WNR S')) → k none S') : fC l 283 [.inr (.inr (49, 0)), .inl (0 : Int)] S k := by
  refine fxe_283 (Nat.le_of_ble_eq_true rfl) (fxz_283 400 ?_)
  refine And.intro (show 0 ≤ (0 : Int) ∧ (0 : Int) < 2 by omega) ?_
  intro z1 (z1a : (0 : Int) ≤ z1) (z1b : z1 ≤ (5 : Int)) (z1c : z1 = S 72 0 0)
  refine And.intro (fun (h2 : (z1 ≠ (0 : Int) : Prop)) => ?_) (fun (h2 : (z1 = (0 : Int) : Prop)) => ?_)
  ·
    refine And.intro (show 0 ≤ (0 : Int) ∧ (0 : Int) < 2 by omega) ?_
    intro z3 (z3a : (0 : Int) ≤ z3) (z3b : z3 ≤ (5 : Int)) (z3c : z3 = S 72 0 0)
    refine And.intro (fun (h4 : (z3 = (0 : Int) : Prop)) => ?_) (fun (h4 : (z3 ≠ (0 : Int) : Prop)) => ?_)
    ·
      exact hk S ⟨fxfr_rfl, p0, p1, p2, p3, p4, p5, p6, p7, p8, p9⟩
    ·
      refine And.intro (show 0 ≤ (0 : Int) ∧ (0 : Int) < 2 by omega) ?_
      intro z5 (z5a : (-2147483648 : Int) ≤ z5) (z5b : z5 ≤ (2147483647 : Int)) (z5c : z5 = S 73 0 0)
      intro z6 (z6a : -2147483648 ≤ z6) (z6b : z6 < 2147483648) (z6c : -2147483648 ≤ (z5 - (1 : Int)) ∧ (z5 - (1 : Int)) < 2147483648 → z6 = (z5 - (1 : Int)))
      refine And.intro (show 0 ≤ (0 : Int) ∧ (0 : Int) < 2 by omega) ?_
      refine And.intro (show (-2147483648 : Int) ≤ z6 ∧ z6 ≤ (2147483647 : Int) by omega) ?_
      have w7 : (fx_up S 73 0 0 z6) 72 0 0 = S 72 0 0 := rfl
      have w8 : (fx_up S 73 0 0 z6) 72 0 1 = S 72 0 1 := rfl
      have g9 : COL (fx_up S 73 0 0 z6) := fx_pup COL_stab rfl p0
      have g10 : WTM (fx_up S 73 0 0 z6) := fx_pup WTM_stab rfl p1
      have g11 : INJ (fx_up S 73 0 0 z6) := fx_pup INJ_stab rfl p2
      have g12 : AON (fx_up S 73 0 0 z6) := fx_pup AON_stab rfl p3
      have g13 : USE (fx_up S 73 0 0 z6) := fx_pup USE_stab rfl p4
      have g14 : SNP (fx_up S 73 0 0 z6) := fx_pup SNP_stab rfl p5
      have g15 : REC (fx_up S 73 0 0 z6) := fx_pup REC_stab rfl p6
      have g16 : SGM (fx_up S 73 0 0 z6) := fx_pup SGM_stab rfl p7
      have g17 : WNW (fx_up S 73 0 0 z6) := fx_pup WNW_stab rfl p8
      have g18 : WNR (fx_up S 73 0 0 z6) := fx_pup WNR_stab rfl p9
      refine And.intro (show 0 ≤ (0 : Int) ∧ (0 : Int) < 2 by omega) ?_
      intro z19 (z19a : (-2147483648 : Int) ≤ z19) (z19b : z19 ≤ (2147483647 : Int)) (z19c : z19 = z6)
      refine And.intro (fun (h20 : (z19 ≠ (0 : Int) : Prop)) => ?_) (fun (h20 : (z19 = (0 : Int) : Prop)) => ?_)
      ·
        exact hk (fx_up S 73 0 0 z6) ⟨(fxfr_up fxfr_rfl rfl), g9, g10, g11, g12, g13, g14, g15, g16, g17, g18⟩
      ·
        refine c_actDone_0  g9 g10 g11 g12 g13 g14 g15 g16 g17 g18 (fun (S21 : fxS) ⟨(f22 : fxfr [(49, 7), (49, 36), (49, 42), (49, 43), (49, 45), (49, 46), (49, 47), (49, 48), (50, 9999), (52, 9999), (53, 9999), (55, 9999), (56, 9999), (57, 9999), (58, 9999), (62, 9999), (63, 9999), (65, 9999), (66, 9999), (67, 9999), (70, 9999), (71, 9999), (72, 9999), (75, 9999), (77, 9999)] (fx_up S 73 0 0 z6) S21), (g23 : COL S21), (g24 : WTM S21), (g25 : INJ S21), (g26 : AON S21), (g27 : USE S21), (g28 : SNP S21), (g29 : REC S21), (g30 : SGM S21), (g31 : WNW S21), (g32 : WNR S21)⟩ => ?_)
        exact hk S21 ⟨(fxfr_tr (fxfr_up fxfr_rfl rfl) f22 rfl), g23, g24, g25, g26, g27, g28, g29, g30, g31, g32⟩
  ·
    refine And.intro (fun _ => ?_) (fun h => absurd h (by decide))
    refine c_StubHouseModel_writerBegins  p0 p1 p2 p3 p9 (show S 72 0 0 = 0 by omega) (fun (S33 : fxS) ⟨(f34 : fxfr [(49, 13), (49, 38), (49, 49), (49, 51), (49, 53), (49, 54), (70, 9999), (71, 9999), (72, 9999), (73, 9999), (74, 9999), (76, 9999), (78, 9999)] S S33), (q35 : S33 72 0 1 = S 72 0 1), (g36 : WNR S33), (g37 : WNW S33)⟩ => ?_)
    have g38 : COL S33 := fx_pfr COL_stab f34 rfl p0
    have g39 : WTM S33 := fx_pfr WTM_stab f34 rfl p1
    have g40 : INJ S33 := fx_pfr INJ_stab f34 rfl p2
    have g41 : AON S33 := fx_pfr AON_stab f34 rfl p3
    have g42 : USE S33 := fx_pfr USE_stab f34 rfl p4
    have g43 : SNP S33 := fx_pfr SNP_stab f34 rfl p5
    have g44 : REC S33 := fx_pfr REC_stab f34 rfl p6
    have g45 : SGM S33 := fx_pfr SGM_stab f34 rfl p7
    have rd : RECd S33 := g44.1
    refine c_StubHouseModel_purge  g38 rd (fun (S46 : fxS) ⟨(f47 : fxfr [(49, 36), (75, 9999)] S33 S46), (g48 : REC S46)⟩ => ?_)
    have w49 : S46 72 0 0 = S33 72 0 0 := f47 72 0 0 rfl
    have w50 : S46 72 0 1 = S33 72 0 1 := f47 72 0 1 rfl
    have g51 : COL S46 := fx_pfr COL_stab f47 rfl g38
    have g52 : WTM S46 := fx_pfr WTM_stab f47 rfl g39
    have g53 : INJ S46 := fx_pfr INJ_stab f47 rfl g40
    have g54 : AON S46 := fx_pfr AON_stab f47 rfl g41
    have g55 : USE S46 := fx_pfr USE_stab f47 rfl g42
    have g56 : SNP S46 := fx_pfr SNP_stab f47 rfl g43
    have g57 : SGM S46 := fx_pfr SGM_stab f47 rfl g45
    have g58 : WNW S46 := fx_pfr WNW_stab f47 rfl g37
    have g59 : WNR S46 := fx_pfr WNR_stab f47 rfl g36
    refine And.intro (show 0 ≤ (0 : Int) ∧ (0 : Int) < 2 by omega) ?_
    intro z60 (z60a : (0 : Int) ≤ z60) (z60b : z60 ≤ (5 : Int)) (z60c : z60 = S46 72 0 0)
    refine And.intro (fun (h61 : (z60 = (0 : Int) : Prop)) => ?_) (fun (h61 : (z60 ≠ (0 : Int) : Prop)) => ?_)
    ·
      exact hk S46 ⟨(fxfr_tr (fxfr_tr fxfr_rfl f34 rfl) f47 rfl), g51, g52, g53, g54, g55, g56, g48, g57, g58, g59⟩
    ·
      refine And.intro (show 0 ≤ (0 : Int) ∧ (0 : Int) < 2 by omega) ?_
      intro z62 (z62a : (-2147483648 : Int) ≤ z62) (z62b : z62 ≤ (2147483647 : Int)) (z62c : z62 = S46 73 0 0)
      intro z63 (z63a : -2147483648 ≤ z63) (z63b : z63 < 2147483648) (z63c : -2147483648 ≤ (z62 - (1 : Int)) ∧ (z62 - (1 : Int)) < 2147483648 → z63 = (z62 - (1 : Int)))
      refine And.intro (show 0 ≤ (0 : Int) ∧ (0 : Int) < 2 by omega) ?_
      refine And.intro (show (-2147483648 : Int) ≤ z63 ∧ z63 ≤ (2147483647 : Int) by omega) ?_
      have w64 : (fx_up S46 73 0 0 z63) 72 0 0 = S46 72 0 0 := rfl
      have w65 : (fx_up S46 73 0 0 z63) 72 0 1 = S46 72 0 1 := rfl
      have g66 : COL (fx_up S46 73 0 0 z63) := fx_pup COL_stab rfl g51
      have g67 : WTM (fx_up S46 73 0 0 z63) := fx_pup WTM_stab rfl g52
      have g68 : INJ (fx_up S46 73 0 0 z63) := fx_pup INJ_stab rfl g53
      have g69 : AON (fx_up S46 73 0 0 z63) := fx_pup AON_stab rfl g54
      have g70 : USE (fx_up S46 73 0 0 z63) := fx_pup USE_stab rfl g55
      have g71 : SNP (fx_up S46 73 0 0 z63) := fx_pup SNP_stab rfl g56
      have g72 : REC (fx_up S46 73 0 0 z63) := fx_pup REC_stab rfl g48
      have g73 : SGM (fx_up S46 73 0 0 z63) := fx_pup SGM_stab rfl g57
      have g74 : WNW (fx_up S46 73 0 0 z63) := fx_pup WNW_stab rfl g58
      have g75 : WNR (fx_up S46 73 0 0 z63) := fx_pup WNR_stab rfl g59
      refine And.intro (show 0 ≤ (0 : Int) ∧ (0 : Int) < 2 by omega) ?_
      intro z76 (z76a : (-2147483648 : Int) ≤ z76) (z76b : z76 ≤ (2147483647 : Int)) (z76c : z76 = z63)
      refine And.intro (fun (h77 : (z76 ≠ (0 : Int) : Prop)) => ?_) (fun (h77 : (z76 = (0 : Int) : Prop)) => ?_)
      ·
        exact hk (fx_up S46 73 0 0 z63) ⟨(fxfr_up (fxfr_tr (fxfr_tr fxfr_rfl f34 rfl) f47 rfl) rfl), g66, g67, g68, g69, g70, g71, g72, g73, g74, g75⟩
      ·
        refine c_actDone_0  g66 g67 g68 g69 g70 g71 g72 g73 g74 g75 (fun (S78 : fxS) ⟨(f79 : fxfr [(49, 7), (49, 36), (49, 42), (49, 43), (49, 45), (49, 46), (49, 47), (49, 48), (50, 9999), (52, 9999), (53, 9999), (55, 9999), (56, 9999), (57, 9999), (58, 9999), (62, 9999), (63, 9999), (65, 9999), (66, 9999), (67, 9999), (70, 9999), (71, 9999), (72, 9999), (75, 9999), (77, 9999)] (fx_up S46 73 0 0 z63) S78), (g80 : COL S78), (g81 : WTM S78), (g82 : INJ S78), (g83 : AON S78), (g84 : USE S78), (g85 : SNP S78), (g86 : REC S78), (g87 : SGM S78), (g88 : WNW S78), (g89 : WNR S78)⟩ => ?_)
        exact hk S78 ⟨(fxfr_tr (fxfr_up (fxfr_tr (fxfr_tr fxfr_rfl f34 rfl) f47 rfl) rfl) f79 rfl), g80, g81, g82, g83, g84, g85, g86, g87, g88, g89⟩
theorem z_StubHouseModel_inUse {l : Launch} {k : fxK} {S : fxS} {s : Int} (p0 : COL S) (p1 : -2147483648 ≤ s ∧ s < 2147483648) (hk : ∀ (r : Int) , (0 ≤ r ∧ r ≤ 1920) → k (some (.inl r)) S) : ∀ m : Nat, (∀ (u j : Int), (1 ≤ j ∧ j ≤ 60) → (0 ≤ u ∧ u ≤ 32 * j) → 61 - j ≤ (m : Int) → fZ l 284 k 4 [some (.inr (.inr (49, 0))), some (.inl s), some (.inl u), some (.inl j)] [] S) := by
  intro m
  induction m with
  | zero =>
    intro u j  i0 i1 hmu
    exfalso
    omega
  | succ m ih =>
    intro u j  i0 i1 hmu
    refine fxz_284 400 ?_
    refine And.intro (fun (h1 : ((60 : Int) ≤ j : Prop)) => ?_) (fun (h1 : (j < (60 : Int) : Prop)) => ?_)
    ·
      exact hk u (by omega)
    ·
      refine c_at0 (n := j) p0 (show 0 ≤ j ∧ j < 60 by omega) (fun (z2 : Int) (q3 : z2 = aN S j 0 ∧ 0 ≤ z2 ∧ z2 ≤ 2) => ?_)
      refine And.intro (fun (h4 : (z2 ≠ (2 : Int) : Prop)) => ?_) (fun (h4 : (z2 = (2 : Int) : Prop)) => ?_)
      ·
        refine And.intro (show -2147483648 ≤ (u + (0 : Int)) ∧ (u + (0 : Int)) < 2147483648 by omega) ?_
        refine And.intro (by decide) ?_
        refine And.intro (by decide) (And.intro (show -2147483648 ≤ j + (1 : Int) ∧ j + (1 : Int) < 2147483648 by omega) ?_)
        exact ih (u + (0 : Int)) (j + (1 : Int))  (by omega) (by omega) (by omega)
      ·
        refine c_StubHouseModel_inStore (f := j) (s := s) p0 (show 0 ≤ j ∧ j < 60 by omega) (show -2147483648 ≤ s ∧ s < 2147483648 by omega) (fun (z6 : Int) (q7 : 0 ≤ z6 ∧ z6 ≤ 32 ∧ (0 < z6 → SOM j s S)) => ?_)
        refine And.intro (show -2147483648 ≤ (u + z6) ∧ (u + z6) < 2147483648 by omega) ?_
        refine And.intro (by decide) ?_
        refine And.intro (by decide) (And.intro (show -2147483648 ≤ j + (1 : Int) ∧ j + (1 : Int) < 2147483648 by omega) ?_)
        exact ih (u + z6) (j + (1 : Int))  (by omega) (by omega) (by omega)
theorem c_StubHouseModel_inUse {l : Launch} {k : fxK} {S : fxS} {s : Int} (p0 : COL S) (p1 : -2147483648 ≤ s ∧ s < 2147483648) (hk : ∀ (r : Int) , (0 ≤ r ∧ r ≤ 1920) → k (some (.inl r)) S) : fC l 284 [.inr (.inr (49, 0)), .inl s] S k := by
  refine fxe_284 (Nat.le_of_ble_eq_true rfl) (fxz_284 400 ?_)
  refine And.intro (by decide) ?_
  refine And.intro (by decide) ?_
  exact (z_StubHouseModel_inUse p0 p1 hk (61 - (1 : Int)).toNat) (0 : Int) (1 : Int)  (by omega) (by omega) (by omega)
theorem c_StubHouseModel_rank {l : Launch} {k : fxK} {S : fxS} {f : Int} (p0 : COL S) (p1 : 0 ≤ f ∧ f < 60) (hk : ∀ (r : Int) , (r = rkF S f ∧ -2147483648 ≤ r ∧ r < 2147483648) → k (some (.inl r)) S) : fC l 285 [.inr (.inr (49, 0)), .inl f] S k := by
  refine fxe_285 (Nat.le_of_ble_eq_true rfl) (fxz_285 400 ?_)
  intro z1 (z1a : (-2147483648 : Int) ≤ z1) (z1b : z1 ≤ (2147483647 : Int)) (z1c : z1 = S 49 0 11)
  refine And.intro (show 0 ≤ f ∧ f < 60 by omega) ?_
  intro z2 (z2a : (-2147483648 : Int) ≤ z2) (z2b : z2 ≤ (2147483647 : Int)) (z2c : z2 = S 52 0 (f).toNat)
  intro z3 (z3a : -2147483648 ≤ z3) (z3b : z3 < 2147483648) (z3c : z3 = (Int32.ofInt (z1 - z2)).toInt)
  have r1 : z3 = (Int32.ofInt (S 49 0 11 - S 52 0 (f).toNat)).toInt := by rw [z3c]; congr 2; omega
  refine c_StubHouseModel_blocks (n := f) p0 (show 0 ≤ f ∧ f < 60 by omega) (fun (z4 : Int) (q5 : z4 = (aN S f 3 + 31) / 32 ∧ 0 ≤ z4 ∧ z4 ≤ 32) => ?_)
  have hb : z4 = (aN S f 3 + 31) / 32 := q5.1
  intro z6 (z6a : -2147483648 ≤ z6) (z6b : z6 < 2147483648) (z6c : z6 = (Int32.ofInt ((4 : Int) * z4)).toInt)
  have r2 : z6 = (Int32.ofInt (4 * ((aN S f 3 + 31) / 32))).toInt := by rw [z6c]; congr 2; omega
  intro z7 (z7a : -2147483648 ≤ z7) (z7b : z7 < 2147483648) (z7c : z7 = (Int32.ofInt (z3 + z6)).toInt)
  have r3 : z7 = rkF S f := by rw [z7c]; unfold rkF; congr 2; omega
  exact hk z7 (by exact ⟨r3, by omega, by omega⟩)
theorem z_StubHouseModel_nextByRank {l : Launch} {k : fxK} {S : fxS} {s : Int} {b : Int} (p0 : COL S) (p1 : -2 ≤ b ∧ b < 60) (p2 : -2147483648 ≤ s ∧ s < 2147483648) (hk : ∀ (r : Int) , (-2 ≤ r ∧ r < 60 ∧ r ≠ -1 ∧ r ≠ 0 ∧ (0 ≤ r → aN S r 0 = 2 ∧ SOM r s S ∧ (b < 0 ∨ rkF S r < rkF S b ∨ (rkF S r = rkF S b ∧ b < r)))) → k (some (.inl r)) S) : ∀ m : Nat, (∀ (a j : Int), (1 ≤ j ∧ j ≤ 60) → (-2 ≤ a ∧ a < 60 ∧ a ≠ -1 ∧ a ≠ 0) → (0 ≤ a → aN S a 0 = 2 ∧ SOM a s S ∧ (b < 0 ∨ rkF S a < rkF S b ∨ (rkF S a = rkF S b ∧ b < a))) → 61 - j ≤ (m : Int) → fZ l 286 k 6 [some (.inr (.inr (49, 0))), some (.inl s), some (.inl b), some (.inl a), some (.inl j), none] [] S) := by
  intro m
  induction m with
  | zero =>
    intro a j  i0 i1 i2 hmu
    exfalso
    omega
  | succ m ih =>
    intro a j  i0 i1 i2 hmu
    refine fxz_286 400 ?_
    refine And.intro (fun (h1 : ((60 : Int) ≤ j : Prop)) => ?_) (fun (h1 : (j < (60 : Int) : Prop)) => ?_)
    ·
      exact hk a (by exact ⟨by omega, by omega, by omega, by omega, i2⟩)
    ·
      refine c_at0 (n := j) p0 (show 0 ≤ j ∧ j < 60 by omega) (fun (z2 : Int) (q3 : z2 = aN S j 0 ∧ 0 ≤ z2 ∧ z2 ≤ 2) => ?_)
      refine And.intro (fun (h4 : (z2 ≠ (2 : Int) : Prop)) => ?_) (fun (h4 : (z2 = (2 : Int) : Prop)) => ?_)
      ·
        refine And.intro (by decide) (And.intro (show -2147483648 ≤ j + (1 : Int) ∧ j + (1 : Int) < 2147483648 by omega) ?_)
        exact ih a (j + (1 : Int))  (by first | omega | exact i2 | exact fun h => absurd h (by omega) | exact fun _ => ⟨by omega, so0 (by omega), by omega⟩) (by first | omega | exact i2 | exact fun h => absurd h (by omega) | exact fun _ => ⟨by omega, so0 (by omega), by omega⟩) (by first | omega | exact i2 | exact fun h => absurd h (by omega) | exact fun _ => ⟨by omega, so0 (by omega), by omega⟩) (by omega)
      ·
        refine c_StubHouseModel_inStore (f := j) (s := s) p0 (show 0 ≤ j ∧ j < 60 by omega) (show -2147483648 ≤ s ∧ s < 2147483648 by omega) (fun (z6 : Int) (q7 : 0 ≤ z6 ∧ z6 ≤ 32 ∧ (0 < z6 → SOM j s S)) => ?_)
        have so0 : 0 < z6 → SOM j s S := q7.2.2
        refine And.intro (fun (h8 : (z6 ≤ (0 : Int) : Prop)) => ?_) (fun (h8 : ((0 : Int) < z6 : Prop)) => ?_)
        ·
          refine And.intro (by decide) (And.intro (show -2147483648 ≤ j + (1 : Int) ∧ j + (1 : Int) < 2147483648 by omega) ?_)
          exact ih a (j + (1 : Int))  (by first | omega | exact i2 | exact fun h => absurd h (by omega) | exact fun _ => ⟨by omega, so0 (by omega), by omega⟩) (by first | omega | exact i2 | exact fun h => absurd h (by omega) | exact fun _ => ⟨by omega, so0 (by omega), by omega⟩) (by first | omega | exact i2 | exact fun h => absurd h (by omega) | exact fun _ => ⟨by omega, so0 (by omega), by omega⟩) (by omega)
        ·
          refine And.intro (fun (h10 : (b < (0 : Int) : Prop)) => ?_) (fun (h10 : ((0 : Int) ≤ b : Prop)) => ?_)
          ·
            refine And.intro (by decide) ?_
            refine And.intro (fun h => absurd h (by decide)) (fun _ => ?_)
            refine And.intro (fun (h11 : (a < (0 : Int) : Prop)) => ?_) (fun (h11 : ((0 : Int) ≤ a : Prop)) => ?_)
            ·
              refine And.intro (by decide) ?_
              refine And.intro (by decide) (And.intro (show -2147483648 ≤ j + (1 : Int) ∧ j + (1 : Int) < 2147483648 by omega) ?_)
              exact ih j (j + (1 : Int))  (by first | omega | exact i2 | exact fun h => absurd h (by omega) | exact fun _ => ⟨by omega, so0 (by omega), by omega⟩) (by first | omega | exact i2 | exact fun h => absurd h (by omega) | exact fun _ => ⟨by omega, so0 (by omega), by omega⟩) (by first | omega | exact i2 | exact fun h => absurd h (by omega) | exact fun _ => ⟨by omega, so0 (by omega), by omega⟩) (by omega)
            ·
              refine c_StubHouseModel_rank (f := j) p0 (show 0 ≤ j ∧ j < 60 by omega) (fun (z13 : Int) (q14 : z13 = rkF S j ∧ -2147483648 ≤ z13 ∧ z13 < 2147483648) => ?_)
              refine c_StubHouseModel_rank (f := a) p0 (show 0 ≤ a ∧ a < 60 by omega) (fun (z15 : Int) (q16 : z15 = rkF S a ∧ -2147483648 ≤ z15 ∧ z15 < 2147483648) => ?_)
              refine And.intro (fun (h17 : (z13 ≤ z15 : Prop)) => ?_) (fun (h17 : (z15 < z13 : Prop)) => ?_)
              ·
                refine And.intro (by decide) ?_
                refine And.intro (by decide) (And.intro (show -2147483648 ≤ j + (1 : Int) ∧ j + (1 : Int) < 2147483648 by omega) ?_)
                exact ih a (j + (1 : Int))  (by first | omega | exact i2 | exact fun h => absurd h (by omega) | exact fun _ => ⟨by omega, so0 (by omega), by omega⟩) (by first | omega | exact i2 | exact fun h => absurd h (by omega) | exact fun _ => ⟨by omega, so0 (by omega), by omega⟩) (by first | omega | exact i2 | exact fun h => absurd h (by omega) | exact fun _ => ⟨by omega, so0 (by omega), by omega⟩) (by omega)
              ·
                refine And.intro (by decide) ?_
                refine And.intro (by decide) (And.intro (show -2147483648 ≤ j + (1 : Int) ∧ j + (1 : Int) < 2147483648 by omega) ?_)
                exact ih j (j + (1 : Int))  (by first | omega | exact i2 | exact fun h => absurd h (by omega) | exact fun _ => ⟨by omega, so0 (by omega), by omega⟩) (by first | omega | exact i2 | exact fun h => absurd h (by omega) | exact fun _ => ⟨by omega, so0 (by omega), by omega⟩) (by first | omega | exact i2 | exact fun h => absurd h (by omega) | exact fun _ => ⟨by omega, so0 (by omega), by omega⟩) (by omega)
          ·
            refine c_StubHouseModel_rank (f := j) p0 (show 0 ≤ j ∧ j < 60 by omega) (fun (z20 : Int) (q21 : z20 = rkF S j ∧ -2147483648 ≤ z20 ∧ z20 < 2147483648) => ?_)
            refine c_StubHouseModel_rank (f := b) p0 (show 0 ≤ b ∧ b < 60 by omega) (fun (z22 : Int) (q23 : z22 = rkF S b ∧ -2147483648 ≤ z22 ∧ z22 < 2147483648) => ?_)
            refine And.intro (fun (h24 : (z20 < z22 : Prop)) => ?_) (fun (h24 : (z22 ≤ z20 : Prop)) => ?_)
            ·
              refine And.intro (by decide) ?_
              refine And.intro (fun h => absurd h (by decide)) (fun _ => ?_)
              refine And.intro (fun (h25 : (a < (0 : Int) : Prop)) => ?_) (fun (h25 : ((0 : Int) ≤ a : Prop)) => ?_)
              ·
                refine And.intro (by decide) ?_
                refine And.intro (by decide) (And.intro (show -2147483648 ≤ j + (1 : Int) ∧ j + (1 : Int) < 2147483648 by omega) ?_)
                exact ih j (j + (1 : Int))  (by first | omega | exact i2 | exact fun h => absurd h (by omega) | exact fun _ => ⟨by omega, so0 (by omega), by omega⟩) (by first | omega | exact i2 | exact fun h => absurd h (by omega) | exact fun _ => ⟨by omega, so0 (by omega), by omega⟩) (by first | omega | exact i2 | exact fun h => absurd h (by omega) | exact fun _ => ⟨by omega, so0 (by omega), by omega⟩) (by omega)
              ·
                refine c_StubHouseModel_rank (f := j) p0 (show 0 ≤ j ∧ j < 60 by omega) (fun (z27 : Int) (q28 : z27 = rkF S j ∧ -2147483648 ≤ z27 ∧ z27 < 2147483648) => ?_)
                refine c_StubHouseModel_rank (f := a) p0 (show 0 ≤ a ∧ a < 60 by omega) (fun (z29 : Int) (q30 : z29 = rkF S a ∧ -2147483648 ≤ z29 ∧ z29 < 2147483648) => ?_)
                refine And.intro (fun (h31 : (z27 ≤ z29 : Prop)) => ?_) (fun (h31 : (z29 < z27 : Prop)) => ?_)
                ·
                  refine And.intro (by decide) ?_
                  refine And.intro (by decide) (And.intro (show -2147483648 ≤ j + (1 : Int) ∧ j + (1 : Int) < 2147483648 by omega) ?_)
                  exact ih a (j + (1 : Int))  (by first | omega | exact i2 | exact fun h => absurd h (by omega) | exact fun _ => ⟨by omega, so0 (by omega), by omega⟩) (by first | omega | exact i2 | exact fun h => absurd h (by omega) | exact fun _ => ⟨by omega, so0 (by omega), by omega⟩) (by first | omega | exact i2 | exact fun h => absurd h (by omega) | exact fun _ => ⟨by omega, so0 (by omega), by omega⟩) (by omega)
                ·
                  refine And.intro (by decide) ?_
                  refine And.intro (by decide) (And.intro (show -2147483648 ≤ j + (1 : Int) ∧ j + (1 : Int) < 2147483648 by omega) ?_)
                  exact ih j (j + (1 : Int))  (by first | omega | exact i2 | exact fun h => absurd h (by omega) | exact fun _ => ⟨by omega, so0 (by omega), by omega⟩) (by first | omega | exact i2 | exact fun h => absurd h (by omega) | exact fun _ => ⟨by omega, so0 (by omega), by omega⟩) (by first | omega | exact i2 | exact fun h => absurd h (by omega) | exact fun _ => ⟨by omega, so0 (by omega), by omega⟩) (by omega)
            ·
              refine c_StubHouseModel_rank (f := j) p0 (show 0 ≤ j ∧ j < 60 by omega) (fun (z34 : Int) (q35 : z34 = rkF S j ∧ -2147483648 ≤ z34 ∧ z34 < 2147483648) => ?_)
              refine c_StubHouseModel_rank (f := b) p0 (show 0 ≤ b ∧ b < 60 by omega) (fun (z36 : Int) (q37 : z36 = rkF S b ∧ -2147483648 ≤ z36 ∧ z36 < 2147483648) => ?_)
              refine And.intro (fun (h38 : (z34 ≠ z36 : Prop)) => ?_) (fun (h38 : (z34 = z36 : Prop)) => ?_)
              ·
                refine And.intro (by decide) ?_
                refine And.intro (fun _ => ?_) (fun h => absurd h (by decide))
                refine And.intro (by decide) ?_
                refine And.intro (by decide) (And.intro (show -2147483648 ≤ j + (1 : Int) ∧ j + (1 : Int) < 2147483648 by omega) ?_)
                exact ih a (j + (1 : Int))  (by first | omega | exact i2 | exact fun h => absurd h (by omega) | exact fun _ => ⟨by omega, so0 (by omega), by omega⟩) (by first | omega | exact i2 | exact fun h => absurd h (by omega) | exact fun _ => ⟨by omega, so0 (by omega), by omega⟩) (by first | omega | exact i2 | exact fun h => absurd h (by omega) | exact fun _ => ⟨by omega, so0 (by omega), by omega⟩) (by omega)
              ·
                refine And.intro (fun (h40 : (j ≤ b : Prop)) => ?_) (fun (h40 : (b < j : Prop)) => ?_)
                ·
                  refine And.intro (by decide) ?_
                  refine And.intro (fun _ => ?_) (fun h => absurd h (by decide))
                  refine And.intro (by decide) ?_
                  refine And.intro (by decide) (And.intro (show -2147483648 ≤ j + (1 : Int) ∧ j + (1 : Int) < 2147483648 by omega) ?_)
                  exact ih a (j + (1 : Int))  (by first | omega | exact i2 | exact fun h => absurd h (by omega) | exact fun _ => ⟨by omega, so0 (by omega), by omega⟩) (by first | omega | exact i2 | exact fun h => absurd h (by omega) | exact fun _ => ⟨by omega, so0 (by omega), by omega⟩) (by first | omega | exact i2 | exact fun h => absurd h (by omega) | exact fun _ => ⟨by omega, so0 (by omega), by omega⟩) (by omega)
                ·
                  refine And.intro (by decide) ?_
                  refine And.intro (fun h => absurd h (by decide)) (fun _ => ?_)
                  refine And.intro (fun (h42 : (a < (0 : Int) : Prop)) => ?_) (fun (h42 : ((0 : Int) ≤ a : Prop)) => ?_)
                  ·
                    refine And.intro (by decide) ?_
                    refine And.intro (by decide) (And.intro (show -2147483648 ≤ j + (1 : Int) ∧ j + (1 : Int) < 2147483648 by omega) ?_)
                    exact ih j (j + (1 : Int))  (by first | omega | exact i2 | exact fun h => absurd h (by omega) | exact fun _ => ⟨by omega, so0 (by omega), by omega⟩) (by first | omega | exact i2 | exact fun h => absurd h (by omega) | exact fun _ => ⟨by omega, so0 (by omega), by omega⟩) (by first | omega | exact i2 | exact fun h => absurd h (by omega) | exact fun _ => ⟨by omega, so0 (by omega), by omega⟩) (by omega)
                  ·
                    refine c_StubHouseModel_rank (f := j) p0 (show 0 ≤ j ∧ j < 60 by omega) (fun (z44 : Int) (q45 : z44 = rkF S j ∧ -2147483648 ≤ z44 ∧ z44 < 2147483648) => ?_)
                    refine c_StubHouseModel_rank (f := a) p0 (show 0 ≤ a ∧ a < 60 by omega) (fun (z46 : Int) (q47 : z46 = rkF S a ∧ -2147483648 ≤ z46 ∧ z46 < 2147483648) => ?_)
                    refine And.intro (fun (h48 : (z44 ≤ z46 : Prop)) => ?_) (fun (h48 : (z46 < z44 : Prop)) => ?_)
                    ·
                      refine And.intro (by decide) ?_
                      refine And.intro (by decide) (And.intro (show -2147483648 ≤ j + (1 : Int) ∧ j + (1 : Int) < 2147483648 by omega) ?_)
                      exact ih a (j + (1 : Int))  (by first | omega | exact i2 | exact fun h => absurd h (by omega) | exact fun _ => ⟨by omega, so0 (by omega), by omega⟩) (by first | omega | exact i2 | exact fun h => absurd h (by omega) | exact fun _ => ⟨by omega, so0 (by omega), by omega⟩) (by first | omega | exact i2 | exact fun h => absurd h (by omega) | exact fun _ => ⟨by omega, so0 (by omega), by omega⟩) (by omega)
                    ·
                      refine And.intro (by decide) ?_
                      refine And.intro (by decide) (And.intro (show -2147483648 ≤ j + (1 : Int) ∧ j + (1 : Int) < 2147483648 by omega) ?_)
                      exact ih j (j + (1 : Int))  (by first | omega | exact i2 | exact fun h => absurd h (by omega) | exact fun _ => ⟨by omega, so0 (by omega), by omega⟩) (by first | omega | exact i2 | exact fun h => absurd h (by omega) | exact fun _ => ⟨by omega, so0 (by omega), by omega⟩) (by first | omega | exact i2 | exact fun h => absurd h (by omega) | exact fun _ => ⟨by omega, so0 (by omega), by omega⟩) (by omega)
theorem c_StubHouseModel_nextByRank {l : Launch} {k : fxK} {S : fxS} {s : Int} {b : Int} (p0 : COL S) (p1 : -2 ≤ b ∧ b < 60) (p2 : -2147483648 ≤ s ∧ s < 2147483648) (hk : ∀ (r : Int) , (-2 ≤ r ∧ r < 60 ∧ r ≠ -1 ∧ r ≠ 0 ∧ (0 ≤ r → aN S r 0 = 2 ∧ SOM r s S ∧ (b < 0 ∨ rkF S r < rkF S b ∨ (rkF S r = rkF S b ∧ b < r)))) → k (some (.inl r)) S) : fC l 286 [.inr (.inr (49, 0)), .inl s, .inl b] S k := by
  refine fxe_286 (Nat.le_of_ble_eq_true rfl) (fxz_286 400 ?_)
  refine And.intro (by decide) ?_
  refine And.intro (by decide) ?_
  exact (z_StubHouseModel_nextByRank p0 p1 p2 hk (61 - (1 : Int)).toNat) (-2 : Int) (1 : Int)  (by first | omega | exact i2 | exact fun h => absurd h (by omega) | exact fun _ => ⟨by omega, so0 (by omega), by omega⟩) (by first | omega | exact i2 | exact fun h => absurd h (by omega) | exact fun _ => ⟨by omega, so0 (by omega), by omega⟩) (by first | omega | exact i2 | exact fun h => absurd h (by omega) | exact fun _ => ⟨by omega, so0 (by omega), by omega⟩) (by omega)
theorem z_StubHouseModel_sink {l : Launch} {k : fxK} {S : fxS} {f : Int} (p0 : COL S) (p1 : WTM S) (p2 : INJ S) (p3 : AON S) (p4 : USE S) (p5 : REC S) (p6 : SOM f 0 S) (p7 : 0 ≤ f ∧ f < 60) (p8 : aN S f 0 = 2) (p9 : 1 ≤ fcn (S 56 0) 48 160) (hk : ∀ (S' : fxS) , (fxfr [(50, 9999), (56, 9999), (57, 9999)] S S' ∧ (COL S') ∧ (WTM S') ∧ (INJ S') ∧ (AON S') ∧ (USE S') ∧ (REC S')) → k none S') : ∀ m : Nat, (∀ (j : Int) (S1 : fxS), (fxfr [(50, 9999), (56, 9999), (57, 9999)] S S1) → (0 ≤ j ∧ j ≤ 32) → (aN S1 f 0 = 2) → (1 ≤ fcn (S1 56 0) 48 160) → (COL S1) → (WTM S1) → (INJ S1) → (AON S1) → (USE S1) → (REC S1) → (SOJ f j S1) → 1000 - j ≤ (m : Int) → fZ l 287 k 2 [some (.inr (.inr (49, 0))), some (.inl f), some (.inl j), none, none, none] [] S1) ∧ (∀ (p o b j : Int) (S1 : fxS), (fxfr [(50, 9999), (56, 9999), (57, 9999)] S S1) → (0 ≤ p ∧ p < 32) → (aN S1 f 0 = 2) → (0 ≤ o ∧ o < 48 ∧ o = aN S1 f (10 + p)) → (48 ≤ b ∧ b < 208) → (0 ≤ j ∧ j ≤ 32) → (COL S1) → (WTM S1) → (INJ S1) → (AON S1) → (USE S1) → (REC S1) → (NLB b S1) → (GVN b S1) → 33 - j ≤ (m : Int) → fZ l 287 k 58 [some (.inr (.inr (49, 0))), some (.inl f), some (.inl p), some (.inl o), some (.inl b), some (.inl j)] [] S1) := by
  intro m
  induction m with
  | zero =>
    refine ⟨?_, ?_⟩
    · intro j S1 hf i0 i1 i2 i3 i4 i5 i6 i7 i8 i9 hmu
      exfalso
      omega
    · intro p o b j S1 hf i0 i1 i2 i3 i4 i5 i6 i7 i8 i9 i10 i11 i12 hmu
      exfalso
      omega
  | succ m ih =>
    refine ⟨?_, ?_⟩
    · intro j S1 hf i0 i1 i2 i3 i4 i5 i6 i7 i8 i9 hmu
      refine fxz_287 400 ?_
      have sl := SOJ_lt i9
      refine And.intro (show -2147483648 ≤ ((10 : Int) + j) ∧ ((10 : Int) + j) < 2147483648 by omega) ?_
      refine c_atb (n := f) (w := ((10 : Int) + j)) i3 (show 0 ≤ f ∧ f < 60 by omega) (show 10 ≤ ((10 : Int) + j) ∧ ((10 : Int) + j) < 42 by omega) (fun (z1 : Int) (q2 : z1 = aN S1 f ((10 : Int) + j) ∧ -1 ≤ z1 ∧ z1 ≤ 207) => ?_)
      refine And.intro (fun (h3 : (z1 < (0 : Int) : Prop)) => ?_) (fun (h3 : ((0 : Int) ≤ z1 : Prop)) => ?_)
      ·
        refine And.intro (by decide) (And.intro (show -2147483648 ≤ j + (1 : Int) ∧ j + (1 : Int) < 2147483648 by omega) ?_)
        have sk : SOJ f (j + (1 : Int)) S1 := SOJ_step i9 (by omega)
        exact ih.1 (j + (1 : Int)) S1 hf (by omega) (by omega) (by omega) i3 i4 i5 i6 i7 i8 sk (by omega)
      ·
        refine And.intro (show -2147483648 ≤ ((10 : Int) + j) ∧ ((10 : Int) + j) < 2147483648 by omega) ?_
        refine c_atb (n := f) (w := ((10 : Int) + j)) i3 (show 0 ≤ f ∧ f < 60 by omega) (show 10 ≤ ((10 : Int) + j) ∧ ((10 : Int) + j) < 42 by omega) (fun (z5 : Int) (q6 : z5 = aN S1 f ((10 : Int) + j) ∧ -1 ≤ z5 ∧ z5 ≤ 207) => ?_)
        refine And.intro (fun (h7 : (z5 < (48 : Int) : Prop)) => ?_) (fun (h7 : ((48 : Int) ≤ z5 : Prop)) => ?_)
        ·
          refine And.intro (show -2147483648 ≤ ((10 : Int) + j) ∧ ((10 : Int) + j) < 2147483648 by omega) ?_
          refine c_atb (n := f) (w := ((10 : Int) + j)) i3 (show 0 ≤ f ∧ f < 60 by omega) (show 10 ≤ ((10 : Int) + j) ∧ ((10 : Int) + j) < 42 by omega) (fun (z8 : Int) (q9 : z8 = aN S1 f ((10 : Int) + j) ∧ -1 ≤ z8 ∧ z8 ≤ 207) => ?_)
          refine And.intro (by decide) ?_
          refine c_give_48_208  i7 (fun (z10 : Int) (S11 : fxS) ⟨(f12 : fxfr [(56, 9999)] S1 S11), (q13 : -2 ≤ z10 ∧ z10 < 208 ∧ z10 ≠ -1 ∧ (0 ≤ z10 → 48 ≤ z10 ∧ S1 56 0 (z10).toNat = 0) ∧ (z10 < 0 → fcn (S1 56 0) 48 160 ≤ 0)), (g14 : USE S11), (g15 : UP1 z10 S1 S11)⟩ => ?_)
          have w16 : aN S11 f (0 : Int) = aN S1 f (0 : Int) := (aN_fr f12 rfl)
          have w17 : aN S11 f ((10 : Int) + j) = aN S1 f ((10 : Int) + j) := (aN_fr f12 rfl)
          have g18 : COL S11 := fx_pfr COL_stab f12 rfl i3
          have g19 : WTM S11 := fx_pfr WTM_stab f12 rfl i4
          have g20 : INJ S11 := fx_pfr INJ_stab f12 rfl i5
          have g21 : AON S11 := fx_pfr AON_stab f12 rfl i6
          have g22 : REC S11 := fx_pfr REC_stab f12 rfl i8
          have g23 : SOJ f j S11 := fx_pfr SOJ_stab f12 rfl i9
          have nl : NLB z10 S11 := fx_pfr NLB_stab f12 rfl (NLB_of i7 (by omega))
          have gv : GVN z10 S11 := (by assumption : UP1 z10 S1 S11).2 (by omega)
          refine And.intro (by decide) ?_
          refine And.intro (by decide) ?_
          exact ih.2 j z8 z10 (0 : Int) S11 (fxfr_tr hf f12 rfl) (by omega) (by omega) (by omega) (by omega) (by omega) g18 g19 g20 g21 g14 g22 nl gv (by omega)
        ·
          refine And.intro (by decide) (And.intro (show -2147483648 ≤ j + (1 : Int) ∧ j + (1 : Int) < 2147483648 by omega) ?_)
          have sk : SOJ f (j + (1 : Int)) S1 := SOJ_step i9 (by omega)
          exact ih.1 (j + (1 : Int)) S1 hf (by omega) (by omega) (by omega) i3 i4 i5 i6 i7 i8 sk (by omega)
    · intro p o b j S1 hf i0 i1 i2 i3 i4 i5 i6 i7 i8 i9 i10 i11 i12 hmu
      refine fxz_287 400 ?_
      refine And.intro (fun (h25 : ((32 : Int) ≤ j : Prop)) => ?_) (fun (h25 : (j < (32 : Int) : Prop)) => ?_)
      ·
        refine And.intro (show 0 ≤ o ∧ o < 208 by omega) ?_
        refine And.intro (show (0 : Int) ≤ (2 : Int) ∧ (2 : Int) ≤ (2 : Int) by omega) ?_
        have w26 : aN (fx_up S1 56 0 (o).toNat (2 : Int)) f (0 : Int) = aN S1 f (0 : Int) := (aN_o rfl)
        have w27 : aN (fx_up S1 56 0 (o).toNat (2 : Int)) f ((10 : Int) + p) = aN S1 f ((10 : Int) + p) := (aN_o rfl)
        have g28 : COL (fx_up S1 56 0 (o).toNat (2 : Int)) := fx_pup COL_stab rfl i5
        have g29 : WTM (fx_up S1 56 0 (o).toNat (2 : Int)) := fx_pup WTM_stab rfl i6
        have g30 : INJ (fx_up S1 56 0 (o).toNat (2 : Int)) := fx_pup INJ_stab rfl i7
        have g31 : AON (fx_up S1 56 0 (o).toNat (2 : Int)) := fx_pup AON_stab rfl i8
        have g32 : REC (fx_up S1 56 0 (o).toNat (2 : Int)) := fx_pup REC_stab rfl i10
        have g33 : NLB b (fx_up S1 56 0 (o).toNat (2 : Int)) := fx_pup NLB_stab rfl i11
        refine And.intro (show -2147483648 ≤ ((10 : Int) + p) ∧ ((10 : Int) + p) < 2147483648 by omega) ?_
        refine c_set (n := f) (w := ((10 : Int) + p)) (v := b) (show 0 ≤ f ∧ f < 60 by omega) (show 0 ≤ ((10 : Int) + p) ∧ ((10 : Int) + p) < 42 by omega) (show -2147483648 ≤ b ∧ b < 2147483648 by omega) ?_
        have w34 : fcn ((fx_up (fx_up S1 56 0 (o).toNat (2 : Int)) 50 0 (42 * f + ((10 : Int) + p)).toNat b) 56 0) 48 160 = fcn ((fx_up S1 56 0 (o).toNat (2 : Int)) 56 0) 48 160 := rfl
        have w35 : aN (fx_up (fx_up S1 56 0 (o).toNat (2 : Int)) 50 0 (42 * f + ((10 : Int) + p)).toNat b) f (0 : Int) = aN S1 f (0 : Int) := (aN_ne (S := (fx_up S1 56 0 (o).toNat (2 : Int))) (by omega) (by omega) (by omega)).trans (aN_o rfl)
        have w36 : aN (fx_up (fx_up S1 56 0 (o).toNat (2 : Int)) 50 0 (42 * f + ((10 : Int) + p)).toNat b) f ((10 : Int) + p) = b := aN_eq
        have g37 : COL (fx_up (fx_up S1 56 0 (o).toNat (2 : Int)) 50 0 (42 * f + ((10 : Int) + p)).toNat b) := COL_set g28 (by omega) (by omega) (by omega)
        have g38 : WTM (fx_up (fx_up S1 56 0 (o).toNat (2 : Int)) 50 0 (42 * f + ((10 : Int) + p)).toNat b) := WTM_set g29 (by omega) (by omega)
        have g39 : REC (fx_up (fx_up S1 56 0 (o).toNat (2 : Int)) 50 0 (42 * f + ((10 : Int) + p)).toNat b) := REC_set g32 (by omega) (by omega)
        have ij : INJ (fx_up (fx_up S1 56 0 (o).toNat (2 : Int)) 50 0 (42 * f + ((10 : Int) + p)).toNat b) := INJ_rnw2 i7 i11 (by omega) (by omega)
        have ao : AON (fx_up (fx_up S1 56 0 (o).toNat (2 : Int)) 50 0 (42 * f + ((10 : Int) + p)).toNat b) := AON_swap i8 (by omega) (by omega) (by omega) (by omega)
        have us : USE (fx_up (fx_up S1 56 0 (o).toNat (2 : Int)) 50 0 (42 * f + ((10 : Int) + p)).toNat b) := USE_out (S := S1) (b := b) i9 i7 (by omega) (by omega) (by omega) (by omega) (by omega) (Or.inr ⟨by omega, NLB_ne (S := S1) (f := f) (p := p) i11 (by omega) (by omega) (by omega) (by omega) (by omega), i12⟩)
        exact hk (fx_up (fx_up S1 56 0 (o).toNat (2 : Int)) 50 0 (42 * f + ((10 : Int) + p)).toNat b) ⟨(fxfr_up (fxfr_up hf rfl) rfl), g37, g38, ij, ao, us, g39⟩
      ·
        refine And.intro (show -2147483648 ≤ ((32 : Int) * b) ∧ ((32 : Int) * b) < 2147483648 by omega) ?_
        refine And.intro (show -2147483648 ≤ (((32 : Int) * b) + j) ∧ (((32 : Int) * b) + j) < 2147483648 by omega) ?_
        refine And.intro (show -2147483648 ≤ ((32 : Int) * o) ∧ ((32 : Int) * o) < 2147483648 by omega) ?_
        refine And.intro (show -2147483648 ≤ (((32 : Int) * o) + j) ∧ (((32 : Int) * o) + j) < 2147483648 by omega) ?_
        refine And.intro (show 0 ≤ (((32 : Int) * o) + j) ∧ (((32 : Int) * o) + j) < 6656 by omega) ?_
        intro z40 (z40a : (-128 : Int) ≤ z40) (z40b : z40 ≤ (127 : Int)) (z40c : z40 = S1 57 0 ((((32 : Int) * o) + j)).toNat)
        refine And.intro (show 0 ≤ (((32 : Int) * b) + j) ∧ (((32 : Int) * b) + j) < 6656 by omega) ?_
        intro z41 z41a z41b z41c
        have w42 : fcn ((fx_up S1 57 0 ((((32 : Int) * b) + j)).toNat z41) 56 0) 48 160 = fcn (S1 56 0) 48 160 := rfl
        have w43 : aN (fx_up S1 57 0 ((((32 : Int) * b) + j)).toNat z41) f (0 : Int) = aN S1 f (0 : Int) := (aN_o rfl)
        have w44 : aN (fx_up S1 57 0 ((((32 : Int) * b) + j)).toNat z41) f ((10 : Int) + p) = aN S1 f ((10 : Int) + p) := (aN_o rfl)
        have g45 : COL (fx_up S1 57 0 ((((32 : Int) * b) + j)).toNat z41) := fx_pup COL_stab rfl i5
        have g46 : WTM (fx_up S1 57 0 ((((32 : Int) * b) + j)).toNat z41) := fx_pup WTM_stab rfl i6
        have g47 : INJ (fx_up S1 57 0 ((((32 : Int) * b) + j)).toNat z41) := fx_pup INJ_stab rfl i7
        have g48 : AON (fx_up S1 57 0 ((((32 : Int) * b) + j)).toNat z41) := fx_pup AON_stab rfl i8
        have g49 : USE (fx_up S1 57 0 ((((32 : Int) * b) + j)).toNat z41) := fx_pup USE_stab rfl i9
        have g50 : REC (fx_up S1 57 0 ((((32 : Int) * b) + j)).toNat z41) := fx_pup REC_stab rfl i10
        have g51 : NLB b (fx_up S1 57 0 ((((32 : Int) * b) + j)).toNat z41) := fx_pup NLB_stab rfl i11
        have g52 : GVN b (fx_up S1 57 0 ((((32 : Int) * b) + j)).toNat z41) := fx_pup GVN_stab rfl i12
        refine And.intro (by decide) (And.intro (show -2147483648 ≤ j + (1 : Int) ∧ j + (1 : Int) < 2147483648 by omega) ?_)
        exact ih.2 p o b (j + (1 : Int)) (fx_up S1 57 0 ((((32 : Int) * b) + j)).toNat z41) (fxfr_up hf rfl) (by omega) (by omega) (by omega) (by omega) (by omega) g45 g46 g47 g48 g49 g50 g51 g52 (by omega)
theorem c_StubHouseModel_sink {l : Launch} {k : fxK} {S : fxS} {f : Int} (p0 : COL S) (p1 : WTM S) (p2 : INJ S) (p3 : AON S) (p4 : USE S) (p5 : REC S) (p6 : SOM f 0 S) (p7 : 0 ≤ f ∧ f < 60) (p8 : aN S f 0 = 2) (p9 : 1 ≤ fcn (S 56 0) 48 160) (hk : ∀ (S' : fxS) , (fxfr [(50, 9999), (56, 9999), (57, 9999)] S S' ∧ (COL S') ∧ (WTM S') ∧ (INJ S') ∧ (AON S') ∧ (USE S') ∧ (REC S')) → k none S') : fC l 287 [.inr (.inr (49, 0)), .inl f] S k := by
  refine fxe_287 (Nat.le_of_ble_eq_true rfl) (fxz_287 400 ?_)
  refine And.intro (by decide) ?_
  have sj : SOJ f (0 : Int) S := SOJ_0 p6
  exact (z_StubHouseModel_sink p0 p1 p2 p3 p4 p5 p6 p7 p8 p9 hk (1000 - (0 : Int)).toNat).1 (0 : Int) S fxfr_rfl (by omega) (by omega) (by omega) p0 p1 p2 p3 p4 p5 sj (by omega)
