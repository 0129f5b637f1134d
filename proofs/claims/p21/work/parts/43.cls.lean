/-! the classes of the worlds -/
noncomputable def zc_cls (C : String) (T : u_T) (N : Nat) (hs : List Nat) : Bool := (List.range N).all (fun k => decide (zk_h (hs.getD k 0) = u_lay C T k))
theorem zc_cls_ok {C : String} {T : u_T} {N : Nat} {hs : List Nat} (h : zc_cls C T N hs = true) : ∀ w ∈ u_ws C T N, w ∈ zk_T := by
  intro w hw
  obtain ⟨k, hk, rfl⟩ := List.mem_map.mp hw
  have h1 := of_decide_eq_true (List.all_eq_true.mp h k hk)
  refine zk_h_in h1 ?_ ?_
  · unfold u_lay; split <;> rfl
  · unfold u_lay; split <;> rfl
theorem zk_h_tbl {n : Nat} {w : Cond} (h : decide (zk_h n = w) = true) (ht : zk_is w = true) : w ∈ lw_tbl := by
  have h := of_decide_eq_true h
  have hne : w ≠ Cond.tt := fun q => by rw [q] at ht; exact absurd ht (by decide)
  have h1 := zx_N_some h hne
  have hl : zx_N [] zk_tab (n / 400) ≠ [] := fun q => by rw [q] at h1; simp at h1
  have h2 := zx_N_some (rfl : zx_N [] zk_tab (n / 400) = _) hl
  exact zk_tab_in _ (List.mem_of_getElem? h2) _ (List.mem_of_getElem? h1)
set_option maxRecDepth 20000 in
theorem zc_X0 : zc_cls RX0 TX0 5 [423, 425, 427, 429, 431] = true := by decide +kernel
set_option maxRecDepth 20000 in
theorem zc_X2 : zc_cls RX2 TX2 9 [513, 515, 517, 519, 521, 523, 525, 527, 529] = true := by decide +kernel
set_option maxRecDepth 20000 in
theorem zc_X3 : zc_cls RX3 TX3 11 [217, 219, 221, 223, 225, 227, 229, 231, 233, 235, 237] = true := by decide +kernel
set_option maxRecDepth 20000 in
theorem zc_X4 : zc_cls RX4 TX4 11 [849, 851, 853, 855, 857, 859, 861, 863, 865, 867, 869] = true := by decide +kernel
set_option maxRecDepth 20000 in
theorem zc_X5 : zc_cls RX5 TX5 13 [104, 106, 108, 110, 112, 114, 116, 118, 120, 122, 124, 126, 128] = true := by decide +kernel
set_option maxRecDepth 20000 in
theorem zc_X6 : zc_cls RX6 TX6 17 [608, 610, 612, 614, 616, 584, 586, 588, 590, 592, 594, 596, 598, 600, 602, 604, 606] = true := by decide +kernel
set_option maxRecDepth 20000 in
theorem zc_X7 : zc_cls RX7 TX7 5 [183, 185, 187, 189, 191] = true := by decide +kernel
set_option maxRecDepth 20000 in
theorem zc_X8 : zc_cls RX8 TX8 10 [474, 476, 478, 480, 482, 484, 486, 488, 490, 492] = true := by decide +kernel
set_option maxRecDepth 20000 in
theorem zc_X9 : zc_cls RX9 TX9 5 [155, 157, 159, 161, 163] = true := by decide +kernel
set_option maxRecDepth 20000 in
theorem zc_X10 : zc_cls RX10 TX10 17 [822, 823, 824, 825, 826, 638, 800, 802, 804, 806, 808, 810, 812, 814, 816, 818, 820] = true := by decide +kernel
set_option maxRecDepth 20000 in
theorem zc_X11 : zc_cls RX11 TX11 11 [883, 885, 887, 889, 891, 893, 895, 897, 899, 901, 903] = true := by decide +kernel
set_option maxRecDepth 20000 in
theorem zc_X12 : zc_cls RX12 TX12 57 [2519, 2521, 2523, 2525, 2527, 2529, 2531, 2533, 2535, 2537, 2539, 2541, 2543, 2545, 2547, 2549, 2551, 2553, 2555, 2557, 2559, 2561, 2563, 2565, 2567, 2569, 2571, 2573, 2575, 2577, 2579, 2581, 2583, 2585, 2587, 2589, 2591, 2593, 2595, 2597, 2599, 2601, 2603, 2605, 2607, 2609, 2611, 2613, 2615, 2617, 2619, 2621, 2623, 2625, 2627, 2629, 2631] = true := by decide +kernel
theorem zk_C_ok : zk_C := by
  intro ci C T N h
  match ci, h with
  | 0, h => cases h; exact ⟨zc_cls_ok zc_X0, tyX0, tyX0_ok, nmX0⟩
  | 1, h => cases h; exact ⟨zc_cls_ok zc_X2, tyX2, tyX2_ok, nmX2⟩
  | 2, h => cases h; exact ⟨zc_cls_ok zc_X3, tyX3, tyX3_ok, nmX3⟩
  | 3, h => cases h; exact ⟨zc_cls_ok zc_X4, tyX4, tyX4_ok, nmX4⟩
  | 4, h => cases h; exact ⟨zc_cls_ok zc_X5, tyX5, tyX5_ok, nmX5⟩
  | 5, h => cases h; exact ⟨zc_cls_ok zc_X6, tyX6, tyX6_ok, nmX6⟩
  | 6, h => cases h; exact ⟨zc_cls_ok zc_X7, tyX7, tyX7_ok, nmX7⟩
  | 7, h => cases h; exact ⟨zc_cls_ok zc_X8, tyX8, tyX8_ok, nmX8⟩
  | 8, h => cases h; exact ⟨zc_cls_ok zc_X9, tyX9, tyX9_ok, nmX9⟩
  | 9, h => cases h; exact ⟨zc_cls_ok zc_X10, tyX10, tyX10_ok, nmX10⟩
  | 10, h => cases h; exact ⟨zc_cls_ok zc_X11, tyX11, tyX11_ok, nmX11⟩
  | 11, h => cases h; exact ⟨zc_cls_ok zc_X12, tyX12, tyX12_ok, nmX12⟩
  | i + 12, h => simp [vwCl] at h
theorem zk_inst : ∀ (ci : Nat) (q : vw_C), vwCl[ci]? = some q → ∃ n, Cond.instantiable q.1 n ∈ lw_tbl := by
  intro ci q h
  match ci, h with
  | 0, h => cases h; exact ⟨5, zk_h_tbl (n := 402) (by decide +kernel) rfl⟩
  | 1, h => cases h; exact ⟨9, zk_h_tbl (n := 435) (by decide +kernel) rfl⟩
  | 2, h => cases h; exact ⟨11, zk_h_tbl (n := 195) (by decide +kernel) rfl⟩
  | 3, h => cases h; exact ⟨11, zk_h_tbl (n := 829) (by decide +kernel) rfl⟩
  | 4, h => cases h; exact ⟨13, zk_h_tbl (n := 33) (by decide +kernel) rfl⟩
  | 5, h => cases h; exact ⟨17, zk_h_tbl (n := 533) (by decide +kernel) rfl⟩
  | 6, h => cases h; exact ⟨5, zk_h_tbl (n := 167) (by decide +kernel) rfl⟩
  | 7, h => cases h; exact ⟨10, zk_h_tbl (n := 442) (by decide +kernel) rfl⟩
  | 8, h => cases h; exact ⟨5, zk_h_tbl (n := 26) (by decide +kernel) rfl⟩
  | 9, h => cases h; exact ⟨17, zk_h_tbl (n := 620) (by decide +kernel) rfl⟩
  | 10, h => cases h; exact ⟨11, zk_h_tbl (n := 18) (by decide +kernel) rfl⟩
  | 11, h => cases h; exact ⟨57, zk_h_tbl (n := 2448) (by decide +kernel) rfl⟩
  | i + 12, h => simp [vwCl] at h
theorem zk_N_of {a : Array Value} {s : State} (hts : ∀ w ∈ lw_tbl, w.before a s = true) : zk_N s := ⟨va_Nw.of rfl (hts _ (zk_h_tbl (n := 443) (by decide +kernel) rfl)), va_Nw.of rfl (hts _ (zk_h_tbl (n := 537) (by decide +kernel) rfl)), va_Nw.of rfl (hts _ (zk_h_tbl (n := 624) (by decide +kernel) rfl)), va_AO.of (hts _ (zk_h_tbl (n := 32) (by decide +kernel) rfl)), va_AO.of (hts _ (zk_h_tbl (n := 441) (by decide +kernel) rfl))⟩
theorem zk_G_of {a : Array Value} {s : State} (hts : ∀ w ∈ lw_tbl, w.before a s = true) : ∃ G : va_G, va_K G vwCl [] s := by
  have hex : ∀ c : Nat, ∃ (cC : ClassId) (iS : Nat → Nat), ∀ q : vw_C, vwCl[c]? = some q → u_Kn s q.1 q.2.1 q.2.2 cC iS := by
    intro c
    cases hc : vwCl[c]? with
    | none => exact ⟨0, fun _ => 0, fun q h => by cases h⟩
    | some q =>
      obtain ⟨n, hn⟩ := zk_inst c q hc
      obtain ⟨C, T, N⟩ := q
      obtain ⟨cC, iS, h⟩ := u_known (C := C) (T := T) (N := N) (n := n) hts (fun w hw => (List.mem_filter.mp ((zk_C_ok c C T N hc).1 w hw)).1) (hts _ hn)
      exact ⟨cC, iS, fun q hq => by cases hq; exact h⟩
  refine ⟨(fun c => Classical.choose (hex c), fun c => Classical.choose (Classical.choose_spec (hex c))), fun c q hq => ?_, fun k q h => by simp at h⟩
  exact Classical.choose_spec (Classical.choose_spec (hex c)) q hq
