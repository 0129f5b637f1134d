/-! the runs -/
set_option maxRecDepth 20000 in
theorem zv_l0 : zx_run zx_ms zx_pr 200000 9999 ztb_law 13 554 600000 7302250 1 99999 zx_kl zx_kn 18 zx_lv0 [] zx_h0 [] 1142 666482 = true := by decide +kernel
set_option maxRecDepth 20000 in
theorem zv_l1 : zx_run zx_ms zx_pr 200000 9999 ztb_law 13 554 600000 7302250 2 99999 zx_kl zx_kn 18 zx_lv0 [] zx_h0 [] 1142 666482 = true := by decide +kernel
set_option maxRecDepth 20000 in
theorem zv_l2 : zx_run zx_ms zx_pr 200000 9999 ztb_law 13 554 600000 7302250 3 99999 zx_kl zx_kn 18 zx_lv0 [] zx_h0 [] 1142 666482 = true := by decide +kernel
set_option maxRecDepth 20000 in
theorem zv_l3 : zx_run zx_ms zx_pr 200000 9999 ztb_law 13 554 600000 7302250 4 99999 zx_kl zx_kn 18 zx_lv0 [] zx_h0 [] 1142 666482 = true := by decide +kernel
set_option maxRecDepth 20000 in
theorem zv_l4 : zx_run zx_ms zx_pr 200000 9999 ztb_law 13 554 600000 7302250 5 99999 zx_kl zx_kn 18 zx_lv0 [] zx_h0 [] 1142 666482 = true := by decide +kernel
set_option maxRecDepth 20000 in
theorem zv_18 : zx_run zx_ms zx_pr 200000 9999 ztb_law 13 554 600000 7302250 6 32 zx_kl zx_k32 18 zx_lv0 [] zx_h0 [] 1142 666482 = true := by decide +kernel
set_option maxRecDepth 20000 in
theorem zv_c14 : zx_run zx_ms zx_pr 200000 9999 ztb_law 13 554 600000 7302250 6 99999 zx_kl zx_kn 32 zx_lv0 [112] zx_h0 [] 1142 666482 = true := by decide +kernel
set_option maxRecDepth 20000 in
theorem zv_c18 : zx_run zx_ms zx_pr 200000 9999 ztb_law 13 554 600000 7302250 6 99999 zx_kl zx_kn 32 zx_lv0 [144] zx_h0 [] 1142 666482 = true := by decide +kernel
set_option maxRecDepth 20000 in
theorem zv_c20 : zx_run zx_ms zx_pr 200000 9999 ztb_law 13 554 600000 7302250 6 99999 zx_kl zx_kn 32 zx_lv0 [160] zx_h0 [] 1142 666482 = true := by decide +kernel
set_option maxRecDepth 20000 in
theorem zv_c21 : zx_run zx_ms zx_pr 200000 9999 ztb_law 13 554 600000 7302250 6 99999 zx_kl zx_kn 32 zx_lv0 [168] zx_h0 [] 1142 666482 = true := by decide +kernel
