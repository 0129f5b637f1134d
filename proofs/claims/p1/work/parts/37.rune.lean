/-! the runs -/
set_option maxRecDepth 20000 in
theorem zv_c16 : zx_run zx_ms zx_pr 200000 9999 ztb_law 13 554 600000 7302250 6 99999 zx_kl zx_kn 32 zx_lv0 [128] zx_h0 [] 1142 666482 = true := by decide +kernel
set_option maxRecDepth 20000 in
theorem zv_c1 : zx_run zx_ms zx_pr 200000 9999 ztb_law 13 554 600000 7302250 6 99999 zx_kl zx_kn 32 zx_lv0 [8] zx_h0 [] 1142 666482 = true := by decide +kernel
set_option maxRecDepth 20000 in
theorem zv_c3 : zx_run zx_ms zx_pr 200000 9999 ztb_law 13 554 600000 7302250 6 99999 zx_kl zx_kn 32 zx_lv0 [24] zx_h0 [] 1142 666482 = true := by decide +kernel
set_option maxRecDepth 20000 in
theorem zv_c11 : zx_run zx_ms zx_pr 200000 9999 ztb_law 13 554 600000 7302250 6 99999 zx_kl zx_kn 32 zx_lv0 [88] zx_h0 [] 1142 666482 = true := by decide +kernel
set_option maxRecDepth 20000 in
theorem zv_c13 : zx_run zx_ms zx_pr 200000 9999 ztb_law 13 554 600000 7302250 6 99999 zx_kl zx_kn 32 zx_lv0 [104] zx_h0 [] 1142 666482 = true := by decide +kernel
