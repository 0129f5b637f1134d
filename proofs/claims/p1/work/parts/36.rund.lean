/-! the runs -/
set_option maxRecDepth 20000 in
theorem zv_c0 : zx_run zx_ms zx_pr 200000 9999 ztb_law 13 554 600000 7302250 6 99999 zx_kl zx_kn 32 zx_lv0 [0] zx_h0 [] 1142 666482 = true := by decide +kernel
set_option maxRecDepth 20000 in
theorem zv_c7 : zx_run zx_ms zx_pr 200000 9999 ztb_law 13 554 600000 7302250 6 99999 zx_kl zx_kn 32 zx_lv0 [56] zx_h0 [] 1142 666482 = true := by decide +kernel
set_option maxRecDepth 20000 in
theorem zv_c27 : zx_run zx_ms zx_pr 200000 9999 ztb_law 13 554 600000 7302250 6 99999 zx_kl zx_kn 32 zx_lv0 [216] zx_h0 [] 1142 666482 = true := by decide +kernel
set_option maxRecDepth 20000 in
theorem zv_c24 : zx_run zx_ms zx_pr 200000 9999 ztb_law 13 554 600000 7302250 6 99999 zx_kl zx_kn 32 zx_lv0 [192] zx_h0 [] 1142 666482 = true := by decide +kernel
