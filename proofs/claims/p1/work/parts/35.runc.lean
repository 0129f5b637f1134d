/-! the runs -/
set_option maxRecDepth 20000 in
theorem zv_c17 : zx_run zx_ms zx_pr 200000 9999 ztb_law 13 554 600000 7302250 6 99999 zx_kl zx_kn 32 zx_lv0 [136] zx_h0 [] 1142 666482 = true := by decide +kernel
set_option maxRecDepth 20000 in
theorem zv_c8 : zx_run zx_ms zx_pr 200000 9999 ztb_law 13 554 600000 7302250 6 99999 zx_kl zx_kn 32 zx_lv0 [64] zx_h0 [] 1142 666482 = true := by decide +kernel
set_option maxRecDepth 20000 in
theorem zv_c2 : zx_run zx_ms zx_pr 200000 9999 ztb_law 13 554 600000 7302250 6 99999 zx_kl zx_kn 32 zx_lv0 [16] zx_h0 [] 1142 666482 = true := by decide +kernel
set_option maxRecDepth 20000 in
theorem zv_c28 : zx_run zx_ms zx_pr 200000 9999 ztb_law 13 554 600000 7302250 6 99999 zx_kl zx_kn 32 zx_lv0 [224] zx_h0 [] 1142 666482 = true := by decide +kernel
set_option maxRecDepth 20000 in
theorem zv_c29 : zx_run zx_ms zx_pr 200000 9999 ztb_law 13 554 600000 7302250 6 99999 zx_kl zx_kn 32 zx_lv0 [232] zx_h0 [] 1142 666482 = true := by decide +kernel
set_option maxRecDepth 20000 in
theorem zv_c30 : zx_run zx_ms zx_pr 200000 9999 ztb_law 13 554 600000 7302250 6 99999 zx_kl zx_kn 32 zx_lv0 [240] zx_h0 [] 1142 666482 = true := by decide +kernel
set_option maxRecDepth 20000 in
theorem zv_c31 : zx_run zx_ms zx_pr 200000 9999 ztb_law 13 554 600000 7302250 6 99999 zx_kl zx_kn 32 zx_lv0 [248] zx_h0 [] 1142 666482 = true := by decide +kernel
