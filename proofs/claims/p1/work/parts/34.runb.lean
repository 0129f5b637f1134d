/-! the run from the entry -/
set_option maxRecDepth 20000 in
theorem zv_e : zx_run zx_ms zx_pr 200000 9999 ztb_law 13 554 600000 7302250 0 18 zx_kl zx_k18 0 [(0, 10)] [] (0, []) [] 0 0 = true := by decide +kernel
