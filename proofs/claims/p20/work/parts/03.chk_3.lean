set_option maxRecDepth 200000 in
set_option maxHeartbeats 4000000 in
theorem X_ck12 : X_chkL 120 X_CC12 = true := by decide +kernel
