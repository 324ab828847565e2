set_option maxRecDepth 200000 in
set_option maxHeartbeats 4000000 in
theorem X_ck28 : X_chkL 203 X_CC28 = true := by decide +kernel
