set_option maxRecDepth 200000 in
set_option maxHeartbeats 4000000 in
theorem X_ck0 : X_chkL 0 X_CC0 = true := by decide +kernel
set_option maxRecDepth 200000 in
set_option maxHeartbeats 4000000 in
theorem X_ck1 : X_chkL 17 X_CC1 = true := by decide +kernel
set_option maxRecDepth 200000 in
set_option maxHeartbeats 4000000 in
theorem X_ck2 : X_chkL 30 X_CC2 = true := by decide +kernel
set_option maxRecDepth 200000 in
set_option maxHeartbeats 4000000 in
theorem X_ck3 : X_chkL 37 X_CC3 = true := by decide +kernel
