set_option maxRecDepth 200000 in
set_option maxHeartbeats 4000000 in
theorem X_ck20 : X_chkL 168 X_CC20 = true := by decide +kernel
set_option maxRecDepth 200000 in
set_option maxHeartbeats 4000000 in
theorem X_ck21 : X_chkL 175 X_CC21 = true := by decide +kernel
set_option maxRecDepth 200000 in
set_option maxHeartbeats 4000000 in
theorem X_ck22 : X_chkL 178 X_CC22 = true := by decide +kernel
set_option maxRecDepth 200000 in
set_option maxHeartbeats 4000000 in
theorem X_ck23 : X_chkL 181 X_CC23 = true := by decide +kernel
