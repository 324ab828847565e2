set_option maxRecDepth 200000 in
set_option maxHeartbeats 4000000 in
theorem X_ck8 : X_chkL 77 X_CC8 = true := by decide +kernel
set_option maxRecDepth 200000 in
set_option maxHeartbeats 4000000 in
theorem X_ck9 : X_chkL 84 X_CC9 = true := by decide +kernel
set_option maxRecDepth 200000 in
set_option maxHeartbeats 4000000 in
theorem X_ck10 : X_chkL 96 X_CC10 = true := by decide +kernel
set_option maxRecDepth 200000 in
set_option maxHeartbeats 4000000 in
theorem X_ck11 : X_chkL 108 X_CC11 = true := by decide +kernel
