set_option maxRecDepth 200000 in
set_option maxHeartbeats 4000000 in
theorem X_ck16 : X_chkL 155 X_CC16 = true := by decide +kernel
set_option maxRecDepth 200000 in
set_option maxHeartbeats 4000000 in
theorem X_ck17 : X_chkL 158 X_CC17 = true := by decide +kernel
set_option maxRecDepth 200000 in
set_option maxHeartbeats 4000000 in
theorem X_ck18 : X_chkL 161 X_CC18 = true := by decide +kernel
set_option maxRecDepth 200000 in
set_option maxHeartbeats 4000000 in
theorem X_ck19 : X_chkL 162 X_CC19 = true := by decide +kernel
