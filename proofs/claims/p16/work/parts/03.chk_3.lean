set_option maxRecDepth 200000 in
set_option maxHeartbeats 4000000 in
theorem X_ck12 : X_chkL 118 X_CC12 = true := by decide +kernel
set_option maxRecDepth 200000 in
set_option maxHeartbeats 4000000 in
theorem X_ck13 : X_chkL 131 X_CC13 = true := by decide +kernel
set_option maxRecDepth 200000 in
set_option maxHeartbeats 4000000 in
theorem X_ck14 : X_chkL 141 X_CC14 = true := by decide +kernel
set_option maxRecDepth 200000 in
set_option maxHeartbeats 4000000 in
theorem X_ck15 : X_chkL 143 X_CC15 = true := by decide +kernel
