set_option maxRecDepth 200000 in
set_option maxHeartbeats 4000000 in
theorem X_ck4 : X_chkL 43 X_CC4 = true := by decide +kernel
set_option maxRecDepth 200000 in
set_option maxHeartbeats 4000000 in
theorem X_ck5 : X_chkL 47 X_CC5 = true := by decide +kernel
set_option maxRecDepth 200000 in
set_option maxHeartbeats 4000000 in
theorem X_ck6 : X_chkL 57 X_CC6 = true := by decide +kernel
set_option maxRecDepth 200000 in
set_option maxHeartbeats 4000000 in
theorem X_ck7 : X_chkL 69 X_CC7 = true := by decide +kernel
