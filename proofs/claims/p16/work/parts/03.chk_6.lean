set_option maxRecDepth 200000 in
set_option maxHeartbeats 4000000 in
theorem X_ck24 : X_chkL 187 X_CC24 = true := by decide +kernel
set_option maxRecDepth 200000 in
set_option maxHeartbeats 4000000 in
theorem X_ck25 : X_chkL 189 X_CC25 = true := by decide +kernel
set_option maxRecDepth 200000 in
set_option maxHeartbeats 4000000 in
theorem X_ck26 : X_chkL 193 X_CC26 = true := by decide +kernel
set_option maxRecDepth 200000 in
set_option maxHeartbeats 4000000 in
theorem X_ck27 : X_chkL 198 X_CC27 = true := by decide +kernel
