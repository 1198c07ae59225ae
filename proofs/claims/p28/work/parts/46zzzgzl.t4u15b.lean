set_option maxHeartbeats 400000 in
theorem bcc_16 : bcC 1024 16384 = true := by decide +kernel
set_option maxHeartbeats 400000 in
theorem bcc_17 : bcC 1024 17408 = true := by decide +kernel
set_option maxHeartbeats 400000 in
theorem bcc_18 : bcC 1024 18432 = true := by decide +kernel
set_option maxHeartbeats 400000 in
theorem bcc_19 : bcC 1024 19456 = true := by decide +kernel
set_option maxHeartbeats 400000 in
theorem bcc_20 : bcC 1024 20480 = true := by decide +kernel
set_option maxHeartbeats 400000 in
theorem bcc_21 : bcC 1024 21504 = true := by decide +kernel
set_option maxHeartbeats 400000 in
theorem bcc_22 : bcC 1024 22528 = true := by decide +kernel
set_option maxHeartbeats 400000 in
theorem bcc_23 : bcC 1024 23552 = true := by decide +kernel
set_option maxHeartbeats 400000 in
theorem bcc_24 : bcC 1024 24576 = true := by decide +kernel
set_option maxHeartbeats 400000 in
theorem bcc_25 : bcC 1024 25600 = true := by decide +kernel
set_option maxHeartbeats 400000 in
theorem bcc_26 : bcC 1024 26624 = true := by decide +kernel
set_option maxHeartbeats 400000 in
theorem bcc_27 : bcC 1024 27648 = true := by decide +kernel
set_option maxHeartbeats 400000 in
theorem bcc_28 : bcC 1024 28672 = true := by decide +kernel
set_option maxHeartbeats 400000 in
theorem bcc_29 : bcC 1024 29696 = true := by decide +kernel
set_option maxHeartbeats 400000 in
theorem bcc_30 : bcC 1024 30720 = true := by decide +kernel
set_option maxHeartbeats 400000 in
theorem bcc_31 : bcC 1024 31744 = true := by decide +kernel
