set_option maxHeartbeats 400000 in
theorem bcc_48 : bcC 1024 49152 = true := by decide +kernel
set_option maxHeartbeats 400000 in
theorem bcc_49 : bcC 1024 50176 = true := by decide +kernel
set_option maxHeartbeats 400000 in
theorem bcc_50 : bcC 1024 51200 = true := by decide +kernel
set_option maxHeartbeats 400000 in
theorem bcc_51 : bcC 1024 52224 = true := by decide +kernel
set_option maxHeartbeats 400000 in
theorem bcc_52 : bcC 1024 53248 = true := by decide +kernel
set_option maxHeartbeats 400000 in
theorem bcc_53 : bcC 1024 54272 = true := by decide +kernel
set_option maxHeartbeats 400000 in
theorem bcc_54 : bcC 1024 55296 = true := by decide +kernel
set_option maxHeartbeats 400000 in
theorem bcc_55 : bcC 1024 56320 = true := by decide +kernel
set_option maxHeartbeats 400000 in
theorem bcc_56 : bcC 1024 57344 = true := by decide +kernel
set_option maxHeartbeats 400000 in
theorem bcc_57 : bcC 1024 58368 = true := by decide +kernel
set_option maxHeartbeats 400000 in
theorem bcc_58 : bcC 1024 59392 = true := by decide +kernel
set_option maxHeartbeats 400000 in
theorem bcc_59 : bcC 1024 60416 = true := by decide +kernel
set_option maxHeartbeats 400000 in
theorem bcc_60 : bcC 1024 61440 = true := by decide +kernel
set_option maxHeartbeats 400000 in
theorem bcc_61 : bcC 1024 62464 = true := by decide +kernel
set_option maxHeartbeats 400000 in
theorem bcc_62 : bcC 1024 63488 = true := by decide +kernel
set_option maxHeartbeats 400000 in
theorem bcc_63 : bcC 1024 64512 = true := by decide +kernel
