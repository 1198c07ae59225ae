set_option maxHeartbeats 400000 in
theorem bcc_32 : bcC 1024 32768 = true := by decide +kernel
set_option maxHeartbeats 400000 in
theorem bcc_33 : bcC 1024 33792 = true := by decide +kernel
set_option maxHeartbeats 400000 in
theorem bcc_34 : bcC 1024 34816 = true := by decide +kernel
set_option maxHeartbeats 400000 in
theorem bcc_35 : bcC 1024 35840 = true := by decide +kernel
set_option maxHeartbeats 400000 in
theorem bcc_36 : bcC 1024 36864 = true := by decide +kernel
set_option maxHeartbeats 400000 in
theorem bcc_37 : bcC 1024 37888 = true := by decide +kernel
set_option maxHeartbeats 400000 in
theorem bcc_38 : bcC 1024 38912 = true := by decide +kernel
set_option maxHeartbeats 400000 in
theorem bcc_39 : bcC 1024 39936 = true := by decide +kernel
set_option maxHeartbeats 400000 in
theorem bcc_40 : bcC 1024 40960 = true := by decide +kernel
set_option maxHeartbeats 400000 in
theorem bcc_41 : bcC 1024 41984 = true := by decide +kernel
set_option maxHeartbeats 400000 in
theorem bcc_42 : bcC 1024 43008 = true := by decide +kernel
set_option maxHeartbeats 400000 in
theorem bcc_43 : bcC 1024 44032 = true := by decide +kernel
set_option maxHeartbeats 400000 in
theorem bcc_44 : bcC 1024 45056 = true := by decide +kernel
set_option maxHeartbeats 400000 in
theorem bcc_45 : bcC 1024 46080 = true := by decide +kernel
set_option maxHeartbeats 400000 in
theorem bcc_46 : bcC 1024 47104 = true := by decide +kernel
set_option maxHeartbeats 400000 in
theorem bcc_47 : bcC 1024 48128 = true := by decide +kernel
