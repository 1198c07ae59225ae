def bcC : Nat → Nat → Bool
  | 0, _ => true
  | n + 1, b => (fJ6_bitCount_0f7a4 (Int32.ofNat b) == fX11_bits (Int32.ofNat b)) && bcC n (b + 1)
set_option maxHeartbeats 400000 in
theorem bcC_at : ∀ (n b m : Nat), bcC n b = true → b ≤ m → m < b + n → fJ6_bitCount_0f7a4 (Int32.ofNat m) = fX11_bits (Int32.ofNat m)
  | 0, b, m, _, h1, h2 => absurd h2 (by omega)
  | n + 1, b, m, h, h1, h2 => by
    have h3 : ((fJ6_bitCount_0f7a4 (Int32.ofNat b) == fX11_bits (Int32.ofNat b)) && bcC n (b + 1)) = true := h
    rw [Bool.and_eq_true, beq_iff_eq] at h3
    by_cases e : m = b
    · rw [e]; exact h3.1
    · exact bcC_at n (b + 1) m h3.2 (by omega) (by omega)
set_option maxHeartbeats 400000 in
theorem bcc_0 : bcC 1024 0 = true := by decide +kernel
set_option maxHeartbeats 400000 in
theorem bcc_1 : bcC 1024 1024 = true := by decide +kernel
set_option maxHeartbeats 400000 in
theorem bcc_2 : bcC 1024 2048 = true := by decide +kernel
set_option maxHeartbeats 400000 in
theorem bcc_3 : bcC 1024 3072 = true := by decide +kernel
set_option maxHeartbeats 400000 in
theorem bcc_4 : bcC 1024 4096 = true := by decide +kernel
set_option maxHeartbeats 400000 in
theorem bcc_5 : bcC 1024 5120 = true := by decide +kernel
set_option maxHeartbeats 400000 in
theorem bcc_6 : bcC 1024 6144 = true := by decide +kernel
set_option maxHeartbeats 400000 in
theorem bcc_7 : bcC 1024 7168 = true := by decide +kernel
set_option maxHeartbeats 400000 in
theorem bcc_8 : bcC 1024 8192 = true := by decide +kernel
set_option maxHeartbeats 400000 in
theorem bcc_9 : bcC 1024 9216 = true := by decide +kernel
set_option maxHeartbeats 400000 in
theorem bcc_10 : bcC 1024 10240 = true := by decide +kernel
set_option maxHeartbeats 400000 in
theorem bcc_11 : bcC 1024 11264 = true := by decide +kernel
set_option maxHeartbeats 400000 in
theorem bcc_12 : bcC 1024 12288 = true := by decide +kernel
set_option maxHeartbeats 400000 in
theorem bcc_13 : bcC 1024 13312 = true := by decide +kernel
set_option maxHeartbeats 400000 in
theorem bcc_14 : bcC 1024 14336 = true := by decide +kernel
set_option maxHeartbeats 400000 in
theorem bcc_15 : bcC 1024 15360 = true := by decide +kernel
