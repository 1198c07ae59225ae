set_option maxHeartbeats 400000 in
theorem ofN_c {x : Int32} (h : 0 ≤ x.toInt) : Int32.ofNat x.toNatClampNeg = x := by
  apply Int32.toInt_inj.mp
  have u := Int32.toInt_lt x
  have t := tn_eq h
  rw [Int32.toInt_ofNat_of_lt (by omega)]
  omega
set_option maxHeartbeats 400000 in
theorem bc_x {x : Int32} (x0 : 0 ≤ x.toInt) (x9 : x.toInt < 65536) : fJ6_bitCount_0f7a4 x = fX11_bits x := by
  have t := tn_eq x0
  have key : ∀ m : Nat, m < 65536 → fJ6_bitCount_0f7a4 (Int32.ofNat m) = fX11_bits (Int32.ofNat m) := by
    intro m hm
    by_cases c0 : m < 1024
    · exact bcC_at 1024 0 m bcc_0 (by omega) (by omega)
    by_cases c1 : m < 2048
    · exact bcC_at 1024 1024 m bcc_1 (by omega) (by omega)
    by_cases c2 : m < 3072
    · exact bcC_at 1024 2048 m bcc_2 (by omega) (by omega)
    by_cases c3 : m < 4096
    · exact bcC_at 1024 3072 m bcc_3 (by omega) (by omega)
    by_cases c4 : m < 5120
    · exact bcC_at 1024 4096 m bcc_4 (by omega) (by omega)
    by_cases c5 : m < 6144
    · exact bcC_at 1024 5120 m bcc_5 (by omega) (by omega)
    by_cases c6 : m < 7168
    · exact bcC_at 1024 6144 m bcc_6 (by omega) (by omega)
    by_cases c7 : m < 8192
    · exact bcC_at 1024 7168 m bcc_7 (by omega) (by omega)
    by_cases c8 : m < 9216
    · exact bcC_at 1024 8192 m bcc_8 (by omega) (by omega)
    by_cases c9 : m < 10240
    · exact bcC_at 1024 9216 m bcc_9 (by omega) (by omega)
    by_cases c10 : m < 11264
    · exact bcC_at 1024 10240 m bcc_10 (by omega) (by omega)
    by_cases c11 : m < 12288
    · exact bcC_at 1024 11264 m bcc_11 (by omega) (by omega)
    by_cases c12 : m < 13312
    · exact bcC_at 1024 12288 m bcc_12 (by omega) (by omega)
    by_cases c13 : m < 14336
    · exact bcC_at 1024 13312 m bcc_13 (by omega) (by omega)
    by_cases c14 : m < 15360
    · exact bcC_at 1024 14336 m bcc_14 (by omega) (by omega)
    by_cases c15 : m < 16384
    · exact bcC_at 1024 15360 m bcc_15 (by omega) (by omega)
    by_cases c16 : m < 17408
    · exact bcC_at 1024 16384 m bcc_16 (by omega) (by omega)
    by_cases c17 : m < 18432
    · exact bcC_at 1024 17408 m bcc_17 (by omega) (by omega)
    by_cases c18 : m < 19456
    · exact bcC_at 1024 18432 m bcc_18 (by omega) (by omega)
    by_cases c19 : m < 20480
    · exact bcC_at 1024 19456 m bcc_19 (by omega) (by omega)
    by_cases c20 : m < 21504
    · exact bcC_at 1024 20480 m bcc_20 (by omega) (by omega)
    by_cases c21 : m < 22528
    · exact bcC_at 1024 21504 m bcc_21 (by omega) (by omega)
    by_cases c22 : m < 23552
    · exact bcC_at 1024 22528 m bcc_22 (by omega) (by omega)
    by_cases c23 : m < 24576
    · exact bcC_at 1024 23552 m bcc_23 (by omega) (by omega)
    by_cases c24 : m < 25600
    · exact bcC_at 1024 24576 m bcc_24 (by omega) (by omega)
    by_cases c25 : m < 26624
    · exact bcC_at 1024 25600 m bcc_25 (by omega) (by omega)
    by_cases c26 : m < 27648
    · exact bcC_at 1024 26624 m bcc_26 (by omega) (by omega)
    by_cases c27 : m < 28672
    · exact bcC_at 1024 27648 m bcc_27 (by omega) (by omega)
    by_cases c28 : m < 29696
    · exact bcC_at 1024 28672 m bcc_28 (by omega) (by omega)
    by_cases c29 : m < 30720
    · exact bcC_at 1024 29696 m bcc_29 (by omega) (by omega)
    by_cases c30 : m < 31744
    · exact bcC_at 1024 30720 m bcc_30 (by omega) (by omega)
    by_cases c31 : m < 32768
    · exact bcC_at 1024 31744 m bcc_31 (by omega) (by omega)
    by_cases c32 : m < 33792
    · exact bcC_at 1024 32768 m bcc_32 (by omega) (by omega)
    by_cases c33 : m < 34816
    · exact bcC_at 1024 33792 m bcc_33 (by omega) (by omega)
    by_cases c34 : m < 35840
    · exact bcC_at 1024 34816 m bcc_34 (by omega) (by omega)
    by_cases c35 : m < 36864
    · exact bcC_at 1024 35840 m bcc_35 (by omega) (by omega)
    by_cases c36 : m < 37888
    · exact bcC_at 1024 36864 m bcc_36 (by omega) (by omega)
    by_cases c37 : m < 38912
    · exact bcC_at 1024 37888 m bcc_37 (by omega) (by omega)
    by_cases c38 : m < 39936
    · exact bcC_at 1024 38912 m bcc_38 (by omega) (by omega)
    by_cases c39 : m < 40960
    · exact bcC_at 1024 39936 m bcc_39 (by omega) (by omega)
    by_cases c40 : m < 41984
    · exact bcC_at 1024 40960 m bcc_40 (by omega) (by omega)
    by_cases c41 : m < 43008
    · exact bcC_at 1024 41984 m bcc_41 (by omega) (by omega)
    by_cases c42 : m < 44032
    · exact bcC_at 1024 43008 m bcc_42 (by omega) (by omega)
    by_cases c43 : m < 45056
    · exact bcC_at 1024 44032 m bcc_43 (by omega) (by omega)
    by_cases c44 : m < 46080
    · exact bcC_at 1024 45056 m bcc_44 (by omega) (by omega)
    by_cases c45 : m < 47104
    · exact bcC_at 1024 46080 m bcc_45 (by omega) (by omega)
    by_cases c46 : m < 48128
    · exact bcC_at 1024 47104 m bcc_46 (by omega) (by omega)
    by_cases c47 : m < 49152
    · exact bcC_at 1024 48128 m bcc_47 (by omega) (by omega)
    by_cases c48 : m < 50176
    · exact bcC_at 1024 49152 m bcc_48 (by omega) (by omega)
    by_cases c49 : m < 51200
    · exact bcC_at 1024 50176 m bcc_49 (by omega) (by omega)
    by_cases c50 : m < 52224
    · exact bcC_at 1024 51200 m bcc_50 (by omega) (by omega)
    by_cases c51 : m < 53248
    · exact bcC_at 1024 52224 m bcc_51 (by omega) (by omega)
    by_cases c52 : m < 54272
    · exact bcC_at 1024 53248 m bcc_52 (by omega) (by omega)
    by_cases c53 : m < 55296
    · exact bcC_at 1024 54272 m bcc_53 (by omega) (by omega)
    by_cases c54 : m < 56320
    · exact bcC_at 1024 55296 m bcc_54 (by omega) (by omega)
    by_cases c55 : m < 57344
    · exact bcC_at 1024 56320 m bcc_55 (by omega) (by omega)
    by_cases c56 : m < 58368
    · exact bcC_at 1024 57344 m bcc_56 (by omega) (by omega)
    by_cases c57 : m < 59392
    · exact bcC_at 1024 58368 m bcc_57 (by omega) (by omega)
    by_cases c58 : m < 60416
    · exact bcC_at 1024 59392 m bcc_58 (by omega) (by omega)
    by_cases c59 : m < 61440
    · exact bcC_at 1024 60416 m bcc_59 (by omega) (by omega)
    by_cases c60 : m < 62464
    · exact bcC_at 1024 61440 m bcc_60 (by omega) (by omega)
    by_cases c61 : m < 63488
    · exact bcC_at 1024 62464 m bcc_61 (by omega) (by omega)
    by_cases c62 : m < 64512
    · exact bcC_at 1024 63488 m bcc_62 (by omega) (by omega)
    by_cases c63 : m < 65536
    · exact bcC_at 1024 64512 m bcc_63 (by omega) (by omega)
    exact absurd hm (by omega)
  have q := key x.toNatClampNeg (by omega)
  rw [ofN_c x0] at q
  exact q
