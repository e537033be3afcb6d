/-! Small numbers. -/
theorem cn_0 : (0 : Int32).toNatClampNeg = 0 := by decide +kernel
theorem cn_1 : (1 : Int32).toNatClampNeg = 1 := by decide +kernel
theorem cn_10 : (10 : Int32).toNatClampNeg = 10 := by decide +kernel
theorem cn_11 : (11 : Int32).toNatClampNeg = 11 := by decide +kernel
theorem cn_12 : (12 : Int32).toNatClampNeg = 12 := by decide +kernel
theorem cn_13 : (13 : Int32).toNatClampNeg = 13 := by decide +kernel
theorem cn_14 : (14 : Int32).toNatClampNeg = 14 := by decide +kernel
theorem cn_15 : (15 : Int32).toNatClampNeg = 15 := by decide +kernel
theorem cn_16 : (16 : Int32).toNatClampNeg = 16 := by decide +kernel
theorem cn_17 : (17 : Int32).toNatClampNeg = 17 := by decide +kernel
theorem cn_18 : (18 : Int32).toNatClampNeg = 18 := by decide +kernel
theorem cn_19 : (19 : Int32).toNatClampNeg = 19 := by decide +kernel
theorem cn_2 : (2 : Int32).toNatClampNeg = 2 := by decide +kernel
theorem cn_20 : (20 : Int32).toNatClampNeg = 20 := by decide +kernel
theorem cn_21 : (21 : Int32).toNatClampNeg = 21 := by decide +kernel
theorem cn_22 : (22 : Int32).toNatClampNeg = 22 := by decide +kernel
theorem cn_23 : (23 : Int32).toNatClampNeg = 23 := by decide +kernel
theorem cn_24 : (24 : Int32).toNatClampNeg = 24 := by decide +kernel
theorem cn_25 : (25 : Int32).toNatClampNeg = 25 := by decide +kernel
theorem cn_3 : (3 : Int32).toNatClampNeg = 3 := by decide +kernel
theorem cn_4 : (4 : Int32).toNatClampNeg = 4 := by decide +kernel
theorem cn_5 : (5 : Int32).toNatClampNeg = 5 := by decide +kernel
theorem cn_6 : (6 : Int32).toNatClampNeg = 6 := by decide +kernel
theorem cn_7 : (7 : Int32).toNatClampNeg = 7 := by decide +kernel
theorem cn_8 : (8 : Int32).toNatClampNeg = 8 := by decide +kernel
theorem cn_9 : (9 : Int32).toNatClampNeg = 9 := by decide +kernel
theorem ic_0_m1 : (0 : Int32) + Int32.ofInt (-1) = (-1 : Int32) := by decide +kernel
theorem ic_0_1 : (0 : Int32) + Int32.ofInt (1) = (1 : Int32) := by decide +kernel
theorem ic_1_m1 : (1 : Int32) + Int32.ofInt (-1) = (0 : Int32) := by decide +kernel
theorem ic_1_1 : (1 : Int32) + Int32.ofInt (1) = (2 : Int32) := by decide +kernel
theorem ic_10_1 : (10 : Int32) + Int32.ofInt (1) = (11 : Int32) := by decide +kernel
theorem ic_11_1 : (11 : Int32) + Int32.ofInt (1) = (12 : Int32) := by decide +kernel
theorem ic_12_1 : (12 : Int32) + Int32.ofInt (1) = (13 : Int32) := by decide +kernel
theorem ic_13_1 : (13 : Int32) + Int32.ofInt (1) = (14 : Int32) := by decide +kernel
theorem ic_14_1 : (14 : Int32) + Int32.ofInt (1) = (15 : Int32) := by decide +kernel
theorem ic_15_1 : (15 : Int32) + Int32.ofInt (1) = (16 : Int32) := by decide +kernel
theorem ic_16_1 : (16 : Int32) + Int32.ofInt (1) = (17 : Int32) := by decide +kernel
theorem ic_17_1 : (17 : Int32) + Int32.ofInt (1) = (18 : Int32) := by decide +kernel
theorem ic_18_1 : (18 : Int32) + Int32.ofInt (1) = (19 : Int32) := by decide +kernel
theorem ic_19_1 : (19 : Int32) + Int32.ofInt (1) = (20 : Int32) := by decide +kernel
theorem ic_2_m1 : (2 : Int32) + Int32.ofInt (-1) = (1 : Int32) := by decide +kernel
theorem ic_2_1 : (2 : Int32) + Int32.ofInt (1) = (3 : Int32) := by decide +kernel
theorem ic_20_1 : (20 : Int32) + Int32.ofInt (1) = (21 : Int32) := by decide +kernel
theorem ic_21_1 : (21 : Int32) + Int32.ofInt (1) = (22 : Int32) := by decide +kernel
theorem ic_22_1 : (22 : Int32) + Int32.ofInt (1) = (23 : Int32) := by decide +kernel
theorem ic_23_1 : (23 : Int32) + Int32.ofInt (1) = (24 : Int32) := by decide +kernel
theorem ic_24_1 : (24 : Int32) + Int32.ofInt (1) = (25 : Int32) := by decide +kernel
theorem ic_25_1 : (25 : Int32) + Int32.ofInt (1) = (26 : Int32) := by decide +kernel
theorem ic_3_m1 : (3 : Int32) + Int32.ofInt (-1) = (2 : Int32) := by decide +kernel
theorem ic_3_1 : (3 : Int32) + Int32.ofInt (1) = (4 : Int32) := by decide +kernel
theorem ic_4_m1 : (4 : Int32) + Int32.ofInt (-1) = (3 : Int32) := by decide +kernel
theorem ic_4_1 : (4 : Int32) + Int32.ofInt (1) = (5 : Int32) := by decide +kernel
theorem ic_5_m1 : (5 : Int32) + Int32.ofInt (-1) = (4 : Int32) := by decide +kernel
theorem ic_5_1 : (5 : Int32) + Int32.ofInt (1) = (6 : Int32) := by decide +kernel
theorem ic_6_m1 : (6 : Int32) + Int32.ofInt (-1) = (5 : Int32) := by decide +kernel
theorem ic_6_1 : (6 : Int32) + Int32.ofInt (1) = (7 : Int32) := by decide +kernel
theorem ic_7_1 : (7 : Int32) + Int32.ofInt (1) = (8 : Int32) := by decide +kernel
theorem ic_8_1 : (8 : Int32) + Int32.ofInt (1) = (9 : Int32) := by decide +kernel
theorem ic_9_1 : (9 : Int32) + Int32.ofInt (1) = (10 : Int32) := by decide +kernel
theorem nz_16 : ¬ (16 : Int32) = 0 := by decide +kernel
theorem nz_4 : ¬ (4 : Int32) = 0 := by decide +kernel
theorem nz_64 : ¬ (64 : Int32) = 0 := by decide +kernel
theorem nz_65536 : ¬ (65536 : Int32) = 0 := by decide +kernel
theorem nz_8 : ¬ (8 : Int32) = 0 := by decide +kernel
theorem sb_0_1 : (0 : Int32) - (1 : Int32) = (-1 : Int32) := by decide +kernel
theorem sb_1_1 : (1 : Int32) - (1 : Int32) = (0 : Int32) := by decide +kernel
theorem sb_2_1 : (2 : Int32) - (1 : Int32) = (1 : Int32) := by decide +kernel
theorem sb_3_1 : (3 : Int32) - (1 : Int32) = (2 : Int32) := by decide +kernel
theorem sb_4_1 : (4 : Int32) - (1 : Int32) = (3 : Int32) := by decide +kernel
theorem sb_5_1 : (5 : Int32) - (1 : Int32) = (4 : Int32) := by decide +kernel
theorem sb_6_1 : (6 : Int32) - (1 : Int32) = (5 : Int32) := by decide +kernel
theorem sb_7_1 : (7 : Int32) - (1 : Int32) = (6 : Int32) := by decide +kernel
theorem vc_0_2 : vp_in (0 : Int32) 2 := vi_c _ _ (by decide +kernel)
theorem vc_0_26 : vp_in (0 : Int32) 26 := vi_c _ _ (by decide +kernel)
theorem vc_0_3 : vp_in (0 : Int32) 3 := vi_c _ _ (by decide +kernel)
theorem vc_0_7 : vp_in (0 : Int32) 7 := vi_c _ _ (by decide +kernel)
theorem vc_0_8 : vp_in (0 : Int32) 8 := vi_c _ _ (by decide +kernel)
theorem vc_1_2 : vp_in (1 : Int32) 2 := vi_c _ _ (by decide +kernel)
theorem vc_1_26 : vp_in (1 : Int32) 26 := vi_c _ _ (by decide +kernel)
theorem vc_1_3 : vp_in (1 : Int32) 3 := vi_c _ _ (by decide +kernel)
theorem vc_1_7 : vp_in (1 : Int32) 7 := vi_c _ _ (by decide +kernel)
theorem vc_1_8 : vp_in (1 : Int32) 8 := vi_c _ _ (by decide +kernel)
theorem vc_10_26 : vp_in (10 : Int32) 26 := vi_c _ _ (by decide +kernel)
theorem vc_11_26 : vp_in (11 : Int32) 26 := vi_c _ _ (by decide +kernel)
theorem vc_12_26 : vp_in (12 : Int32) 26 := vi_c _ _ (by decide +kernel)
theorem vc_13_26 : vp_in (13 : Int32) 26 := vi_c _ _ (by decide +kernel)
theorem vc_14_26 : vp_in (14 : Int32) 26 := vi_c _ _ (by decide +kernel)
theorem vc_15_26 : vp_in (15 : Int32) 26 := vi_c _ _ (by decide +kernel)
theorem vc_16_26 : vp_in (16 : Int32) 26 := vi_c _ _ (by decide +kernel)
theorem vc_17_26 : vp_in (17 : Int32) 26 := vi_c _ _ (by decide +kernel)
theorem vc_18_26 : vp_in (18 : Int32) 26 := vi_c _ _ (by decide +kernel)
theorem vc_19_26 : vp_in (19 : Int32) 26 := vi_c _ _ (by decide +kernel)
theorem vc_2_26 : vp_in (2 : Int32) 26 := vi_c _ _ (by decide +kernel)
theorem vc_2_3 : vp_in (2 : Int32) 3 := vi_c _ _ (by decide +kernel)
theorem vc_2_7 : vp_in (2 : Int32) 7 := vi_c _ _ (by decide +kernel)
theorem vc_2_8 : vp_in (2 : Int32) 8 := vi_c _ _ (by decide +kernel)
theorem vc_20_26 : vp_in (20 : Int32) 26 := vi_c _ _ (by decide +kernel)
theorem vc_21_26 : vp_in (21 : Int32) 26 := vi_c _ _ (by decide +kernel)
theorem vc_22_26 : vp_in (22 : Int32) 26 := vi_c _ _ (by decide +kernel)
theorem vc_23_26 : vp_in (23 : Int32) 26 := vi_c _ _ (by decide +kernel)
theorem vc_24_26 : vp_in (24 : Int32) 26 := vi_c _ _ (by decide +kernel)
theorem vc_25_26 : vp_in (25 : Int32) 26 := vi_c _ _ (by decide +kernel)
theorem vc_3_26 : vp_in (3 : Int32) 26 := vi_c _ _ (by decide +kernel)
theorem vc_3_7 : vp_in (3 : Int32) 7 := vi_c _ _ (by decide +kernel)
theorem vc_3_8 : vp_in (3 : Int32) 8 := vi_c _ _ (by decide +kernel)
theorem vc_4_26 : vp_in (4 : Int32) 26 := vi_c _ _ (by decide +kernel)
theorem vc_4_7 : vp_in (4 : Int32) 7 := vi_c _ _ (by decide +kernel)
theorem vc_4_8 : vp_in (4 : Int32) 8 := vi_c _ _ (by decide +kernel)
theorem vc_5_26 : vp_in (5 : Int32) 26 := vi_c _ _ (by decide +kernel)
theorem vc_5_7 : vp_in (5 : Int32) 7 := vi_c _ _ (by decide +kernel)
theorem vc_5_8 : vp_in (5 : Int32) 8 := vi_c _ _ (by decide +kernel)
theorem vc_6_26 : vp_in (6 : Int32) 26 := vi_c _ _ (by decide +kernel)
theorem vc_6_7 : vp_in (6 : Int32) 7 := vi_c _ _ (by decide +kernel)
theorem vc_6_8 : vp_in (6 : Int32) 8 := vi_c _ _ (by decide +kernel)
theorem vc_7_26 : vp_in (7 : Int32) 26 := vi_c _ _ (by decide +kernel)
theorem vc_7_8 : vp_in (7 : Int32) 8 := vi_c _ _ (by decide +kernel)
theorem vc_8_26 : vp_in (8 : Int32) 26 := vi_c _ _ (by decide +kernel)
theorem vc_9_26 : vp_in (9 : Int32) 26 := vi_c _ _ (by decide +kernel)
