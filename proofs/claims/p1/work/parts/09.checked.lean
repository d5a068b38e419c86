/-! ===== CHECKED: each method by its bytes ===== -/
def zckR (a k : Nat) : Bool := (List.range k).all (fun i => zckM (a + i))
set_option maxRecDepth 100000 in
theorem zck_0 : zckR 0 20 = true := by decide +kernel
set_option maxRecDepth 100000 in
theorem zck_20 : zckR 20 20 = true := by decide +kernel
set_option maxRecDepth 100000 in
theorem zck_40 : zckR 40 20 = true := by decide +kernel
set_option maxRecDepth 100000 in
theorem zck_60 : zckR 60 20 = true := by decide +kernel
set_option maxRecDepth 100000 in
theorem zck_80 : zckR 80 20 = true := by decide +kernel
set_option maxRecDepth 100000 in
theorem zck_100 : zckR 100 20 = true := by decide +kernel
set_option maxRecDepth 100000 in
theorem zck_120 : zckR 120 20 = true := by decide +kernel
set_option maxRecDepth 100000 in
theorem zck_140 : zckR 140 20 = true := by decide +kernel
set_option maxRecDepth 100000 in
theorem zck_160 : zckR 160 20 = true := by decide +kernel
set_option maxRecDepth 100000 in
theorem zck_180 : zckR 180 20 = true := by decide +kernel
set_option maxRecDepth 100000 in
theorem zck_200 : zckR 200 20 = true := by decide +kernel
set_option maxRecDepth 100000 in
theorem zck_220 : zckR 220 20 = true := by decide +kernel
set_option maxRecDepth 100000 in
theorem zck_240 : zckR 240 20 = true := by decide +kernel
set_option maxRecDepth 100000 in
theorem zck_260 : zckR 260 20 = true := by decide +kernel
set_option maxRecDepth 100000 in
theorem zck_280 : zckR 280 20 = true := by decide +kernel
set_option maxRecDepth 100000 in
theorem zck_300 : zckR 300 20 = true := by decide +kernel
set_option maxRecDepth 100000 in
theorem zck_320 : zckR 320 20 = true := by decide +kernel
set_option maxRecDepth 100000 in
theorem zck_340 : zckR 340 20 = true := by decide +kernel
set_option maxRecDepth 100000 in
theorem zck_360 : zckR 360 20 = true := by decide +kernel
set_option maxRecDepth 100000 in
theorem zck_380 : zckR 380 2 = true := by decide +kernel
theorem zckR_ok {a k m : Nat} (h : zckR a k = true) (h1 : a ≤ m) (h2 : m < a + k) : zckM m = true := by
  have := List.all_eq_true.mp h (m - a) (List.mem_range.mpr (by omega))
  rwa [show a + (m - a) = m by omega] at this
theorem zcl_0 : zckB 382 0 zb_382_0 = true := by decide +kernel
theorem zcl_1 : zckB 382 28 zb_382_1 = true := by decide +kernel
theorem zcl_2 : zckB 382 320 zb_382_2 = true := by decide +kernel
theorem zcl_3 : zckB 382 356 zb_382_3 = true := by decide +kernel
theorem zcl_4 : zckB 382 373 zb_382_4 = true := by decide +kernel
theorem zcl_5 : zckB 382 376 zb_382_5 = true := by decide +kernel
theorem zcl_6 : zckB 382 424 zb_382_6 = true := by decide +kernel
theorem zcl_7 : zckB 382 441 zb_382_7 = true := by decide +kernel
theorem zcl_8 : zckB 382 444 zb_382_8 = true := by decide +kernel
theorem zcl_9 : zckB 382 492 zb_382_9 = true := by decide +kernel
theorem zcl_10 : zckB 382 509 zb_382_10 = true := by decide +kernel
theorem zcl_11 : zckB 382 512 zb_382_11 = true := by decide +kernel
theorem zcl_12 : zckB 382 560 zb_382_12 = true := by decide +kernel
theorem zcl_13 : zckB 382 577 zb_382_13 = true := by decide +kernel
theorem zcl_14 : zckB 382 580 zb_382_14 = true := by decide +kernel
theorem zcl_15 : zckB 382 628 zb_382_15 = true := by decide +kernel
theorem zcl_16 : zckB 382 645 zb_382_16 = true := by decide +kernel
theorem zcl_17 : zckB 382 648 zb_382_17 = true := by decide +kernel
theorem zcl_18 : zckB 382 684 zb_382_18 = true := by decide +kernel
theorem zcl_19 : zckB 382 701 zb_382_19 = true := by decide +kernel
theorem zcl_20 : zckB 382 704 zb_382_20 = true := by decide +kernel
theorem zcl_21 : zckB 382 752 zb_382_21 = true := by decide +kernel
theorem zcl_22 : zckB 382 769 zb_382_22 = true := by decide +kernel
theorem zcl_23 : zckB 382 772 zb_382_23 = true := by decide +kernel
theorem zcl_24 : zckB 382 820 zb_382_24 = true := by decide +kernel
theorem zcl_25 : zckB 382 837 zb_382_25 = true := by decide +kernel
theorem zcl_26 : zckB 382 840 zb_382_26 = true := by decide +kernel
theorem zcl_27 : zckB 382 853 zb_382_27 = true := by decide +kernel
theorem zcl_28 : zckB 382 889 zb_382_28 = true := by decide +kernel
theorem zcl_29 : zckB 382 906 zb_382_29 = true := by decide +kernel
theorem zcl_30 : zckB 382 909 zb_382_30 = true := by decide +kernel
theorem zcl_31 : zckB 382 930 zb_382_31 = true := by decide +kernel
theorem zcl_32 : zckB 382 931 zb_382_32 = true := by decide +kernel
theorem zcl_33 : zckB 382 958 zb_382_33 = true := by decide +kernel
theorem zcl_34 : zckB 382 959 zb_382_34 = true := by decide +kernel
theorem zcl_35 : zckB 382 975 zb_382_35 = true := by decide +kernel
theorem zcl_36 : zckB 382 992 zb_382_36 = true := by decide +kernel
theorem zcl_37 : zckB 382 993 zb_382_37 = true := by decide +kernel
theorem zcl_38 : zckB 382 999 zb_382_38 = true := by decide +kernel
theorem zcl_39 : zckB 382 1002 zb_382_39 = true := by decide +kernel
theorem zcl_40 : zckB 382 1038 zb_382_40 = true := by decide +kernel
theorem zcl_41 : zckB 382 1055 zb_382_41 = true := by decide +kernel
theorem zcl_42 : zckB 382 1058 zb_382_42 = true := by decide +kernel
theorem zcl_43 : zckB 382 1094 zb_382_43 = true := by decide +kernel
theorem zcl_44 : zckB 382 1111 zb_382_44 = true := by decide +kernel
theorem zcl_45 : zckB 382 1114 zb_382_45 = true := by decide +kernel
theorem zcl_46 : zckB 382 1128 zb_382_46 = true := by decide +kernel
theorem zcl_47 : zckB 382 1129 zb_382_47 = true := by decide +kernel
theorem zcl_48 : zckB 382 1149 zb_382_48 = true := by decide +kernel
theorem zcl_49 : zckB 382 1150 zb_382_49 = true := by decide +kernel
theorem zcl_50 : zckB 382 1166 zb_382_50 = true := by decide +kernel
theorem zcl_51 : zckB 382 1183 zb_382_51 = true := by decide +kernel
theorem zcl_52 : zckB 382 1186 zb_382_52 = true := by decide +kernel
theorem zcl_53 : zckB 382 1246 zb_382_53 = true := by decide +kernel
theorem zcl_54 : zckB 382 1263 zb_382_54 = true := by decide +kernel
theorem zcl_55 : zckB 382 1266 zb_382_55 = true := by decide +kernel
theorem zcl_56 : zckB 382 1290 zb_382_56 = true := by decide +kernel
theorem zcl_57 : zckB 382 1307 zb_382_57 = true := by decide +kernel
theorem zcl_58 : zckB 382 1310 zb_382_58 = true := by decide +kernel
theorem zcl_59 : zckB 382 1346 zb_382_59 = true := by decide +kernel
theorem zcl_60 : zckB 382 1363 zb_382_60 = true := by decide +kernel
theorem zcl_61 : zckB 382 1366 zb_382_61 = true := by decide +kernel
theorem zcl_62 : zckB 382 1402 zb_382_62 = true := by decide +kernel
theorem zcl_63 : zckB 382 1419 zb_382_63 = true := by decide +kernel
theorem zcl_64 : zckB 382 1422 zb_382_64 = true := by decide +kernel
theorem zcl_65 : zckB 382 1458 zb_382_65 = true := by decide +kernel
theorem zcl_66 : zckB 382 1475 zb_382_66 = true := by decide +kernel
theorem zcl_67 : zckB 382 1478 zb_382_67 = true := by decide +kernel
theorem zcl_68 : zckB 382 1514 zb_382_68 = true := by decide +kernel
theorem zcl_69 : zckB 382 1531 zb_382_69 = true := by decide +kernel
theorem zcl_70 : zckB 382 1534 zb_382_70 = true := by decide +kernel
theorem zcl_71 : zckB 382 1570 zb_382_71 = true := by decide +kernel
theorem zcl_72 : zckB 382 1587 zb_382_72 = true := by decide +kernel
theorem zcl_73 : zckB 382 1590 zb_382_73 = true := by decide +kernel
theorem zcl_74 : zckB 382 1650 zb_382_74 = true := by decide +kernel
theorem zcl_75 : zckB 382 1667 zb_382_75 = true := by decide +kernel
theorem zcl_76 : zckB 382 1670 zb_382_76 = true := by decide +kernel
theorem zcl_77 : zckB 382 1706 zb_382_77 = true := by decide +kernel
theorem zcl_78 : zckB 382 1723 zb_382_78 = true := by decide +kernel
theorem zcl_79 : zckB 382 1726 zb_382_79 = true := by decide +kernel
theorem zcl_80 : zckB 382 1750 zb_382_80 = true := by decide +kernel
theorem zcl_81 : zckB 382 1767 zb_382_81 = true := by decide +kernel
theorem zcl_82 : zckB 382 1770 zb_382_82 = true := by decide +kernel
theorem zcl_83 : zckB 382 1806 zb_382_83 = true := by decide +kernel
theorem zcl_84 : zckB 382 1823 zb_382_84 = true := by decide +kernel
theorem zcl_85 : zckB 382 1826 zb_382_85 = true := by decide +kernel
theorem zcl_86 : zckB 382 1862 zb_382_86 = true := by decide +kernel
theorem zcl_87 : zckB 382 1878 zb_382_87 = true := by decide +kernel
theorem zcl_88 : zckB 382 1881 zb_382_88 = true := by decide +kernel
theorem zcl_89 : zckB 382 1917 zb_382_89 = true := by decide +kernel
theorem zcl_90 : zckB 382 1933 zb_382_90 = true := by decide +kernel
theorem zcl_91 : zckB 382 1936 zb_382_91 = true := by decide +kernel
theorem zcl_92 : zckB 382 1973 zb_382_92 = true := by decide +kernel
theorem zcl_93 : zckB 382 2008 zb_382_93 = true := by decide +kernel
theorem zcl_94 : zckB 382 2010 zb_382_94 = true := by decide +kernel
theorem zcl_95 : zckB 382 2013 zb_382_95 = true := by decide +kernel
theorem zcl_96 : zckB 382 2061 zb_382_96 = true := by decide +kernel
theorem zcl_97 : zckB 382 2078 zb_382_97 = true := by decide +kernel
theorem zcl_98 : zckB 382 2081 zb_382_98 = true := by decide +kernel
theorem zcl_99 : zckB 382 2094 zb_382_99 = true := by decide +kernel
theorem zcl_100 : zckB 382 2118 zb_382_100 = true := by decide +kernel
theorem zcl_101 : zckB 382 2135 zb_382_101 = true := by decide +kernel
theorem zcl_102 : zckB 382 2138 zb_382_102 = true := by decide +kernel
theorem zcl_103 : zckB 382 2174 zb_382_103 = true := by decide +kernel
theorem zcl_104 : zckB 382 2191 zb_382_104 = true := by decide +kernel
theorem zcl_105 : zckB 382 2192 zb_382_105 = true := by decide +kernel
theorem zcl_106 : zckB 382 2198 zb_382_106 = true := by decide +kernel
theorem zcl_107 : zckB 382 2201 zb_382_107 = true := by decide +kernel
theorem zcl_108 : zckB 382 2214 zb_382_108 = true := by decide +kernel
theorem zcl_109 : zckB 382 2288 zb_382_109 = true := by decide +kernel
theorem zcl_110 : zckB 382 2305 zb_382_110 = true := by decide +kernel
theorem zcl_111 : zckB 382 2308 zb_382_111 = true := by decide +kernel
theorem zcl_112 : zckB 382 2344 zb_382_112 = true := by decide +kernel
theorem zcl_113 : zckB 382 2361 zb_382_113 = true := by decide +kernel
theorem zcl_114 : zckB 382 2364 zb_382_114 = true := by decide +kernel
theorem zcl_115 : zckB 382 2412 zb_382_115 = true := by decide +kernel
theorem zcl_116 : zckB 382 2429 zb_382_116 = true := by decide +kernel
theorem zcl_117 : zckB 382 2432 zb_382_117 = true := by decide +kernel
theorem zcl_118 : zckB 382 2480 zb_382_118 = true := by decide +kernel
theorem zcl_119 : zckB 382 2497 zb_382_119 = true := by decide +kernel
theorem zcl_120 : zckB 382 2500 zb_382_120 = true := by decide +kernel
theorem zcl_121 : zckB 382 2536 zb_382_121 = true := by decide +kernel
theorem zcl_122 : zckB 382 2553 zb_382_122 = true := by decide +kernel
theorem zcl_123 : zckB 382 2556 zb_382_123 = true := by decide +kernel
theorem zcl_124 : zckB 382 2604 zb_382_124 = true := by decide +kernel
theorem zcl_125 : zckB 382 2621 zb_382_125 = true := by decide +kernel
theorem zcl_126 : zckB 382 2624 zb_382_126 = true := by decide +kernel
theorem zcl_127 : zckB 382 2660 zb_382_127 = true := by decide +kernel
theorem zcl_128 : zckB 382 2677 zb_382_128 = true := by decide +kernel
theorem zcl_129 : zckB 382 2680 zb_382_129 = true := by decide +kernel
theorem zcl_130 : zckB 382 2704 zb_382_130 = true := by decide +kernel
theorem zcl_131 : zckB 382 2721 zb_382_131 = true := by decide +kernel
theorem zcl_132 : zckB 382 2724 zb_382_132 = true := by decide +kernel
theorem zcl_133 : zckB 382 2748 zb_382_133 = true := by decide +kernel
theorem zcl_134 : zckB 382 2765 zb_382_134 = true := by decide +kernel
theorem zcl_135 : zckB 382 2768 zb_382_135 = true := by decide +kernel
theorem zcl_136 : zckB 382 2781 zb_382_136 = true := by decide +kernel
theorem zcl_137 : zckB 382 2795 zb_382_137 = true := by decide +kernel
theorem zcl_138 : zckB 382 2809 zb_382_138 = true := by decide +kernel
theorem zcl_139 : zckB 382 2857 zb_382_139 = true := by decide +kernel
theorem zcl_140 : zckB 382 2874 zb_382_140 = true := by decide +kernel
theorem zcl_141 : zckB 382 2877 zb_382_141 = true := by decide +kernel
theorem zcl_142 : zckB 382 2913 zb_382_142 = true := by decide +kernel
theorem zcl_143 : zckB 382 2930 zb_382_143 = true := by decide +kernel
theorem zcl_144 : zckB 382 2933 zb_382_144 = true := by decide +kernel
theorem zcl_145 : zckB 382 2957 zb_382_145 = true := by decide +kernel
theorem zcl_146 : zckB 382 2974 zb_382_146 = true := by decide +kernel
theorem zcl_147 : zckB 382 2977 zb_382_147 = true := by decide +kernel
theorem zcl_148 : zckB 382 3013 zb_382_148 = true := by decide +kernel
theorem zcl_149 : zckB 382 3030 zb_382_149 = true := by decide +kernel
theorem zcl_150 : zckB 382 3033 zb_382_150 = true := by decide +kernel
theorem zcl_151 : zckB 382 3046 zb_382_151 = true := by decide +kernel
theorem zcl_152 : zckB 382 3059 zb_382_152 = true := by decide +kernel
theorem zcl_153 : zckB 382 3095 zb_382_153 = true := by decide +kernel
theorem zcl_154 : zckB 382 3112 zb_382_154 = true := by decide +kernel
theorem zcl_155 : zckB 382 3115 zb_382_155 = true := by decide +kernel
theorem zcl_156 : zckB 382 3151 zb_382_156 = true := by decide +kernel
theorem zcl_157 : zckB 382 3168 zb_382_157 = true := by decide +kernel
theorem zcl_158 : zckB 382 3171 zb_382_158 = true := by decide +kernel
theorem zcl_159 : zckB 382 3207 zb_382_159 = true := by decide +kernel
theorem zcl_160 : zckB 382 3224 zb_382_160 = true := by decide +kernel
theorem zcl_161 : zckB 382 3225 zb_382_161 = true := by decide +kernel
theorem zcl_162 : zckB 382 3231 zb_382_162 = true := by decide +kernel
theorem zcl_163 : zckB 382 3234 zb_382_163 = true := by decide +kernel
theorem zcl_164 : zckB 382 3270 zb_382_164 = true := by decide +kernel
theorem zcl_165 : zckB 382 3287 zb_382_165 = true := by decide +kernel
theorem zcl_166 : zckB 382 3290 zb_382_166 = true := by decide +kernel
theorem zcl_167 : zckB 382 3326 zb_382_167 = true := by decide +kernel
theorem zcl_168 : zckB 382 3343 zb_382_168 = true := by decide +kernel
theorem zcl_169 : zckB 382 3346 zb_382_169 = true := by decide +kernel
theorem zcl_170 : zckB 382 3382 zb_382_170 = true := by decide +kernel
theorem zcl_171 : zckB 382 3399 zb_382_171 = true := by decide +kernel
theorem zcl_172 : zckB 382 3402 zb_382_172 = true := by decide +kernel
theorem zcl_173 : zckB 382 3415 zb_382_173 = true := by decide +kernel
theorem zcl_174 : zckB 382 3463 zb_382_174 = true := by decide +kernel
theorem zcl_175 : zckB 382 3479 zb_382_175 = true := by decide +kernel
theorem zcl_176 : zckB 382 3482 zb_382_176 = true := by decide +kernel
theorem zcl_177 : zckB 382 3530 zb_382_177 = true := by decide +kernel
theorem zcl_178 : zckB 382 3546 zb_382_178 = true := by decide +kernel
theorem zcl_179 : zckB 382 3549 zb_382_179 = true := by decide +kernel
theorem zcl_180 : zckB 382 3563 zb_382_180 = true := by decide +kernel
theorem zcl_181 : zckB 382 3576 zb_382_181 = true := by decide +kernel
theorem zcl_182 : zckB 382 3601 zb_382_182 = true := by decide +kernel
theorem zcl_183 : zckB 382 3637 zb_382_183 = true := by decide +kernel
theorem zcl_184 : zckB 382 3639 zb_382_184 = true := by decide +kernel
theorem zcl_185 : zckB 382 3642 zb_382_185 = true := by decide +kernel
theorem zcl_186 : zckB 382 3667 zb_382_186 = true := by decide +kernel
theorem zcl_187 : zckB 382 3702 zb_382_187 = true := by decide +kernel
theorem zcl_188 : zckB 382 3704 zb_382_188 = true := by decide +kernel
theorem zcl_189 : zckB 382 3707 zb_382_189 = true := by decide +kernel
theorem zcl_190 : zckB 382 3720 zb_382_190 = true := by decide +kernel
theorem zcl_191 : zckB 382 3726 zb_382_191 = true := by decide +kernel
theorem zcl_p : zBPl.getD 382 [] = [0, 28, 320, 356, 373, 376, 424, 441, 444, 492, 509, 512, 560, 577, 580, 628, 645, 648, 684, 701, 704, 752, 769, 772, 820, 837, 840, 853, 889, 906, 909, 930, 931, 958, 959, 975, 992, 993, 999, 1002, 1038, 1055, 1058, 1094, 1111, 1114, 1128, 1129, 1149, 1150, 1166, 1183, 1186, 1246, 1263, 1266, 1290, 1307, 1310, 1346, 1363, 1366, 1402, 1419, 1422, 1458, 1475, 1478, 1514, 1531, 1534, 1570, 1587, 1590, 1650, 1667, 1670, 1706, 1723, 1726, 1750, 1767, 1770, 1806, 1823, 1826, 1862, 1878, 1881, 1917, 1933, 1936, 1973, 2008, 2010, 2013, 2061, 2078, 2081, 2094, 2118, 2135, 2138, 2174, 2191, 2192, 2198, 2201, 2214, 2288, 2305, 2308, 2344, 2361, 2364, 2412, 2429, 2432, 2480, 2497, 2500, 2536, 2553, 2556, 2604, 2621, 2624, 2660, 2677, 2680, 2704, 2721, 2724, 2748, 2765, 2768, 2781, 2795, 2809, 2857, 2874, 2877, 2913, 2930, 2933, 2957, 2974, 2977, 3013, 3030, 3033, 3046, 3059, 3095, 3112, 3115, 3151, 3168, 3171, 3207, 3224, 3225, 3231, 3234, 3270, 3287, 3290, 3326, 3343, 3346, 3382, 3399, 3402, 3415, 3463, 3479, 3482, 3530, 3546, 3549, 3563, 3576, 3601, 3637, 3639, 3642, 3667, 3702, 3704, 3707, 3720, 3726] := by decide +kernel
set_option maxRecDepth 100000 in
theorem zcl_c : zCD.getD 382 [] = zc_382 := by decide +kernel
set_option maxRecDepth 100000 in
set_option maxHeartbeats 4000000 in
theorem zck_law : zckM 382 = true := by
  have h0 : zbp 382 0 = 0 := by decide +kernel
  unfold zckM
  rw [zcl_p, zcl_c]
  simp only [zc_382, zckBs, zcl_0, zcl_1, zcl_2, zcl_3, zcl_4, zcl_5, zcl_6, zcl_7, zcl_8, zcl_9, zcl_10, zcl_11, zcl_12, zcl_13, zcl_14, zcl_15, zcl_16, zcl_17, zcl_18, zcl_19, zcl_20, zcl_21, zcl_22, zcl_23, zcl_24, zcl_25, zcl_26, zcl_27, zcl_28, zcl_29, zcl_30, zcl_31, zcl_32, zcl_33, zcl_34, zcl_35, zcl_36, zcl_37, zcl_38, zcl_39, zcl_40, zcl_41, zcl_42, zcl_43, zcl_44, zcl_45, zcl_46, zcl_47, zcl_48, zcl_49, zcl_50, zcl_51, zcl_52, zcl_53, zcl_54, zcl_55, zcl_56, zcl_57, zcl_58, zcl_59, zcl_60, zcl_61, zcl_62, zcl_63, zcl_64, zcl_65, zcl_66, zcl_67, zcl_68, zcl_69, zcl_70, zcl_71, zcl_72, zcl_73, zcl_74, zcl_75, zcl_76, zcl_77, zcl_78, zcl_79, zcl_80, zcl_81, zcl_82, zcl_83, zcl_84, zcl_85, zcl_86, zcl_87, zcl_88, zcl_89, zcl_90, zcl_91, zcl_92, zcl_93, zcl_94, zcl_95, zcl_96, zcl_97, zcl_98, zcl_99, zcl_100, zcl_101, zcl_102, zcl_103, zcl_104, zcl_105, zcl_106, zcl_107, zcl_108, zcl_109, zcl_110, zcl_111, zcl_112, zcl_113, zcl_114, zcl_115, zcl_116, zcl_117, zcl_118, zcl_119, zcl_120, zcl_121, zcl_122, zcl_123, zcl_124, zcl_125, zcl_126, zcl_127, zcl_128, zcl_129, zcl_130, zcl_131, zcl_132, zcl_133, zcl_134, zcl_135, zcl_136, zcl_137, zcl_138, zcl_139, zcl_140, zcl_141, zcl_142, zcl_143, zcl_144, zcl_145, zcl_146, zcl_147, zcl_148, zcl_149, zcl_150, zcl_151, zcl_152, zcl_153, zcl_154, zcl_155, zcl_156, zcl_157, zcl_158, zcl_159, zcl_160, zcl_161, zcl_162, zcl_163, zcl_164, zcl_165, zcl_166, zcl_167, zcl_168, zcl_169, zcl_170, zcl_171, zcl_172, zcl_173, zcl_174, zcl_175, zcl_176, zcl_177, zcl_178, zcl_179, zcl_180, zcl_181, zcl_182, zcl_183, zcl_184, zcl_185, zcl_186, zcl_187, zcl_188, zcl_189, zcl_190, zcl_191, Bool.true_and, h0, decide_true]
theorem zck_all : ∀ m, m < 383 → zckM m = true := by
  intro m hm
  by_cases h0 : 0 ≤ m ∧ m < 20
  · exact zckR_ok zck_0 h0.1 h0.2
  by_cases h20 : 20 ≤ m ∧ m < 40
  · exact zckR_ok zck_20 h20.1 h20.2
  by_cases h40 : 40 ≤ m ∧ m < 60
  · exact zckR_ok zck_40 h40.1 h40.2
  by_cases h60 : 60 ≤ m ∧ m < 80
  · exact zckR_ok zck_60 h60.1 h60.2
  by_cases h80 : 80 ≤ m ∧ m < 100
  · exact zckR_ok zck_80 h80.1 h80.2
  by_cases h100 : 100 ≤ m ∧ m < 120
  · exact zckR_ok zck_100 h100.1 h100.2
  by_cases h120 : 120 ≤ m ∧ m < 140
  · exact zckR_ok zck_120 h120.1 h120.2
  by_cases h140 : 140 ≤ m ∧ m < 160
  · exact zckR_ok zck_140 h140.1 h140.2
  by_cases h160 : 160 ≤ m ∧ m < 180
  · exact zckR_ok zck_160 h160.1 h160.2
  by_cases h180 : 180 ≤ m ∧ m < 200
  · exact zckR_ok zck_180 h180.1 h180.2
  by_cases h200 : 200 ≤ m ∧ m < 220
  · exact zckR_ok zck_200 h200.1 h200.2
  by_cases h220 : 220 ≤ m ∧ m < 240
  · exact zckR_ok zck_220 h220.1 h220.2
  by_cases h240 : 240 ≤ m ∧ m < 260
  · exact zckR_ok zck_240 h240.1 h240.2
  by_cases h260 : 260 ≤ m ∧ m < 280
  · exact zckR_ok zck_260 h260.1 h260.2
  by_cases h280 : 280 ≤ m ∧ m < 300
  · exact zckR_ok zck_280 h280.1 h280.2
  by_cases h300 : 300 ≤ m ∧ m < 320
  · exact zckR_ok zck_300 h300.1 h300.2
  by_cases h320 : 320 ≤ m ∧ m < 340
  · exact zckR_ok zck_320 h320.1 h320.2
  by_cases h340 : 340 ≤ m ∧ m < 360
  · exact zckR_ok zck_340 h340.1 h340.2
  by_cases h360 : 360 ≤ m ∧ m < 380
  · exact zckR_ok zck_360 h360.1 h360.2
  by_cases h380 : 380 ≤ m ∧ m < 382
  · exact zckR_ok zck_380 h380.1 h380.2
  have e : m = 382 := by omega
  subst e
  exact zck_law
