theorem zckBs_nil {m : Nat} : zckBs m [] [] = true := rfl
theorem zckBs_cons {m p : Nat} {ps : List Nat} {b : List zI} {bs : List (List zI)} (h : zckB m p b = true) (hs : zckBs m ps bs = true) : zckBs m (p :: ps) (b :: bs) = true := by simp only [zckBs, h, hs, Bool.and_true]
theorem zcl_0 : zckB 382 0 zb_382_0 = true := by decide +kernel
theorem zcl_1 : zckB 382 28 zb_382_1 = true := by decide +kernel
theorem zcl_2 : zckB 382 320 zb_382_2 = true := by decide +kernel
theorem zcl_3 : zckB 382 356 zb_382_3 = true := by decide +kernel
theorem zcl_4 : zckB 382 373 zb_382_4 = true := by decide +kernel
theorem zcl_5 : zckB 382 376 zb_382_5 = true := by decide +kernel
theorem zcl_6 : zckB 382 424 zb_382_6 = true := by decide +kernel
theorem zcl_7 : zckB 382 441 zb_382_7 = true := by decide +kernel
theorem zcl_8 : zckB 382 444 zb_382_8 = true := by decide +kernel
theorem zcl_9 : zckB 382 492 zb_382_9 = true := by decide +kernel
theorem zcl_10 : zckB 382 509 zb_382_10 = true := by decide +kernel
theorem zcl_11 : zckB 382 512 zb_382_11 = true := by decide +kernel
theorem zcl_12 : zckB 382 560 zb_382_12 = true := by decide +kernel
theorem zcl_13 : zckB 382 577 zb_382_13 = true := by decide +kernel
theorem zcl_14 : zckB 382 580 zb_382_14 = true := by decide +kernel
theorem zcl_15 : zckB 382 628 zb_382_15 = true := by decide +kernel
theorem zcl_16 : zckB 382 645 zb_382_16 = true := by decide +kernel
theorem zcl_17 : zckB 382 648 zb_382_17 = true := by decide +kernel
theorem zcl_18 : zckB 382 684 zb_382_18 = true := by decide +kernel
theorem zcl_19 : zckB 382 701 zb_382_19 = true := by decide +kernel
theorem zcl_20 : zckB 382 704 zb_382_20 = true := by decide +kernel
theorem zcl_21 : zckB 382 752 zb_382_21 = true := by decide +kernel
theorem zcl_22 : zckB 382 769 zb_382_22 = true := by decide +kernel
theorem zcl_23 : zckB 382 772 zb_382_23 = true := by decide +kernel
theorem zcl_24 : zckB 382 820 zb_382_24 = true := by decide +kernel
theorem zcl_25 : zckB 382 837 zb_382_25 = true := by decide +kernel
theorem zcl_26 : zckB 382 840 zb_382_26 = true := by decide +kernel
theorem zcl_27 : zckB 382 853 zb_382_27 = true := by decide +kernel
theorem zcl_28 : zckB 382 889 zb_382_28 = true := by decide +kernel
theorem zcl_29 : zckB 382 906 zb_382_29 = true := by decide +kernel
theorem zcl_30 : zckB 382 909 zb_382_30 = true := by decide +kernel
theorem zcl_31 : zckB 382 930 zb_382_31 = true := by decide +kernel
theorem zcl_32 : zckB 382 931 zb_382_32 = true := by decide +kernel
theorem zcl_33 : zckB 382 958 zb_382_33 = true := by decide +kernel
theorem zcl_34 : zckB 382 959 zb_382_34 = true := by decide +kernel
theorem zcl_35 : zckB 382 975 zb_382_35 = true := by decide +kernel
theorem zcl_36 : zckB 382 992 zb_382_36 = true := by decide +kernel
theorem zcl_37 : zckB 382 993 zb_382_37 = true := by decide +kernel
theorem zcl_38 : zckB 382 999 zb_382_38 = true := by decide +kernel
theorem zcl_39 : zckB 382 1002 zb_382_39 = true := by decide +kernel
theorem zcl_40 : zckB 382 1038 zb_382_40 = true := by decide +kernel
theorem zcl_41 : zckB 382 1055 zb_382_41 = true := by decide +kernel
theorem zcl_42 : zckB 382 1058 zb_382_42 = true := by decide +kernel
theorem zcl_43 : zckB 382 1094 zb_382_43 = true := by decide +kernel
theorem zcl_44 : zckB 382 1111 zb_382_44 = true := by decide +kernel
theorem zcl_45 : zckB 382 1114 zb_382_45 = true := by decide +kernel
theorem zcl_46 : zckB 382 1128 zb_382_46 = true := by decide +kernel
theorem zcl_47 : zckB 382 1129 zb_382_47 = true := by decide +kernel
theorem zcl_48 : zckB 382 1149 zb_382_48 = true := by decide +kernel
theorem zcl_49 : zckB 382 1150 zb_382_49 = true := by decide +kernel
theorem zcl_50 : zckB 382 1166 zb_382_50 = true := by decide +kernel
theorem zcl_51 : zckB 382 1183 zb_382_51 = true := by decide +kernel
theorem zcl_52 : zckB 382 1186 zb_382_52 = true := by decide +kernel
theorem zcl_53 : zckB 382 1246 zb_382_53 = true := by decide +kernel
theorem zcl_54 : zckB 382 1263 zb_382_54 = true := by decide +kernel
theorem zcl_55 : zckB 382 1266 zb_382_55 = true := by decide +kernel
theorem zcl_56 : zckB 382 1290 zb_382_56 = true := by decide +kernel
theorem zcl_57 : zckB 382 1307 zb_382_57 = true := by decide +kernel
theorem zcl_58 : zckB 382 1310 zb_382_58 = true := by decide +kernel
theorem zcl_59 : zckB 382 1346 zb_382_59 = true := by decide +kernel
theorem zcl_60 : zckB 382 1363 zb_382_60 = true := by decide +kernel
theorem zcl_61 : zckB 382 1366 zb_382_61 = true := by decide +kernel
theorem zcl_62 : zckB 382 1402 zb_382_62 = true := by decide +kernel
theorem zcl_63 : zckB 382 1419 zb_382_63 = true := by decide +kernel
theorem zcl_64 : zckB 382 1422 zb_382_64 = true := by decide +kernel
theorem zcl_65 : zckB 382 1458 zb_382_65 = true := by decide +kernel
theorem zcl_66 : zckB 382 1475 zb_382_66 = true := by decide +kernel
theorem zcl_67 : zckB 382 1478 zb_382_67 = true := by decide +kernel
theorem zcl_68 : zckB 382 1514 zb_382_68 = true := by decide +kernel
theorem zcl_69 : zckB 382 1531 zb_382_69 = true := by decide +kernel
theorem zcl_70 : zckB 382 1534 zb_382_70 = true := by decide +kernel
theorem zcl_71 : zckB 382 1570 zb_382_71 = true := by decide +kernel
theorem zcl_72 : zckB 382 1587 zb_382_72 = true := by decide +kernel
theorem zcl_73 : zckB 382 1590 zb_382_73 = true := by decide +kernel
theorem zcl_74 : zckB 382 1650 zb_382_74 = true := by decide +kernel
theorem zcl_75 : zckB 382 1667 zb_382_75 = true := by decide +kernel
theorem zcl_76 : zckB 382 1670 zb_382_76 = true := by decide +kernel
theorem zcl_77 : zckB 382 1706 zb_382_77 = true := by decide +kernel
theorem zcl_78 : zckB 382 1723 zb_382_78 = true := by decide +kernel
theorem zcl_79 : zckB 382 1726 zb_382_79 = true := by decide +kernel
theorem zcl_80 : zckB 382 1750 zb_382_80 = true := by decide +kernel
theorem zcl_81 : zckB 382 1767 zb_382_81 = true := by decide +kernel
theorem zcl_82 : zckB 382 1770 zb_382_82 = true := by decide +kernel
theorem zcl_83 : zckB 382 1806 zb_382_83 = true := by decide +kernel
theorem zcl_84 : zckB 382 1823 zb_382_84 = true := by decide +kernel
theorem zcl_85 : zckB 382 1826 zb_382_85 = true := by decide +kernel
theorem zcl_86 : zckB 382 1862 zb_382_86 = true := by decide +kernel
theorem zcl_87 : zckB 382 1878 zb_382_87 = true := by decide +kernel
theorem zcl_88 : zckB 382 1881 zb_382_88 = true := by decide +kernel
theorem zcl_89 : zckB 382 1917 zb_382_89 = true := by decide +kernel
theorem zcl_90 : zckB 382 1933 zb_382_90 = true := by decide +kernel
theorem zcl_91 : zckB 382 1936 zb_382_91 = true := by decide +kernel
theorem zcl_92 : zckB 382 1973 zb_382_92 = true := by decide +kernel
theorem zcl_93 : zckB 382 2008 zb_382_93 = true := by decide +kernel
theorem zcl_94 : zckB 382 2010 zb_382_94 = true := by decide +kernel
theorem zcl_95 : zckB 382 2013 zb_382_95 = true := by decide +kernel
theorem zcl_96 : zckB 382 2061 zb_382_96 = true := by decide +kernel
theorem zcl_97 : zckB 382 2078 zb_382_97 = true := by decide +kernel
theorem zcl_98 : zckB 382 2081 zb_382_98 = true := by decide +kernel
theorem zcl_99 : zckB 382 2094 zb_382_99 = true := by decide +kernel
theorem zcl_100 : zckB 382 2118 zb_382_100 = true := by decide +kernel
theorem zcl_101 : zckB 382 2135 zb_382_101 = true := by decide +kernel
theorem zcl_102 : zckB 382 2138 zb_382_102 = true := by decide +kernel
theorem zcl_103 : zckB 382 2174 zb_382_103 = true := by decide +kernel
theorem zcl_104 : zckB 382 2191 zb_382_104 = true := by decide +kernel
theorem zcl_105 : zckB 382 2192 zb_382_105 = true := by decide +kernel
theorem zcl_106 : zckB 382 2198 zb_382_106 = true := by decide +kernel
theorem zcl_107 : zckB 382 2201 zb_382_107 = true := by decide +kernel
theorem zcl_108 : zckB 382 2214 zb_382_108 = true := by decide +kernel
theorem zcl_109 : zckB 382 2288 zb_382_109 = true := by decide +kernel
theorem zcl_110 : zckB 382 2305 zb_382_110 = true := by decide +kernel
theorem zcl_111 : zckB 382 2308 zb_382_111 = true := by decide +kernel
theorem zcl_112 : zckB 382 2344 zb_382_112 = true := by decide +kernel
theorem zcl_113 : zckB 382 2361 zb_382_113 = true := by decide +kernel
theorem zcl_114 : zckB 382 2364 zb_382_114 = true := by decide +kernel
theorem zcl_115 : zckB 382 2412 zb_382_115 = true := by decide +kernel
theorem zcl_116 : zckB 382 2429 zb_382_116 = true := by decide +kernel
theorem zcl_117 : zckB 382 2432 zb_382_117 = true := by decide +kernel
theorem zcl_118 : zckB 382 2480 zb_382_118 = true := by decide +kernel
theorem zcl_119 : zckB 382 2497 zb_382_119 = true := by decide +kernel
theorem zcl_120 : zckB 382 2500 zb_382_120 = true := by decide +kernel
theorem zcl_121 : zckB 382 2536 zb_382_121 = true := by decide +kernel
theorem zcl_122 : zckB 382 2553 zb_382_122 = true := by decide +kernel
theorem zcl_123 : zckB 382 2556 zb_382_123 = true := by decide +kernel
theorem zcl_124 : zckB 382 2604 zb_382_124 = true := by decide +kernel
theorem zcl_125 : zckB 382 2621 zb_382_125 = true := by decide +kernel
theorem zcl_126 : zckB 382 2624 zb_382_126 = true := by decide +kernel
theorem zcl_127 : zckB 382 2660 zb_382_127 = true := by decide +kernel
theorem zcl_128 : zckB 382 2677 zb_382_128 = true := by decide +kernel
theorem zcl_129 : zckB 382 2680 zb_382_129 = true := by decide +kernel
theorem zcl_130 : zckB 382 2704 zb_382_130 = true := by decide +kernel
theorem zcl_131 : zckB 382 2721 zb_382_131 = true := by decide +kernel
theorem zcl_132 : zckB 382 2724 zb_382_132 = true := by decide +kernel
theorem zcl_133 : zckB 382 2748 zb_382_133 = true := by decide +kernel
theorem zcl_134 : zckB 382 2765 zb_382_134 = true := by decide +kernel
theorem zcl_135 : zckB 382 2768 zb_382_135 = true := by decide +kernel
theorem zcl_136 : zckB 382 2781 zb_382_136 = true := by decide +kernel
theorem zcl_137 : zckB 382 2795 zb_382_137 = true := by decide +kernel
theorem zcl_138 : zckB 382 2809 zb_382_138 = true := by decide +kernel
theorem zcl_139 : zckB 382 2857 zb_382_139 = true := by decide +kernel
theorem zcl_140 : zckB 382 2874 zb_382_140 = true := by decide +kernel
theorem zcl_141 : zckB 382 2877 zb_382_141 = true := by decide +kernel
theorem zcl_142 : zckB 382 2913 zb_382_142 = true := by decide +kernel
theorem zcl_143 : zckB 382 2930 zb_382_143 = true := by decide +kernel
theorem zcl_144 : zckB 382 2933 zb_382_144 = true := by decide +kernel
theorem zcl_145 : zckB 382 2957 zb_382_145 = true := by decide +kernel
theorem zcl_146 : zckB 382 2974 zb_382_146 = true := by decide +kernel
theorem zcl_147 : zckB 382 2977 zb_382_147 = true := by decide +kernel
theorem zcl_148 : zckB 382 3013 zb_382_148 = true := by decide +kernel
theorem zcl_149 : zckB 382 3030 zb_382_149 = true := by decide +kernel
theorem zcl_150 : zckB 382 3033 zb_382_150 = true := by decide +kernel
theorem zcl_151 : zckB 382 3046 zb_382_151 = true := by decide +kernel
theorem zcl_152 : zckB 382 3059 zb_382_152 = true := by decide +kernel
theorem zcl_153 : zckB 382 3095 zb_382_153 = true := by decide +kernel
theorem zcl_154 : zckB 382 3112 zb_382_154 = true := by decide +kernel
theorem zcl_155 : zckB 382 3115 zb_382_155 = true := by decide +kernel
theorem zcl_156 : zckB 382 3151 zb_382_156 = true := by decide +kernel
theorem zcl_157 : zckB 382 3168 zb_382_157 = true := by decide +kernel
theorem zcl_158 : zckB 382 3171 zb_382_158 = true := by decide +kernel
theorem zcl_159 : zckB 382 3207 zb_382_159 = true := by decide +kernel
theorem zcl_160 : zckB 382 3224 zb_382_160 = true := by decide +kernel
theorem zcl_161 : zckB 382 3225 zb_382_161 = true := by decide +kernel
theorem zcl_162 : zckB 382 3231 zb_382_162 = true := by decide +kernel
theorem zcl_163 : zckB 382 3234 zb_382_163 = true := by decide +kernel
theorem zcl_164 : zckB 382 3270 zb_382_164 = true := by decide +kernel
theorem zcl_165 : zckB 382 3287 zb_382_165 = true := by decide +kernel
theorem zcl_166 : zckB 382 3290 zb_382_166 = true := by decide +kernel
theorem zcl_167 : zckB 382 3326 zb_382_167 = true := by decide +kernel
theorem zcl_168 : zckB 382 3343 zb_382_168 = true := by decide +kernel
theorem zcl_169 : zckB 382 3346 zb_382_169 = true := by decide +kernel
theorem zcl_170 : zckB 382 3382 zb_382_170 = true := by decide +kernel
theorem zcl_171 : zckB 382 3399 zb_382_171 = true := by decide +kernel
theorem zcl_172 : zckB 382 3402 zb_382_172 = true := by decide +kernel
theorem zcl_173 : zckB 382 3415 zb_382_173 = true := by decide +kernel
theorem zcl_174 : zckB 382 3463 zb_382_174 = true := by decide +kernel
theorem zcl_175 : zckB 382 3479 zb_382_175 = true := by decide +kernel
theorem zcl_176 : zckB 382 3482 zb_382_176 = true := by decide +kernel
theorem zcl_177 : zckB 382 3530 zb_382_177 = true := by decide +kernel
theorem zcl_178 : zckB 382 3546 zb_382_178 = true := by decide +kernel
theorem zcl_179 : zckB 382 3549 zb_382_179 = true := by decide +kernel
theorem zcl_180 : zckB 382 3563 zb_382_180 = true := by decide +kernel
theorem zcl_181 : zckB 382 3576 zb_382_181 = true := by decide +kernel
theorem zcl_182 : zckB 382 3601 zb_382_182 = true := by decide +kernel
theorem zcl_183 : zckB 382 3637 zb_382_183 = true := by decide +kernel
theorem zcl_184 : zckB 382 3639 zb_382_184 = true := by decide +kernel
theorem zcl_185 : zckB 382 3642 zb_382_185 = true := by decide +kernel
theorem zcl_186 : zckB 382 3667 zb_382_186 = true := by decide +kernel
theorem zcl_187 : zckB 382 3702 zb_382_187 = true := by decide +kernel
theorem zcl_188 : zckB 382 3704 zb_382_188 = true := by decide +kernel
theorem zcl_189 : zckB 382 3707 zb_382_189 = true := by decide +kernel
theorem zcl_190 : zckB 382 3720 zb_382_190 = true := by decide +kernel
theorem zcl_191 : zckB 382 3726 zb_382_191 = true := by decide +kernel
theorem zcl_p : zBPl.getD 382 [] = [0, 28, 320, 356, 373, 376, 424, 441, 444, 492, 509, 512, 560, 577, 580, 628, 645, 648, 684, 701, 704, 752, 769, 772, 820, 837, 840, 853, 889, 906, 909, 930, 931, 958, 959, 975, 992, 993, 999, 1002, 1038, 1055, 1058, 1094, 1111, 1114, 1128, 1129, 1149, 1150, 1166, 1183, 1186, 1246, 1263, 1266, 1290, 1307, 1310, 1346, 1363, 1366, 1402, 1419, 1422, 1458, 1475, 1478, 1514, 1531, 1534, 1570, 1587, 1590, 1650, 1667, 1670, 1706, 1723, 1726, 1750, 1767, 1770, 1806, 1823, 1826, 1862, 1878, 1881, 1917, 1933, 1936, 1973, 2008, 2010, 2013, 2061, 2078, 2081, 2094, 2118, 2135, 2138, 2174, 2191, 2192, 2198, 2201, 2214, 2288, 2305, 2308, 2344, 2361, 2364, 2412, 2429, 2432, 2480, 2497, 2500, 2536, 2553, 2556, 2604, 2621, 2624, 2660, 2677, 2680, 2704, 2721, 2724, 2748, 2765, 2768, 2781, 2795, 2809, 2857, 2874, 2877, 2913, 2930, 2933, 2957, 2974, 2977, 3013, 3030, 3033, 3046, 3059, 3095, 3112, 3115, 3151, 3168, 3171, 3207, 3224, 3225, 3231, 3234, 3270, 3287, 3290, 3326, 3343, 3346, 3382, 3399, 3402, 3415, 3463, 3479, 3482, 3530, 3546, 3549, 3563, 3576, 3601, 3637, 3639, 3642, 3667, 3702, 3704, 3707, 3720, 3726] := by decide +kernel
set_option maxRecDepth 100000 in
theorem zcl_c : zCD.getD 382 [] = zc_382 := by decide +kernel
set_option maxRecDepth 100000 in
set_option maxHeartbeats 4000000 in
theorem zck_law : zckM 382 = true := by
  have h0 : zbp 382 0 = 0 := by decide +kernel
  have h1 : zckBs 382 [0, 28, 320, 356, 373, 376, 424, 441, 444, 492, 509, 512, 560, 577, 580, 628, 645, 648, 684, 701, 704, 752, 769, 772, 820, 837, 840, 853, 889, 906, 909, 930, 931, 958, 959, 975, 992, 993, 999, 1002, 1038, 1055, 1058, 1094, 1111, 1114, 1128, 1129, 1149, 1150, 1166, 1183, 1186, 1246, 1263, 1266, 1290, 1307, 1310, 1346, 1363, 1366, 1402, 1419, 1422, 1458, 1475, 1478, 1514, 1531, 1534, 1570, 1587, 1590, 1650, 1667, 1670, 1706, 1723, 1726, 1750, 1767, 1770, 1806, 1823, 1826, 1862, 1878, 1881, 1917, 1933, 1936, 1973, 2008, 2010, 2013, 2061, 2078, 2081, 2094, 2118, 2135, 2138, 2174, 2191, 2192, 2198, 2201, 2214, 2288, 2305, 2308, 2344, 2361, 2364, 2412, 2429, 2432, 2480, 2497, 2500, 2536, 2553, 2556, 2604, 2621, 2624, 2660, 2677, 2680, 2704, 2721, 2724, 2748, 2765, 2768, 2781, 2795, 2809, 2857, 2874, 2877, 2913, 2930, 2933, 2957, 2974, 2977, 3013, 3030, 3033, 3046, 3059, 3095, 3112, 3115, 3151, 3168, 3171, 3207, 3224, 3225, 3231, 3234, 3270, 3287, 3290, 3326, 3343, 3346, 3382, 3399, 3402, 3415, 3463, 3479, 3482, 3530, 3546, 3549, 3563, 3576, 3601, 3637, 3639, 3642, 3667, 3702, 3704, 3707, 3720, 3726] zc_382 = true := zckBs_cons zcl_0 (zckBs_cons zcl_1 (zckBs_cons zcl_2 (zckBs_cons zcl_3 (zckBs_cons zcl_4 (zckBs_cons zcl_5 (zckBs_cons zcl_6 (zckBs_cons zcl_7 (zckBs_cons zcl_8 (zckBs_cons zcl_9 (zckBs_cons zcl_10 (zckBs_cons zcl_11 (zckBs_cons zcl_12 (zckBs_cons zcl_13 (zckBs_cons zcl_14 (zckBs_cons zcl_15 (zckBs_cons zcl_16 (zckBs_cons zcl_17 (zckBs_cons zcl_18 (zckBs_cons zcl_19 (zckBs_cons zcl_20 (zckBs_cons zcl_21 (zckBs_cons zcl_22 (zckBs_cons zcl_23 (zckBs_cons zcl_24 (zckBs_cons zcl_25 (zckBs_cons zcl_26 (zckBs_cons zcl_27 (zckBs_cons zcl_28 (zckBs_cons zcl_29 (zckBs_cons zcl_30 (zckBs_cons zcl_31 (zckBs_cons zcl_32 (zckBs_cons zcl_33 (zckBs_cons zcl_34 (zckBs_cons zcl_35 (zckBs_cons zcl_36 (zckBs_cons zcl_37 (zckBs_cons zcl_38 (zckBs_cons zcl_39 (zckBs_cons zcl_40 (zckBs_cons zcl_41 (zckBs_cons zcl_42 (zckBs_cons zcl_43 (zckBs_cons zcl_44 (zckBs_cons zcl_45 (zckBs_cons zcl_46 (zckBs_cons zcl_47 (zckBs_cons zcl_48 (zckBs_cons zcl_49 (zckBs_cons zcl_50 (zckBs_cons zcl_51 (zckBs_cons zcl_52 (zckBs_cons zcl_53 (zckBs_cons zcl_54 (zckBs_cons zcl_55 (zckBs_cons zcl_56 (zckBs_cons zcl_57 (zckBs_cons zcl_58 (zckBs_cons zcl_59 (zckBs_cons zcl_60 (zckBs_cons zcl_61 (zckBs_cons zcl_62 (zckBs_cons zcl_63 (zckBs_cons zcl_64 (zckBs_cons zcl_65 (zckBs_cons zcl_66 (zckBs_cons zcl_67 (zckBs_cons zcl_68 (zckBs_cons zcl_69 (zckBs_cons zcl_70 (zckBs_cons zcl_71 (zckBs_cons zcl_72 (zckBs_cons zcl_73 (zckBs_cons zcl_74 (zckBs_cons zcl_75 (zckBs_cons zcl_76 (zckBs_cons zcl_77 (zckBs_cons zcl_78 (zckBs_cons zcl_79 (zckBs_cons zcl_80 (zckBs_cons zcl_81 (zckBs_cons zcl_82 (zckBs_cons zcl_83 (zckBs_cons zcl_84 (zckBs_cons zcl_85 (zckBs_cons zcl_86 (zckBs_cons zcl_87 (zckBs_cons zcl_88 (zckBs_cons zcl_89 (zckBs_cons zcl_90 (zckBs_cons zcl_91 (zckBs_cons zcl_92 (zckBs_cons zcl_93 (zckBs_cons zcl_94 (zckBs_cons zcl_95 (zckBs_cons zcl_96 (zckBs_cons zcl_97 (zckBs_cons zcl_98 (zckBs_cons zcl_99 (zckBs_cons zcl_100 (zckBs_cons zcl_101 (zckBs_cons zcl_102 (zckBs_cons zcl_103 (zckBs_cons zcl_104 (zckBs_cons zcl_105 (zckBs_cons zcl_106 (zckBs_cons zcl_107 (zckBs_cons zcl_108 (zckBs_cons zcl_109 (zckBs_cons zcl_110 (zckBs_cons zcl_111 (zckBs_cons zcl_112 (zckBs_cons zcl_113 (zckBs_cons zcl_114 (zckBs_cons zcl_115 (zckBs_cons zcl_116 (zckBs_cons zcl_117 (zckBs_cons zcl_118 (zckBs_cons zcl_119 (zckBs_cons zcl_120 (zckBs_cons zcl_121 (zckBs_cons zcl_122 (zckBs_cons zcl_123 (zckBs_cons zcl_124 (zckBs_cons zcl_125 (zckBs_cons zcl_126 (zckBs_cons zcl_127 (zckBs_cons zcl_128 (zckBs_cons zcl_129 (zckBs_cons zcl_130 (zckBs_cons zcl_131 (zckBs_cons zcl_132 (zckBs_cons zcl_133 (zckBs_cons zcl_134 (zckBs_cons zcl_135 (zckBs_cons zcl_136 (zckBs_cons zcl_137 (zckBs_cons zcl_138 (zckBs_cons zcl_139 (zckBs_cons zcl_140 (zckBs_cons zcl_141 (zckBs_cons zcl_142 (zckBs_cons zcl_143 (zckBs_cons zcl_144 (zckBs_cons zcl_145 (zckBs_cons zcl_146 (zckBs_cons zcl_147 (zckBs_cons zcl_148 (zckBs_cons zcl_149 (zckBs_cons zcl_150 (zckBs_cons zcl_151 (zckBs_cons zcl_152 (zckBs_cons zcl_153 (zckBs_cons zcl_154 (zckBs_cons zcl_155 (zckBs_cons zcl_156 (zckBs_cons zcl_157 (zckBs_cons zcl_158 (zckBs_cons zcl_159 (zckBs_cons zcl_160 (zckBs_cons zcl_161 (zckBs_cons zcl_162 (zckBs_cons zcl_163 (zckBs_cons zcl_164 (zckBs_cons zcl_165 (zckBs_cons zcl_166 (zckBs_cons zcl_167 (zckBs_cons zcl_168 (zckBs_cons zcl_169 (zckBs_cons zcl_170 (zckBs_cons zcl_171 (zckBs_cons zcl_172 (zckBs_cons zcl_173 (zckBs_cons zcl_174 (zckBs_cons zcl_175 (zckBs_cons zcl_176 (zckBs_cons zcl_177 (zckBs_cons zcl_178 (zckBs_cons zcl_179 (zckBs_cons zcl_180 (zckBs_cons zcl_181 (zckBs_cons zcl_182 (zckBs_cons zcl_183 (zckBs_cons zcl_184 (zckBs_cons zcl_185 (zckBs_cons zcl_186 (zckBs_cons zcl_187 (zckBs_cons zcl_188 (zckBs_cons zcl_189 (zckBs_cons zcl_190 (zckBs_cons zcl_191 (zckBs_nil))))))))))))))))))))))))))))))))))))))))))))))))))))))))))))))))))))))))))))))))))))))))))))))))))))))))))))))))))))))))))))))))))))))))))))))))))))))))))))))))))))))))))))))))))))))))))))))))
  unfold zckM
  rw [zcl_p, zcl_c, h1, h0]
  rfl
theorem zck_all : ∀ m, m < 383 → zckM m = true := by
  intro m hm
  by_cases h0 : 0 ≤ m ∧ m < 5
  · exact zckR_ok zck_0 h0.1 h0.2
  by_cases h5 : 5 ≤ m ∧ m < 10
  · exact zckR_ok zck_5 h5.1 h5.2
  by_cases h10 : 10 ≤ m ∧ m < 15
  · exact zckR_ok zck_10 h10.1 h10.2
  by_cases h15 : 15 ≤ m ∧ m < 20
  · exact zckR_ok zck_15 h15.1 h15.2
  by_cases h20 : 20 ≤ m ∧ m < 25
  · exact zckR_ok zck_20 h20.1 h20.2
  by_cases h25 : 25 ≤ m ∧ m < 30
  · exact zckR_ok zck_25 h25.1 h25.2
  by_cases h30 : 30 ≤ m ∧ m < 35
  · exact zckR_ok zck_30 h30.1 h30.2
  by_cases h35 : 35 ≤ m ∧ m < 40
  · exact zckR_ok zck_35 h35.1 h35.2
  by_cases h40 : 40 ≤ m ∧ m < 45
  · exact zckR_ok zck_40 h40.1 h40.2
  by_cases h45 : 45 ≤ m ∧ m < 50
  · exact zckR_ok zck_45 h45.1 h45.2
  by_cases h50 : 50 ≤ m ∧ m < 55
  · exact zckR_ok zck_50 h50.1 h50.2
  by_cases h55 : 55 ≤ m ∧ m < 60
  · exact zckR_ok zck_55 h55.1 h55.2
  by_cases h60 : 60 ≤ m ∧ m < 65
  · exact zckR_ok zck_60 h60.1 h60.2
  by_cases h65 : 65 ≤ m ∧ m < 70
  · exact zckR_ok zck_65 h65.1 h65.2
  by_cases h70 : 70 ≤ m ∧ m < 75
  · exact zckR_ok zck_70 h70.1 h70.2
  by_cases h75 : 75 ≤ m ∧ m < 80
  · exact zckR_ok zck_75 h75.1 h75.2
  by_cases h80 : 80 ≤ m ∧ m < 85
  · exact zckR_ok zck_80 h80.1 h80.2
  by_cases h85 : 85 ≤ m ∧ m < 90
  · exact zckR_ok zck_85 h85.1 h85.2
  by_cases h90 : 90 ≤ m ∧ m < 95
  · exact zckR_ok zck_90 h90.1 h90.2
  by_cases h95 : 95 ≤ m ∧ m < 100
  · exact zckR_ok zck_95 h95.1 h95.2
  by_cases h100 : 100 ≤ m ∧ m < 105
  · exact zckR_ok zck_100 h100.1 h100.2
  by_cases h105 : 105 ≤ m ∧ m < 110
  · exact zckR_ok zck_105 h105.1 h105.2
  by_cases h110 : 110 ≤ m ∧ m < 115
  · exact zckR_ok zck_110 h110.1 h110.2
  by_cases h115 : 115 ≤ m ∧ m < 120
  · exact zckR_ok zck_115 h115.1 h115.2
  by_cases h120 : 120 ≤ m ∧ m < 125
  · exact zckR_ok zck_120 h120.1 h120.2
  by_cases h125 : 125 ≤ m ∧ m < 130
  · exact zckR_ok zck_125 h125.1 h125.2
  by_cases h130 : 130 ≤ m ∧ m < 135
  · exact zckR_ok zck_130 h130.1 h130.2
  by_cases h135 : 135 ≤ m ∧ m < 140
  · exact zckR_ok zck_135 h135.1 h135.2
  by_cases h140 : 140 ≤ m ∧ m < 145
  · exact zckR_ok zck_140 h140.1 h140.2
  by_cases h145 : 145 ≤ m ∧ m < 150
  · exact zckR_ok zck_145 h145.1 h145.2
  by_cases h150 : 150 ≤ m ∧ m < 155
  · exact zckR_ok zck_150 h150.1 h150.2
  by_cases h155 : 155 ≤ m ∧ m < 160
  · exact zckR_ok zck_155 h155.1 h155.2
  by_cases h160 : 160 ≤ m ∧ m < 165
  · exact zckR_ok zck_160 h160.1 h160.2
  by_cases h165 : 165 ≤ m ∧ m < 170
  · exact zckR_ok zck_165 h165.1 h165.2
  by_cases h170 : 170 ≤ m ∧ m < 175
  · exact zckR_ok zck_170 h170.1 h170.2
  by_cases h175 : 175 ≤ m ∧ m < 180
  · exact zckR_ok zck_175 h175.1 h175.2
  by_cases h180 : 180 ≤ m ∧ m < 185
  · exact zckR_ok zck_180 h180.1 h180.2
  by_cases h185 : 185 ≤ m ∧ m < 190
  · exact zckR_ok zck_185 h185.1 h185.2
  by_cases h190 : 190 ≤ m ∧ m < 195
  · exact zckR_ok zck_190 h190.1 h190.2
  by_cases h195 : 195 ≤ m ∧ m < 200
  · exact zckR_ok zck_195 h195.1 h195.2
  by_cases h200 : 200 ≤ m ∧ m < 205
  · exact zckR_ok zck_200 h200.1 h200.2
  by_cases h205 : 205 ≤ m ∧ m < 210
  · exact zckR_ok zck_205 h205.1 h205.2
  by_cases h210 : 210 ≤ m ∧ m < 215
  · exact zckR_ok zck_210 h210.1 h210.2
  by_cases h215 : 215 ≤ m ∧ m < 220
  · exact zckR_ok zck_215 h215.1 h215.2
  by_cases h220 : 220 ≤ m ∧ m < 225
  · exact zckR_ok zck_220 h220.1 h220.2
  by_cases h225 : 225 ≤ m ∧ m < 230
  · exact zckR_ok zck_225 h225.1 h225.2
  by_cases h230 : 230 ≤ m ∧ m < 235
  · exact zckR_ok zck_230 h230.1 h230.2
  by_cases h235 : 235 ≤ m ∧ m < 240
  · exact zckR_ok zck_235 h235.1 h235.2
  by_cases h240 : 240 ≤ m ∧ m < 245
  · exact zckR_ok zck_240 h240.1 h240.2
  by_cases h245 : 245 ≤ m ∧ m < 250
  · exact zckR_ok zck_245 h245.1 h245.2
  by_cases h250 : 250 ≤ m ∧ m < 255
  · exact zckR_ok zck_250 h250.1 h250.2
  by_cases h255 : 255 ≤ m ∧ m < 260
  · exact zckR_ok zck_255 h255.1 h255.2
  by_cases h260 : 260 ≤ m ∧ m < 265
  · exact zckR_ok zck_260 h260.1 h260.2
  by_cases h265 : 265 ≤ m ∧ m < 270
  · exact zckR_ok zck_265 h265.1 h265.2
  by_cases h270 : 270 ≤ m ∧ m < 275
  · exact zckR_ok zck_270 h270.1 h270.2
  by_cases h275 : 275 ≤ m ∧ m < 280
  · exact zckR_ok zck_275 h275.1 h275.2
  by_cases h280 : 280 ≤ m ∧ m < 285
  · exact zckR_ok zck_280 h280.1 h280.2
  by_cases h285 : 285 ≤ m ∧ m < 290
  · exact zckR_ok zck_285 h285.1 h285.2
  by_cases h290 : 290 ≤ m ∧ m < 296
  · exact zckR_ok zck_290 h290.1 h290.2
  by_cases h296 : 296 ≤ m ∧ m < 302
  · exact zckR_ok zck_296 h296.1 h296.2
  by_cases h302 : 302 ≤ m ∧ m < 308
  · exact zckR_ok zck_302 h302.1 h302.2
  by_cases h308 : 308 ≤ m ∧ m < 314
  · exact zckR_ok zck_308 h308.1 h308.2
  by_cases h314 : 314 ≤ m ∧ m < 320
  · exact zckR_ok zck_314 h314.1 h314.2
  by_cases h320 : 320 ≤ m ∧ m < 326
  · exact zckR_ok zck_320 h320.1 h320.2
  by_cases h326 : 326 ≤ m ∧ m < 332
  · exact zckR_ok zck_326 h326.1 h326.2
  by_cases h332 : 332 ≤ m ∧ m < 338
  · exact zckR_ok zck_332 h332.1 h332.2
  by_cases h338 : 338 ≤ m ∧ m < 344
  · exact zckR_ok zck_338 h338.1 h338.2
  by_cases h344 : 344 ≤ m ∧ m < 350
  · exact zckR_ok zck_344 h344.1 h344.2
  by_cases h350 : 350 ≤ m ∧ m < 356
  · exact zckR_ok zck_350 h350.1 h350.2
  by_cases h356 : 356 ≤ m ∧ m < 362
  · exact zckR_ok zck_356 h356.1 h356.2
  by_cases h362 : 362 ≤ m ∧ m < 368
  · exact zckR_ok zck_362 h362.1 h362.2
  by_cases h368 : 368 ≤ m ∧ m < 374
  · exact zckR_ok zck_368 h368.1 h368.2
  by_cases h374 : 374 ≤ m ∧ m < 380
  · exact zckR_ok zck_374 h374.1 h374.2
  by_cases h380 : 380 ≤ m ∧ m < 382
  · exact zckR_ok zck_380 h380.1 h380.2
  have e : m = 382 := by omega
  subst e
  exact zck_law
