theorem zckBs_nil {m : Nat} : zckBs m [] [] = true := rfl
theorem zckBs_cons {m p : Nat} {ps : List Nat} {b : List zI} {bs : List (List zI)} (h : zckB m p b = true) (hs : zckBs m ps bs = true) : zckBs m (p :: ps) (b :: bs) = true := by simp only [zckBs, h, hs, Bool.and_true]
theorem zcl_0 : zckB 382 0 zb_382_0 = true := by decide +kernel
theorem zcl_1 : zckB 382 28 zb_382_1 = true := by decide +kernel
theorem zcl_2 : zckB 382 320 zb_382_2 = true := by decide +kernel
theorem zcl_3 : zckB 382 348 zb_382_3 = true := by decide +kernel
theorem zcl_4 : zckB 382 388 zb_382_4 = true := by decide +kernel
theorem zcl_5 : zckB 382 428 zb_382_5 = true := by decide +kernel
theorem zcl_6 : zckB 382 468 zb_382_6 = true := by decide +kernel
theorem zcl_7 : zckB 382 508 zb_382_7 = true := by decide +kernel
theorem zcl_8 : zckB 382 536 zb_382_8 = true := by decide +kernel
theorem zcl_9 : zckB 382 576 zb_382_9 = true := by decide +kernel
theorem zcl_10 : zckB 382 616 zb_382_10 = true := by decide +kernel
theorem zcl_11 : zckB 382 629 zb_382_11 = true := by decide +kernel
theorem zcl_12 : zckB 382 657 zb_382_12 = true := by decide +kernel
theorem zcl_13 : zckB 382 678 zb_382_13 = true := by decide +kernel
theorem zcl_14 : zckB 382 679 zb_382_14 = true := by decide +kernel
theorem zcl_15 : zckB 382 706 zb_382_15 = true := by decide +kernel
theorem zcl_16 : zckB 382 707 zb_382_16 = true := by decide +kernel
theorem zcl_17 : zckB 382 715 zb_382_17 = true := by decide +kernel
theorem zcl_18 : zckB 382 743 zb_382_18 = true := by decide +kernel
theorem zcl_19 : zckB 382 771 zb_382_19 = true := by decide +kernel
theorem zcl_20 : zckB 382 785 zb_382_20 = true := by decide +kernel
theorem zcl_21 : zckB 382 786 zb_382_21 = true := by decide +kernel
theorem zcl_22 : zckB 382 806 zb_382_22 = true := by decide +kernel
theorem zcl_23 : zckB 382 807 zb_382_23 = true := by decide +kernel
theorem zcl_24 : zckB 382 815 zb_382_24 = true := by decide +kernel
theorem zcl_25 : zckB 382 867 zb_382_25 = true := by decide +kernel
theorem zcl_26 : zckB 382 883 zb_382_26 = true := by decide +kernel
theorem zcl_27 : zckB 382 911 zb_382_27 = true := by decide +kernel
theorem zcl_28 : zckB 382 939 zb_382_28 = true := by decide +kernel
theorem zcl_29 : zckB 382 967 zb_382_29 = true := by decide +kernel
theorem zcl_30 : zckB 382 995 zb_382_30 = true := by decide +kernel
theorem zcl_31 : zckB 382 1023 zb_382_31 = true := by decide +kernel
theorem zcl_32 : zckB 382 1075 zb_382_32 = true := by decide +kernel
theorem zcl_33 : zckB 382 1103 zb_382_33 = true := by decide +kernel
theorem zcl_34 : zckB 382 1119 zb_382_34 = true := by decide +kernel
theorem zcl_35 : zckB 382 1147 zb_382_35 = true := by decide +kernel
theorem zcl_36 : zckB 382 1175 zb_382_36 = true := by decide +kernel
theorem zcl_37 : zckB 382 1203 zb_382_37 = true := by decide +kernel
theorem zcl_38 : zckB 382 1232 zb_382_38 = true := by decide +kernel
theorem zcl_39 : zckB 382 1272 zb_382_39 = true := by decide +kernel
theorem zcl_40 : zckB 382 1285 zb_382_40 = true := by decide +kernel
theorem zcl_41 : zckB 382 1301 zb_382_41 = true := by decide +kernel
theorem zcl_42 : zckB 382 1329 zb_382_42 = true := by decide +kernel
theorem zcl_43 : zckB 382 1342 zb_382_43 = true := by decide +kernel
theorem zcl_44 : zckB 382 1408 zb_382_44 = true := by decide +kernel
theorem zcl_45 : zckB 382 1436 zb_382_45 = true := by decide +kernel
theorem zcl_46 : zckB 382 1476 zb_382_46 = true := by decide +kernel
theorem zcl_47 : zckB 382 1516 zb_382_47 = true := by decide +kernel
theorem zcl_48 : zckB 382 1544 zb_382_48 = true := by decide +kernel
theorem zcl_49 : zckB 382 1584 zb_382_49 = true := by decide +kernel
theorem zcl_50 : zckB 382 1612 zb_382_50 = true := by decide +kernel
theorem zcl_51 : zckB 382 1628 zb_382_51 = true := by decide +kernel
theorem zcl_52 : zckB 382 1644 zb_382_52 = true := by decide +kernel
theorem zcl_53 : zckB 382 1657 zb_382_53 = true := by decide +kernel
theorem zcl_54 : zckB 382 1670 zb_382_54 = true := by decide +kernel
theorem zcl_55 : zckB 382 1683 zb_382_55 = true := by decide +kernel
theorem zcl_56 : zckB 382 1723 zb_382_56 = true := by decide +kernel
theorem zcl_57 : zckB 382 1751 zb_382_57 = true := by decide +kernel
theorem zcl_58 : zckB 382 1767 zb_382_58 = true := by decide +kernel
theorem zcl_59 : zckB 382 1795 zb_382_59 = true := by decide +kernel
theorem zcl_60 : zckB 382 1808 zb_382_60 = true := by decide +kernel
theorem zcl_61 : zckB 382 1821 zb_382_61 = true := by decide +kernel
theorem zcl_62 : zckB 382 1849 zb_382_62 = true := by decide +kernel
theorem zcl_63 : zckB 382 1877 zb_382_63 = true := by decide +kernel
theorem zcl_64 : zckB 382 1905 zb_382_64 = true := by decide +kernel
theorem zcl_65 : zckB 382 1933 zb_382_65 = true := by decide +kernel
theorem zcl_66 : zckB 382 1961 zb_382_66 = true := by decide +kernel
theorem zcl_67 : zckB 382 1989 zb_382_67 = true := by decide +kernel
theorem zcl_68 : zckB 382 2002 zb_382_68 = true := by decide +kernel
theorem zcl_69 : zckB 382 2042 zb_382_69 = true := by decide +kernel
theorem zcl_70 : zckB 382 2090 zb_382_70 = true := by decide +kernel
theorem zcl_71 : zckB 382 2106 zb_382_71 = true := by decide +kernel
theorem zcl_72 : zckB 382 2109 zb_382_72 = true := by decide +kernel
theorem zcl_73 : zckB 382 2122 zb_382_73 = true := by decide +kernel
theorem zcl_74 : zckB 382 2135 zb_382_74 = true := by decide +kernel
theorem zcl_75 : zckB 382 2152 zb_382_75 = true := by decide +kernel
theorem zcl_76 : zckB 382 2169 zb_382_76 = true := by decide +kernel
theorem zcl_77 : zckB 382 2182 zb_382_77 = true := by decide +kernel
theorem zcl_78 : zckB 382 2188 zb_382_78 = true := by decide +kernel
theorem zcl_p : zBPl.getD 382 [] = [0, 28, 320, 348, 388, 428, 468, 508, 536, 576, 616, 629, 657, 678, 679, 706, 707, 715, 743, 771, 785, 786, 806, 807, 815, 867, 883, 911, 939, 967, 995, 1023, 1075, 1103, 1119, 1147, 1175, 1203, 1232, 1272, 1285, 1301, 1329, 1342, 1408, 1436, 1476, 1516, 1544, 1584, 1612, 1628, 1644, 1657, 1670, 1683, 1723, 1751, 1767, 1795, 1808, 1821, 1849, 1877, 1905, 1933, 1961, 1989, 2002, 2042, 2090, 2106, 2109, 2122, 2135, 2152, 2169, 2182, 2188] := by decide +kernel
set_option maxRecDepth 100000 in
theorem zcl_c : zCD.getD 382 [] = zc_382 := by decide +kernel
set_option maxRecDepth 100000 in
set_option maxHeartbeats 4000000 in
theorem zck_law : zckM 382 = true := by
  have h0 : zbp 382 0 = 0 := by decide +kernel
  have h1 : zckBs 382 [0, 28, 320, 348, 388, 428, 468, 508, 536, 576, 616, 629, 657, 678, 679, 706, 707, 715, 743, 771, 785, 786, 806, 807, 815, 867, 883, 911, 939, 967, 995, 1023, 1075, 1103, 1119, 1147, 1175, 1203, 1232, 1272, 1285, 1301, 1329, 1342, 1408, 1436, 1476, 1516, 1544, 1584, 1612, 1628, 1644, 1657, 1670, 1683, 1723, 1751, 1767, 1795, 1808, 1821, 1849, 1877, 1905, 1933, 1961, 1989, 2002, 2042, 2090, 2106, 2109, 2122, 2135, 2152, 2169, 2182, 2188] zc_382 = true := zckBs_cons zcl_0 (zckBs_cons zcl_1 (zckBs_cons zcl_2 (zckBs_cons zcl_3 (zckBs_cons zcl_4 (zckBs_cons zcl_5 (zckBs_cons zcl_6 (zckBs_cons zcl_7 (zckBs_cons zcl_8 (zckBs_cons zcl_9 (zckBs_cons zcl_10 (zckBs_cons zcl_11 (zckBs_cons zcl_12 (zckBs_cons zcl_13 (zckBs_cons zcl_14 (zckBs_cons zcl_15 (zckBs_cons zcl_16 (zckBs_cons zcl_17 (zckBs_cons zcl_18 (zckBs_cons zcl_19 (zckBs_cons zcl_20 (zckBs_cons zcl_21 (zckBs_cons zcl_22 (zckBs_cons zcl_23 (zckBs_cons zcl_24 (zckBs_cons zcl_25 (zckBs_cons zcl_26 (zckBs_cons zcl_27 (zckBs_cons zcl_28 (zckBs_cons zcl_29 (zckBs_cons zcl_30 (zckBs_cons zcl_31 (zckBs_cons zcl_32 (zckBs_cons zcl_33 (zckBs_cons zcl_34 (zckBs_cons zcl_35 (zckBs_cons zcl_36 (zckBs_cons zcl_37 (zckBs_cons zcl_38 (zckBs_cons zcl_39 (zckBs_cons zcl_40 (zckBs_cons zcl_41 (zckBs_cons zcl_42 (zckBs_cons zcl_43 (zckBs_cons zcl_44 (zckBs_cons zcl_45 (zckBs_cons zcl_46 (zckBs_cons zcl_47 (zckBs_cons zcl_48 (zckBs_cons zcl_49 (zckBs_cons zcl_50 (zckBs_cons zcl_51 (zckBs_cons zcl_52 (zckBs_cons zcl_53 (zckBs_cons zcl_54 (zckBs_cons zcl_55 (zckBs_cons zcl_56 (zckBs_cons zcl_57 (zckBs_cons zcl_58 (zckBs_cons zcl_59 (zckBs_cons zcl_60 (zckBs_cons zcl_61 (zckBs_cons zcl_62 (zckBs_cons zcl_63 (zckBs_cons zcl_64 (zckBs_cons zcl_65 (zckBs_cons zcl_66 (zckBs_cons zcl_67 (zckBs_cons zcl_68 (zckBs_cons zcl_69 (zckBs_cons zcl_70 (zckBs_cons zcl_71 (zckBs_cons zcl_72 (zckBs_cons zcl_73 (zckBs_cons zcl_74 (zckBs_cons zcl_75 (zckBs_cons zcl_76 (zckBs_cons zcl_77 (zckBs_cons zcl_78 (zckBs_nil)))))))))))))))))))))))))))))))))))))))))))))))))))))))))))))))))))))))))))))))
  unfold zckM
  rw [zcl_p, zcl_c, h1, h0]
  rfl
theorem zck_all : ∀ m, m < 383 → zckM m = true := by
  intro m hm
  by_cases h0 : 0 ≤ m ∧ m < 5
  · exact zckR_ok zck_0 h0.1 h0.2
  by_cases h5 : 5 ≤ m ∧ m < 10
  · exact zckR_ok zck_5 h5.1 h5.2
  by_cases h10 : 10 ≤ m ∧ m < 15
  · exact zckR_ok zck_10 h10.1 h10.2
  by_cases h15 : 15 ≤ m ∧ m < 20
  · exact zckR_ok zck_15 h15.1 h15.2
  by_cases h20 : 20 ≤ m ∧ m < 25
  · exact zckR_ok zck_20 h20.1 h20.2
  by_cases h25 : 25 ≤ m ∧ m < 30
  · exact zckR_ok zck_25 h25.1 h25.2
  by_cases h30 : 30 ≤ m ∧ m < 35
  · exact zckR_ok zck_30 h30.1 h30.2
  by_cases h35 : 35 ≤ m ∧ m < 40
  · exact zckR_ok zck_35 h35.1 h35.2
  by_cases h40 : 40 ≤ m ∧ m < 45
  · exact zckR_ok zck_40 h40.1 h40.2
  by_cases h45 : 45 ≤ m ∧ m < 50
  · exact zckR_ok zck_45 h45.1 h45.2
  by_cases h50 : 50 ≤ m ∧ m < 55
  · exact zckR_ok zck_50 h50.1 h50.2
  by_cases h55 : 55 ≤ m ∧ m < 60
  · exact zckR_ok zck_55 h55.1 h55.2
  by_cases h60 : 60 ≤ m ∧ m < 65
  · exact zckR_ok zck_60 h60.1 h60.2
  by_cases h65 : 65 ≤ m ∧ m < 70
  · exact zckR_ok zck_65 h65.1 h65.2
  by_cases h70 : 70 ≤ m ∧ m < 75
  · exact zckR_ok zck_70 h70.1 h70.2
  by_cases h75 : 75 ≤ m ∧ m < 80
  · exact zckR_ok zck_75 h75.1 h75.2
  by_cases h80 : 80 ≤ m ∧ m < 85
  · exact zckR_ok zck_80 h80.1 h80.2
  by_cases h85 : 85 ≤ m ∧ m < 90
  · exact zckR_ok zck_85 h85.1 h85.2
  by_cases h90 : 90 ≤ m ∧ m < 95
  · exact zckR_ok zck_90 h90.1 h90.2
  by_cases h95 : 95 ≤ m ∧ m < 100
  · exact zckR_ok zck_95 h95.1 h95.2
  by_cases h100 : 100 ≤ m ∧ m < 105
  · exact zckR_ok zck_100 h100.1 h100.2
  by_cases h105 : 105 ≤ m ∧ m < 110
  · exact zckR_ok zck_105 h105.1 h105.2
  by_cases h110 : 110 ≤ m ∧ m < 115
  · exact zckR_ok zck_110 h110.1 h110.2
  by_cases h115 : 115 ≤ m ∧ m < 120
  · exact zckR_ok zck_115 h115.1 h115.2
  by_cases h120 : 120 ≤ m ∧ m < 125
  · exact zckR_ok zck_120 h120.1 h120.2
  by_cases h125 : 125 ≤ m ∧ m < 130
  · exact zckR_ok zck_125 h125.1 h125.2
  by_cases h130 : 130 ≤ m ∧ m < 135
  · exact zckR_ok zck_130 h130.1 h130.2
  by_cases h135 : 135 ≤ m ∧ m < 140
  · exact zckR_ok zck_135 h135.1 h135.2
  by_cases h140 : 140 ≤ m ∧ m < 145
  · exact zckR_ok zck_140 h140.1 h140.2
  by_cases h145 : 145 ≤ m ∧ m < 150
  · exact zckR_ok zck_145 h145.1 h145.2
  by_cases h150 : 150 ≤ m ∧ m < 155
  · exact zckR_ok zck_150 h150.1 h150.2
  by_cases h155 : 155 ≤ m ∧ m < 160
  · exact zckR_ok zck_155 h155.1 h155.2
  by_cases h160 : 160 ≤ m ∧ m < 165
  · exact zckR_ok zck_160 h160.1 h160.2
  by_cases h165 : 165 ≤ m ∧ m < 170
  · exact zckR_ok zck_165 h165.1 h165.2
  by_cases h170 : 170 ≤ m ∧ m < 175
  · exact zckR_ok zck_170 h170.1 h170.2
  by_cases h175 : 175 ≤ m ∧ m < 180
  · exact zckR_ok zck_175 h175.1 h175.2
  by_cases h180 : 180 ≤ m ∧ m < 185
  · exact zckR_ok zck_180 h180.1 h180.2
  by_cases h185 : 185 ≤ m ∧ m < 190
  · exact zckR_ok zck_185 h185.1 h185.2
  by_cases h190 : 190 ≤ m ∧ m < 195
  · exact zckR_ok zck_190 h190.1 h190.2
  by_cases h195 : 195 ≤ m ∧ m < 200
  · exact zckR_ok zck_195 h195.1 h195.2
  by_cases h200 : 200 ≤ m ∧ m < 205
  · exact zckR_ok zck_200 h200.1 h200.2
  by_cases h205 : 205 ≤ m ∧ m < 210
  · exact zckR_ok zck_205 h205.1 h205.2
  by_cases h210 : 210 ≤ m ∧ m < 215
  · exact zckR_ok zck_210 h210.1 h210.2
  by_cases h215 : 215 ≤ m ∧ m < 220
  · exact zckR_ok zck_215 h215.1 h215.2
  by_cases h220 : 220 ≤ m ∧ m < 225
  · exact zckR_ok zck_220 h220.1 h220.2
  by_cases h225 : 225 ≤ m ∧ m < 230
  · exact zckR_ok zck_225 h225.1 h225.2
  by_cases h230 : 230 ≤ m ∧ m < 235
  · exact zckR_ok zck_230 h230.1 h230.2
  by_cases h235 : 235 ≤ m ∧ m < 240
  · exact zckR_ok zck_235 h235.1 h235.2
  by_cases h240 : 240 ≤ m ∧ m < 245
  · exact zckR_ok zck_240 h240.1 h240.2
  by_cases h245 : 245 ≤ m ∧ m < 250
  · exact zckR_ok zck_245 h245.1 h245.2
  by_cases h250 : 250 ≤ m ∧ m < 255
  · exact zckR_ok zck_250 h250.1 h250.2
  by_cases h255 : 255 ≤ m ∧ m < 260
  · exact zckR_ok zck_255 h255.1 h255.2
  by_cases h260 : 260 ≤ m ∧ m < 265
  · exact zckR_ok zck_260 h260.1 h260.2
  by_cases h265 : 265 ≤ m ∧ m < 270
  · exact zckR_ok zck_265 h265.1 h265.2
  by_cases h270 : 270 ≤ m ∧ m < 275
  · exact zckR_ok zck_270 h270.1 h270.2
  by_cases h275 : 275 ≤ m ∧ m < 280
  · exact zckR_ok zck_275 h275.1 h275.2
  by_cases h280 : 280 ≤ m ∧ m < 285
  · exact zckR_ok zck_280 h280.1 h280.2
  by_cases h285 : 285 ≤ m ∧ m < 290
  · exact zckR_ok zck_285 h285.1 h285.2
  by_cases h290 : 290 ≤ m ∧ m < 296
  · exact zckR_ok zck_290 h290.1 h290.2
  by_cases h296 : 296 ≤ m ∧ m < 302
  · exact zckR_ok zck_296 h296.1 h296.2
  by_cases h302 : 302 ≤ m ∧ m < 308
  · exact zckR_ok zck_302 h302.1 h302.2
  by_cases h308 : 308 ≤ m ∧ m < 314
  · exact zckR_ok zck_308 h308.1 h308.2
  by_cases h314 : 314 ≤ m ∧ m < 320
  · exact zckR_ok zck_314 h314.1 h314.2
  by_cases h320 : 320 ≤ m ∧ m < 326
  · exact zckR_ok zck_320 h320.1 h320.2
  by_cases h326 : 326 ≤ m ∧ m < 332
  · exact zckR_ok zck_326 h326.1 h326.2
  by_cases h332 : 332 ≤ m ∧ m < 338
  · exact zckR_ok zck_332 h332.1 h332.2
  by_cases h338 : 338 ≤ m ∧ m < 344
  · exact zckR_ok zck_338 h338.1 h338.2
  by_cases h344 : 344 ≤ m ∧ m < 350
  · exact zckR_ok zck_344 h344.1 h344.2
  by_cases h350 : 350 ≤ m ∧ m < 356
  · exact zckR_ok zck_350 h350.1 h350.2
  by_cases h356 : 356 ≤ m ∧ m < 362
  · exact zckR_ok zck_356 h356.1 h356.2
  by_cases h362 : 362 ≤ m ∧ m < 368
  · exact zckR_ok zck_362 h362.1 h362.2
  by_cases h368 : 368 ≤ m ∧ m < 374
  · exact zckR_ok zck_368 h368.1 h368.2
  by_cases h374 : 374 ≤ m ∧ m < 380
  · exact zckR_ok zck_374 h374.1 h374.2
  by_cases h380 : 380 ≤ m ∧ m < 382
  · exact zckR_ok zck_380 h380.1 h380.2
  have e : m = 382 := by omega
  subst e
  exact zck_law
