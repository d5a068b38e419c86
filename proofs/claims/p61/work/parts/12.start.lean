/-! ===== START0: the memory behind the two constructors ===== -/
set_option maxRecDepth 100000
def zS0a : zk_S := fun _ => none
def zD0a : zm_D := fun _ _ => 0
def zq1 : Option zRr := zrun0 30000 1399 117 (zcd 117 0) (zarg (znl 117) [zv_a 1]) [] (1, (zk_u zS0a 1 (some (.inl 11)), (zm_z zD0a 1, 11)))
theorem zq1_s : zq1.isSome = true := by decide +kernel
theorem zq1_o : (zgo zq1).1 = .inl none := by decide +kernel
theorem zq1_n : (zgo zq1).2.1 = 60 := by decide +kernel
def zS1 : zk_S := (zgo zq1).2.2.1
def zD1 : zm_D := (zgo zq1).2.2.2.1
def zU1 : Nat := (zgo zq1).2.2.2.2
def zq2 : Option zRr := zrun0 30000 1399 210 (zcd 210 0) (zarg (znl 210) [zv_a 61]) [] (61, (zk_u zS1 61 (some (.inl 12)), (zm_z zD1 61, zU1 + 50)))
theorem zq2_s : zq2.isSome = true := by decide +kernel
theorem zq2_o : (zgo zq2).1 = .inl none := by decide +kernel
theorem zq2_n : (zgo zq2).2.1 = 159 := by decide +kernel
def zS2 : zk_S := (zgo zq2).2.2.1
def zD2 : zm_D := (zgo zq2).2.2.2.1
def zU2 : Nat := (zgo zq2).2.2.2.2
theorem zU2_v : zU2 + 1 + 1 = 1545 := by decide +kernel
def zS0 : zk_S := zk_u (zk_u zS2 160 (some (.inr (.long, 1)))) 161 (some (.inr (.double, 1)))
def zD0 : zm_D := zm_z (zm_z zD2 160) 161
def zTbS : List zk_K := [none, some (.inl 11), some (.inr (.object (zcn 2), 8)), some (.inr (.object (zcn 8), 3)), some (.inl 9), some (.inl 7), some (.inr (.int, 104)), some (.inr (.int, 104)), some (.inr (.int, 11)), some (.inr (.int, 11)), some (.inl 1), some (.inr (.int, 11)), some (.inl 4), some (.inr (.object (zcn 2), 12)), some (.inr (.int, 12)), some (.inl 2), some (.inr (.int, 4)), some (.inl 2), some (.inr (.int, 4)), some (.inl 2), some (.inr (.int, 4)), some (.inl 2), some (.inr (.int, 4)), some (.inl 2), some (.inr (.int, 4)), some (.inl 2), some (.inr (.int, 4)), some (.inl 2), some (.inr (.int, 4)), some (.inl 2), some (.inr (.int, 4)), some (.inl 8), some (.inl 8), some (.inl 8), some (.inl 0), some (.inr (.object (zcn 6), 3)), some (.inl 3), some (.inr (.int, 22)), some (.inl 6), some (.inl 3), some (.inr (.int, 22)), some (.inl 3), some (.inr (.int, 22)), some (.inl 6), some (.inl 3), some (.inr (.int, 22)), some (.inl 3), some (.inr (.int, 22)), some (.inl 6), some (.inl 3), some (.inr (.int, 22)), some (.inl 3), some (.inr (.int, 22)), some (.inl 10), some (.inr (.object (zcn 2), 10)), some (.inr (.char, 10)), some (.inr (.int, 10)), some (.inr (.int, 10)), some (.inl 5), some (.inr (.int, 24)), some (.inr (.int, 5)), some (.inl 12), some (.inr (.int, 8)), some (.inr (.int, 8)), some (.inr (.int, 8)), some (.inr (.int, 8)), some (.inr (.int, 8)), some (.inr (.int, 8)), some (.inr (.int, 8)), some (.inr (.int, 8)), some (.inr (.array .int, 8)), some (.inr (.int, 2)), some (.inr (.int, 2)), some (.inr (.int, 2)), some (.inr (.int, 2)), some (.inr (.int, 2)), some (.inr (.int, 2)), some (.inr (.int, 2)), some (.inr (.int, 2)), some (.inr (.array .int, 8)), some (.inr (.int, 2)), some (.inr (.int, 2)), some (.inr (.int, 2)), some (.inr (.int, 2)), some (.inr (.int, 2)), some (.inr (.int, 2)), some (.inr (.int, 2)), some (.inr (.int, 2)), some (.inr (.int, 3)), some (.inr (.int, 3)), some (.inr (.int, 3)), some (.inr (.boolean, 4)), some (.inr (.int, 104)), some (.inr (.int, 104)), some (.inr (.int, 11)), some (.inr (.int, 11)), some (.inr (.int, 3)), some (.inr (.int, 3)), some (.inr (.int, 3)), some (.inr (.array (.array .int), 3)), some (.inr (.array .int, 2)), some (.inr (.int, 24)), some (.inr (.int, 24)), some (.inr (.array .int, 2)), some (.inr (.int, 24)), some (.inr (.int, 24)), some (.inr (.array .int, 2)), some (.inr (.int, 24)), some (.inr (.int, 24)), some (.inr (.array .int, 3)), some (.inr (.int, 2)), some (.inr (.int, 2)), some (.inr (.int, 2)), some (.inr (.array .int, 3)), some (.inr (.int, 2)), some (.inr (.int, 2)), some (.inr (.int, 2)), some (.inr (.array .int, 3)), some (.inr (.int, 2)), some (.inr (.int, 2)), some (.inr (.int, 2)), some (.inr (.int, 24)), some (.inr (.array .int, 10)), some (.inr (.int, 4)), some (.inr (.int, 4)), some (.inr (.int, 4)), some (.inr (.int, 4)), some (.inr (.int, 4)), some (.inr (.int, 4)), some (.inr (.int, 4)), some (.inr (.int, 4)), some (.inr (.int, 4)), some (.inr (.int, 4)), some (.inr (.array .int, 3)), some (.inr (.int, 8)), some (.inr (.int, 8)), some (.inr (.int, 8)), some (.inr (.int, 5)), some (.inr (.array .int, 12)), some (.inr (.int, 2)), some (.inr (.int, 2)), some (.inr (.int, 2)), some (.inr (.int, 2)), some (.inr (.int, 2)), some (.inr (.int, 2)), some (.inr (.int, 2)), some (.inr (.int, 2)), some (.inr (.int, 2)), some (.inr (.int, 2)), some (.inr (.int, 2)), some (.inr (.int, 2)), some (.inr (.array .int, 8)), some (.inr (.int, 4)), some (.inr (.int, 4)), some (.inr (.int, 4)), some (.inr (.int, 4)), some (.inr (.int, 4)), some (.inr (.int, 4)), some (.inr (.int, 4)), some (.inr (.int, 4)), some (.inr (.long, 1)), some (.inr (.double, 1))]
theorem zS0_tab : ∀ r : Nat, r < 162 → zS0 (r : Int) = zTbS.getD r none := by decide +kernel
def zTbD : List (List Int) := [[], [2, 3, 4, 5, 34, 10, 53, 58, 12], [15, 17, 19, 21, 23, 25, 27, 29], [31, 32, 33], [100000], [6, 7, 8, 9], [], [], [], [], [11], [], [13, 14], [], [], [16, 0, 0, 5000, 5000], [], [18, 0, 0, 5000, 5000], [], [20, 0, 0, 5000, 5000], [], [22, 0, 0, 5000, 5000], [], [24, 0, 0, 5000, 5000], [], [26, 0, 0, 5000, 5000], [], [28, 0, 0, 5000, 5000], [], [30, 0, 0, 5000, 5000], [], [4], [4], [4], [5, 31, 35, 36], [38, 43, 48], [37], [], [39, 41], [40], [], [42], [], [44, 46], [45], [], [47], [], [49, 51], [50], [], [52], [], [32, 54, 55, 56, 57], [], [], [], [], [33, 59, 60, 0, 500], [4, 4, 4, 4, 4, 4, 4, 4, 4, 4, 4, 4, 4, 4, 4, 4, 4, 4, 4, 4, 4, 4, 4, 4], [], [62, 63, 64, 65, 66, 67, 68, 69, 70, 79, 88, 89, 90, 91, 92, 93, 94, 95, 96, 97, 98, 99, 109, 113, 117, 121, 122, 133, 137, 138, 151, 0, 100000, 0, 0, 0, 0, 0, 0, 0, 500, 0, -1, 0, 0, 0, 0, -1], [], [], [], [], [], [], [], [], [71, 72, 73, 74, 75, 76, 77, 78], [], [], [], [], [], [], [], [], [80, 81, 82, 83, 84, 85, 86, 87], [], [], [], [], [], [], [], [], [], [], [], [], [], [], [], [], [-1, -1, -1], [], [], [100, 103, 106], [101, 102], [], [], [104, 105], [], [], [107, 108], [], [], [110, 111, 112], [], [], [], [114, 115, 116], [], [], [], [118, 119, 120], [], [], [], [], [123, 124, 125, 126, 127, 128, 129, 130, 131, 132], [], [], [], [], [], [], [], [], [], [], [134, 135, 136], [4, 4, 4, 4, 4, 4, 4, 4], [4, 4, 4, 4, 4, 4, 4, 4], [4, 4, 4, 4, 4, 4, 4, 4], [], [139, 140, 141, 142, 143, 144, 145, 146, 147, 148, 149, 150], [], [], [], [], [], [], [], [], [], [], [], [], [152, 153, 154, 155, 156, 157, 158, 159], [], [], [], [], [], [], [], [], [], []]
def zTbN : List Nat := [0, 11, 8, 3, 1, 8, 104, 104, 11, 11, 3, 11, 5, 12, 12, 13, 4, 13, 4, 13, 4, 13, 4, 13, 4, 13, 4, 13, 4, 13, 4, 5, 5, 5, 10, 3, 7, 22, 4, 7, 22, 7, 22, 4, 7, 22, 7, 22, 4, 7, 22, 7, 22, 6, 10, 10, 10, 10, 9, 24, 5, 50, 8, 8, 8, 8, 8, 8, 8, 8, 8, 2, 2, 2, 2, 2, 2, 2, 2, 8, 2, 2, 2, 2, 2, 2, 2, 2, 3, 3, 3, 4, 104, 104, 11, 11, 3, 3, 3, 3, 2, 24, 24, 2, 24, 24, 2, 24, 24, 3, 2, 2, 2, 3, 2, 2, 2, 3, 2, 2, 2, 24, 10, 4, 4, 4, 4, 4, 4, 4, 4, 4, 4, 3, 8, 8, 8, 5, 12, 2, 2, 2, 2, 2, 2, 2, 2, 2, 2, 2, 2, 8, 4, 4, 4, 4, 4, 4, 4, 4, 1, 1]
theorem zD0_tab : ∀ r : Nat, r < 162 → ∀ k : Nat, k < zTbN.getD r 0 → zD0 (r : Int) (k : Int) = (zTbD.getD r []).getD k 0 := by decide +kernel
theorem zS0_1 : zS0 1 = some (.inl 11) := zS0_tab 1 (by decide)
theorem zS0_2 : zS0 2 = some (.inr (.object (zcn 2), 8)) := zS0_tab 2 (by decide)
theorem zS0_3 : zS0 3 = some (.inr (.object (zcn 8), 3)) := zS0_tab 3 (by decide)
theorem zS0_4 : zS0 4 = some (.inl 9) := zS0_tab 4 (by decide)
theorem zS0_5 : zS0 5 = some (.inl 7) := zS0_tab 5 (by decide)
theorem zS0_6 : zS0 6 = some (.inr (.int, 104)) := zS0_tab 6 (by decide)
theorem zS0_7 : zS0 7 = some (.inr (.int, 104)) := zS0_tab 7 (by decide)
theorem zS0_8 : zS0 8 = some (.inr (.int, 11)) := zS0_tab 8 (by decide)
theorem zS0_9 : zS0 9 = some (.inr (.int, 11)) := zS0_tab 9 (by decide)
theorem zS0_10 : zS0 10 = some (.inl 1) := zS0_tab 10 (by decide)
theorem zS0_11 : zS0 11 = some (.inr (.int, 11)) := zS0_tab 11 (by decide)
theorem zS0_12 : zS0 12 = some (.inl 4) := zS0_tab 12 (by decide)
theorem zS0_13 : zS0 13 = some (.inr (.object (zcn 2), 12)) := zS0_tab 13 (by decide)
theorem zS0_14 : zS0 14 = some (.inr (.int, 12)) := zS0_tab 14 (by decide)
theorem zS0_15 : zS0 15 = some (.inl 2) := zS0_tab 15 (by decide)
theorem zS0_16 : zS0 16 = some (.inr (.int, 4)) := zS0_tab 16 (by decide)
theorem zS0_17 : zS0 17 = some (.inl 2) := zS0_tab 17 (by decide)
theorem zS0_18 : zS0 18 = some (.inr (.int, 4)) := zS0_tab 18 (by decide)
theorem zS0_19 : zS0 19 = some (.inl 2) := zS0_tab 19 (by decide)
theorem zS0_20 : zS0 20 = some (.inr (.int, 4)) := zS0_tab 20 (by decide)
theorem zS0_21 : zS0 21 = some (.inl 2) := zS0_tab 21 (by decide)
theorem zS0_22 : zS0 22 = some (.inr (.int, 4)) := zS0_tab 22 (by decide)
theorem zS0_23 : zS0 23 = some (.inl 2) := zS0_tab 23 (by decide)
theorem zS0_24 : zS0 24 = some (.inr (.int, 4)) := zS0_tab 24 (by decide)
theorem zS0_25 : zS0 25 = some (.inl 2) := zS0_tab 25 (by decide)
theorem zS0_26 : zS0 26 = some (.inr (.int, 4)) := zS0_tab 26 (by decide)
theorem zS0_27 : zS0 27 = some (.inl 2) := zS0_tab 27 (by decide)
theorem zS0_28 : zS0 28 = some (.inr (.int, 4)) := zS0_tab 28 (by decide)
theorem zS0_29 : zS0 29 = some (.inl 2) := zS0_tab 29 (by decide)
theorem zS0_30 : zS0 30 = some (.inr (.int, 4)) := zS0_tab 30 (by decide)
theorem zS0_31 : zS0 31 = some (.inl 8) := zS0_tab 31 (by decide)
theorem zS0_32 : zS0 32 = some (.inl 8) := zS0_tab 32 (by decide)
theorem zS0_33 : zS0 33 = some (.inl 8) := zS0_tab 33 (by decide)
theorem zS0_34 : zS0 34 = some (.inl 0) := zS0_tab 34 (by decide)
theorem zS0_35 : zS0 35 = some (.inr (.object (zcn 6), 3)) := zS0_tab 35 (by decide)
theorem zS0_36 : zS0 36 = some (.inl 3) := zS0_tab 36 (by decide)
theorem zS0_37 : zS0 37 = some (.inr (.int, 22)) := zS0_tab 37 (by decide)
theorem zS0_38 : zS0 38 = some (.inl 6) := zS0_tab 38 (by decide)
theorem zS0_39 : zS0 39 = some (.inl 3) := zS0_tab 39 (by decide)
theorem zS0_40 : zS0 40 = some (.inr (.int, 22)) := zS0_tab 40 (by decide)
theorem zS0_41 : zS0 41 = some (.inl 3) := zS0_tab 41 (by decide)
theorem zS0_42 : zS0 42 = some (.inr (.int, 22)) := zS0_tab 42 (by decide)
theorem zS0_43 : zS0 43 = some (.inl 6) := zS0_tab 43 (by decide)
theorem zS0_44 : zS0 44 = some (.inl 3) := zS0_tab 44 (by decide)
theorem zS0_45 : zS0 45 = some (.inr (.int, 22)) := zS0_tab 45 (by decide)
theorem zS0_46 : zS0 46 = some (.inl 3) := zS0_tab 46 (by decide)
theorem zS0_47 : zS0 47 = some (.inr (.int, 22)) := zS0_tab 47 (by decide)
theorem zS0_48 : zS0 48 = some (.inl 6) := zS0_tab 48 (by decide)
theorem zS0_49 : zS0 49 = some (.inl 3) := zS0_tab 49 (by decide)
theorem zS0_50 : zS0 50 = some (.inr (.int, 22)) := zS0_tab 50 (by decide)
theorem zS0_51 : zS0 51 = some (.inl 3) := zS0_tab 51 (by decide)
theorem zS0_52 : zS0 52 = some (.inr (.int, 22)) := zS0_tab 52 (by decide)
theorem zS0_53 : zS0 53 = some (.inl 10) := zS0_tab 53 (by decide)
theorem zS0_54 : zS0 54 = some (.inr (.object (zcn 2), 10)) := zS0_tab 54 (by decide)
theorem zS0_55 : zS0 55 = some (.inr (.char, 10)) := zS0_tab 55 (by decide)
theorem zS0_56 : zS0 56 = some (.inr (.int, 10)) := zS0_tab 56 (by decide)
theorem zS0_57 : zS0 57 = some (.inr (.int, 10)) := zS0_tab 57 (by decide)
theorem zS0_58 : zS0 58 = some (.inl 5) := zS0_tab 58 (by decide)
theorem zS0_59 : zS0 59 = some (.inr (.int, 24)) := zS0_tab 59 (by decide)
theorem zS0_60 : zS0 60 = some (.inr (.int, 5)) := zS0_tab 60 (by decide)
theorem zS0_61 : zS0 61 = some (.inl 12) := zS0_tab 61 (by decide)
theorem zS0_62 : zS0 62 = some (.inr (.int, 8)) := zS0_tab 62 (by decide)
theorem zS0_63 : zS0 63 = some (.inr (.int, 8)) := zS0_tab 63 (by decide)
theorem zS0_64 : zS0 64 = some (.inr (.int, 8)) := zS0_tab 64 (by decide)
theorem zS0_65 : zS0 65 = some (.inr (.int, 8)) := zS0_tab 65 (by decide)
theorem zS0_66 : zS0 66 = some (.inr (.int, 8)) := zS0_tab 66 (by decide)
theorem zS0_67 : zS0 67 = some (.inr (.int, 8)) := zS0_tab 67 (by decide)
theorem zS0_68 : zS0 68 = some (.inr (.int, 8)) := zS0_tab 68 (by decide)
theorem zS0_69 : zS0 69 = some (.inr (.int, 8)) := zS0_tab 69 (by decide)
theorem zS0_70 : zS0 70 = some (.inr (.array .int, 8)) := zS0_tab 70 (by decide)
theorem zS0_71 : zS0 71 = some (.inr (.int, 2)) := zS0_tab 71 (by decide)
theorem zS0_72 : zS0 72 = some (.inr (.int, 2)) := zS0_tab 72 (by decide)
theorem zS0_73 : zS0 73 = some (.inr (.int, 2)) := zS0_tab 73 (by decide)
theorem zS0_74 : zS0 74 = some (.inr (.int, 2)) := zS0_tab 74 (by decide)
theorem zS0_75 : zS0 75 = some (.inr (.int, 2)) := zS0_tab 75 (by decide)
theorem zS0_76 : zS0 76 = some (.inr (.int, 2)) := zS0_tab 76 (by decide)
theorem zS0_77 : zS0 77 = some (.inr (.int, 2)) := zS0_tab 77 (by decide)
theorem zS0_78 : zS0 78 = some (.inr (.int, 2)) := zS0_tab 78 (by decide)
theorem zS0_79 : zS0 79 = some (.inr (.array .int, 8)) := zS0_tab 79 (by decide)
theorem zS0_80 : zS0 80 = some (.inr (.int, 2)) := zS0_tab 80 (by decide)
theorem zS0_81 : zS0 81 = some (.inr (.int, 2)) := zS0_tab 81 (by decide)
theorem zS0_82 : zS0 82 = some (.inr (.int, 2)) := zS0_tab 82 (by decide)
theorem zS0_83 : zS0 83 = some (.inr (.int, 2)) := zS0_tab 83 (by decide)
theorem zS0_84 : zS0 84 = some (.inr (.int, 2)) := zS0_tab 84 (by decide)
theorem zS0_85 : zS0 85 = some (.inr (.int, 2)) := zS0_tab 85 (by decide)
theorem zS0_86 : zS0 86 = some (.inr (.int, 2)) := zS0_tab 86 (by decide)
theorem zS0_87 : zS0 87 = some (.inr (.int, 2)) := zS0_tab 87 (by decide)
theorem zS0_88 : zS0 88 = some (.inr (.int, 3)) := zS0_tab 88 (by decide)
theorem zS0_89 : zS0 89 = some (.inr (.int, 3)) := zS0_tab 89 (by decide)
theorem zS0_90 : zS0 90 = some (.inr (.int, 3)) := zS0_tab 90 (by decide)
theorem zS0_91 : zS0 91 = some (.inr (.boolean, 4)) := zS0_tab 91 (by decide)
theorem zS0_92 : zS0 92 = some (.inr (.int, 104)) := zS0_tab 92 (by decide)
theorem zS0_93 : zS0 93 = some (.inr (.int, 104)) := zS0_tab 93 (by decide)
theorem zS0_94 : zS0 94 = some (.inr (.int, 11)) := zS0_tab 94 (by decide)
theorem zS0_95 : zS0 95 = some (.inr (.int, 11)) := zS0_tab 95 (by decide)
theorem zS0_96 : zS0 96 = some (.inr (.int, 3)) := zS0_tab 96 (by decide)
theorem zS0_97 : zS0 97 = some (.inr (.int, 3)) := zS0_tab 97 (by decide)
theorem zS0_98 : zS0 98 = some (.inr (.int, 3)) := zS0_tab 98 (by decide)
theorem zS0_99 : zS0 99 = some (.inr (.array (.array .int), 3)) := zS0_tab 99 (by decide)
theorem zS0_100 : zS0 100 = some (.inr (.array .int, 2)) := zS0_tab 100 (by decide)
theorem zS0_101 : zS0 101 = some (.inr (.int, 24)) := zS0_tab 101 (by decide)
theorem zS0_102 : zS0 102 = some (.inr (.int, 24)) := zS0_tab 102 (by decide)
theorem zS0_103 : zS0 103 = some (.inr (.array .int, 2)) := zS0_tab 103 (by decide)
theorem zS0_104 : zS0 104 = some (.inr (.int, 24)) := zS0_tab 104 (by decide)
theorem zS0_105 : zS0 105 = some (.inr (.int, 24)) := zS0_tab 105 (by decide)
theorem zS0_106 : zS0 106 = some (.inr (.array .int, 2)) := zS0_tab 106 (by decide)
theorem zS0_107 : zS0 107 = some (.inr (.int, 24)) := zS0_tab 107 (by decide)
theorem zS0_108 : zS0 108 = some (.inr (.int, 24)) := zS0_tab 108 (by decide)
theorem zS0_109 : zS0 109 = some (.inr (.array .int, 3)) := zS0_tab 109 (by decide)
theorem zS0_110 : zS0 110 = some (.inr (.int, 2)) := zS0_tab 110 (by decide)
theorem zS0_111 : zS0 111 = some (.inr (.int, 2)) := zS0_tab 111 (by decide)
theorem zS0_112 : zS0 112 = some (.inr (.int, 2)) := zS0_tab 112 (by decide)
theorem zS0_113 : zS0 113 = some (.inr (.array .int, 3)) := zS0_tab 113 (by decide)
theorem zS0_114 : zS0 114 = some (.inr (.int, 2)) := zS0_tab 114 (by decide)
theorem zS0_115 : zS0 115 = some (.inr (.int, 2)) := zS0_tab 115 (by decide)
theorem zS0_116 : zS0 116 = some (.inr (.int, 2)) := zS0_tab 116 (by decide)
theorem zS0_117 : zS0 117 = some (.inr (.array .int, 3)) := zS0_tab 117 (by decide)
theorem zS0_118 : zS0 118 = some (.inr (.int, 2)) := zS0_tab 118 (by decide)
theorem zS0_119 : zS0 119 = some (.inr (.int, 2)) := zS0_tab 119 (by decide)
theorem zS0_120 : zS0 120 = some (.inr (.int, 2)) := zS0_tab 120 (by decide)
theorem zS0_121 : zS0 121 = some (.inr (.int, 24)) := zS0_tab 121 (by decide)
theorem zS0_122 : zS0 122 = some (.inr (.array .int, 10)) := zS0_tab 122 (by decide)
theorem zS0_123 : zS0 123 = some (.inr (.int, 4)) := zS0_tab 123 (by decide)
theorem zS0_124 : zS0 124 = some (.inr (.int, 4)) := zS0_tab 124 (by decide)
theorem zS0_125 : zS0 125 = some (.inr (.int, 4)) := zS0_tab 125 (by decide)
theorem zS0_126 : zS0 126 = some (.inr (.int, 4)) := zS0_tab 126 (by decide)
theorem zS0_127 : zS0 127 = some (.inr (.int, 4)) := zS0_tab 127 (by decide)
theorem zS0_128 : zS0 128 = some (.inr (.int, 4)) := zS0_tab 128 (by decide)
theorem zS0_129 : zS0 129 = some (.inr (.int, 4)) := zS0_tab 129 (by decide)
theorem zS0_130 : zS0 130 = some (.inr (.int, 4)) := zS0_tab 130 (by decide)
theorem zS0_131 : zS0 131 = some (.inr (.int, 4)) := zS0_tab 131 (by decide)
theorem zS0_132 : zS0 132 = some (.inr (.int, 4)) := zS0_tab 132 (by decide)
theorem zS0_133 : zS0 133 = some (.inr (.array .int, 3)) := zS0_tab 133 (by decide)
theorem zS0_134 : zS0 134 = some (.inr (.int, 8)) := zS0_tab 134 (by decide)
theorem zS0_135 : zS0 135 = some (.inr (.int, 8)) := zS0_tab 135 (by decide)
theorem zS0_136 : zS0 136 = some (.inr (.int, 8)) := zS0_tab 136 (by decide)
theorem zS0_137 : zS0 137 = some (.inr (.int, 5)) := zS0_tab 137 (by decide)
theorem zS0_138 : zS0 138 = some (.inr (.array .int, 12)) := zS0_tab 138 (by decide)
theorem zS0_139 : zS0 139 = some (.inr (.int, 2)) := zS0_tab 139 (by decide)
theorem zS0_140 : zS0 140 = some (.inr (.int, 2)) := zS0_tab 140 (by decide)
theorem zS0_141 : zS0 141 = some (.inr (.int, 2)) := zS0_tab 141 (by decide)
theorem zS0_142 : zS0 142 = some (.inr (.int, 2)) := zS0_tab 142 (by decide)
theorem zS0_143 : zS0 143 = some (.inr (.int, 2)) := zS0_tab 143 (by decide)
theorem zS0_144 : zS0 144 = some (.inr (.int, 2)) := zS0_tab 144 (by decide)
theorem zS0_145 : zS0 145 = some (.inr (.int, 2)) := zS0_tab 145 (by decide)
theorem zS0_146 : zS0 146 = some (.inr (.int, 2)) := zS0_tab 146 (by decide)
theorem zS0_147 : zS0 147 = some (.inr (.int, 2)) := zS0_tab 147 (by decide)
theorem zS0_148 : zS0 148 = some (.inr (.int, 2)) := zS0_tab 148 (by decide)
theorem zS0_149 : zS0 149 = some (.inr (.int, 2)) := zS0_tab 149 (by decide)
theorem zS0_150 : zS0 150 = some (.inr (.int, 2)) := zS0_tab 150 (by decide)
theorem zS0_151 : zS0 151 = some (.inr (.array .int, 8)) := zS0_tab 151 (by decide)
theorem zS0_152 : zS0 152 = some (.inr (.int, 4)) := zS0_tab 152 (by decide)
theorem zS0_153 : zS0 153 = some (.inr (.int, 4)) := zS0_tab 153 (by decide)
theorem zS0_154 : zS0 154 = some (.inr (.int, 4)) := zS0_tab 154 (by decide)
theorem zS0_155 : zS0 155 = some (.inr (.int, 4)) := zS0_tab 155 (by decide)
theorem zS0_156 : zS0 156 = some (.inr (.int, 4)) := zS0_tab 156 (by decide)
theorem zS0_157 : zS0 157 = some (.inr (.int, 4)) := zS0_tab 157 (by decide)
theorem zS0_158 : zS0 158 = some (.inr (.int, 4)) := zS0_tab 158 (by decide)
theorem zS0_159 : zS0 159 = some (.inr (.int, 4)) := zS0_tab 159 (by decide)
theorem zS0_160 : zS0 160 = some (.inr (.long, 1)) := zS0_tab 160 (by decide)
theorem zS0_161 : zS0 161 = some (.inr (.double, 1)) := zS0_tab 161 (by decide)
theorem zD0_1_0 : zD0 1 0 = 2 := zD0_tab 1 (by decide) 0 (by decide)
theorem zD0_1_1 : zD0 1 1 = 3 := zD0_tab 1 (by decide) 1 (by decide)
theorem zD0_1_2 : zD0 1 2 = 4 := zD0_tab 1 (by decide) 2 (by decide)
theorem zD0_1_3 : zD0 1 3 = 5 := zD0_tab 1 (by decide) 3 (by decide)
theorem zD0_1_4 : zD0 1 4 = 34 := zD0_tab 1 (by decide) 4 (by decide)
theorem zD0_1_5 : zD0 1 5 = 10 := zD0_tab 1 (by decide) 5 (by decide)
theorem zD0_1_6 : zD0 1 6 = 53 := zD0_tab 1 (by decide) 6 (by decide)
theorem zD0_1_7 : zD0 1 7 = 58 := zD0_tab 1 (by decide) 7 (by decide)
theorem zD0_1_8 : zD0 1 8 = 12 := zD0_tab 1 (by decide) 8 (by decide)
theorem zD0_1_9 : zD0 1 9 = 0 := zD0_tab 1 (by decide) 9 (by decide)
theorem zD0_1_10 : zD0 1 10 = 0 := zD0_tab 1 (by decide) 10 (by decide)
theorem zD0_2_0 : zD0 2 0 = 15 := zD0_tab 2 (by decide) 0 (by decide)
theorem zD0_2_1 : zD0 2 1 = 17 := zD0_tab 2 (by decide) 1 (by decide)
theorem zD0_2_2 : zD0 2 2 = 19 := zD0_tab 2 (by decide) 2 (by decide)
theorem zD0_2_3 : zD0 2 3 = 21 := zD0_tab 2 (by decide) 3 (by decide)
theorem zD0_2_4 : zD0 2 4 = 23 := zD0_tab 2 (by decide) 4 (by decide)
theorem zD0_2_5 : zD0 2 5 = 25 := zD0_tab 2 (by decide) 5 (by decide)
theorem zD0_2_6 : zD0 2 6 = 27 := zD0_tab 2 (by decide) 6 (by decide)
theorem zD0_2_7 : zD0 2 7 = 29 := zD0_tab 2 (by decide) 7 (by decide)
theorem zD0_3_0 : zD0 3 0 = 31 := zD0_tab 3 (by decide) 0 (by decide)
theorem zD0_3_1 : zD0 3 1 = 32 := zD0_tab 3 (by decide) 1 (by decide)
theorem zD0_3_2 : zD0 3 2 = 33 := zD0_tab 3 (by decide) 2 (by decide)
theorem zD0_4_0 : zD0 4 0 = 100000 := zD0_tab 4 (by decide) 0 (by decide)
theorem zD0_5_0 : zD0 5 0 = 6 := zD0_tab 5 (by decide) 0 (by decide)
theorem zD0_5_1 : zD0 5 1 = 7 := zD0_tab 5 (by decide) 1 (by decide)
theorem zD0_5_2 : zD0 5 2 = 8 := zD0_tab 5 (by decide) 2 (by decide)
theorem zD0_5_3 : zD0 5 3 = 9 := zD0_tab 5 (by decide) 3 (by decide)
theorem zD0_5_4 : zD0 5 4 = 0 := zD0_tab 5 (by decide) 4 (by decide)
theorem zD0_5_5 : zD0 5 5 = 0 := zD0_tab 5 (by decide) 5 (by decide)
theorem zD0_5_6 : zD0 5 6 = 0 := zD0_tab 5 (by decide) 6 (by decide)
theorem zD0_5_7 : zD0 5 7 = 0 := zD0_tab 5 (by decide) 7 (by decide)
theorem zD0_8_0 : zD0 8 0 = 0 := zD0_tab 8 (by decide) 0 (by decide)
theorem zD0_8_1 : zD0 8 1 = 0 := zD0_tab 8 (by decide) 1 (by decide)
theorem zD0_8_2 : zD0 8 2 = 0 := zD0_tab 8 (by decide) 2 (by decide)
theorem zD0_8_3 : zD0 8 3 = 0 := zD0_tab 8 (by decide) 3 (by decide)
theorem zD0_8_4 : zD0 8 4 = 0 := zD0_tab 8 (by decide) 4 (by decide)
theorem zD0_8_5 : zD0 8 5 = 0 := zD0_tab 8 (by decide) 5 (by decide)
theorem zD0_8_6 : zD0 8 6 = 0 := zD0_tab 8 (by decide) 6 (by decide)
theorem zD0_8_7 : zD0 8 7 = 0 := zD0_tab 8 (by decide) 7 (by decide)
theorem zD0_8_8 : zD0 8 8 = 0 := zD0_tab 8 (by decide) 8 (by decide)
theorem zD0_8_9 : zD0 8 9 = 0 := zD0_tab 8 (by decide) 9 (by decide)
theorem zD0_8_10 : zD0 8 10 = 0 := zD0_tab 8 (by decide) 10 (by decide)
theorem zD0_9_0 : zD0 9 0 = 0 := zD0_tab 9 (by decide) 0 (by decide)
theorem zD0_9_1 : zD0 9 1 = 0 := zD0_tab 9 (by decide) 1 (by decide)
theorem zD0_9_2 : zD0 9 2 = 0 := zD0_tab 9 (by decide) 2 (by decide)
theorem zD0_9_3 : zD0 9 3 = 0 := zD0_tab 9 (by decide) 3 (by decide)
theorem zD0_9_4 : zD0 9 4 = 0 := zD0_tab 9 (by decide) 4 (by decide)
theorem zD0_9_5 : zD0 9 5 = 0 := zD0_tab 9 (by decide) 5 (by decide)
theorem zD0_9_6 : zD0 9 6 = 0 := zD0_tab 9 (by decide) 6 (by decide)
theorem zD0_9_7 : zD0 9 7 = 0 := zD0_tab 9 (by decide) 7 (by decide)
theorem zD0_9_8 : zD0 9 8 = 0 := zD0_tab 9 (by decide) 8 (by decide)
theorem zD0_9_9 : zD0 9 9 = 0 := zD0_tab 9 (by decide) 9 (by decide)
theorem zD0_9_10 : zD0 9 10 = 0 := zD0_tab 9 (by decide) 10 (by decide)
theorem zD0_10_0 : zD0 10 0 = 11 := zD0_tab 10 (by decide) 0 (by decide)
theorem zD0_10_1 : zD0 10 1 = 0 := zD0_tab 10 (by decide) 1 (by decide)
theorem zD0_10_2 : zD0 10 2 = 0 := zD0_tab 10 (by decide) 2 (by decide)
theorem zD0_11_0 : zD0 11 0 = 0 := zD0_tab 11 (by decide) 0 (by decide)
theorem zD0_11_1 : zD0 11 1 = 0 := zD0_tab 11 (by decide) 1 (by decide)
theorem zD0_11_2 : zD0 11 2 = 0 := zD0_tab 11 (by decide) 2 (by decide)
theorem zD0_11_3 : zD0 11 3 = 0 := zD0_tab 11 (by decide) 3 (by decide)
theorem zD0_11_4 : zD0 11 4 = 0 := zD0_tab 11 (by decide) 4 (by decide)
theorem zD0_11_5 : zD0 11 5 = 0 := zD0_tab 11 (by decide) 5 (by decide)
theorem zD0_11_6 : zD0 11 6 = 0 := zD0_tab 11 (by decide) 6 (by decide)
theorem zD0_11_7 : zD0 11 7 = 0 := zD0_tab 11 (by decide) 7 (by decide)
theorem zD0_11_8 : zD0 11 8 = 0 := zD0_tab 11 (by decide) 8 (by decide)
theorem zD0_11_9 : zD0 11 9 = 0 := zD0_tab 11 (by decide) 9 (by decide)
theorem zD0_11_10 : zD0 11 10 = 0 := zD0_tab 11 (by decide) 10 (by decide)
theorem zD0_12_0 : zD0 12 0 = 13 := zD0_tab 12 (by decide) 0 (by decide)
theorem zD0_12_1 : zD0 12 1 = 14 := zD0_tab 12 (by decide) 1 (by decide)
theorem zD0_12_2 : zD0 12 2 = 0 := zD0_tab 12 (by decide) 2 (by decide)
theorem zD0_12_3 : zD0 12 3 = 0 := zD0_tab 12 (by decide) 3 (by decide)
theorem zD0_12_4 : zD0 12 4 = 0 := zD0_tab 12 (by decide) 4 (by decide)
theorem zD0_13_0 : zD0 13 0 = 0 := zD0_tab 13 (by decide) 0 (by decide)
theorem zD0_13_1 : zD0 13 1 = 0 := zD0_tab 13 (by decide) 1 (by decide)
theorem zD0_13_2 : zD0 13 2 = 0 := zD0_tab 13 (by decide) 2 (by decide)
theorem zD0_13_3 : zD0 13 3 = 0 := zD0_tab 13 (by decide) 3 (by decide)
theorem zD0_13_4 : zD0 13 4 = 0 := zD0_tab 13 (by decide) 4 (by decide)
theorem zD0_13_5 : zD0 13 5 = 0 := zD0_tab 13 (by decide) 5 (by decide)
theorem zD0_13_6 : zD0 13 6 = 0 := zD0_tab 13 (by decide) 6 (by decide)
theorem zD0_13_7 : zD0 13 7 = 0 := zD0_tab 13 (by decide) 7 (by decide)
theorem zD0_13_8 : zD0 13 8 = 0 := zD0_tab 13 (by decide) 8 (by decide)
theorem zD0_13_9 : zD0 13 9 = 0 := zD0_tab 13 (by decide) 9 (by decide)
theorem zD0_13_10 : zD0 13 10 = 0 := zD0_tab 13 (by decide) 10 (by decide)
theorem zD0_13_11 : zD0 13 11 = 0 := zD0_tab 13 (by decide) 11 (by decide)
theorem zD0_14_0 : zD0 14 0 = 0 := zD0_tab 14 (by decide) 0 (by decide)
theorem zD0_14_1 : zD0 14 1 = 0 := zD0_tab 14 (by decide) 1 (by decide)
theorem zD0_14_2 : zD0 14 2 = 0 := zD0_tab 14 (by decide) 2 (by decide)
theorem zD0_14_3 : zD0 14 3 = 0 := zD0_tab 14 (by decide) 3 (by decide)
theorem zD0_14_4 : zD0 14 4 = 0 := zD0_tab 14 (by decide) 4 (by decide)
theorem zD0_14_5 : zD0 14 5 = 0 := zD0_tab 14 (by decide) 5 (by decide)
theorem zD0_14_6 : zD0 14 6 = 0 := zD0_tab 14 (by decide) 6 (by decide)
theorem zD0_14_7 : zD0 14 7 = 0 := zD0_tab 14 (by decide) 7 (by decide)
theorem zD0_14_8 : zD0 14 8 = 0 := zD0_tab 14 (by decide) 8 (by decide)
theorem zD0_14_9 : zD0 14 9 = 0 := zD0_tab 14 (by decide) 9 (by decide)
theorem zD0_14_10 : zD0 14 10 = 0 := zD0_tab 14 (by decide) 10 (by decide)
theorem zD0_14_11 : zD0 14 11 = 0 := zD0_tab 14 (by decide) 11 (by decide)
theorem zD0_15_0 : zD0 15 0 = 16 := zD0_tab 15 (by decide) 0 (by decide)
theorem zD0_15_1 : zD0 15 1 = 0 := zD0_tab 15 (by decide) 1 (by decide)
theorem zD0_15_2 : zD0 15 2 = 0 := zD0_tab 15 (by decide) 2 (by decide)
theorem zD0_15_3 : zD0 15 3 = 5000 := zD0_tab 15 (by decide) 3 (by decide)
theorem zD0_15_4 : zD0 15 4 = 5000 := zD0_tab 15 (by decide) 4 (by decide)
theorem zD0_15_5 : zD0 15 5 = 0 := zD0_tab 15 (by decide) 5 (by decide)
theorem zD0_15_6 : zD0 15 6 = 0 := zD0_tab 15 (by decide) 6 (by decide)
theorem zD0_15_7 : zD0 15 7 = 0 := zD0_tab 15 (by decide) 7 (by decide)
theorem zD0_15_8 : zD0 15 8 = 0 := zD0_tab 15 (by decide) 8 (by decide)
theorem zD0_15_9 : zD0 15 9 = 0 := zD0_tab 15 (by decide) 9 (by decide)
theorem zD0_15_10 : zD0 15 10 = 0 := zD0_tab 15 (by decide) 10 (by decide)
theorem zD0_15_11 : zD0 15 11 = 0 := zD0_tab 15 (by decide) 11 (by decide)
theorem zD0_15_12 : zD0 15 12 = 0 := zD0_tab 15 (by decide) 12 (by decide)
theorem zD0_16_0 : zD0 16 0 = 0 := zD0_tab 16 (by decide) 0 (by decide)
theorem zD0_16_1 : zD0 16 1 = 0 := zD0_tab 16 (by decide) 1 (by decide)
theorem zD0_16_2 : zD0 16 2 = 0 := zD0_tab 16 (by decide) 2 (by decide)
theorem zD0_16_3 : zD0 16 3 = 0 := zD0_tab 16 (by decide) 3 (by decide)
theorem zD0_17_0 : zD0 17 0 = 18 := zD0_tab 17 (by decide) 0 (by decide)
theorem zD0_17_1 : zD0 17 1 = 0 := zD0_tab 17 (by decide) 1 (by decide)
theorem zD0_17_2 : zD0 17 2 = 0 := zD0_tab 17 (by decide) 2 (by decide)
theorem zD0_17_3 : zD0 17 3 = 5000 := zD0_tab 17 (by decide) 3 (by decide)
theorem zD0_17_4 : zD0 17 4 = 5000 := zD0_tab 17 (by decide) 4 (by decide)
theorem zD0_17_5 : zD0 17 5 = 0 := zD0_tab 17 (by decide) 5 (by decide)
theorem zD0_17_6 : zD0 17 6 = 0 := zD0_tab 17 (by decide) 6 (by decide)
theorem zD0_17_7 : zD0 17 7 = 0 := zD0_tab 17 (by decide) 7 (by decide)
theorem zD0_17_8 : zD0 17 8 = 0 := zD0_tab 17 (by decide) 8 (by decide)
theorem zD0_17_9 : zD0 17 9 = 0 := zD0_tab 17 (by decide) 9 (by decide)
theorem zD0_17_10 : zD0 17 10 = 0 := zD0_tab 17 (by decide) 10 (by decide)
theorem zD0_17_11 : zD0 17 11 = 0 := zD0_tab 17 (by decide) 11 (by decide)
theorem zD0_17_12 : zD0 17 12 = 0 := zD0_tab 17 (by decide) 12 (by decide)
theorem zD0_18_0 : zD0 18 0 = 0 := zD0_tab 18 (by decide) 0 (by decide)
theorem zD0_18_1 : zD0 18 1 = 0 := zD0_tab 18 (by decide) 1 (by decide)
theorem zD0_18_2 : zD0 18 2 = 0 := zD0_tab 18 (by decide) 2 (by decide)
theorem zD0_18_3 : zD0 18 3 = 0 := zD0_tab 18 (by decide) 3 (by decide)
theorem zD0_19_0 : zD0 19 0 = 20 := zD0_tab 19 (by decide) 0 (by decide)
theorem zD0_19_1 : zD0 19 1 = 0 := zD0_tab 19 (by decide) 1 (by decide)
theorem zD0_19_2 : zD0 19 2 = 0 := zD0_tab 19 (by decide) 2 (by decide)
theorem zD0_19_3 : zD0 19 3 = 5000 := zD0_tab 19 (by decide) 3 (by decide)
theorem zD0_19_4 : zD0 19 4 = 5000 := zD0_tab 19 (by decide) 4 (by decide)
theorem zD0_19_5 : zD0 19 5 = 0 := zD0_tab 19 (by decide) 5 (by decide)
theorem zD0_19_6 : zD0 19 6 = 0 := zD0_tab 19 (by decide) 6 (by decide)
theorem zD0_19_7 : zD0 19 7 = 0 := zD0_tab 19 (by decide) 7 (by decide)
theorem zD0_19_8 : zD0 19 8 = 0 := zD0_tab 19 (by decide) 8 (by decide)
theorem zD0_19_9 : zD0 19 9 = 0 := zD0_tab 19 (by decide) 9 (by decide)
theorem zD0_19_10 : zD0 19 10 = 0 := zD0_tab 19 (by decide) 10 (by decide)
theorem zD0_19_11 : zD0 19 11 = 0 := zD0_tab 19 (by decide) 11 (by decide)
theorem zD0_19_12 : zD0 19 12 = 0 := zD0_tab 19 (by decide) 12 (by decide)
theorem zD0_20_0 : zD0 20 0 = 0 := zD0_tab 20 (by decide) 0 (by decide)
theorem zD0_20_1 : zD0 20 1 = 0 := zD0_tab 20 (by decide) 1 (by decide)
theorem zD0_20_2 : zD0 20 2 = 0 := zD0_tab 20 (by decide) 2 (by decide)
theorem zD0_20_3 : zD0 20 3 = 0 := zD0_tab 20 (by decide) 3 (by decide)
theorem zD0_21_0 : zD0 21 0 = 22 := zD0_tab 21 (by decide) 0 (by decide)
theorem zD0_21_1 : zD0 21 1 = 0 := zD0_tab 21 (by decide) 1 (by decide)
theorem zD0_21_2 : zD0 21 2 = 0 := zD0_tab 21 (by decide) 2 (by decide)
theorem zD0_21_3 : zD0 21 3 = 5000 := zD0_tab 21 (by decide) 3 (by decide)
theorem zD0_21_4 : zD0 21 4 = 5000 := zD0_tab 21 (by decide) 4 (by decide)
theorem zD0_21_5 : zD0 21 5 = 0 := zD0_tab 21 (by decide) 5 (by decide)
theorem zD0_21_6 : zD0 21 6 = 0 := zD0_tab 21 (by decide) 6 (by decide)
theorem zD0_21_7 : zD0 21 7 = 0 := zD0_tab 21 (by decide) 7 (by decide)
theorem zD0_21_8 : zD0 21 8 = 0 := zD0_tab 21 (by decide) 8 (by decide)
theorem zD0_21_9 : zD0 21 9 = 0 := zD0_tab 21 (by decide) 9 (by decide)
theorem zD0_21_10 : zD0 21 10 = 0 := zD0_tab 21 (by decide) 10 (by decide)
theorem zD0_21_11 : zD0 21 11 = 0 := zD0_tab 21 (by decide) 11 (by decide)
theorem zD0_21_12 : zD0 21 12 = 0 := zD0_tab 21 (by decide) 12 (by decide)
theorem zD0_22_0 : zD0 22 0 = 0 := zD0_tab 22 (by decide) 0 (by decide)
theorem zD0_22_1 : zD0 22 1 = 0 := zD0_tab 22 (by decide) 1 (by decide)
theorem zD0_22_2 : zD0 22 2 = 0 := zD0_tab 22 (by decide) 2 (by decide)
theorem zD0_22_3 : zD0 22 3 = 0 := zD0_tab 22 (by decide) 3 (by decide)
theorem zD0_23_0 : zD0 23 0 = 24 := zD0_tab 23 (by decide) 0 (by decide)
theorem zD0_23_1 : zD0 23 1 = 0 := zD0_tab 23 (by decide) 1 (by decide)
theorem zD0_23_2 : zD0 23 2 = 0 := zD0_tab 23 (by decide) 2 (by decide)
theorem zD0_23_3 : zD0 23 3 = 5000 := zD0_tab 23 (by decide) 3 (by decide)
theorem zD0_23_4 : zD0 23 4 = 5000 := zD0_tab 23 (by decide) 4 (by decide)
theorem zD0_23_5 : zD0 23 5 = 0 := zD0_tab 23 (by decide) 5 (by decide)
theorem zD0_23_6 : zD0 23 6 = 0 := zD0_tab 23 (by decide) 6 (by decide)
theorem zD0_23_7 : zD0 23 7 = 0 := zD0_tab 23 (by decide) 7 (by decide)
theorem zD0_23_8 : zD0 23 8 = 0 := zD0_tab 23 (by decide) 8 (by decide)
theorem zD0_23_9 : zD0 23 9 = 0 := zD0_tab 23 (by decide) 9 (by decide)
theorem zD0_23_10 : zD0 23 10 = 0 := zD0_tab 23 (by decide) 10 (by decide)
theorem zD0_23_11 : zD0 23 11 = 0 := zD0_tab 23 (by decide) 11 (by decide)
theorem zD0_23_12 : zD0 23 12 = 0 := zD0_tab 23 (by decide) 12 (by decide)
theorem zD0_24_0 : zD0 24 0 = 0 := zD0_tab 24 (by decide) 0 (by decide)
theorem zD0_24_1 : zD0 24 1 = 0 := zD0_tab 24 (by decide) 1 (by decide)
theorem zD0_24_2 : zD0 24 2 = 0 := zD0_tab 24 (by decide) 2 (by decide)
theorem zD0_24_3 : zD0 24 3 = 0 := zD0_tab 24 (by decide) 3 (by decide)
theorem zD0_25_0 : zD0 25 0 = 26 := zD0_tab 25 (by decide) 0 (by decide)
theorem zD0_25_1 : zD0 25 1 = 0 := zD0_tab 25 (by decide) 1 (by decide)
theorem zD0_25_2 : zD0 25 2 = 0 := zD0_tab 25 (by decide) 2 (by decide)
theorem zD0_25_3 : zD0 25 3 = 5000 := zD0_tab 25 (by decide) 3 (by decide)
theorem zD0_25_4 : zD0 25 4 = 5000 := zD0_tab 25 (by decide) 4 (by decide)
theorem zD0_25_5 : zD0 25 5 = 0 := zD0_tab 25 (by decide) 5 (by decide)
theorem zD0_25_6 : zD0 25 6 = 0 := zD0_tab 25 (by decide) 6 (by decide)
theorem zD0_25_7 : zD0 25 7 = 0 := zD0_tab 25 (by decide) 7 (by decide)
theorem zD0_25_8 : zD0 25 8 = 0 := zD0_tab 25 (by decide) 8 (by decide)
theorem zD0_25_9 : zD0 25 9 = 0 := zD0_tab 25 (by decide) 9 (by decide)
theorem zD0_25_10 : zD0 25 10 = 0 := zD0_tab 25 (by decide) 10 (by decide)
theorem zD0_25_11 : zD0 25 11 = 0 := zD0_tab 25 (by decide) 11 (by decide)
theorem zD0_25_12 : zD0 25 12 = 0 := zD0_tab 25 (by decide) 12 (by decide)
theorem zD0_26_0 : zD0 26 0 = 0 := zD0_tab 26 (by decide) 0 (by decide)
theorem zD0_26_1 : zD0 26 1 = 0 := zD0_tab 26 (by decide) 1 (by decide)
theorem zD0_26_2 : zD0 26 2 = 0 := zD0_tab 26 (by decide) 2 (by decide)
theorem zD0_26_3 : zD0 26 3 = 0 := zD0_tab 26 (by decide) 3 (by decide)
theorem zD0_27_0 : zD0 27 0 = 28 := zD0_tab 27 (by decide) 0 (by decide)
theorem zD0_27_1 : zD0 27 1 = 0 := zD0_tab 27 (by decide) 1 (by decide)
theorem zD0_27_2 : zD0 27 2 = 0 := zD0_tab 27 (by decide) 2 (by decide)
theorem zD0_27_3 : zD0 27 3 = 5000 := zD0_tab 27 (by decide) 3 (by decide)
theorem zD0_27_4 : zD0 27 4 = 5000 := zD0_tab 27 (by decide) 4 (by decide)
theorem zD0_27_5 : zD0 27 5 = 0 := zD0_tab 27 (by decide) 5 (by decide)
theorem zD0_27_6 : zD0 27 6 = 0 := zD0_tab 27 (by decide) 6 (by decide)
theorem zD0_27_7 : zD0 27 7 = 0 := zD0_tab 27 (by decide) 7 (by decide)
theorem zD0_27_8 : zD0 27 8 = 0 := zD0_tab 27 (by decide) 8 (by decide)
theorem zD0_27_9 : zD0 27 9 = 0 := zD0_tab 27 (by decide) 9 (by decide)
theorem zD0_27_10 : zD0 27 10 = 0 := zD0_tab 27 (by decide) 10 (by decide)
theorem zD0_27_11 : zD0 27 11 = 0 := zD0_tab 27 (by decide) 11 (by decide)
theorem zD0_27_12 : zD0 27 12 = 0 := zD0_tab 27 (by decide) 12 (by decide)
theorem zD0_28_0 : zD0 28 0 = 0 := zD0_tab 28 (by decide) 0 (by decide)
theorem zD0_28_1 : zD0 28 1 = 0 := zD0_tab 28 (by decide) 1 (by decide)
theorem zD0_28_2 : zD0 28 2 = 0 := zD0_tab 28 (by decide) 2 (by decide)
theorem zD0_28_3 : zD0 28 3 = 0 := zD0_tab 28 (by decide) 3 (by decide)
theorem zD0_29_0 : zD0 29 0 = 30 := zD0_tab 29 (by decide) 0 (by decide)
theorem zD0_29_1 : zD0 29 1 = 0 := zD0_tab 29 (by decide) 1 (by decide)
theorem zD0_29_2 : zD0 29 2 = 0 := zD0_tab 29 (by decide) 2 (by decide)
theorem zD0_29_3 : zD0 29 3 = 5000 := zD0_tab 29 (by decide) 3 (by decide)
theorem zD0_29_4 : zD0 29 4 = 5000 := zD0_tab 29 (by decide) 4 (by decide)
theorem zD0_29_5 : zD0 29 5 = 0 := zD0_tab 29 (by decide) 5 (by decide)
theorem zD0_29_6 : zD0 29 6 = 0 := zD0_tab 29 (by decide) 6 (by decide)
theorem zD0_29_7 : zD0 29 7 = 0 := zD0_tab 29 (by decide) 7 (by decide)
theorem zD0_29_8 : zD0 29 8 = 0 := zD0_tab 29 (by decide) 8 (by decide)
theorem zD0_29_9 : zD0 29 9 = 0 := zD0_tab 29 (by decide) 9 (by decide)
theorem zD0_29_10 : zD0 29 10 = 0 := zD0_tab 29 (by decide) 10 (by decide)
theorem zD0_29_11 : zD0 29 11 = 0 := zD0_tab 29 (by decide) 11 (by decide)
theorem zD0_29_12 : zD0 29 12 = 0 := zD0_tab 29 (by decide) 12 (by decide)
theorem zD0_30_0 : zD0 30 0 = 0 := zD0_tab 30 (by decide) 0 (by decide)
theorem zD0_30_1 : zD0 30 1 = 0 := zD0_tab 30 (by decide) 1 (by decide)
theorem zD0_30_2 : zD0 30 2 = 0 := zD0_tab 30 (by decide) 2 (by decide)
theorem zD0_30_3 : zD0 30 3 = 0 := zD0_tab 30 (by decide) 3 (by decide)
theorem zD0_31_0 : zD0 31 0 = 4 := zD0_tab 31 (by decide) 0 (by decide)
theorem zD0_31_1 : zD0 31 1 = 0 := zD0_tab 31 (by decide) 1 (by decide)
theorem zD0_31_2 : zD0 31 2 = 0 := zD0_tab 31 (by decide) 2 (by decide)
theorem zD0_31_3 : zD0 31 3 = 0 := zD0_tab 31 (by decide) 3 (by decide)
theorem zD0_31_4 : zD0 31 4 = 0 := zD0_tab 31 (by decide) 4 (by decide)
theorem zD0_32_0 : zD0 32 0 = 4 := zD0_tab 32 (by decide) 0 (by decide)
theorem zD0_32_1 : zD0 32 1 = 0 := zD0_tab 32 (by decide) 1 (by decide)
theorem zD0_32_2 : zD0 32 2 = 0 := zD0_tab 32 (by decide) 2 (by decide)
theorem zD0_32_3 : zD0 32 3 = 0 := zD0_tab 32 (by decide) 3 (by decide)
theorem zD0_32_4 : zD0 32 4 = 0 := zD0_tab 32 (by decide) 4 (by decide)
theorem zD0_33_0 : zD0 33 0 = 4 := zD0_tab 33 (by decide) 0 (by decide)
theorem zD0_33_1 : zD0 33 1 = 0 := zD0_tab 33 (by decide) 1 (by decide)
theorem zD0_33_2 : zD0 33 2 = 0 := zD0_tab 33 (by decide) 2 (by decide)
theorem zD0_33_3 : zD0 33 3 = 0 := zD0_tab 33 (by decide) 3 (by decide)
theorem zD0_33_4 : zD0 33 4 = 0 := zD0_tab 33 (by decide) 4 (by decide)
theorem zD0_34_0 : zD0 34 0 = 5 := zD0_tab 34 (by decide) 0 (by decide)
theorem zD0_34_1 : zD0 34 1 = 31 := zD0_tab 34 (by decide) 1 (by decide)
theorem zD0_34_2 : zD0 34 2 = 35 := zD0_tab 34 (by decide) 2 (by decide)
theorem zD0_34_3 : zD0 34 3 = 36 := zD0_tab 34 (by decide) 3 (by decide)
theorem zD0_34_4 : zD0 34 4 = 0 := zD0_tab 34 (by decide) 4 (by decide)
theorem zD0_34_5 : zD0 34 5 = 0 := zD0_tab 34 (by decide) 5 (by decide)
theorem zD0_34_6 : zD0 34 6 = 0 := zD0_tab 34 (by decide) 6 (by decide)
theorem zD0_34_7 : zD0 34 7 = 0 := zD0_tab 34 (by decide) 7 (by decide)
theorem zD0_34_8 : zD0 34 8 = 0 := zD0_tab 34 (by decide) 8 (by decide)
theorem zD0_34_9 : zD0 34 9 = 0 := zD0_tab 34 (by decide) 9 (by decide)
theorem zD0_35_0 : zD0 35 0 = 38 := zD0_tab 35 (by decide) 0 (by decide)
theorem zD0_35_1 : zD0 35 1 = 43 := zD0_tab 35 (by decide) 1 (by decide)
theorem zD0_35_2 : zD0 35 2 = 48 := zD0_tab 35 (by decide) 2 (by decide)
theorem zD0_36_0 : zD0 36 0 = 37 := zD0_tab 36 (by decide) 0 (by decide)
theorem zD0_36_1 : zD0 36 1 = 0 := zD0_tab 36 (by decide) 1 (by decide)
theorem zD0_36_2 : zD0 36 2 = 0 := zD0_tab 36 (by decide) 2 (by decide)
theorem zD0_36_3 : zD0 36 3 = 0 := zD0_tab 36 (by decide) 3 (by decide)
theorem zD0_36_4 : zD0 36 4 = 0 := zD0_tab 36 (by decide) 4 (by decide)
theorem zD0_36_5 : zD0 36 5 = 0 := zD0_tab 36 (by decide) 5 (by decide)
theorem zD0_36_6 : zD0 36 6 = 0 := zD0_tab 36 (by decide) 6 (by decide)
theorem zD0_37_0 : zD0 37 0 = 0 := zD0_tab 37 (by decide) 0 (by decide)
theorem zD0_37_1 : zD0 37 1 = 0 := zD0_tab 37 (by decide) 1 (by decide)
theorem zD0_37_2 : zD0 37 2 = 0 := zD0_tab 37 (by decide) 2 (by decide)
theorem zD0_37_3 : zD0 37 3 = 0 := zD0_tab 37 (by decide) 3 (by decide)
theorem zD0_37_4 : zD0 37 4 = 0 := zD0_tab 37 (by decide) 4 (by decide)
theorem zD0_37_5 : zD0 37 5 = 0 := zD0_tab 37 (by decide) 5 (by decide)
theorem zD0_37_6 : zD0 37 6 = 0 := zD0_tab 37 (by decide) 6 (by decide)
theorem zD0_37_7 : zD0 37 7 = 0 := zD0_tab 37 (by decide) 7 (by decide)
theorem zD0_37_8 : zD0 37 8 = 0 := zD0_tab 37 (by decide) 8 (by decide)
theorem zD0_37_9 : zD0 37 9 = 0 := zD0_tab 37 (by decide) 9 (by decide)
theorem zD0_37_10 : zD0 37 10 = 0 := zD0_tab 37 (by decide) 10 (by decide)
theorem zD0_37_11 : zD0 37 11 = 0 := zD0_tab 37 (by decide) 11 (by decide)
theorem zD0_37_12 : zD0 37 12 = 0 := zD0_tab 37 (by decide) 12 (by decide)
theorem zD0_37_13 : zD0 37 13 = 0 := zD0_tab 37 (by decide) 13 (by decide)
theorem zD0_37_14 : zD0 37 14 = 0 := zD0_tab 37 (by decide) 14 (by decide)
theorem zD0_37_15 : zD0 37 15 = 0 := zD0_tab 37 (by decide) 15 (by decide)
theorem zD0_37_16 : zD0 37 16 = 0 := zD0_tab 37 (by decide) 16 (by decide)
theorem zD0_37_17 : zD0 37 17 = 0 := zD0_tab 37 (by decide) 17 (by decide)
theorem zD0_37_18 : zD0 37 18 = 0 := zD0_tab 37 (by decide) 18 (by decide)
theorem zD0_37_19 : zD0 37 19 = 0 := zD0_tab 37 (by decide) 19 (by decide)
theorem zD0_37_20 : zD0 37 20 = 0 := zD0_tab 37 (by decide) 20 (by decide)
theorem zD0_37_21 : zD0 37 21 = 0 := zD0_tab 37 (by decide) 21 (by decide)
theorem zD0_38_0 : zD0 38 0 = 39 := zD0_tab 38 (by decide) 0 (by decide)
theorem zD0_38_1 : zD0 38 1 = 41 := zD0_tab 38 (by decide) 1 (by decide)
theorem zD0_38_2 : zD0 38 2 = 0 := zD0_tab 38 (by decide) 2 (by decide)
theorem zD0_38_3 : zD0 38 3 = 0 := zD0_tab 38 (by decide) 3 (by decide)
theorem zD0_39_0 : zD0 39 0 = 40 := zD0_tab 39 (by decide) 0 (by decide)
theorem zD0_39_1 : zD0 39 1 = 0 := zD0_tab 39 (by decide) 1 (by decide)
theorem zD0_39_2 : zD0 39 2 = 0 := zD0_tab 39 (by decide) 2 (by decide)
theorem zD0_39_3 : zD0 39 3 = 0 := zD0_tab 39 (by decide) 3 (by decide)
theorem zD0_39_4 : zD0 39 4 = 0 := zD0_tab 39 (by decide) 4 (by decide)
theorem zD0_39_5 : zD0 39 5 = 0 := zD0_tab 39 (by decide) 5 (by decide)
theorem zD0_39_6 : zD0 39 6 = 0 := zD0_tab 39 (by decide) 6 (by decide)
theorem zD0_40_0 : zD0 40 0 = 0 := zD0_tab 40 (by decide) 0 (by decide)
theorem zD0_40_1 : zD0 40 1 = 0 := zD0_tab 40 (by decide) 1 (by decide)
theorem zD0_40_2 : zD0 40 2 = 0 := zD0_tab 40 (by decide) 2 (by decide)
theorem zD0_40_3 : zD0 40 3 = 0 := zD0_tab 40 (by decide) 3 (by decide)
theorem zD0_40_4 : zD0 40 4 = 0 := zD0_tab 40 (by decide) 4 (by decide)
theorem zD0_40_5 : zD0 40 5 = 0 := zD0_tab 40 (by decide) 5 (by decide)
theorem zD0_40_6 : zD0 40 6 = 0 := zD0_tab 40 (by decide) 6 (by decide)
theorem zD0_40_7 : zD0 40 7 = 0 := zD0_tab 40 (by decide) 7 (by decide)
theorem zD0_40_8 : zD0 40 8 = 0 := zD0_tab 40 (by decide) 8 (by decide)
theorem zD0_40_9 : zD0 40 9 = 0 := zD0_tab 40 (by decide) 9 (by decide)
theorem zD0_40_10 : zD0 40 10 = 0 := zD0_tab 40 (by decide) 10 (by decide)
theorem zD0_40_11 : zD0 40 11 = 0 := zD0_tab 40 (by decide) 11 (by decide)
theorem zD0_40_12 : zD0 40 12 = 0 := zD0_tab 40 (by decide) 12 (by decide)
theorem zD0_40_13 : zD0 40 13 = 0 := zD0_tab 40 (by decide) 13 (by decide)
theorem zD0_40_14 : zD0 40 14 = 0 := zD0_tab 40 (by decide) 14 (by decide)
theorem zD0_40_15 : zD0 40 15 = 0 := zD0_tab 40 (by decide) 15 (by decide)
theorem zD0_40_16 : zD0 40 16 = 0 := zD0_tab 40 (by decide) 16 (by decide)
theorem zD0_40_17 : zD0 40 17 = 0 := zD0_tab 40 (by decide) 17 (by decide)
theorem zD0_40_18 : zD0 40 18 = 0 := zD0_tab 40 (by decide) 18 (by decide)
theorem zD0_40_19 : zD0 40 19 = 0 := zD0_tab 40 (by decide) 19 (by decide)
theorem zD0_40_20 : zD0 40 20 = 0 := zD0_tab 40 (by decide) 20 (by decide)
theorem zD0_40_21 : zD0 40 21 = 0 := zD0_tab 40 (by decide) 21 (by decide)
theorem zD0_41_0 : zD0 41 0 = 42 := zD0_tab 41 (by decide) 0 (by decide)
theorem zD0_41_1 : zD0 41 1 = 0 := zD0_tab 41 (by decide) 1 (by decide)
theorem zD0_41_2 : zD0 41 2 = 0 := zD0_tab 41 (by decide) 2 (by decide)
theorem zD0_41_3 : zD0 41 3 = 0 := zD0_tab 41 (by decide) 3 (by decide)
theorem zD0_41_4 : zD0 41 4 = 0 := zD0_tab 41 (by decide) 4 (by decide)
theorem zD0_41_5 : zD0 41 5 = 0 := zD0_tab 41 (by decide) 5 (by decide)
theorem zD0_41_6 : zD0 41 6 = 0 := zD0_tab 41 (by decide) 6 (by decide)
theorem zD0_42_0 : zD0 42 0 = 0 := zD0_tab 42 (by decide) 0 (by decide)
theorem zD0_42_1 : zD0 42 1 = 0 := zD0_tab 42 (by decide) 1 (by decide)
theorem zD0_42_2 : zD0 42 2 = 0 := zD0_tab 42 (by decide) 2 (by decide)
theorem zD0_42_3 : zD0 42 3 = 0 := zD0_tab 42 (by decide) 3 (by decide)
theorem zD0_42_4 : zD0 42 4 = 0 := zD0_tab 42 (by decide) 4 (by decide)
theorem zD0_42_5 : zD0 42 5 = 0 := zD0_tab 42 (by decide) 5 (by decide)
theorem zD0_42_6 : zD0 42 6 = 0 := zD0_tab 42 (by decide) 6 (by decide)
theorem zD0_42_7 : zD0 42 7 = 0 := zD0_tab 42 (by decide) 7 (by decide)
theorem zD0_42_8 : zD0 42 8 = 0 := zD0_tab 42 (by decide) 8 (by decide)
theorem zD0_42_9 : zD0 42 9 = 0 := zD0_tab 42 (by decide) 9 (by decide)
theorem zD0_42_10 : zD0 42 10 = 0 := zD0_tab 42 (by decide) 10 (by decide)
theorem zD0_42_11 : zD0 42 11 = 0 := zD0_tab 42 (by decide) 11 (by decide)
theorem zD0_42_12 : zD0 42 12 = 0 := zD0_tab 42 (by decide) 12 (by decide)
theorem zD0_42_13 : zD0 42 13 = 0 := zD0_tab 42 (by decide) 13 (by decide)
theorem zD0_42_14 : zD0 42 14 = 0 := zD0_tab 42 (by decide) 14 (by decide)
theorem zD0_42_15 : zD0 42 15 = 0 := zD0_tab 42 (by decide) 15 (by decide)
theorem zD0_42_16 : zD0 42 16 = 0 := zD0_tab 42 (by decide) 16 (by decide)
theorem zD0_42_17 : zD0 42 17 = 0 := zD0_tab 42 (by decide) 17 (by decide)
theorem zD0_42_18 : zD0 42 18 = 0 := zD0_tab 42 (by decide) 18 (by decide)
theorem zD0_42_19 : zD0 42 19 = 0 := zD0_tab 42 (by decide) 19 (by decide)
theorem zD0_42_20 : zD0 42 20 = 0 := zD0_tab 42 (by decide) 20 (by decide)
theorem zD0_42_21 : zD0 42 21 = 0 := zD0_tab 42 (by decide) 21 (by decide)
theorem zD0_43_0 : zD0 43 0 = 44 := zD0_tab 43 (by decide) 0 (by decide)
theorem zD0_43_1 : zD0 43 1 = 46 := zD0_tab 43 (by decide) 1 (by decide)
theorem zD0_43_2 : zD0 43 2 = 0 := zD0_tab 43 (by decide) 2 (by decide)
theorem zD0_43_3 : zD0 43 3 = 0 := zD0_tab 43 (by decide) 3 (by decide)
theorem zD0_44_0 : zD0 44 0 = 45 := zD0_tab 44 (by decide) 0 (by decide)
theorem zD0_44_1 : zD0 44 1 = 0 := zD0_tab 44 (by decide) 1 (by decide)
theorem zD0_44_2 : zD0 44 2 = 0 := zD0_tab 44 (by decide) 2 (by decide)
theorem zD0_44_3 : zD0 44 3 = 0 := zD0_tab 44 (by decide) 3 (by decide)
theorem zD0_44_4 : zD0 44 4 = 0 := zD0_tab 44 (by decide) 4 (by decide)
theorem zD0_44_5 : zD0 44 5 = 0 := zD0_tab 44 (by decide) 5 (by decide)
theorem zD0_44_6 : zD0 44 6 = 0 := zD0_tab 44 (by decide) 6 (by decide)
theorem zD0_45_0 : zD0 45 0 = 0 := zD0_tab 45 (by decide) 0 (by decide)
theorem zD0_45_1 : zD0 45 1 = 0 := zD0_tab 45 (by decide) 1 (by decide)
theorem zD0_45_2 : zD0 45 2 = 0 := zD0_tab 45 (by decide) 2 (by decide)
theorem zD0_45_3 : zD0 45 3 = 0 := zD0_tab 45 (by decide) 3 (by decide)
theorem zD0_45_4 : zD0 45 4 = 0 := zD0_tab 45 (by decide) 4 (by decide)
theorem zD0_45_5 : zD0 45 5 = 0 := zD0_tab 45 (by decide) 5 (by decide)
theorem zD0_45_6 : zD0 45 6 = 0 := zD0_tab 45 (by decide) 6 (by decide)
theorem zD0_45_7 : zD0 45 7 = 0 := zD0_tab 45 (by decide) 7 (by decide)
theorem zD0_45_8 : zD0 45 8 = 0 := zD0_tab 45 (by decide) 8 (by decide)
theorem zD0_45_9 : zD0 45 9 = 0 := zD0_tab 45 (by decide) 9 (by decide)
theorem zD0_45_10 : zD0 45 10 = 0 := zD0_tab 45 (by decide) 10 (by decide)
theorem zD0_45_11 : zD0 45 11 = 0 := zD0_tab 45 (by decide) 11 (by decide)
theorem zD0_45_12 : zD0 45 12 = 0 := zD0_tab 45 (by decide) 12 (by decide)
theorem zD0_45_13 : zD0 45 13 = 0 := zD0_tab 45 (by decide) 13 (by decide)
theorem zD0_45_14 : zD0 45 14 = 0 := zD0_tab 45 (by decide) 14 (by decide)
theorem zD0_45_15 : zD0 45 15 = 0 := zD0_tab 45 (by decide) 15 (by decide)
theorem zD0_45_16 : zD0 45 16 = 0 := zD0_tab 45 (by decide) 16 (by decide)
theorem zD0_45_17 : zD0 45 17 = 0 := zD0_tab 45 (by decide) 17 (by decide)
theorem zD0_45_18 : zD0 45 18 = 0 := zD0_tab 45 (by decide) 18 (by decide)
theorem zD0_45_19 : zD0 45 19 = 0 := zD0_tab 45 (by decide) 19 (by decide)
theorem zD0_45_20 : zD0 45 20 = 0 := zD0_tab 45 (by decide) 20 (by decide)
theorem zD0_45_21 : zD0 45 21 = 0 := zD0_tab 45 (by decide) 21 (by decide)
theorem zD0_46_0 : zD0 46 0 = 47 := zD0_tab 46 (by decide) 0 (by decide)
theorem zD0_46_1 : zD0 46 1 = 0 := zD0_tab 46 (by decide) 1 (by decide)
theorem zD0_46_2 : zD0 46 2 = 0 := zD0_tab 46 (by decide) 2 (by decide)
theorem zD0_46_3 : zD0 46 3 = 0 := zD0_tab 46 (by decide) 3 (by decide)
theorem zD0_46_4 : zD0 46 4 = 0 := zD0_tab 46 (by decide) 4 (by decide)
theorem zD0_46_5 : zD0 46 5 = 0 := zD0_tab 46 (by decide) 5 (by decide)
theorem zD0_46_6 : zD0 46 6 = 0 := zD0_tab 46 (by decide) 6 (by decide)
theorem zD0_47_0 : zD0 47 0 = 0 := zD0_tab 47 (by decide) 0 (by decide)
theorem zD0_47_1 : zD0 47 1 = 0 := zD0_tab 47 (by decide) 1 (by decide)
theorem zD0_47_2 : zD0 47 2 = 0 := zD0_tab 47 (by decide) 2 (by decide)
theorem zD0_47_3 : zD0 47 3 = 0 := zD0_tab 47 (by decide) 3 (by decide)
theorem zD0_47_4 : zD0 47 4 = 0 := zD0_tab 47 (by decide) 4 (by decide)
theorem zD0_47_5 : zD0 47 5 = 0 := zD0_tab 47 (by decide) 5 (by decide)
theorem zD0_47_6 : zD0 47 6 = 0 := zD0_tab 47 (by decide) 6 (by decide)
theorem zD0_47_7 : zD0 47 7 = 0 := zD0_tab 47 (by decide) 7 (by decide)
theorem zD0_47_8 : zD0 47 8 = 0 := zD0_tab 47 (by decide) 8 (by decide)
theorem zD0_47_9 : zD0 47 9 = 0 := zD0_tab 47 (by decide) 9 (by decide)
theorem zD0_47_10 : zD0 47 10 = 0 := zD0_tab 47 (by decide) 10 (by decide)
theorem zD0_47_11 : zD0 47 11 = 0 := zD0_tab 47 (by decide) 11 (by decide)
theorem zD0_47_12 : zD0 47 12 = 0 := zD0_tab 47 (by decide) 12 (by decide)
theorem zD0_47_13 : zD0 47 13 = 0 := zD0_tab 47 (by decide) 13 (by decide)
theorem zD0_47_14 : zD0 47 14 = 0 := zD0_tab 47 (by decide) 14 (by decide)
theorem zD0_47_15 : zD0 47 15 = 0 := zD0_tab 47 (by decide) 15 (by decide)
theorem zD0_47_16 : zD0 47 16 = 0 := zD0_tab 47 (by decide) 16 (by decide)
theorem zD0_47_17 : zD0 47 17 = 0 := zD0_tab 47 (by decide) 17 (by decide)
theorem zD0_47_18 : zD0 47 18 = 0 := zD0_tab 47 (by decide) 18 (by decide)
theorem zD0_47_19 : zD0 47 19 = 0 := zD0_tab 47 (by decide) 19 (by decide)
theorem zD0_47_20 : zD0 47 20 = 0 := zD0_tab 47 (by decide) 20 (by decide)
theorem zD0_47_21 : zD0 47 21 = 0 := zD0_tab 47 (by decide) 21 (by decide)
theorem zD0_48_0 : zD0 48 0 = 49 := zD0_tab 48 (by decide) 0 (by decide)
theorem zD0_48_1 : zD0 48 1 = 51 := zD0_tab 48 (by decide) 1 (by decide)
theorem zD0_48_2 : zD0 48 2 = 0 := zD0_tab 48 (by decide) 2 (by decide)
theorem zD0_48_3 : zD0 48 3 = 0 := zD0_tab 48 (by decide) 3 (by decide)
theorem zD0_49_0 : zD0 49 0 = 50 := zD0_tab 49 (by decide) 0 (by decide)
theorem zD0_49_1 : zD0 49 1 = 0 := zD0_tab 49 (by decide) 1 (by decide)
theorem zD0_49_2 : zD0 49 2 = 0 := zD0_tab 49 (by decide) 2 (by decide)
theorem zD0_49_3 : zD0 49 3 = 0 := zD0_tab 49 (by decide) 3 (by decide)
theorem zD0_49_4 : zD0 49 4 = 0 := zD0_tab 49 (by decide) 4 (by decide)
theorem zD0_49_5 : zD0 49 5 = 0 := zD0_tab 49 (by decide) 5 (by decide)
theorem zD0_49_6 : zD0 49 6 = 0 := zD0_tab 49 (by decide) 6 (by decide)
theorem zD0_50_0 : zD0 50 0 = 0 := zD0_tab 50 (by decide) 0 (by decide)
theorem zD0_50_1 : zD0 50 1 = 0 := zD0_tab 50 (by decide) 1 (by decide)
theorem zD0_50_2 : zD0 50 2 = 0 := zD0_tab 50 (by decide) 2 (by decide)
theorem zD0_50_3 : zD0 50 3 = 0 := zD0_tab 50 (by decide) 3 (by decide)
theorem zD0_50_4 : zD0 50 4 = 0 := zD0_tab 50 (by decide) 4 (by decide)
theorem zD0_50_5 : zD0 50 5 = 0 := zD0_tab 50 (by decide) 5 (by decide)
theorem zD0_50_6 : zD0 50 6 = 0 := zD0_tab 50 (by decide) 6 (by decide)
theorem zD0_50_7 : zD0 50 7 = 0 := zD0_tab 50 (by decide) 7 (by decide)
theorem zD0_50_8 : zD0 50 8 = 0 := zD0_tab 50 (by decide) 8 (by decide)
theorem zD0_50_9 : zD0 50 9 = 0 := zD0_tab 50 (by decide) 9 (by decide)
theorem zD0_50_10 : zD0 50 10 = 0 := zD0_tab 50 (by decide) 10 (by decide)
theorem zD0_50_11 : zD0 50 11 = 0 := zD0_tab 50 (by decide) 11 (by decide)
theorem zD0_50_12 : zD0 50 12 = 0 := zD0_tab 50 (by decide) 12 (by decide)
theorem zD0_50_13 : zD0 50 13 = 0 := zD0_tab 50 (by decide) 13 (by decide)
theorem zD0_50_14 : zD0 50 14 = 0 := zD0_tab 50 (by decide) 14 (by decide)
theorem zD0_50_15 : zD0 50 15 = 0 := zD0_tab 50 (by decide) 15 (by decide)
theorem zD0_50_16 : zD0 50 16 = 0 := zD0_tab 50 (by decide) 16 (by decide)
theorem zD0_50_17 : zD0 50 17 = 0 := zD0_tab 50 (by decide) 17 (by decide)
theorem zD0_50_18 : zD0 50 18 = 0 := zD0_tab 50 (by decide) 18 (by decide)
theorem zD0_50_19 : zD0 50 19 = 0 := zD0_tab 50 (by decide) 19 (by decide)
theorem zD0_50_20 : zD0 50 20 = 0 := zD0_tab 50 (by decide) 20 (by decide)
theorem zD0_50_21 : zD0 50 21 = 0 := zD0_tab 50 (by decide) 21 (by decide)
theorem zD0_51_0 : zD0 51 0 = 52 := zD0_tab 51 (by decide) 0 (by decide)
theorem zD0_51_1 : zD0 51 1 = 0 := zD0_tab 51 (by decide) 1 (by decide)
theorem zD0_51_2 : zD0 51 2 = 0 := zD0_tab 51 (by decide) 2 (by decide)
theorem zD0_51_3 : zD0 51 3 = 0 := zD0_tab 51 (by decide) 3 (by decide)
theorem zD0_51_4 : zD0 51 4 = 0 := zD0_tab 51 (by decide) 4 (by decide)
theorem zD0_51_5 : zD0 51 5 = 0 := zD0_tab 51 (by decide) 5 (by decide)
theorem zD0_51_6 : zD0 51 6 = 0 := zD0_tab 51 (by decide) 6 (by decide)
theorem zD0_52_0 : zD0 52 0 = 0 := zD0_tab 52 (by decide) 0 (by decide)
theorem zD0_52_1 : zD0 52 1 = 0 := zD0_tab 52 (by decide) 1 (by decide)
theorem zD0_52_2 : zD0 52 2 = 0 := zD0_tab 52 (by decide) 2 (by decide)
theorem zD0_52_3 : zD0 52 3 = 0 := zD0_tab 52 (by decide) 3 (by decide)
theorem zD0_52_4 : zD0 52 4 = 0 := zD0_tab 52 (by decide) 4 (by decide)
theorem zD0_52_5 : zD0 52 5 = 0 := zD0_tab 52 (by decide) 5 (by decide)
theorem zD0_52_6 : zD0 52 6 = 0 := zD0_tab 52 (by decide) 6 (by decide)
theorem zD0_52_7 : zD0 52 7 = 0 := zD0_tab 52 (by decide) 7 (by decide)
theorem zD0_52_8 : zD0 52 8 = 0 := zD0_tab 52 (by decide) 8 (by decide)
theorem zD0_52_9 : zD0 52 9 = 0 := zD0_tab 52 (by decide) 9 (by decide)
theorem zD0_52_10 : zD0 52 10 = 0 := zD0_tab 52 (by decide) 10 (by decide)
theorem zD0_52_11 : zD0 52 11 = 0 := zD0_tab 52 (by decide) 11 (by decide)
theorem zD0_52_12 : zD0 52 12 = 0 := zD0_tab 52 (by decide) 12 (by decide)
theorem zD0_52_13 : zD0 52 13 = 0 := zD0_tab 52 (by decide) 13 (by decide)
theorem zD0_52_14 : zD0 52 14 = 0 := zD0_tab 52 (by decide) 14 (by decide)
theorem zD0_52_15 : zD0 52 15 = 0 := zD0_tab 52 (by decide) 15 (by decide)
theorem zD0_52_16 : zD0 52 16 = 0 := zD0_tab 52 (by decide) 16 (by decide)
theorem zD0_52_17 : zD0 52 17 = 0 := zD0_tab 52 (by decide) 17 (by decide)
theorem zD0_52_18 : zD0 52 18 = 0 := zD0_tab 52 (by decide) 18 (by decide)
theorem zD0_52_19 : zD0 52 19 = 0 := zD0_tab 52 (by decide) 19 (by decide)
theorem zD0_52_20 : zD0 52 20 = 0 := zD0_tab 52 (by decide) 20 (by decide)
theorem zD0_52_21 : zD0 52 21 = 0 := zD0_tab 52 (by decide) 21 (by decide)
theorem zD0_53_0 : zD0 53 0 = 32 := zD0_tab 53 (by decide) 0 (by decide)
theorem zD0_53_1 : zD0 53 1 = 54 := zD0_tab 53 (by decide) 1 (by decide)
theorem zD0_53_2 : zD0 53 2 = 55 := zD0_tab 53 (by decide) 2 (by decide)
theorem zD0_53_3 : zD0 53 3 = 56 := zD0_tab 53 (by decide) 3 (by decide)
theorem zD0_53_4 : zD0 53 4 = 57 := zD0_tab 53 (by decide) 4 (by decide)
theorem zD0_53_5 : zD0 53 5 = 0 := zD0_tab 53 (by decide) 5 (by decide)
theorem zD0_54_0 : zD0 54 0 = 0 := zD0_tab 54 (by decide) 0 (by decide)
theorem zD0_54_1 : zD0 54 1 = 0 := zD0_tab 54 (by decide) 1 (by decide)
theorem zD0_54_2 : zD0 54 2 = 0 := zD0_tab 54 (by decide) 2 (by decide)
theorem zD0_54_3 : zD0 54 3 = 0 := zD0_tab 54 (by decide) 3 (by decide)
theorem zD0_54_4 : zD0 54 4 = 0 := zD0_tab 54 (by decide) 4 (by decide)
theorem zD0_54_5 : zD0 54 5 = 0 := zD0_tab 54 (by decide) 5 (by decide)
theorem zD0_54_6 : zD0 54 6 = 0 := zD0_tab 54 (by decide) 6 (by decide)
theorem zD0_54_7 : zD0 54 7 = 0 := zD0_tab 54 (by decide) 7 (by decide)
theorem zD0_54_8 : zD0 54 8 = 0 := zD0_tab 54 (by decide) 8 (by decide)
theorem zD0_54_9 : zD0 54 9 = 0 := zD0_tab 54 (by decide) 9 (by decide)
theorem zD0_55_0 : zD0 55 0 = 0 := zD0_tab 55 (by decide) 0 (by decide)
theorem zD0_55_1 : zD0 55 1 = 0 := zD0_tab 55 (by decide) 1 (by decide)
theorem zD0_55_2 : zD0 55 2 = 0 := zD0_tab 55 (by decide) 2 (by decide)
theorem zD0_55_3 : zD0 55 3 = 0 := zD0_tab 55 (by decide) 3 (by decide)
theorem zD0_55_4 : zD0 55 4 = 0 := zD0_tab 55 (by decide) 4 (by decide)
theorem zD0_55_5 : zD0 55 5 = 0 := zD0_tab 55 (by decide) 5 (by decide)
theorem zD0_55_6 : zD0 55 6 = 0 := zD0_tab 55 (by decide) 6 (by decide)
theorem zD0_55_7 : zD0 55 7 = 0 := zD0_tab 55 (by decide) 7 (by decide)
theorem zD0_55_8 : zD0 55 8 = 0 := zD0_tab 55 (by decide) 8 (by decide)
theorem zD0_55_9 : zD0 55 9 = 0 := zD0_tab 55 (by decide) 9 (by decide)
theorem zD0_56_0 : zD0 56 0 = 0 := zD0_tab 56 (by decide) 0 (by decide)
theorem zD0_56_1 : zD0 56 1 = 0 := zD0_tab 56 (by decide) 1 (by decide)
theorem zD0_56_2 : zD0 56 2 = 0 := zD0_tab 56 (by decide) 2 (by decide)
theorem zD0_56_3 : zD0 56 3 = 0 := zD0_tab 56 (by decide) 3 (by decide)
theorem zD0_56_4 : zD0 56 4 = 0 := zD0_tab 56 (by decide) 4 (by decide)
theorem zD0_56_5 : zD0 56 5 = 0 := zD0_tab 56 (by decide) 5 (by decide)
theorem zD0_56_6 : zD0 56 6 = 0 := zD0_tab 56 (by decide) 6 (by decide)
theorem zD0_56_7 : zD0 56 7 = 0 := zD0_tab 56 (by decide) 7 (by decide)
theorem zD0_56_8 : zD0 56 8 = 0 := zD0_tab 56 (by decide) 8 (by decide)
theorem zD0_56_9 : zD0 56 9 = 0 := zD0_tab 56 (by decide) 9 (by decide)
theorem zD0_57_0 : zD0 57 0 = 0 := zD0_tab 57 (by decide) 0 (by decide)
theorem zD0_57_1 : zD0 57 1 = 0 := zD0_tab 57 (by decide) 1 (by decide)
theorem zD0_57_2 : zD0 57 2 = 0 := zD0_tab 57 (by decide) 2 (by decide)
theorem zD0_57_3 : zD0 57 3 = 0 := zD0_tab 57 (by decide) 3 (by decide)
theorem zD0_57_4 : zD0 57 4 = 0 := zD0_tab 57 (by decide) 4 (by decide)
theorem zD0_57_5 : zD0 57 5 = 0 := zD0_tab 57 (by decide) 5 (by decide)
theorem zD0_57_6 : zD0 57 6 = 0 := zD0_tab 57 (by decide) 6 (by decide)
theorem zD0_57_7 : zD0 57 7 = 0 := zD0_tab 57 (by decide) 7 (by decide)
theorem zD0_57_8 : zD0 57 8 = 0 := zD0_tab 57 (by decide) 8 (by decide)
theorem zD0_57_9 : zD0 57 9 = 0 := zD0_tab 57 (by decide) 9 (by decide)
theorem zD0_58_0 : zD0 58 0 = 33 := zD0_tab 58 (by decide) 0 (by decide)
theorem zD0_58_1 : zD0 58 1 = 59 := zD0_tab 58 (by decide) 1 (by decide)
theorem zD0_58_2 : zD0 58 2 = 60 := zD0_tab 58 (by decide) 2 (by decide)
theorem zD0_58_3 : zD0 58 3 = 0 := zD0_tab 58 (by decide) 3 (by decide)
theorem zD0_58_4 : zD0 58 4 = 500 := zD0_tab 58 (by decide) 4 (by decide)
theorem zD0_58_5 : zD0 58 5 = 0 := zD0_tab 58 (by decide) 5 (by decide)
theorem zD0_58_6 : zD0 58 6 = 0 := zD0_tab 58 (by decide) 6 (by decide)
theorem zD0_58_7 : zD0 58 7 = 0 := zD0_tab 58 (by decide) 7 (by decide)
theorem zD0_58_8 : zD0 58 8 = 0 := zD0_tab 58 (by decide) 8 (by decide)
theorem zD0_59_0 : zD0 59 0 = 4 := zD0_tab 59 (by decide) 0 (by decide)
theorem zD0_59_1 : zD0 59 1 = 4 := zD0_tab 59 (by decide) 1 (by decide)
theorem zD0_59_2 : zD0 59 2 = 4 := zD0_tab 59 (by decide) 2 (by decide)
theorem zD0_59_3 : zD0 59 3 = 4 := zD0_tab 59 (by decide) 3 (by decide)
theorem zD0_59_4 : zD0 59 4 = 4 := zD0_tab 59 (by decide) 4 (by decide)
theorem zD0_59_5 : zD0 59 5 = 4 := zD0_tab 59 (by decide) 5 (by decide)
theorem zD0_59_6 : zD0 59 6 = 4 := zD0_tab 59 (by decide) 6 (by decide)
theorem zD0_59_7 : zD0 59 7 = 4 := zD0_tab 59 (by decide) 7 (by decide)
theorem zD0_59_8 : zD0 59 8 = 4 := zD0_tab 59 (by decide) 8 (by decide)
theorem zD0_59_9 : zD0 59 9 = 4 := zD0_tab 59 (by decide) 9 (by decide)
theorem zD0_59_10 : zD0 59 10 = 4 := zD0_tab 59 (by decide) 10 (by decide)
theorem zD0_59_11 : zD0 59 11 = 4 := zD0_tab 59 (by decide) 11 (by decide)
theorem zD0_59_12 : zD0 59 12 = 4 := zD0_tab 59 (by decide) 12 (by decide)
theorem zD0_59_13 : zD0 59 13 = 4 := zD0_tab 59 (by decide) 13 (by decide)
theorem zD0_59_14 : zD0 59 14 = 4 := zD0_tab 59 (by decide) 14 (by decide)
theorem zD0_59_15 : zD0 59 15 = 4 := zD0_tab 59 (by decide) 15 (by decide)
theorem zD0_59_16 : zD0 59 16 = 4 := zD0_tab 59 (by decide) 16 (by decide)
theorem zD0_59_17 : zD0 59 17 = 4 := zD0_tab 59 (by decide) 17 (by decide)
theorem zD0_59_18 : zD0 59 18 = 4 := zD0_tab 59 (by decide) 18 (by decide)
theorem zD0_59_19 : zD0 59 19 = 4 := zD0_tab 59 (by decide) 19 (by decide)
theorem zD0_59_20 : zD0 59 20 = 4 := zD0_tab 59 (by decide) 20 (by decide)
theorem zD0_59_21 : zD0 59 21 = 4 := zD0_tab 59 (by decide) 21 (by decide)
theorem zD0_59_22 : zD0 59 22 = 4 := zD0_tab 59 (by decide) 22 (by decide)
theorem zD0_59_23 : zD0 59 23 = 4 := zD0_tab 59 (by decide) 23 (by decide)
theorem zD0_60_0 : zD0 60 0 = 0 := zD0_tab 60 (by decide) 0 (by decide)
theorem zD0_60_1 : zD0 60 1 = 0 := zD0_tab 60 (by decide) 1 (by decide)
theorem zD0_60_2 : zD0 60 2 = 0 := zD0_tab 60 (by decide) 2 (by decide)
theorem zD0_60_3 : zD0 60 3 = 0 := zD0_tab 60 (by decide) 3 (by decide)
theorem zD0_60_4 : zD0 60 4 = 0 := zD0_tab 60 (by decide) 4 (by decide)
theorem zD0_61_0 : zD0 61 0 = 62 := zD0_tab 61 (by decide) 0 (by decide)
theorem zD0_61_1 : zD0 61 1 = 63 := zD0_tab 61 (by decide) 1 (by decide)
theorem zD0_61_2 : zD0 61 2 = 64 := zD0_tab 61 (by decide) 2 (by decide)
theorem zD0_61_3 : zD0 61 3 = 65 := zD0_tab 61 (by decide) 3 (by decide)
theorem zD0_61_4 : zD0 61 4 = 66 := zD0_tab 61 (by decide) 4 (by decide)
theorem zD0_61_5 : zD0 61 5 = 67 := zD0_tab 61 (by decide) 5 (by decide)
theorem zD0_61_6 : zD0 61 6 = 68 := zD0_tab 61 (by decide) 6 (by decide)
theorem zD0_61_7 : zD0 61 7 = 69 := zD0_tab 61 (by decide) 7 (by decide)
theorem zD0_61_8 : zD0 61 8 = 70 := zD0_tab 61 (by decide) 8 (by decide)
theorem zD0_61_9 : zD0 61 9 = 79 := zD0_tab 61 (by decide) 9 (by decide)
theorem zD0_61_10 : zD0 61 10 = 88 := zD0_tab 61 (by decide) 10 (by decide)
theorem zD0_61_11 : zD0 61 11 = 89 := zD0_tab 61 (by decide) 11 (by decide)
theorem zD0_61_12 : zD0 61 12 = 90 := zD0_tab 61 (by decide) 12 (by decide)
theorem zD0_61_13 : zD0 61 13 = 91 := zD0_tab 61 (by decide) 13 (by decide)
theorem zD0_61_14 : zD0 61 14 = 92 := zD0_tab 61 (by decide) 14 (by decide)
theorem zD0_61_15 : zD0 61 15 = 93 := zD0_tab 61 (by decide) 15 (by decide)
theorem zD0_61_16 : zD0 61 16 = 94 := zD0_tab 61 (by decide) 16 (by decide)
theorem zD0_61_17 : zD0 61 17 = 95 := zD0_tab 61 (by decide) 17 (by decide)
theorem zD0_61_18 : zD0 61 18 = 96 := zD0_tab 61 (by decide) 18 (by decide)
theorem zD0_61_19 : zD0 61 19 = 97 := zD0_tab 61 (by decide) 19 (by decide)
theorem zD0_61_20 : zD0 61 20 = 98 := zD0_tab 61 (by decide) 20 (by decide)
theorem zD0_61_21 : zD0 61 21 = 99 := zD0_tab 61 (by decide) 21 (by decide)
theorem zD0_61_22 : zD0 61 22 = 109 := zD0_tab 61 (by decide) 22 (by decide)
theorem zD0_61_23 : zD0 61 23 = 113 := zD0_tab 61 (by decide) 23 (by decide)
theorem zD0_61_24 : zD0 61 24 = 117 := zD0_tab 61 (by decide) 24 (by decide)
theorem zD0_61_25 : zD0 61 25 = 121 := zD0_tab 61 (by decide) 25 (by decide)
theorem zD0_61_26 : zD0 61 26 = 122 := zD0_tab 61 (by decide) 26 (by decide)
theorem zD0_61_27 : zD0 61 27 = 133 := zD0_tab 61 (by decide) 27 (by decide)
theorem zD0_61_28 : zD0 61 28 = 137 := zD0_tab 61 (by decide) 28 (by decide)
theorem zD0_61_29 : zD0 61 29 = 138 := zD0_tab 61 (by decide) 29 (by decide)
theorem zD0_61_30 : zD0 61 30 = 151 := zD0_tab 61 (by decide) 30 (by decide)
theorem zD0_61_31 : zD0 61 31 = 0 := zD0_tab 61 (by decide) 31 (by decide)
theorem zD0_61_32 : zD0 61 32 = 100000 := zD0_tab 61 (by decide) 32 (by decide)
theorem zD0_61_33 : zD0 61 33 = 0 := zD0_tab 61 (by decide) 33 (by decide)
theorem zD0_61_34 : zD0 61 34 = 0 := zD0_tab 61 (by decide) 34 (by decide)
theorem zD0_61_35 : zD0 61 35 = 0 := zD0_tab 61 (by decide) 35 (by decide)
theorem zD0_61_36 : zD0 61 36 = 0 := zD0_tab 61 (by decide) 36 (by decide)
theorem zD0_61_37 : zD0 61 37 = 0 := zD0_tab 61 (by decide) 37 (by decide)
theorem zD0_61_38 : zD0 61 38 = 0 := zD0_tab 61 (by decide) 38 (by decide)
theorem zD0_61_39 : zD0 61 39 = 0 := zD0_tab 61 (by decide) 39 (by decide)
theorem zD0_61_40 : zD0 61 40 = 500 := zD0_tab 61 (by decide) 40 (by decide)
theorem zD0_61_41 : zD0 61 41 = 0 := zD0_tab 61 (by decide) 41 (by decide)
theorem zD0_61_42 : zD0 61 42 = -1 := zD0_tab 61 (by decide) 42 (by decide)
theorem zD0_61_43 : zD0 61 43 = 0 := zD0_tab 61 (by decide) 43 (by decide)
theorem zD0_61_44 : zD0 61 44 = 0 := zD0_tab 61 (by decide) 44 (by decide)
theorem zD0_61_45 : zD0 61 45 = 0 := zD0_tab 61 (by decide) 45 (by decide)
theorem zD0_61_46 : zD0 61 46 = 0 := zD0_tab 61 (by decide) 46 (by decide)
theorem zD0_61_47 : zD0 61 47 = -1 := zD0_tab 61 (by decide) 47 (by decide)
theorem zD0_61_48 : zD0 61 48 = 0 := zD0_tab 61 (by decide) 48 (by decide)
theorem zD0_61_49 : zD0 61 49 = 0 := zD0_tab 61 (by decide) 49 (by decide)
theorem zD0_62_0 : zD0 62 0 = 0 := zD0_tab 62 (by decide) 0 (by decide)
theorem zD0_62_1 : zD0 62 1 = 0 := zD0_tab 62 (by decide) 1 (by decide)
theorem zD0_62_2 : zD0 62 2 = 0 := zD0_tab 62 (by decide) 2 (by decide)
theorem zD0_62_3 : zD0 62 3 = 0 := zD0_tab 62 (by decide) 3 (by decide)
theorem zD0_62_4 : zD0 62 4 = 0 := zD0_tab 62 (by decide) 4 (by decide)
theorem zD0_62_5 : zD0 62 5 = 0 := zD0_tab 62 (by decide) 5 (by decide)
theorem zD0_62_6 : zD0 62 6 = 0 := zD0_tab 62 (by decide) 6 (by decide)
theorem zD0_62_7 : zD0 62 7 = 0 := zD0_tab 62 (by decide) 7 (by decide)
theorem zD0_63_0 : zD0 63 0 = 0 := zD0_tab 63 (by decide) 0 (by decide)
theorem zD0_63_1 : zD0 63 1 = 0 := zD0_tab 63 (by decide) 1 (by decide)
theorem zD0_63_2 : zD0 63 2 = 0 := zD0_tab 63 (by decide) 2 (by decide)
theorem zD0_63_3 : zD0 63 3 = 0 := zD0_tab 63 (by decide) 3 (by decide)
theorem zD0_63_4 : zD0 63 4 = 0 := zD0_tab 63 (by decide) 4 (by decide)
theorem zD0_63_5 : zD0 63 5 = 0 := zD0_tab 63 (by decide) 5 (by decide)
theorem zD0_63_6 : zD0 63 6 = 0 := zD0_tab 63 (by decide) 6 (by decide)
theorem zD0_63_7 : zD0 63 7 = 0 := zD0_tab 63 (by decide) 7 (by decide)
theorem zD0_64_0 : zD0 64 0 = 0 := zD0_tab 64 (by decide) 0 (by decide)
theorem zD0_64_1 : zD0 64 1 = 0 := zD0_tab 64 (by decide) 1 (by decide)
theorem zD0_64_2 : zD0 64 2 = 0 := zD0_tab 64 (by decide) 2 (by decide)
theorem zD0_64_3 : zD0 64 3 = 0 := zD0_tab 64 (by decide) 3 (by decide)
theorem zD0_64_4 : zD0 64 4 = 0 := zD0_tab 64 (by decide) 4 (by decide)
theorem zD0_64_5 : zD0 64 5 = 0 := zD0_tab 64 (by decide) 5 (by decide)
theorem zD0_64_6 : zD0 64 6 = 0 := zD0_tab 64 (by decide) 6 (by decide)
theorem zD0_64_7 : zD0 64 7 = 0 := zD0_tab 64 (by decide) 7 (by decide)
theorem zD0_65_0 : zD0 65 0 = 0 := zD0_tab 65 (by decide) 0 (by decide)
theorem zD0_65_1 : zD0 65 1 = 0 := zD0_tab 65 (by decide) 1 (by decide)
theorem zD0_65_2 : zD0 65 2 = 0 := zD0_tab 65 (by decide) 2 (by decide)
theorem zD0_65_3 : zD0 65 3 = 0 := zD0_tab 65 (by decide) 3 (by decide)
theorem zD0_65_4 : zD0 65 4 = 0 := zD0_tab 65 (by decide) 4 (by decide)
theorem zD0_65_5 : zD0 65 5 = 0 := zD0_tab 65 (by decide) 5 (by decide)
theorem zD0_65_6 : zD0 65 6 = 0 := zD0_tab 65 (by decide) 6 (by decide)
theorem zD0_65_7 : zD0 65 7 = 0 := zD0_tab 65 (by decide) 7 (by decide)
theorem zD0_66_0 : zD0 66 0 = 0 := zD0_tab 66 (by decide) 0 (by decide)
theorem zD0_66_1 : zD0 66 1 = 0 := zD0_tab 66 (by decide) 1 (by decide)
theorem zD0_66_2 : zD0 66 2 = 0 := zD0_tab 66 (by decide) 2 (by decide)
theorem zD0_66_3 : zD0 66 3 = 0 := zD0_tab 66 (by decide) 3 (by decide)
theorem zD0_66_4 : zD0 66 4 = 0 := zD0_tab 66 (by decide) 4 (by decide)
theorem zD0_66_5 : zD0 66 5 = 0 := zD0_tab 66 (by decide) 5 (by decide)
theorem zD0_66_6 : zD0 66 6 = 0 := zD0_tab 66 (by decide) 6 (by decide)
theorem zD0_66_7 : zD0 66 7 = 0 := zD0_tab 66 (by decide) 7 (by decide)
theorem zD0_67_0 : zD0 67 0 = 0 := zD0_tab 67 (by decide) 0 (by decide)
theorem zD0_67_1 : zD0 67 1 = 0 := zD0_tab 67 (by decide) 1 (by decide)
theorem zD0_67_2 : zD0 67 2 = 0 := zD0_tab 67 (by decide) 2 (by decide)
theorem zD0_67_3 : zD0 67 3 = 0 := zD0_tab 67 (by decide) 3 (by decide)
theorem zD0_67_4 : zD0 67 4 = 0 := zD0_tab 67 (by decide) 4 (by decide)
theorem zD0_67_5 : zD0 67 5 = 0 := zD0_tab 67 (by decide) 5 (by decide)
theorem zD0_67_6 : zD0 67 6 = 0 := zD0_tab 67 (by decide) 6 (by decide)
theorem zD0_67_7 : zD0 67 7 = 0 := zD0_tab 67 (by decide) 7 (by decide)
theorem zD0_68_0 : zD0 68 0 = 0 := zD0_tab 68 (by decide) 0 (by decide)
theorem zD0_68_1 : zD0 68 1 = 0 := zD0_tab 68 (by decide) 1 (by decide)
theorem zD0_68_2 : zD0 68 2 = 0 := zD0_tab 68 (by decide) 2 (by decide)
theorem zD0_68_3 : zD0 68 3 = 0 := zD0_tab 68 (by decide) 3 (by decide)
theorem zD0_68_4 : zD0 68 4 = 0 := zD0_tab 68 (by decide) 4 (by decide)
theorem zD0_68_5 : zD0 68 5 = 0 := zD0_tab 68 (by decide) 5 (by decide)
theorem zD0_68_6 : zD0 68 6 = 0 := zD0_tab 68 (by decide) 6 (by decide)
theorem zD0_68_7 : zD0 68 7 = 0 := zD0_tab 68 (by decide) 7 (by decide)
theorem zD0_69_0 : zD0 69 0 = 0 := zD0_tab 69 (by decide) 0 (by decide)
theorem zD0_69_1 : zD0 69 1 = 0 := zD0_tab 69 (by decide) 1 (by decide)
theorem zD0_69_2 : zD0 69 2 = 0 := zD0_tab 69 (by decide) 2 (by decide)
theorem zD0_69_3 : zD0 69 3 = 0 := zD0_tab 69 (by decide) 3 (by decide)
theorem zD0_69_4 : zD0 69 4 = 0 := zD0_tab 69 (by decide) 4 (by decide)
theorem zD0_69_5 : zD0 69 5 = 0 := zD0_tab 69 (by decide) 5 (by decide)
theorem zD0_69_6 : zD0 69 6 = 0 := zD0_tab 69 (by decide) 6 (by decide)
theorem zD0_69_7 : zD0 69 7 = 0 := zD0_tab 69 (by decide) 7 (by decide)
theorem zD0_70_0 : zD0 70 0 = 71 := zD0_tab 70 (by decide) 0 (by decide)
theorem zD0_70_1 : zD0 70 1 = 72 := zD0_tab 70 (by decide) 1 (by decide)
theorem zD0_70_2 : zD0 70 2 = 73 := zD0_tab 70 (by decide) 2 (by decide)
theorem zD0_70_3 : zD0 70 3 = 74 := zD0_tab 70 (by decide) 3 (by decide)
theorem zD0_70_4 : zD0 70 4 = 75 := zD0_tab 70 (by decide) 4 (by decide)
theorem zD0_70_5 : zD0 70 5 = 76 := zD0_tab 70 (by decide) 5 (by decide)
theorem zD0_70_6 : zD0 70 6 = 77 := zD0_tab 70 (by decide) 6 (by decide)
theorem zD0_70_7 : zD0 70 7 = 78 := zD0_tab 70 (by decide) 7 (by decide)
theorem zD0_71_0 : zD0 71 0 = 0 := zD0_tab 71 (by decide) 0 (by decide)
theorem zD0_71_1 : zD0 71 1 = 0 := zD0_tab 71 (by decide) 1 (by decide)
theorem zD0_72_0 : zD0 72 0 = 0 := zD0_tab 72 (by decide) 0 (by decide)
theorem zD0_72_1 : zD0 72 1 = 0 := zD0_tab 72 (by decide) 1 (by decide)
theorem zD0_73_0 : zD0 73 0 = 0 := zD0_tab 73 (by decide) 0 (by decide)
theorem zD0_73_1 : zD0 73 1 = 0 := zD0_tab 73 (by decide) 1 (by decide)
theorem zD0_74_0 : zD0 74 0 = 0 := zD0_tab 74 (by decide) 0 (by decide)
theorem zD0_74_1 : zD0 74 1 = 0 := zD0_tab 74 (by decide) 1 (by decide)
theorem zD0_75_0 : zD0 75 0 = 0 := zD0_tab 75 (by decide) 0 (by decide)
theorem zD0_75_1 : zD0 75 1 = 0 := zD0_tab 75 (by decide) 1 (by decide)
theorem zD0_76_0 : zD0 76 0 = 0 := zD0_tab 76 (by decide) 0 (by decide)
theorem zD0_76_1 : zD0 76 1 = 0 := zD0_tab 76 (by decide) 1 (by decide)
theorem zD0_77_0 : zD0 77 0 = 0 := zD0_tab 77 (by decide) 0 (by decide)
theorem zD0_77_1 : zD0 77 1 = 0 := zD0_tab 77 (by decide) 1 (by decide)
theorem zD0_78_0 : zD0 78 0 = 0 := zD0_tab 78 (by decide) 0 (by decide)
theorem zD0_78_1 : zD0 78 1 = 0 := zD0_tab 78 (by decide) 1 (by decide)
theorem zD0_79_0 : zD0 79 0 = 80 := zD0_tab 79 (by decide) 0 (by decide)
theorem zD0_79_1 : zD0 79 1 = 81 := zD0_tab 79 (by decide) 1 (by decide)
theorem zD0_79_2 : zD0 79 2 = 82 := zD0_tab 79 (by decide) 2 (by decide)
theorem zD0_79_3 : zD0 79 3 = 83 := zD0_tab 79 (by decide) 3 (by decide)
theorem zD0_79_4 : zD0 79 4 = 84 := zD0_tab 79 (by decide) 4 (by decide)
theorem zD0_79_5 : zD0 79 5 = 85 := zD0_tab 79 (by decide) 5 (by decide)
theorem zD0_79_6 : zD0 79 6 = 86 := zD0_tab 79 (by decide) 6 (by decide)
theorem zD0_79_7 : zD0 79 7 = 87 := zD0_tab 79 (by decide) 7 (by decide)
theorem zD0_80_0 : zD0 80 0 = 0 := zD0_tab 80 (by decide) 0 (by decide)
theorem zD0_80_1 : zD0 80 1 = 0 := zD0_tab 80 (by decide) 1 (by decide)
theorem zD0_81_0 : zD0 81 0 = 0 := zD0_tab 81 (by decide) 0 (by decide)
theorem zD0_81_1 : zD0 81 1 = 0 := zD0_tab 81 (by decide) 1 (by decide)
theorem zD0_82_0 : zD0 82 0 = 0 := zD0_tab 82 (by decide) 0 (by decide)
theorem zD0_82_1 : zD0 82 1 = 0 := zD0_tab 82 (by decide) 1 (by decide)
theorem zD0_83_0 : zD0 83 0 = 0 := zD0_tab 83 (by decide) 0 (by decide)
theorem zD0_83_1 : zD0 83 1 = 0 := zD0_tab 83 (by decide) 1 (by decide)
theorem zD0_84_0 : zD0 84 0 = 0 := zD0_tab 84 (by decide) 0 (by decide)
theorem zD0_84_1 : zD0 84 1 = 0 := zD0_tab 84 (by decide) 1 (by decide)
theorem zD0_85_0 : zD0 85 0 = 0 := zD0_tab 85 (by decide) 0 (by decide)
theorem zD0_85_1 : zD0 85 1 = 0 := zD0_tab 85 (by decide) 1 (by decide)
theorem zD0_86_0 : zD0 86 0 = 0 := zD0_tab 86 (by decide) 0 (by decide)
theorem zD0_86_1 : zD0 86 1 = 0 := zD0_tab 86 (by decide) 1 (by decide)
theorem zD0_87_0 : zD0 87 0 = 0 := zD0_tab 87 (by decide) 0 (by decide)
theorem zD0_87_1 : zD0 87 1 = 0 := zD0_tab 87 (by decide) 1 (by decide)
theorem zD0_88_0 : zD0 88 0 = 0 := zD0_tab 88 (by decide) 0 (by decide)
theorem zD0_88_1 : zD0 88 1 = 0 := zD0_tab 88 (by decide) 1 (by decide)
theorem zD0_88_2 : zD0 88 2 = 0 := zD0_tab 88 (by decide) 2 (by decide)
theorem zD0_89_0 : zD0 89 0 = 0 := zD0_tab 89 (by decide) 0 (by decide)
theorem zD0_89_1 : zD0 89 1 = 0 := zD0_tab 89 (by decide) 1 (by decide)
theorem zD0_89_2 : zD0 89 2 = 0 := zD0_tab 89 (by decide) 2 (by decide)
theorem zD0_90_0 : zD0 90 0 = 0 := zD0_tab 90 (by decide) 0 (by decide)
theorem zD0_90_1 : zD0 90 1 = 0 := zD0_tab 90 (by decide) 1 (by decide)
theorem zD0_90_2 : zD0 90 2 = 0 := zD0_tab 90 (by decide) 2 (by decide)
theorem zD0_91_0 : zD0 91 0 = 0 := zD0_tab 91 (by decide) 0 (by decide)
theorem zD0_91_1 : zD0 91 1 = 0 := zD0_tab 91 (by decide) 1 (by decide)
theorem zD0_91_2 : zD0 91 2 = 0 := zD0_tab 91 (by decide) 2 (by decide)
theorem zD0_91_3 : zD0 91 3 = 0 := zD0_tab 91 (by decide) 3 (by decide)
theorem zD0_94_0 : zD0 94 0 = 0 := zD0_tab 94 (by decide) 0 (by decide)
theorem zD0_94_1 : zD0 94 1 = 0 := zD0_tab 94 (by decide) 1 (by decide)
theorem zD0_94_2 : zD0 94 2 = 0 := zD0_tab 94 (by decide) 2 (by decide)
theorem zD0_94_3 : zD0 94 3 = 0 := zD0_tab 94 (by decide) 3 (by decide)
theorem zD0_94_4 : zD0 94 4 = 0 := zD0_tab 94 (by decide) 4 (by decide)
theorem zD0_94_5 : zD0 94 5 = 0 := zD0_tab 94 (by decide) 5 (by decide)
theorem zD0_94_6 : zD0 94 6 = 0 := zD0_tab 94 (by decide) 6 (by decide)
theorem zD0_94_7 : zD0 94 7 = 0 := zD0_tab 94 (by decide) 7 (by decide)
theorem zD0_94_8 : zD0 94 8 = 0 := zD0_tab 94 (by decide) 8 (by decide)
theorem zD0_94_9 : zD0 94 9 = 0 := zD0_tab 94 (by decide) 9 (by decide)
theorem zD0_94_10 : zD0 94 10 = 0 := zD0_tab 94 (by decide) 10 (by decide)
theorem zD0_95_0 : zD0 95 0 = 0 := zD0_tab 95 (by decide) 0 (by decide)
theorem zD0_95_1 : zD0 95 1 = 0 := zD0_tab 95 (by decide) 1 (by decide)
theorem zD0_95_2 : zD0 95 2 = 0 := zD0_tab 95 (by decide) 2 (by decide)
theorem zD0_95_3 : zD0 95 3 = 0 := zD0_tab 95 (by decide) 3 (by decide)
theorem zD0_95_4 : zD0 95 4 = 0 := zD0_tab 95 (by decide) 4 (by decide)
theorem zD0_95_5 : zD0 95 5 = 0 := zD0_tab 95 (by decide) 5 (by decide)
theorem zD0_95_6 : zD0 95 6 = 0 := zD0_tab 95 (by decide) 6 (by decide)
theorem zD0_95_7 : zD0 95 7 = 0 := zD0_tab 95 (by decide) 7 (by decide)
theorem zD0_95_8 : zD0 95 8 = 0 := zD0_tab 95 (by decide) 8 (by decide)
theorem zD0_95_9 : zD0 95 9 = 0 := zD0_tab 95 (by decide) 9 (by decide)
theorem zD0_95_10 : zD0 95 10 = 0 := zD0_tab 95 (by decide) 10 (by decide)
theorem zD0_96_0 : zD0 96 0 = -1 := zD0_tab 96 (by decide) 0 (by decide)
theorem zD0_96_1 : zD0 96 1 = -1 := zD0_tab 96 (by decide) 1 (by decide)
theorem zD0_96_2 : zD0 96 2 = -1 := zD0_tab 96 (by decide) 2 (by decide)
theorem zD0_97_0 : zD0 97 0 = 0 := zD0_tab 97 (by decide) 0 (by decide)
theorem zD0_97_1 : zD0 97 1 = 0 := zD0_tab 97 (by decide) 1 (by decide)
theorem zD0_97_2 : zD0 97 2 = 0 := zD0_tab 97 (by decide) 2 (by decide)
theorem zD0_98_0 : zD0 98 0 = 0 := zD0_tab 98 (by decide) 0 (by decide)
theorem zD0_98_1 : zD0 98 1 = 0 := zD0_tab 98 (by decide) 1 (by decide)
theorem zD0_98_2 : zD0 98 2 = 0 := zD0_tab 98 (by decide) 2 (by decide)
theorem zD0_99_0 : zD0 99 0 = 100 := zD0_tab 99 (by decide) 0 (by decide)
theorem zD0_99_1 : zD0 99 1 = 103 := zD0_tab 99 (by decide) 1 (by decide)
theorem zD0_99_2 : zD0 99 2 = 106 := zD0_tab 99 (by decide) 2 (by decide)
theorem zD0_100_0 : zD0 100 0 = 101 := zD0_tab 100 (by decide) 0 (by decide)
theorem zD0_100_1 : zD0 100 1 = 102 := zD0_tab 100 (by decide) 1 (by decide)
theorem zD0_101_0 : zD0 101 0 = 0 := zD0_tab 101 (by decide) 0 (by decide)
theorem zD0_101_1 : zD0 101 1 = 0 := zD0_tab 101 (by decide) 1 (by decide)
theorem zD0_101_2 : zD0 101 2 = 0 := zD0_tab 101 (by decide) 2 (by decide)
theorem zD0_101_3 : zD0 101 3 = 0 := zD0_tab 101 (by decide) 3 (by decide)
theorem zD0_101_4 : zD0 101 4 = 0 := zD0_tab 101 (by decide) 4 (by decide)
theorem zD0_101_5 : zD0 101 5 = 0 := zD0_tab 101 (by decide) 5 (by decide)
theorem zD0_101_6 : zD0 101 6 = 0 := zD0_tab 101 (by decide) 6 (by decide)
theorem zD0_101_7 : zD0 101 7 = 0 := zD0_tab 101 (by decide) 7 (by decide)
theorem zD0_101_8 : zD0 101 8 = 0 := zD0_tab 101 (by decide) 8 (by decide)
theorem zD0_101_9 : zD0 101 9 = 0 := zD0_tab 101 (by decide) 9 (by decide)
theorem zD0_101_10 : zD0 101 10 = 0 := zD0_tab 101 (by decide) 10 (by decide)
theorem zD0_101_11 : zD0 101 11 = 0 := zD0_tab 101 (by decide) 11 (by decide)
theorem zD0_101_12 : zD0 101 12 = 0 := zD0_tab 101 (by decide) 12 (by decide)
theorem zD0_101_13 : zD0 101 13 = 0 := zD0_tab 101 (by decide) 13 (by decide)
theorem zD0_101_14 : zD0 101 14 = 0 := zD0_tab 101 (by decide) 14 (by decide)
theorem zD0_101_15 : zD0 101 15 = 0 := zD0_tab 101 (by decide) 15 (by decide)
theorem zD0_101_16 : zD0 101 16 = 0 := zD0_tab 101 (by decide) 16 (by decide)
theorem zD0_101_17 : zD0 101 17 = 0 := zD0_tab 101 (by decide) 17 (by decide)
theorem zD0_101_18 : zD0 101 18 = 0 := zD0_tab 101 (by decide) 18 (by decide)
theorem zD0_101_19 : zD0 101 19 = 0 := zD0_tab 101 (by decide) 19 (by decide)
theorem zD0_101_20 : zD0 101 20 = 0 := zD0_tab 101 (by decide) 20 (by decide)
theorem zD0_101_21 : zD0 101 21 = 0 := zD0_tab 101 (by decide) 21 (by decide)
theorem zD0_101_22 : zD0 101 22 = 0 := zD0_tab 101 (by decide) 22 (by decide)
theorem zD0_101_23 : zD0 101 23 = 0 := zD0_tab 101 (by decide) 23 (by decide)
theorem zD0_102_0 : zD0 102 0 = 0 := zD0_tab 102 (by decide) 0 (by decide)
theorem zD0_102_1 : zD0 102 1 = 0 := zD0_tab 102 (by decide) 1 (by decide)
theorem zD0_102_2 : zD0 102 2 = 0 := zD0_tab 102 (by decide) 2 (by decide)
theorem zD0_102_3 : zD0 102 3 = 0 := zD0_tab 102 (by decide) 3 (by decide)
theorem zD0_102_4 : zD0 102 4 = 0 := zD0_tab 102 (by decide) 4 (by decide)
theorem zD0_102_5 : zD0 102 5 = 0 := zD0_tab 102 (by decide) 5 (by decide)
theorem zD0_102_6 : zD0 102 6 = 0 := zD0_tab 102 (by decide) 6 (by decide)
theorem zD0_102_7 : zD0 102 7 = 0 := zD0_tab 102 (by decide) 7 (by decide)
theorem zD0_102_8 : zD0 102 8 = 0 := zD0_tab 102 (by decide) 8 (by decide)
theorem zD0_102_9 : zD0 102 9 = 0 := zD0_tab 102 (by decide) 9 (by decide)
theorem zD0_102_10 : zD0 102 10 = 0 := zD0_tab 102 (by decide) 10 (by decide)
theorem zD0_102_11 : zD0 102 11 = 0 := zD0_tab 102 (by decide) 11 (by decide)
theorem zD0_102_12 : zD0 102 12 = 0 := zD0_tab 102 (by decide) 12 (by decide)
theorem zD0_102_13 : zD0 102 13 = 0 := zD0_tab 102 (by decide) 13 (by decide)
theorem zD0_102_14 : zD0 102 14 = 0 := zD0_tab 102 (by decide) 14 (by decide)
theorem zD0_102_15 : zD0 102 15 = 0 := zD0_tab 102 (by decide) 15 (by decide)
theorem zD0_102_16 : zD0 102 16 = 0 := zD0_tab 102 (by decide) 16 (by decide)
theorem zD0_102_17 : zD0 102 17 = 0 := zD0_tab 102 (by decide) 17 (by decide)
theorem zD0_102_18 : zD0 102 18 = 0 := zD0_tab 102 (by decide) 18 (by decide)
theorem zD0_102_19 : zD0 102 19 = 0 := zD0_tab 102 (by decide) 19 (by decide)
theorem zD0_102_20 : zD0 102 20 = 0 := zD0_tab 102 (by decide) 20 (by decide)
theorem zD0_102_21 : zD0 102 21 = 0 := zD0_tab 102 (by decide) 21 (by decide)
theorem zD0_102_22 : zD0 102 22 = 0 := zD0_tab 102 (by decide) 22 (by decide)
theorem zD0_102_23 : zD0 102 23 = 0 := zD0_tab 102 (by decide) 23 (by decide)
theorem zD0_103_0 : zD0 103 0 = 104 := zD0_tab 103 (by decide) 0 (by decide)
theorem zD0_103_1 : zD0 103 1 = 105 := zD0_tab 103 (by decide) 1 (by decide)
theorem zD0_104_0 : zD0 104 0 = 0 := zD0_tab 104 (by decide) 0 (by decide)
theorem zD0_104_1 : zD0 104 1 = 0 := zD0_tab 104 (by decide) 1 (by decide)
theorem zD0_104_2 : zD0 104 2 = 0 := zD0_tab 104 (by decide) 2 (by decide)
theorem zD0_104_3 : zD0 104 3 = 0 := zD0_tab 104 (by decide) 3 (by decide)
theorem zD0_104_4 : zD0 104 4 = 0 := zD0_tab 104 (by decide) 4 (by decide)
theorem zD0_104_5 : zD0 104 5 = 0 := zD0_tab 104 (by decide) 5 (by decide)
theorem zD0_104_6 : zD0 104 6 = 0 := zD0_tab 104 (by decide) 6 (by decide)
theorem zD0_104_7 : zD0 104 7 = 0 := zD0_tab 104 (by decide) 7 (by decide)
theorem zD0_104_8 : zD0 104 8 = 0 := zD0_tab 104 (by decide) 8 (by decide)
theorem zD0_104_9 : zD0 104 9 = 0 := zD0_tab 104 (by decide) 9 (by decide)
theorem zD0_104_10 : zD0 104 10 = 0 := zD0_tab 104 (by decide) 10 (by decide)
theorem zD0_104_11 : zD0 104 11 = 0 := zD0_tab 104 (by decide) 11 (by decide)
theorem zD0_104_12 : zD0 104 12 = 0 := zD0_tab 104 (by decide) 12 (by decide)
theorem zD0_104_13 : zD0 104 13 = 0 := zD0_tab 104 (by decide) 13 (by decide)
theorem zD0_104_14 : zD0 104 14 = 0 := zD0_tab 104 (by decide) 14 (by decide)
theorem zD0_104_15 : zD0 104 15 = 0 := zD0_tab 104 (by decide) 15 (by decide)
theorem zD0_104_16 : zD0 104 16 = 0 := zD0_tab 104 (by decide) 16 (by decide)
theorem zD0_104_17 : zD0 104 17 = 0 := zD0_tab 104 (by decide) 17 (by decide)
theorem zD0_104_18 : zD0 104 18 = 0 := zD0_tab 104 (by decide) 18 (by decide)
theorem zD0_104_19 : zD0 104 19 = 0 := zD0_tab 104 (by decide) 19 (by decide)
theorem zD0_104_20 : zD0 104 20 = 0 := zD0_tab 104 (by decide) 20 (by decide)
theorem zD0_104_21 : zD0 104 21 = 0 := zD0_tab 104 (by decide) 21 (by decide)
theorem zD0_104_22 : zD0 104 22 = 0 := zD0_tab 104 (by decide) 22 (by decide)
theorem zD0_104_23 : zD0 104 23 = 0 := zD0_tab 104 (by decide) 23 (by decide)
theorem zD0_105_0 : zD0 105 0 = 0 := zD0_tab 105 (by decide) 0 (by decide)
theorem zD0_105_1 : zD0 105 1 = 0 := zD0_tab 105 (by decide) 1 (by decide)
theorem zD0_105_2 : zD0 105 2 = 0 := zD0_tab 105 (by decide) 2 (by decide)
theorem zD0_105_3 : zD0 105 3 = 0 := zD0_tab 105 (by decide) 3 (by decide)
theorem zD0_105_4 : zD0 105 4 = 0 := zD0_tab 105 (by decide) 4 (by decide)
theorem zD0_105_5 : zD0 105 5 = 0 := zD0_tab 105 (by decide) 5 (by decide)
theorem zD0_105_6 : zD0 105 6 = 0 := zD0_tab 105 (by decide) 6 (by decide)
theorem zD0_105_7 : zD0 105 7 = 0 := zD0_tab 105 (by decide) 7 (by decide)
theorem zD0_105_8 : zD0 105 8 = 0 := zD0_tab 105 (by decide) 8 (by decide)
theorem zD0_105_9 : zD0 105 9 = 0 := zD0_tab 105 (by decide) 9 (by decide)
theorem zD0_105_10 : zD0 105 10 = 0 := zD0_tab 105 (by decide) 10 (by decide)
theorem zD0_105_11 : zD0 105 11 = 0 := zD0_tab 105 (by decide) 11 (by decide)
theorem zD0_105_12 : zD0 105 12 = 0 := zD0_tab 105 (by decide) 12 (by decide)
theorem zD0_105_13 : zD0 105 13 = 0 := zD0_tab 105 (by decide) 13 (by decide)
theorem zD0_105_14 : zD0 105 14 = 0 := zD0_tab 105 (by decide) 14 (by decide)
theorem zD0_105_15 : zD0 105 15 = 0 := zD0_tab 105 (by decide) 15 (by decide)
theorem zD0_105_16 : zD0 105 16 = 0 := zD0_tab 105 (by decide) 16 (by decide)
theorem zD0_105_17 : zD0 105 17 = 0 := zD0_tab 105 (by decide) 17 (by decide)
theorem zD0_105_18 : zD0 105 18 = 0 := zD0_tab 105 (by decide) 18 (by decide)
theorem zD0_105_19 : zD0 105 19 = 0 := zD0_tab 105 (by decide) 19 (by decide)
theorem zD0_105_20 : zD0 105 20 = 0 := zD0_tab 105 (by decide) 20 (by decide)
theorem zD0_105_21 : zD0 105 21 = 0 := zD0_tab 105 (by decide) 21 (by decide)
theorem zD0_105_22 : zD0 105 22 = 0 := zD0_tab 105 (by decide) 22 (by decide)
theorem zD0_105_23 : zD0 105 23 = 0 := zD0_tab 105 (by decide) 23 (by decide)
theorem zD0_106_0 : zD0 106 0 = 107 := zD0_tab 106 (by decide) 0 (by decide)
theorem zD0_106_1 : zD0 106 1 = 108 := zD0_tab 106 (by decide) 1 (by decide)
theorem zD0_107_0 : zD0 107 0 = 0 := zD0_tab 107 (by decide) 0 (by decide)
theorem zD0_107_1 : zD0 107 1 = 0 := zD0_tab 107 (by decide) 1 (by decide)
theorem zD0_107_2 : zD0 107 2 = 0 := zD0_tab 107 (by decide) 2 (by decide)
theorem zD0_107_3 : zD0 107 3 = 0 := zD0_tab 107 (by decide) 3 (by decide)
theorem zD0_107_4 : zD0 107 4 = 0 := zD0_tab 107 (by decide) 4 (by decide)
theorem zD0_107_5 : zD0 107 5 = 0 := zD0_tab 107 (by decide) 5 (by decide)
theorem zD0_107_6 : zD0 107 6 = 0 := zD0_tab 107 (by decide) 6 (by decide)
theorem zD0_107_7 : zD0 107 7 = 0 := zD0_tab 107 (by decide) 7 (by decide)
theorem zD0_107_8 : zD0 107 8 = 0 := zD0_tab 107 (by decide) 8 (by decide)
theorem zD0_107_9 : zD0 107 9 = 0 := zD0_tab 107 (by decide) 9 (by decide)
theorem zD0_107_10 : zD0 107 10 = 0 := zD0_tab 107 (by decide) 10 (by decide)
theorem zD0_107_11 : zD0 107 11 = 0 := zD0_tab 107 (by decide) 11 (by decide)
theorem zD0_107_12 : zD0 107 12 = 0 := zD0_tab 107 (by decide) 12 (by decide)
theorem zD0_107_13 : zD0 107 13 = 0 := zD0_tab 107 (by decide) 13 (by decide)
theorem zD0_107_14 : zD0 107 14 = 0 := zD0_tab 107 (by decide) 14 (by decide)
theorem zD0_107_15 : zD0 107 15 = 0 := zD0_tab 107 (by decide) 15 (by decide)
theorem zD0_107_16 : zD0 107 16 = 0 := zD0_tab 107 (by decide) 16 (by decide)
theorem zD0_107_17 : zD0 107 17 = 0 := zD0_tab 107 (by decide) 17 (by decide)
theorem zD0_107_18 : zD0 107 18 = 0 := zD0_tab 107 (by decide) 18 (by decide)
theorem zD0_107_19 : zD0 107 19 = 0 := zD0_tab 107 (by decide) 19 (by decide)
theorem zD0_107_20 : zD0 107 20 = 0 := zD0_tab 107 (by decide) 20 (by decide)
theorem zD0_107_21 : zD0 107 21 = 0 := zD0_tab 107 (by decide) 21 (by decide)
theorem zD0_107_22 : zD0 107 22 = 0 := zD0_tab 107 (by decide) 22 (by decide)
theorem zD0_107_23 : zD0 107 23 = 0 := zD0_tab 107 (by decide) 23 (by decide)
theorem zD0_108_0 : zD0 108 0 = 0 := zD0_tab 108 (by decide) 0 (by decide)
theorem zD0_108_1 : zD0 108 1 = 0 := zD0_tab 108 (by decide) 1 (by decide)
theorem zD0_108_2 : zD0 108 2 = 0 := zD0_tab 108 (by decide) 2 (by decide)
theorem zD0_108_3 : zD0 108 3 = 0 := zD0_tab 108 (by decide) 3 (by decide)
theorem zD0_108_4 : zD0 108 4 = 0 := zD0_tab 108 (by decide) 4 (by decide)
theorem zD0_108_5 : zD0 108 5 = 0 := zD0_tab 108 (by decide) 5 (by decide)
theorem zD0_108_6 : zD0 108 6 = 0 := zD0_tab 108 (by decide) 6 (by decide)
theorem zD0_108_7 : zD0 108 7 = 0 := zD0_tab 108 (by decide) 7 (by decide)
theorem zD0_108_8 : zD0 108 8 = 0 := zD0_tab 108 (by decide) 8 (by decide)
theorem zD0_108_9 : zD0 108 9 = 0 := zD0_tab 108 (by decide) 9 (by decide)
theorem zD0_108_10 : zD0 108 10 = 0 := zD0_tab 108 (by decide) 10 (by decide)
theorem zD0_108_11 : zD0 108 11 = 0 := zD0_tab 108 (by decide) 11 (by decide)
theorem zD0_108_12 : zD0 108 12 = 0 := zD0_tab 108 (by decide) 12 (by decide)
theorem zD0_108_13 : zD0 108 13 = 0 := zD0_tab 108 (by decide) 13 (by decide)
theorem zD0_108_14 : zD0 108 14 = 0 := zD0_tab 108 (by decide) 14 (by decide)
theorem zD0_108_15 : zD0 108 15 = 0 := zD0_tab 108 (by decide) 15 (by decide)
theorem zD0_108_16 : zD0 108 16 = 0 := zD0_tab 108 (by decide) 16 (by decide)
theorem zD0_108_17 : zD0 108 17 = 0 := zD0_tab 108 (by decide) 17 (by decide)
theorem zD0_108_18 : zD0 108 18 = 0 := zD0_tab 108 (by decide) 18 (by decide)
theorem zD0_108_19 : zD0 108 19 = 0 := zD0_tab 108 (by decide) 19 (by decide)
theorem zD0_108_20 : zD0 108 20 = 0 := zD0_tab 108 (by decide) 20 (by decide)
theorem zD0_108_21 : zD0 108 21 = 0 := zD0_tab 108 (by decide) 21 (by decide)
theorem zD0_108_22 : zD0 108 22 = 0 := zD0_tab 108 (by decide) 22 (by decide)
theorem zD0_108_23 : zD0 108 23 = 0 := zD0_tab 108 (by decide) 23 (by decide)
theorem zD0_109_0 : zD0 109 0 = 110 := zD0_tab 109 (by decide) 0 (by decide)
theorem zD0_109_1 : zD0 109 1 = 111 := zD0_tab 109 (by decide) 1 (by decide)
theorem zD0_109_2 : zD0 109 2 = 112 := zD0_tab 109 (by decide) 2 (by decide)
theorem zD0_110_0 : zD0 110 0 = 0 := zD0_tab 110 (by decide) 0 (by decide)
theorem zD0_110_1 : zD0 110 1 = 0 := zD0_tab 110 (by decide) 1 (by decide)
theorem zD0_111_0 : zD0 111 0 = 0 := zD0_tab 111 (by decide) 0 (by decide)
theorem zD0_111_1 : zD0 111 1 = 0 := zD0_tab 111 (by decide) 1 (by decide)
theorem zD0_112_0 : zD0 112 0 = 0 := zD0_tab 112 (by decide) 0 (by decide)
theorem zD0_112_1 : zD0 112 1 = 0 := zD0_tab 112 (by decide) 1 (by decide)
theorem zD0_113_0 : zD0 113 0 = 114 := zD0_tab 113 (by decide) 0 (by decide)
theorem zD0_113_1 : zD0 113 1 = 115 := zD0_tab 113 (by decide) 1 (by decide)
theorem zD0_113_2 : zD0 113 2 = 116 := zD0_tab 113 (by decide) 2 (by decide)
theorem zD0_114_0 : zD0 114 0 = 0 := zD0_tab 114 (by decide) 0 (by decide)
theorem zD0_114_1 : zD0 114 1 = 0 := zD0_tab 114 (by decide) 1 (by decide)
theorem zD0_115_0 : zD0 115 0 = 0 := zD0_tab 115 (by decide) 0 (by decide)
theorem zD0_115_1 : zD0 115 1 = 0 := zD0_tab 115 (by decide) 1 (by decide)
theorem zD0_116_0 : zD0 116 0 = 0 := zD0_tab 116 (by decide) 0 (by decide)
theorem zD0_116_1 : zD0 116 1 = 0 := zD0_tab 116 (by decide) 1 (by decide)
theorem zD0_117_0 : zD0 117 0 = 118 := zD0_tab 117 (by decide) 0 (by decide)
theorem zD0_117_1 : zD0 117 1 = 119 := zD0_tab 117 (by decide) 1 (by decide)
theorem zD0_117_2 : zD0 117 2 = 120 := zD0_tab 117 (by decide) 2 (by decide)
theorem zD0_118_0 : zD0 118 0 = 0 := zD0_tab 118 (by decide) 0 (by decide)
theorem zD0_118_1 : zD0 118 1 = 0 := zD0_tab 118 (by decide) 1 (by decide)
theorem zD0_119_0 : zD0 119 0 = 0 := zD0_tab 119 (by decide) 0 (by decide)
theorem zD0_119_1 : zD0 119 1 = 0 := zD0_tab 119 (by decide) 1 (by decide)
theorem zD0_120_0 : zD0 120 0 = 0 := zD0_tab 120 (by decide) 0 (by decide)
theorem zD0_120_1 : zD0 120 1 = 0 := zD0_tab 120 (by decide) 1 (by decide)
theorem zD0_121_0 : zD0 121 0 = 0 := zD0_tab 121 (by decide) 0 (by decide)
theorem zD0_121_1 : zD0 121 1 = 0 := zD0_tab 121 (by decide) 1 (by decide)
theorem zD0_121_2 : zD0 121 2 = 0 := zD0_tab 121 (by decide) 2 (by decide)
theorem zD0_121_3 : zD0 121 3 = 0 := zD0_tab 121 (by decide) 3 (by decide)
theorem zD0_121_4 : zD0 121 4 = 0 := zD0_tab 121 (by decide) 4 (by decide)
theorem zD0_121_5 : zD0 121 5 = 0 := zD0_tab 121 (by decide) 5 (by decide)
theorem zD0_121_6 : zD0 121 6 = 0 := zD0_tab 121 (by decide) 6 (by decide)
theorem zD0_121_7 : zD0 121 7 = 0 := zD0_tab 121 (by decide) 7 (by decide)
theorem zD0_121_8 : zD0 121 8 = 0 := zD0_tab 121 (by decide) 8 (by decide)
theorem zD0_121_9 : zD0 121 9 = 0 := zD0_tab 121 (by decide) 9 (by decide)
theorem zD0_121_10 : zD0 121 10 = 0 := zD0_tab 121 (by decide) 10 (by decide)
theorem zD0_121_11 : zD0 121 11 = 0 := zD0_tab 121 (by decide) 11 (by decide)
theorem zD0_121_12 : zD0 121 12 = 0 := zD0_tab 121 (by decide) 12 (by decide)
theorem zD0_121_13 : zD0 121 13 = 0 := zD0_tab 121 (by decide) 13 (by decide)
theorem zD0_121_14 : zD0 121 14 = 0 := zD0_tab 121 (by decide) 14 (by decide)
theorem zD0_121_15 : zD0 121 15 = 0 := zD0_tab 121 (by decide) 15 (by decide)
theorem zD0_121_16 : zD0 121 16 = 0 := zD0_tab 121 (by decide) 16 (by decide)
theorem zD0_121_17 : zD0 121 17 = 0 := zD0_tab 121 (by decide) 17 (by decide)
theorem zD0_121_18 : zD0 121 18 = 0 := zD0_tab 121 (by decide) 18 (by decide)
theorem zD0_121_19 : zD0 121 19 = 0 := zD0_tab 121 (by decide) 19 (by decide)
theorem zD0_121_20 : zD0 121 20 = 0 := zD0_tab 121 (by decide) 20 (by decide)
theorem zD0_121_21 : zD0 121 21 = 0 := zD0_tab 121 (by decide) 21 (by decide)
theorem zD0_121_22 : zD0 121 22 = 0 := zD0_tab 121 (by decide) 22 (by decide)
theorem zD0_121_23 : zD0 121 23 = 0 := zD0_tab 121 (by decide) 23 (by decide)
theorem zD0_122_0 : zD0 122 0 = 123 := zD0_tab 122 (by decide) 0 (by decide)
theorem zD0_122_1 : zD0 122 1 = 124 := zD0_tab 122 (by decide) 1 (by decide)
theorem zD0_122_2 : zD0 122 2 = 125 := zD0_tab 122 (by decide) 2 (by decide)
theorem zD0_122_3 : zD0 122 3 = 126 := zD0_tab 122 (by decide) 3 (by decide)
theorem zD0_122_4 : zD0 122 4 = 127 := zD0_tab 122 (by decide) 4 (by decide)
theorem zD0_122_5 : zD0 122 5 = 128 := zD0_tab 122 (by decide) 5 (by decide)
theorem zD0_122_6 : zD0 122 6 = 129 := zD0_tab 122 (by decide) 6 (by decide)
theorem zD0_122_7 : zD0 122 7 = 130 := zD0_tab 122 (by decide) 7 (by decide)
theorem zD0_122_8 : zD0 122 8 = 131 := zD0_tab 122 (by decide) 8 (by decide)
theorem zD0_122_9 : zD0 122 9 = 132 := zD0_tab 122 (by decide) 9 (by decide)
theorem zD0_123_0 : zD0 123 0 = 0 := zD0_tab 123 (by decide) 0 (by decide)
theorem zD0_123_1 : zD0 123 1 = 0 := zD0_tab 123 (by decide) 1 (by decide)
theorem zD0_123_2 : zD0 123 2 = 0 := zD0_tab 123 (by decide) 2 (by decide)
theorem zD0_123_3 : zD0 123 3 = 0 := zD0_tab 123 (by decide) 3 (by decide)
theorem zD0_124_0 : zD0 124 0 = 0 := zD0_tab 124 (by decide) 0 (by decide)
theorem zD0_124_1 : zD0 124 1 = 0 := zD0_tab 124 (by decide) 1 (by decide)
theorem zD0_124_2 : zD0 124 2 = 0 := zD0_tab 124 (by decide) 2 (by decide)
theorem zD0_124_3 : zD0 124 3 = 0 := zD0_tab 124 (by decide) 3 (by decide)
theorem zD0_125_0 : zD0 125 0 = 0 := zD0_tab 125 (by decide) 0 (by decide)
theorem zD0_125_1 : zD0 125 1 = 0 := zD0_tab 125 (by decide) 1 (by decide)
theorem zD0_125_2 : zD0 125 2 = 0 := zD0_tab 125 (by decide) 2 (by decide)
theorem zD0_125_3 : zD0 125 3 = 0 := zD0_tab 125 (by decide) 3 (by decide)
theorem zD0_126_0 : zD0 126 0 = 0 := zD0_tab 126 (by decide) 0 (by decide)
theorem zD0_126_1 : zD0 126 1 = 0 := zD0_tab 126 (by decide) 1 (by decide)
theorem zD0_126_2 : zD0 126 2 = 0 := zD0_tab 126 (by decide) 2 (by decide)
theorem zD0_126_3 : zD0 126 3 = 0 := zD0_tab 126 (by decide) 3 (by decide)
theorem zD0_127_0 : zD0 127 0 = 0 := zD0_tab 127 (by decide) 0 (by decide)
theorem zD0_127_1 : zD0 127 1 = 0 := zD0_tab 127 (by decide) 1 (by decide)
theorem zD0_127_2 : zD0 127 2 = 0 := zD0_tab 127 (by decide) 2 (by decide)
theorem zD0_127_3 : zD0 127 3 = 0 := zD0_tab 127 (by decide) 3 (by decide)
theorem zD0_128_0 : zD0 128 0 = 0 := zD0_tab 128 (by decide) 0 (by decide)
theorem zD0_128_1 : zD0 128 1 = 0 := zD0_tab 128 (by decide) 1 (by decide)
theorem zD0_128_2 : zD0 128 2 = 0 := zD0_tab 128 (by decide) 2 (by decide)
theorem zD0_128_3 : zD0 128 3 = 0 := zD0_tab 128 (by decide) 3 (by decide)
theorem zD0_129_0 : zD0 129 0 = 0 := zD0_tab 129 (by decide) 0 (by decide)
theorem zD0_129_1 : zD0 129 1 = 0 := zD0_tab 129 (by decide) 1 (by decide)
theorem zD0_129_2 : zD0 129 2 = 0 := zD0_tab 129 (by decide) 2 (by decide)
theorem zD0_129_3 : zD0 129 3 = 0 := zD0_tab 129 (by decide) 3 (by decide)
theorem zD0_130_0 : zD0 130 0 = 0 := zD0_tab 130 (by decide) 0 (by decide)
theorem zD0_130_1 : zD0 130 1 = 0 := zD0_tab 130 (by decide) 1 (by decide)
theorem zD0_130_2 : zD0 130 2 = 0 := zD0_tab 130 (by decide) 2 (by decide)
theorem zD0_130_3 : zD0 130 3 = 0 := zD0_tab 130 (by decide) 3 (by decide)
theorem zD0_131_0 : zD0 131 0 = 0 := zD0_tab 131 (by decide) 0 (by decide)
theorem zD0_131_1 : zD0 131 1 = 0 := zD0_tab 131 (by decide) 1 (by decide)
theorem zD0_131_2 : zD0 131 2 = 0 := zD0_tab 131 (by decide) 2 (by decide)
theorem zD0_131_3 : zD0 131 3 = 0 := zD0_tab 131 (by decide) 3 (by decide)
theorem zD0_132_0 : zD0 132 0 = 0 := zD0_tab 132 (by decide) 0 (by decide)
theorem zD0_132_1 : zD0 132 1 = 0 := zD0_tab 132 (by decide) 1 (by decide)
theorem zD0_132_2 : zD0 132 2 = 0 := zD0_tab 132 (by decide) 2 (by decide)
theorem zD0_132_3 : zD0 132 3 = 0 := zD0_tab 132 (by decide) 3 (by decide)
theorem zD0_133_0 : zD0 133 0 = 134 := zD0_tab 133 (by decide) 0 (by decide)
theorem zD0_133_1 : zD0 133 1 = 135 := zD0_tab 133 (by decide) 1 (by decide)
theorem zD0_133_2 : zD0 133 2 = 136 := zD0_tab 133 (by decide) 2 (by decide)
theorem zD0_134_0 : zD0 134 0 = 4 := zD0_tab 134 (by decide) 0 (by decide)
theorem zD0_134_1 : zD0 134 1 = 4 := zD0_tab 134 (by decide) 1 (by decide)
theorem zD0_134_2 : zD0 134 2 = 4 := zD0_tab 134 (by decide) 2 (by decide)
theorem zD0_134_3 : zD0 134 3 = 4 := zD0_tab 134 (by decide) 3 (by decide)
theorem zD0_134_4 : zD0 134 4 = 4 := zD0_tab 134 (by decide) 4 (by decide)
theorem zD0_134_5 : zD0 134 5 = 4 := zD0_tab 134 (by decide) 5 (by decide)
theorem zD0_134_6 : zD0 134 6 = 4 := zD0_tab 134 (by decide) 6 (by decide)
theorem zD0_134_7 : zD0 134 7 = 4 := zD0_tab 134 (by decide) 7 (by decide)
theorem zD0_135_0 : zD0 135 0 = 4 := zD0_tab 135 (by decide) 0 (by decide)
theorem zD0_135_1 : zD0 135 1 = 4 := zD0_tab 135 (by decide) 1 (by decide)
theorem zD0_135_2 : zD0 135 2 = 4 := zD0_tab 135 (by decide) 2 (by decide)
theorem zD0_135_3 : zD0 135 3 = 4 := zD0_tab 135 (by decide) 3 (by decide)
theorem zD0_135_4 : zD0 135 4 = 4 := zD0_tab 135 (by decide) 4 (by decide)
theorem zD0_135_5 : zD0 135 5 = 4 := zD0_tab 135 (by decide) 5 (by decide)
theorem zD0_135_6 : zD0 135 6 = 4 := zD0_tab 135 (by decide) 6 (by decide)
theorem zD0_135_7 : zD0 135 7 = 4 := zD0_tab 135 (by decide) 7 (by decide)
theorem zD0_136_0 : zD0 136 0 = 4 := zD0_tab 136 (by decide) 0 (by decide)
theorem zD0_136_1 : zD0 136 1 = 4 := zD0_tab 136 (by decide) 1 (by decide)
theorem zD0_136_2 : zD0 136 2 = 4 := zD0_tab 136 (by decide) 2 (by decide)
theorem zD0_136_3 : zD0 136 3 = 4 := zD0_tab 136 (by decide) 3 (by decide)
theorem zD0_136_4 : zD0 136 4 = 4 := zD0_tab 136 (by decide) 4 (by decide)
theorem zD0_136_5 : zD0 136 5 = 4 := zD0_tab 136 (by decide) 5 (by decide)
theorem zD0_136_6 : zD0 136 6 = 4 := zD0_tab 136 (by decide) 6 (by decide)
theorem zD0_136_7 : zD0 136 7 = 4 := zD0_tab 136 (by decide) 7 (by decide)
theorem zD0_137_0 : zD0 137 0 = 0 := zD0_tab 137 (by decide) 0 (by decide)
theorem zD0_137_1 : zD0 137 1 = 0 := zD0_tab 137 (by decide) 1 (by decide)
theorem zD0_137_2 : zD0 137 2 = 0 := zD0_tab 137 (by decide) 2 (by decide)
theorem zD0_137_3 : zD0 137 3 = 0 := zD0_tab 137 (by decide) 3 (by decide)
theorem zD0_137_4 : zD0 137 4 = 0 := zD0_tab 137 (by decide) 4 (by decide)
theorem zD0_138_0 : zD0 138 0 = 139 := zD0_tab 138 (by decide) 0 (by decide)
theorem zD0_138_1 : zD0 138 1 = 140 := zD0_tab 138 (by decide) 1 (by decide)
theorem zD0_138_2 : zD0 138 2 = 141 := zD0_tab 138 (by decide) 2 (by decide)
theorem zD0_138_3 : zD0 138 3 = 142 := zD0_tab 138 (by decide) 3 (by decide)
theorem zD0_138_4 : zD0 138 4 = 143 := zD0_tab 138 (by decide) 4 (by decide)
theorem zD0_138_5 : zD0 138 5 = 144 := zD0_tab 138 (by decide) 5 (by decide)
theorem zD0_138_6 : zD0 138 6 = 145 := zD0_tab 138 (by decide) 6 (by decide)
theorem zD0_138_7 : zD0 138 7 = 146 := zD0_tab 138 (by decide) 7 (by decide)
theorem zD0_138_8 : zD0 138 8 = 147 := zD0_tab 138 (by decide) 8 (by decide)
theorem zD0_138_9 : zD0 138 9 = 148 := zD0_tab 138 (by decide) 9 (by decide)
theorem zD0_138_10 : zD0 138 10 = 149 := zD0_tab 138 (by decide) 10 (by decide)
theorem zD0_138_11 : zD0 138 11 = 150 := zD0_tab 138 (by decide) 11 (by decide)
theorem zD0_139_0 : zD0 139 0 = 0 := zD0_tab 139 (by decide) 0 (by decide)
theorem zD0_139_1 : zD0 139 1 = 0 := zD0_tab 139 (by decide) 1 (by decide)
theorem zD0_140_0 : zD0 140 0 = 0 := zD0_tab 140 (by decide) 0 (by decide)
theorem zD0_140_1 : zD0 140 1 = 0 := zD0_tab 140 (by decide) 1 (by decide)
theorem zD0_141_0 : zD0 141 0 = 0 := zD0_tab 141 (by decide) 0 (by decide)
theorem zD0_141_1 : zD0 141 1 = 0 := zD0_tab 141 (by decide) 1 (by decide)
theorem zD0_142_0 : zD0 142 0 = 0 := zD0_tab 142 (by decide) 0 (by decide)
theorem zD0_142_1 : zD0 142 1 = 0 := zD0_tab 142 (by decide) 1 (by decide)
theorem zD0_143_0 : zD0 143 0 = 0 := zD0_tab 143 (by decide) 0 (by decide)
theorem zD0_143_1 : zD0 143 1 = 0 := zD0_tab 143 (by decide) 1 (by decide)
theorem zD0_144_0 : zD0 144 0 = 0 := zD0_tab 144 (by decide) 0 (by decide)
theorem zD0_144_1 : zD0 144 1 = 0 := zD0_tab 144 (by decide) 1 (by decide)
theorem zD0_145_0 : zD0 145 0 = 0 := zD0_tab 145 (by decide) 0 (by decide)
theorem zD0_145_1 : zD0 145 1 = 0 := zD0_tab 145 (by decide) 1 (by decide)
theorem zD0_146_0 : zD0 146 0 = 0 := zD0_tab 146 (by decide) 0 (by decide)
theorem zD0_146_1 : zD0 146 1 = 0 := zD0_tab 146 (by decide) 1 (by decide)
theorem zD0_147_0 : zD0 147 0 = 0 := zD0_tab 147 (by decide) 0 (by decide)
theorem zD0_147_1 : zD0 147 1 = 0 := zD0_tab 147 (by decide) 1 (by decide)
theorem zD0_148_0 : zD0 148 0 = 0 := zD0_tab 148 (by decide) 0 (by decide)
theorem zD0_148_1 : zD0 148 1 = 0 := zD0_tab 148 (by decide) 1 (by decide)
theorem zD0_149_0 : zD0 149 0 = 0 := zD0_tab 149 (by decide) 0 (by decide)
theorem zD0_149_1 : zD0 149 1 = 0 := zD0_tab 149 (by decide) 1 (by decide)
theorem zD0_150_0 : zD0 150 0 = 0 := zD0_tab 150 (by decide) 0 (by decide)
theorem zD0_150_1 : zD0 150 1 = 0 := zD0_tab 150 (by decide) 1 (by decide)
theorem zD0_151_0 : zD0 151 0 = 152 := zD0_tab 151 (by decide) 0 (by decide)
theorem zD0_151_1 : zD0 151 1 = 153 := zD0_tab 151 (by decide) 1 (by decide)
theorem zD0_151_2 : zD0 151 2 = 154 := zD0_tab 151 (by decide) 2 (by decide)
theorem zD0_151_3 : zD0 151 3 = 155 := zD0_tab 151 (by decide) 3 (by decide)
theorem zD0_151_4 : zD0 151 4 = 156 := zD0_tab 151 (by decide) 4 (by decide)
theorem zD0_151_5 : zD0 151 5 = 157 := zD0_tab 151 (by decide) 5 (by decide)
theorem zD0_151_6 : zD0 151 6 = 158 := zD0_tab 151 (by decide) 6 (by decide)
theorem zD0_151_7 : zD0 151 7 = 159 := zD0_tab 151 (by decide) 7 (by decide)
theorem zD0_152_0 : zD0 152 0 = 0 := zD0_tab 152 (by decide) 0 (by decide)
theorem zD0_152_1 : zD0 152 1 = 0 := zD0_tab 152 (by decide) 1 (by decide)
theorem zD0_152_2 : zD0 152 2 = 0 := zD0_tab 152 (by decide) 2 (by decide)
theorem zD0_152_3 : zD0 152 3 = 0 := zD0_tab 152 (by decide) 3 (by decide)
theorem zD0_153_0 : zD0 153 0 = 0 := zD0_tab 153 (by decide) 0 (by decide)
theorem zD0_153_1 : zD0 153 1 = 0 := zD0_tab 153 (by decide) 1 (by decide)
theorem zD0_153_2 : zD0 153 2 = 0 := zD0_tab 153 (by decide) 2 (by decide)
theorem zD0_153_3 : zD0 153 3 = 0 := zD0_tab 153 (by decide) 3 (by decide)
theorem zD0_154_0 : zD0 154 0 = 0 := zD0_tab 154 (by decide) 0 (by decide)
theorem zD0_154_1 : zD0 154 1 = 0 := zD0_tab 154 (by decide) 1 (by decide)
theorem zD0_154_2 : zD0 154 2 = 0 := zD0_tab 154 (by decide) 2 (by decide)
theorem zD0_154_3 : zD0 154 3 = 0 := zD0_tab 154 (by decide) 3 (by decide)
theorem zD0_155_0 : zD0 155 0 = 0 := zD0_tab 155 (by decide) 0 (by decide)
theorem zD0_155_1 : zD0 155 1 = 0 := zD0_tab 155 (by decide) 1 (by decide)
theorem zD0_155_2 : zD0 155 2 = 0 := zD0_tab 155 (by decide) 2 (by decide)
theorem zD0_155_3 : zD0 155 3 = 0 := zD0_tab 155 (by decide) 3 (by decide)
theorem zD0_156_0 : zD0 156 0 = 0 := zD0_tab 156 (by decide) 0 (by decide)
theorem zD0_156_1 : zD0 156 1 = 0 := zD0_tab 156 (by decide) 1 (by decide)
theorem zD0_156_2 : zD0 156 2 = 0 := zD0_tab 156 (by decide) 2 (by decide)
theorem zD0_156_3 : zD0 156 3 = 0 := zD0_tab 156 (by decide) 3 (by decide)
theorem zD0_157_0 : zD0 157 0 = 0 := zD0_tab 157 (by decide) 0 (by decide)
theorem zD0_157_1 : zD0 157 1 = 0 := zD0_tab 157 (by decide) 1 (by decide)
theorem zD0_157_2 : zD0 157 2 = 0 := zD0_tab 157 (by decide) 2 (by decide)
theorem zD0_157_3 : zD0 157 3 = 0 := zD0_tab 157 (by decide) 3 (by decide)
theorem zD0_158_0 : zD0 158 0 = 0 := zD0_tab 158 (by decide) 0 (by decide)
theorem zD0_158_1 : zD0 158 1 = 0 := zD0_tab 158 (by decide) 1 (by decide)
theorem zD0_158_2 : zD0 158 2 = 0 := zD0_tab 158 (by decide) 2 (by decide)
theorem zD0_158_3 : zD0 158 3 = 0 := zD0_tab 158 (by decide) 3 (by decide)
theorem zD0_159_0 : zD0 159 0 = 0 := zD0_tab 159 (by decide) 0 (by decide)
theorem zD0_159_1 : zD0 159 1 = 0 := zD0_tab 159 (by decide) 1 (by decide)
theorem zD0_159_2 : zD0 159 2 = 0 := zD0_tab 159 (by decide) 2 (by decide)
theorem zD0_159_3 : zD0 159 3 = 0 := zD0_tab 159 (by decide) 3 (by decide)
theorem zD0_160_0 : zD0 160 0 = 0 := zD0_tab 160 (by decide) 0 (by decide)
theorem zD0_161_0 : zD0 161 0 = 0 := zD0_tab 161 (by decide) 0 (by decide)
theorem zDz_6 {k : Int} (h0 : 0 ≤ k) (h1 : k < 104) : zD0 6 k = 0 := by
  obtain ⟨j, rfl⟩ := Int.eq_ofNat_of_zero_le h0
  have h2 : j < 104 := by omega
  have e := zD0_tab 6 (by decide) j h2
  exact e.trans ((by decide : ∀ j, j < 104 → (zTbD.getD 6 []).getD j 0 = 0) j h2)
theorem zDz_7 {k : Int} (h0 : 0 ≤ k) (h1 : k < 104) : zD0 7 k = 0 := by
  obtain ⟨j, rfl⟩ := Int.eq_ofNat_of_zero_le h0
  have h2 : j < 104 := by omega
  have e := zD0_tab 7 (by decide) j h2
  exact e.trans ((by decide : ∀ j, j < 104 → (zTbD.getD 7 []).getD j 0 = 0) j h2)
theorem zDz_8 {k : Int} (h0 : 0 ≤ k) (h1 : k < 11) : zD0 8 k = 0 := by
  obtain ⟨j, rfl⟩ := Int.eq_ofNat_of_zero_le h0
  have h2 : j < 11 := by omega
  have e := zD0_tab 8 (by decide) j h2
  exact e.trans ((by decide : ∀ j, j < 11 → (zTbD.getD 8 []).getD j 0 = 0) j h2)
theorem zDz_9 {k : Int} (h0 : 0 ≤ k) (h1 : k < 11) : zD0 9 k = 0 := by
  obtain ⟨j, rfl⟩ := Int.eq_ofNat_of_zero_le h0
  have h2 : j < 11 := by omega
  have e := zD0_tab 9 (by decide) j h2
  exact e.trans ((by decide : ∀ j, j < 11 → (zTbD.getD 9 []).getD j 0 = 0) j h2)
theorem zDz_11 {k : Int} (h0 : 0 ≤ k) (h1 : k < 11) : zD0 11 k = 0 := by
  obtain ⟨j, rfl⟩ := Int.eq_ofNat_of_zero_le h0
  have h2 : j < 11 := by omega
  have e := zD0_tab 11 (by decide) j h2
  exact e.trans ((by decide : ∀ j, j < 11 → (zTbD.getD 11 []).getD j 0 = 0) j h2)
theorem zDz_13 {k : Int} (h0 : 0 ≤ k) (h1 : k < 12) : zD0 13 k = 0 := by
  obtain ⟨j, rfl⟩ := Int.eq_ofNat_of_zero_le h0
  have h2 : j < 12 := by omega
  have e := zD0_tab 13 (by decide) j h2
  exact e.trans ((by decide : ∀ j, j < 12 → (zTbD.getD 13 []).getD j 0 = 0) j h2)
theorem zDz_14 {k : Int} (h0 : 0 ≤ k) (h1 : k < 12) : zD0 14 k = 0 := by
  obtain ⟨j, rfl⟩ := Int.eq_ofNat_of_zero_le h0
  have h2 : j < 12 := by omega
  have e := zD0_tab 14 (by decide) j h2
  exact e.trans ((by decide : ∀ j, j < 12 → (zTbD.getD 14 []).getD j 0 = 0) j h2)
theorem zDz_16 {k : Int} (h0 : 0 ≤ k) (h1 : k < 4) : zD0 16 k = 0 := by
  obtain ⟨j, rfl⟩ := Int.eq_ofNat_of_zero_le h0
  have h2 : j < 4 := by omega
  have e := zD0_tab 16 (by decide) j h2
  exact e.trans ((by decide : ∀ j, j < 4 → (zTbD.getD 16 []).getD j 0 = 0) j h2)
theorem zDz_18 {k : Int} (h0 : 0 ≤ k) (h1 : k < 4) : zD0 18 k = 0 := by
  obtain ⟨j, rfl⟩ := Int.eq_ofNat_of_zero_le h0
  have h2 : j < 4 := by omega
  have e := zD0_tab 18 (by decide) j h2
  exact e.trans ((by decide : ∀ j, j < 4 → (zTbD.getD 18 []).getD j 0 = 0) j h2)
theorem zDz_20 {k : Int} (h0 : 0 ≤ k) (h1 : k < 4) : zD0 20 k = 0 := by
  obtain ⟨j, rfl⟩ := Int.eq_ofNat_of_zero_le h0
  have h2 : j < 4 := by omega
  have e := zD0_tab 20 (by decide) j h2
  exact e.trans ((by decide : ∀ j, j < 4 → (zTbD.getD 20 []).getD j 0 = 0) j h2)
theorem zDz_22 {k : Int} (h0 : 0 ≤ k) (h1 : k < 4) : zD0 22 k = 0 := by
  obtain ⟨j, rfl⟩ := Int.eq_ofNat_of_zero_le h0
  have h2 : j < 4 := by omega
  have e := zD0_tab 22 (by decide) j h2
  exact e.trans ((by decide : ∀ j, j < 4 → (zTbD.getD 22 []).getD j 0 = 0) j h2)
theorem zDz_24 {k : Int} (h0 : 0 ≤ k) (h1 : k < 4) : zD0 24 k = 0 := by
  obtain ⟨j, rfl⟩ := Int.eq_ofNat_of_zero_le h0
  have h2 : j < 4 := by omega
  have e := zD0_tab 24 (by decide) j h2
  exact e.trans ((by decide : ∀ j, j < 4 → (zTbD.getD 24 []).getD j 0 = 0) j h2)
theorem zDz_26 {k : Int} (h0 : 0 ≤ k) (h1 : k < 4) : zD0 26 k = 0 := by
  obtain ⟨j, rfl⟩ := Int.eq_ofNat_of_zero_le h0
  have h2 : j < 4 := by omega
  have e := zD0_tab 26 (by decide) j h2
  exact e.trans ((by decide : ∀ j, j < 4 → (zTbD.getD 26 []).getD j 0 = 0) j h2)
theorem zDz_28 {k : Int} (h0 : 0 ≤ k) (h1 : k < 4) : zD0 28 k = 0 := by
  obtain ⟨j, rfl⟩ := Int.eq_ofNat_of_zero_le h0
  have h2 : j < 4 := by omega
  have e := zD0_tab 28 (by decide) j h2
  exact e.trans ((by decide : ∀ j, j < 4 → (zTbD.getD 28 []).getD j 0 = 0) j h2)
theorem zDz_30 {k : Int} (h0 : 0 ≤ k) (h1 : k < 4) : zD0 30 k = 0 := by
  obtain ⟨j, rfl⟩ := Int.eq_ofNat_of_zero_le h0
  have h2 : j < 4 := by omega
  have e := zD0_tab 30 (by decide) j h2
  exact e.trans ((by decide : ∀ j, j < 4 → (zTbD.getD 30 []).getD j 0 = 0) j h2)
theorem zDz_37 {k : Int} (h0 : 0 ≤ k) (h1 : k < 22) : zD0 37 k = 0 := by
  obtain ⟨j, rfl⟩ := Int.eq_ofNat_of_zero_le h0
  have h2 : j < 22 := by omega
  have e := zD0_tab 37 (by decide) j h2
  exact e.trans ((by decide : ∀ j, j < 22 → (zTbD.getD 37 []).getD j 0 = 0) j h2)
theorem zDz_40 {k : Int} (h0 : 0 ≤ k) (h1 : k < 22) : zD0 40 k = 0 := by
  obtain ⟨j, rfl⟩ := Int.eq_ofNat_of_zero_le h0
  have h2 : j < 22 := by omega
  have e := zD0_tab 40 (by decide) j h2
  exact e.trans ((by decide : ∀ j, j < 22 → (zTbD.getD 40 []).getD j 0 = 0) j h2)
theorem zDz_42 {k : Int} (h0 : 0 ≤ k) (h1 : k < 22) : zD0 42 k = 0 := by
  obtain ⟨j, rfl⟩ := Int.eq_ofNat_of_zero_le h0
  have h2 : j < 22 := by omega
  have e := zD0_tab 42 (by decide) j h2
  exact e.trans ((by decide : ∀ j, j < 22 → (zTbD.getD 42 []).getD j 0 = 0) j h2)
theorem zDz_45 {k : Int} (h0 : 0 ≤ k) (h1 : k < 22) : zD0 45 k = 0 := by
  obtain ⟨j, rfl⟩ := Int.eq_ofNat_of_zero_le h0
  have h2 : j < 22 := by omega
  have e := zD0_tab 45 (by decide) j h2
  exact e.trans ((by decide : ∀ j, j < 22 → (zTbD.getD 45 []).getD j 0 = 0) j h2)
theorem zDz_47 {k : Int} (h0 : 0 ≤ k) (h1 : k < 22) : zD0 47 k = 0 := by
  obtain ⟨j, rfl⟩ := Int.eq_ofNat_of_zero_le h0
  have h2 : j < 22 := by omega
  have e := zD0_tab 47 (by decide) j h2
  exact e.trans ((by decide : ∀ j, j < 22 → (zTbD.getD 47 []).getD j 0 = 0) j h2)
theorem zDz_50 {k : Int} (h0 : 0 ≤ k) (h1 : k < 22) : zD0 50 k = 0 := by
  obtain ⟨j, rfl⟩ := Int.eq_ofNat_of_zero_le h0
  have h2 : j < 22 := by omega
  have e := zD0_tab 50 (by decide) j h2
  exact e.trans ((by decide : ∀ j, j < 22 → (zTbD.getD 50 []).getD j 0 = 0) j h2)
theorem zDz_52 {k : Int} (h0 : 0 ≤ k) (h1 : k < 22) : zD0 52 k = 0 := by
  obtain ⟨j, rfl⟩ := Int.eq_ofNat_of_zero_le h0
  have h2 : j < 22 := by omega
  have e := zD0_tab 52 (by decide) j h2
  exact e.trans ((by decide : ∀ j, j < 22 → (zTbD.getD 52 []).getD j 0 = 0) j h2)
theorem zDz_54 {k : Int} (h0 : 0 ≤ k) (h1 : k < 10) : zD0 54 k = 0 := by
  obtain ⟨j, rfl⟩ := Int.eq_ofNat_of_zero_le h0
  have h2 : j < 10 := by omega
  have e := zD0_tab 54 (by decide) j h2
  exact e.trans ((by decide : ∀ j, j < 10 → (zTbD.getD 54 []).getD j 0 = 0) j h2)
theorem zDz_55 {k : Int} (h0 : 0 ≤ k) (h1 : k < 10) : zD0 55 k = 0 := by
  obtain ⟨j, rfl⟩ := Int.eq_ofNat_of_zero_le h0
  have h2 : j < 10 := by omega
  have e := zD0_tab 55 (by decide) j h2
  exact e.trans ((by decide : ∀ j, j < 10 → (zTbD.getD 55 []).getD j 0 = 0) j h2)
theorem zDz_56 {k : Int} (h0 : 0 ≤ k) (h1 : k < 10) : zD0 56 k = 0 := by
  obtain ⟨j, rfl⟩ := Int.eq_ofNat_of_zero_le h0
  have h2 : j < 10 := by omega
  have e := zD0_tab 56 (by decide) j h2
  exact e.trans ((by decide : ∀ j, j < 10 → (zTbD.getD 56 []).getD j 0 = 0) j h2)
theorem zDz_57 {k : Int} (h0 : 0 ≤ k) (h1 : k < 10) : zD0 57 k = 0 := by
  obtain ⟨j, rfl⟩ := Int.eq_ofNat_of_zero_le h0
  have h2 : j < 10 := by omega
  have e := zD0_tab 57 (by decide) j h2
  exact e.trans ((by decide : ∀ j, j < 10 → (zTbD.getD 57 []).getD j 0 = 0) j h2)
theorem zDz_59 {k : Int} (h0 : 0 ≤ k) (h1 : k < 24) : zD0 59 k = 4 := by
  obtain ⟨j, rfl⟩ := Int.eq_ofNat_of_zero_le h0
  have h2 : j < 24 := by omega
  have e := zD0_tab 59 (by decide) j h2
  exact e.trans ((by decide : ∀ j, j < 24 → (zTbD.getD 59 []).getD j 0 = 4) j h2)
theorem zDz_60 {k : Int} (h0 : 0 ≤ k) (h1 : k < 5) : zD0 60 k = 0 := by
  obtain ⟨j, rfl⟩ := Int.eq_ofNat_of_zero_le h0
  have h2 : j < 5 := by omega
  have e := zD0_tab 60 (by decide) j h2
  exact e.trans ((by decide : ∀ j, j < 5 → (zTbD.getD 60 []).getD j 0 = 0) j h2)
theorem zDz_62 {k : Int} (h0 : 0 ≤ k) (h1 : k < 8) : zD0 62 k = 0 := by
  obtain ⟨j, rfl⟩ := Int.eq_ofNat_of_zero_le h0
  have h2 : j < 8 := by omega
  have e := zD0_tab 62 (by decide) j h2
  exact e.trans ((by decide : ∀ j, j < 8 → (zTbD.getD 62 []).getD j 0 = 0) j h2)
theorem zDz_63 {k : Int} (h0 : 0 ≤ k) (h1 : k < 8) : zD0 63 k = 0 := by
  obtain ⟨j, rfl⟩ := Int.eq_ofNat_of_zero_le h0
  have h2 : j < 8 := by omega
  have e := zD0_tab 63 (by decide) j h2
  exact e.trans ((by decide : ∀ j, j < 8 → (zTbD.getD 63 []).getD j 0 = 0) j h2)
theorem zDz_64 {k : Int} (h0 : 0 ≤ k) (h1 : k < 8) : zD0 64 k = 0 := by
  obtain ⟨j, rfl⟩ := Int.eq_ofNat_of_zero_le h0
  have h2 : j < 8 := by omega
  have e := zD0_tab 64 (by decide) j h2
  exact e.trans ((by decide : ∀ j, j < 8 → (zTbD.getD 64 []).getD j 0 = 0) j h2)
theorem zDz_65 {k : Int} (h0 : 0 ≤ k) (h1 : k < 8) : zD0 65 k = 0 := by
  obtain ⟨j, rfl⟩ := Int.eq_ofNat_of_zero_le h0
  have h2 : j < 8 := by omega
  have e := zD0_tab 65 (by decide) j h2
  exact e.trans ((by decide : ∀ j, j < 8 → (zTbD.getD 65 []).getD j 0 = 0) j h2)
theorem zDz_66 {k : Int} (h0 : 0 ≤ k) (h1 : k < 8) : zD0 66 k = 0 := by
  obtain ⟨j, rfl⟩ := Int.eq_ofNat_of_zero_le h0
  have h2 : j < 8 := by omega
  have e := zD0_tab 66 (by decide) j h2
  exact e.trans ((by decide : ∀ j, j < 8 → (zTbD.getD 66 []).getD j 0 = 0) j h2)
theorem zDz_67 {k : Int} (h0 : 0 ≤ k) (h1 : k < 8) : zD0 67 k = 0 := by
  obtain ⟨j, rfl⟩ := Int.eq_ofNat_of_zero_le h0
  have h2 : j < 8 := by omega
  have e := zD0_tab 67 (by decide) j h2
  exact e.trans ((by decide : ∀ j, j < 8 → (zTbD.getD 67 []).getD j 0 = 0) j h2)
theorem zDz_68 {k : Int} (h0 : 0 ≤ k) (h1 : k < 8) : zD0 68 k = 0 := by
  obtain ⟨j, rfl⟩ := Int.eq_ofNat_of_zero_le h0
  have h2 : j < 8 := by omega
  have e := zD0_tab 68 (by decide) j h2
  exact e.trans ((by decide : ∀ j, j < 8 → (zTbD.getD 68 []).getD j 0 = 0) j h2)
theorem zDz_69 {k : Int} (h0 : 0 ≤ k) (h1 : k < 8) : zD0 69 k = 0 := by
  obtain ⟨j, rfl⟩ := Int.eq_ofNat_of_zero_le h0
  have h2 : j < 8 := by omega
  have e := zD0_tab 69 (by decide) j h2
  exact e.trans ((by decide : ∀ j, j < 8 → (zTbD.getD 69 []).getD j 0 = 0) j h2)
theorem zDz_71 {k : Int} (h0 : 0 ≤ k) (h1 : k < 2) : zD0 71 k = 0 := by
  obtain ⟨j, rfl⟩ := Int.eq_ofNat_of_zero_le h0
  have h2 : j < 2 := by omega
  have e := zD0_tab 71 (by decide) j h2
  exact e.trans ((by decide : ∀ j, j < 2 → (zTbD.getD 71 []).getD j 0 = 0) j h2)
theorem zDz_72 {k : Int} (h0 : 0 ≤ k) (h1 : k < 2) : zD0 72 k = 0 := by
  obtain ⟨j, rfl⟩ := Int.eq_ofNat_of_zero_le h0
  have h2 : j < 2 := by omega
  have e := zD0_tab 72 (by decide) j h2
  exact e.trans ((by decide : ∀ j, j < 2 → (zTbD.getD 72 []).getD j 0 = 0) j h2)
theorem zDz_73 {k : Int} (h0 : 0 ≤ k) (h1 : k < 2) : zD0 73 k = 0 := by
  obtain ⟨j, rfl⟩ := Int.eq_ofNat_of_zero_le h0
  have h2 : j < 2 := by omega
  have e := zD0_tab 73 (by decide) j h2
  exact e.trans ((by decide : ∀ j, j < 2 → (zTbD.getD 73 []).getD j 0 = 0) j h2)
theorem zDz_74 {k : Int} (h0 : 0 ≤ k) (h1 : k < 2) : zD0 74 k = 0 := by
  obtain ⟨j, rfl⟩ := Int.eq_ofNat_of_zero_le h0
  have h2 : j < 2 := by omega
  have e := zD0_tab 74 (by decide) j h2
  exact e.trans ((by decide : ∀ j, j < 2 → (zTbD.getD 74 []).getD j 0 = 0) j h2)
theorem zDz_75 {k : Int} (h0 : 0 ≤ k) (h1 : k < 2) : zD0 75 k = 0 := by
  obtain ⟨j, rfl⟩ := Int.eq_ofNat_of_zero_le h0
  have h2 : j < 2 := by omega
  have e := zD0_tab 75 (by decide) j h2
  exact e.trans ((by decide : ∀ j, j < 2 → (zTbD.getD 75 []).getD j 0 = 0) j h2)
theorem zDz_76 {k : Int} (h0 : 0 ≤ k) (h1 : k < 2) : zD0 76 k = 0 := by
  obtain ⟨j, rfl⟩ := Int.eq_ofNat_of_zero_le h0
  have h2 : j < 2 := by omega
  have e := zD0_tab 76 (by decide) j h2
  exact e.trans ((by decide : ∀ j, j < 2 → (zTbD.getD 76 []).getD j 0 = 0) j h2)
theorem zDz_77 {k : Int} (h0 : 0 ≤ k) (h1 : k < 2) : zD0 77 k = 0 := by
  obtain ⟨j, rfl⟩ := Int.eq_ofNat_of_zero_le h0
  have h2 : j < 2 := by omega
  have e := zD0_tab 77 (by decide) j h2
  exact e.trans ((by decide : ∀ j, j < 2 → (zTbD.getD 77 []).getD j 0 = 0) j h2)
theorem zDz_78 {k : Int} (h0 : 0 ≤ k) (h1 : k < 2) : zD0 78 k = 0 := by
  obtain ⟨j, rfl⟩ := Int.eq_ofNat_of_zero_le h0
  have h2 : j < 2 := by omega
  have e := zD0_tab 78 (by decide) j h2
  exact e.trans ((by decide : ∀ j, j < 2 → (zTbD.getD 78 []).getD j 0 = 0) j h2)
theorem zDz_80 {k : Int} (h0 : 0 ≤ k) (h1 : k < 2) : zD0 80 k = 0 := by
  obtain ⟨j, rfl⟩ := Int.eq_ofNat_of_zero_le h0
  have h2 : j < 2 := by omega
  have e := zD0_tab 80 (by decide) j h2
  exact e.trans ((by decide : ∀ j, j < 2 → (zTbD.getD 80 []).getD j 0 = 0) j h2)
theorem zDz_81 {k : Int} (h0 : 0 ≤ k) (h1 : k < 2) : zD0 81 k = 0 := by
  obtain ⟨j, rfl⟩ := Int.eq_ofNat_of_zero_le h0
  have h2 : j < 2 := by omega
  have e := zD0_tab 81 (by decide) j h2
  exact e.trans ((by decide : ∀ j, j < 2 → (zTbD.getD 81 []).getD j 0 = 0) j h2)
theorem zDz_82 {k : Int} (h0 : 0 ≤ k) (h1 : k < 2) : zD0 82 k = 0 := by
  obtain ⟨j, rfl⟩ := Int.eq_ofNat_of_zero_le h0
  have h2 : j < 2 := by omega
  have e := zD0_tab 82 (by decide) j h2
  exact e.trans ((by decide : ∀ j, j < 2 → (zTbD.getD 82 []).getD j 0 = 0) j h2)
theorem zDz_83 {k : Int} (h0 : 0 ≤ k) (h1 : k < 2) : zD0 83 k = 0 := by
  obtain ⟨j, rfl⟩ := Int.eq_ofNat_of_zero_le h0
  have h2 : j < 2 := by omega
  have e := zD0_tab 83 (by decide) j h2
  exact e.trans ((by decide : ∀ j, j < 2 → (zTbD.getD 83 []).getD j 0 = 0) j h2)
theorem zDz_84 {k : Int} (h0 : 0 ≤ k) (h1 : k < 2) : zD0 84 k = 0 := by
  obtain ⟨j, rfl⟩ := Int.eq_ofNat_of_zero_le h0
  have h2 : j < 2 := by omega
  have e := zD0_tab 84 (by decide) j h2
  exact e.trans ((by decide : ∀ j, j < 2 → (zTbD.getD 84 []).getD j 0 = 0) j h2)
theorem zDz_85 {k : Int} (h0 : 0 ≤ k) (h1 : k < 2) : zD0 85 k = 0 := by
  obtain ⟨j, rfl⟩ := Int.eq_ofNat_of_zero_le h0
  have h2 : j < 2 := by omega
  have e := zD0_tab 85 (by decide) j h2
  exact e.trans ((by decide : ∀ j, j < 2 → (zTbD.getD 85 []).getD j 0 = 0) j h2)
theorem zDz_86 {k : Int} (h0 : 0 ≤ k) (h1 : k < 2) : zD0 86 k = 0 := by
  obtain ⟨j, rfl⟩ := Int.eq_ofNat_of_zero_le h0
  have h2 : j < 2 := by omega
  have e := zD0_tab 86 (by decide) j h2
  exact e.trans ((by decide : ∀ j, j < 2 → (zTbD.getD 86 []).getD j 0 = 0) j h2)
theorem zDz_87 {k : Int} (h0 : 0 ≤ k) (h1 : k < 2) : zD0 87 k = 0 := by
  obtain ⟨j, rfl⟩ := Int.eq_ofNat_of_zero_le h0
  have h2 : j < 2 := by omega
  have e := zD0_tab 87 (by decide) j h2
  exact e.trans ((by decide : ∀ j, j < 2 → (zTbD.getD 87 []).getD j 0 = 0) j h2)
theorem zDz_88 {k : Int} (h0 : 0 ≤ k) (h1 : k < 3) : zD0 88 k = 0 := by
  obtain ⟨j, rfl⟩ := Int.eq_ofNat_of_zero_le h0
  have h2 : j < 3 := by omega
  have e := zD0_tab 88 (by decide) j h2
  exact e.trans ((by decide : ∀ j, j < 3 → (zTbD.getD 88 []).getD j 0 = 0) j h2)
theorem zDz_89 {k : Int} (h0 : 0 ≤ k) (h1 : k < 3) : zD0 89 k = 0 := by
  obtain ⟨j, rfl⟩ := Int.eq_ofNat_of_zero_le h0
  have h2 : j < 3 := by omega
  have e := zD0_tab 89 (by decide) j h2
  exact e.trans ((by decide : ∀ j, j < 3 → (zTbD.getD 89 []).getD j 0 = 0) j h2)
theorem zDz_90 {k : Int} (h0 : 0 ≤ k) (h1 : k < 3) : zD0 90 k = 0 := by
  obtain ⟨j, rfl⟩ := Int.eq_ofNat_of_zero_le h0
  have h2 : j < 3 := by omega
  have e := zD0_tab 90 (by decide) j h2
  exact e.trans ((by decide : ∀ j, j < 3 → (zTbD.getD 90 []).getD j 0 = 0) j h2)
theorem zDz_91 {k : Int} (h0 : 0 ≤ k) (h1 : k < 4) : zD0 91 k = 0 := by
  obtain ⟨j, rfl⟩ := Int.eq_ofNat_of_zero_le h0
  have h2 : j < 4 := by omega
  have e := zD0_tab 91 (by decide) j h2
  exact e.trans ((by decide : ∀ j, j < 4 → (zTbD.getD 91 []).getD j 0 = 0) j h2)
theorem zDz_92 {k : Int} (h0 : 0 ≤ k) (h1 : k < 104) : zD0 92 k = 0 := by
  obtain ⟨j, rfl⟩ := Int.eq_ofNat_of_zero_le h0
  have h2 : j < 104 := by omega
  have e := zD0_tab 92 (by decide) j h2
  exact e.trans ((by decide : ∀ j, j < 104 → (zTbD.getD 92 []).getD j 0 = 0) j h2)
theorem zDz_93 {k : Int} (h0 : 0 ≤ k) (h1 : k < 104) : zD0 93 k = 0 := by
  obtain ⟨j, rfl⟩ := Int.eq_ofNat_of_zero_le h0
  have h2 : j < 104 := by omega
  have e := zD0_tab 93 (by decide) j h2
  exact e.trans ((by decide : ∀ j, j < 104 → (zTbD.getD 93 []).getD j 0 = 0) j h2)
theorem zDz_94 {k : Int} (h0 : 0 ≤ k) (h1 : k < 11) : zD0 94 k = 0 := by
  obtain ⟨j, rfl⟩ := Int.eq_ofNat_of_zero_le h0
  have h2 : j < 11 := by omega
  have e := zD0_tab 94 (by decide) j h2
  exact e.trans ((by decide : ∀ j, j < 11 → (zTbD.getD 94 []).getD j 0 = 0) j h2)
theorem zDz_95 {k : Int} (h0 : 0 ≤ k) (h1 : k < 11) : zD0 95 k = 0 := by
  obtain ⟨j, rfl⟩ := Int.eq_ofNat_of_zero_le h0
  have h2 : j < 11 := by omega
  have e := zD0_tab 95 (by decide) j h2
  exact e.trans ((by decide : ∀ j, j < 11 → (zTbD.getD 95 []).getD j 0 = 0) j h2)
theorem zDz_96 {k : Int} (h0 : 0 ≤ k) (h1 : k < 3) : zD0 96 k = -1 := by
  obtain ⟨j, rfl⟩ := Int.eq_ofNat_of_zero_le h0
  have h2 : j < 3 := by omega
  have e := zD0_tab 96 (by decide) j h2
  exact e.trans ((by decide : ∀ j, j < 3 → (zTbD.getD 96 []).getD j 0 = -1) j h2)
theorem zDz_97 {k : Int} (h0 : 0 ≤ k) (h1 : k < 3) : zD0 97 k = 0 := by
  obtain ⟨j, rfl⟩ := Int.eq_ofNat_of_zero_le h0
  have h2 : j < 3 := by omega
  have e := zD0_tab 97 (by decide) j h2
  exact e.trans ((by decide : ∀ j, j < 3 → (zTbD.getD 97 []).getD j 0 = 0) j h2)
theorem zDz_98 {k : Int} (h0 : 0 ≤ k) (h1 : k < 3) : zD0 98 k = 0 := by
  obtain ⟨j, rfl⟩ := Int.eq_ofNat_of_zero_le h0
  have h2 : j < 3 := by omega
  have e := zD0_tab 98 (by decide) j h2
  exact e.trans ((by decide : ∀ j, j < 3 → (zTbD.getD 98 []).getD j 0 = 0) j h2)
theorem zDz_101 {k : Int} (h0 : 0 ≤ k) (h1 : k < 24) : zD0 101 k = 0 := by
  obtain ⟨j, rfl⟩ := Int.eq_ofNat_of_zero_le h0
  have h2 : j < 24 := by omega
  have e := zD0_tab 101 (by decide) j h2
  exact e.trans ((by decide : ∀ j, j < 24 → (zTbD.getD 101 []).getD j 0 = 0) j h2)
theorem zDz_102 {k : Int} (h0 : 0 ≤ k) (h1 : k < 24) : zD0 102 k = 0 := by
  obtain ⟨j, rfl⟩ := Int.eq_ofNat_of_zero_le h0
  have h2 : j < 24 := by omega
  have e := zD0_tab 102 (by decide) j h2
  exact e.trans ((by decide : ∀ j, j < 24 → (zTbD.getD 102 []).getD j 0 = 0) j h2)
theorem zDz_104 {k : Int} (h0 : 0 ≤ k) (h1 : k < 24) : zD0 104 k = 0 := by
  obtain ⟨j, rfl⟩ := Int.eq_ofNat_of_zero_le h0
  have h2 : j < 24 := by omega
  have e := zD0_tab 104 (by decide) j h2
  exact e.trans ((by decide : ∀ j, j < 24 → (zTbD.getD 104 []).getD j 0 = 0) j h2)
theorem zDz_105 {k : Int} (h0 : 0 ≤ k) (h1 : k < 24) : zD0 105 k = 0 := by
  obtain ⟨j, rfl⟩ := Int.eq_ofNat_of_zero_le h0
  have h2 : j < 24 := by omega
  have e := zD0_tab 105 (by decide) j h2
  exact e.trans ((by decide : ∀ j, j < 24 → (zTbD.getD 105 []).getD j 0 = 0) j h2)
theorem zDz_107 {k : Int} (h0 : 0 ≤ k) (h1 : k < 24) : zD0 107 k = 0 := by
  obtain ⟨j, rfl⟩ := Int.eq_ofNat_of_zero_le h0
  have h2 : j < 24 := by omega
  have e := zD0_tab 107 (by decide) j h2
  exact e.trans ((by decide : ∀ j, j < 24 → (zTbD.getD 107 []).getD j 0 = 0) j h2)
theorem zDz_108 {k : Int} (h0 : 0 ≤ k) (h1 : k < 24) : zD0 108 k = 0 := by
  obtain ⟨j, rfl⟩ := Int.eq_ofNat_of_zero_le h0
  have h2 : j < 24 := by omega
  have e := zD0_tab 108 (by decide) j h2
  exact e.trans ((by decide : ∀ j, j < 24 → (zTbD.getD 108 []).getD j 0 = 0) j h2)
theorem zDz_110 {k : Int} (h0 : 0 ≤ k) (h1 : k < 2) : zD0 110 k = 0 := by
  obtain ⟨j, rfl⟩ := Int.eq_ofNat_of_zero_le h0
  have h2 : j < 2 := by omega
  have e := zD0_tab 110 (by decide) j h2
  exact e.trans ((by decide : ∀ j, j < 2 → (zTbD.getD 110 []).getD j 0 = 0) j h2)
theorem zDz_111 {k : Int} (h0 : 0 ≤ k) (h1 : k < 2) : zD0 111 k = 0 := by
  obtain ⟨j, rfl⟩ := Int.eq_ofNat_of_zero_le h0
  have h2 : j < 2 := by omega
  have e := zD0_tab 111 (by decide) j h2
  exact e.trans ((by decide : ∀ j, j < 2 → (zTbD.getD 111 []).getD j 0 = 0) j h2)
theorem zDz_112 {k : Int} (h0 : 0 ≤ k) (h1 : k < 2) : zD0 112 k = 0 := by
  obtain ⟨j, rfl⟩ := Int.eq_ofNat_of_zero_le h0
  have h2 : j < 2 := by omega
  have e := zD0_tab 112 (by decide) j h2
  exact e.trans ((by decide : ∀ j, j < 2 → (zTbD.getD 112 []).getD j 0 = 0) j h2)
theorem zDz_114 {k : Int} (h0 : 0 ≤ k) (h1 : k < 2) : zD0 114 k = 0 := by
  obtain ⟨j, rfl⟩ := Int.eq_ofNat_of_zero_le h0
  have h2 : j < 2 := by omega
  have e := zD0_tab 114 (by decide) j h2
  exact e.trans ((by decide : ∀ j, j < 2 → (zTbD.getD 114 []).getD j 0 = 0) j h2)
theorem zDz_115 {k : Int} (h0 : 0 ≤ k) (h1 : k < 2) : zD0 115 k = 0 := by
  obtain ⟨j, rfl⟩ := Int.eq_ofNat_of_zero_le h0
  have h2 : j < 2 := by omega
  have e := zD0_tab 115 (by decide) j h2
  exact e.trans ((by decide : ∀ j, j < 2 → (zTbD.getD 115 []).getD j 0 = 0) j h2)
theorem zDz_116 {k : Int} (h0 : 0 ≤ k) (h1 : k < 2) : zD0 116 k = 0 := by
  obtain ⟨j, rfl⟩ := Int.eq_ofNat_of_zero_le h0
  have h2 : j < 2 := by omega
  have e := zD0_tab 116 (by decide) j h2
  exact e.trans ((by decide : ∀ j, j < 2 → (zTbD.getD 116 []).getD j 0 = 0) j h2)
theorem zDz_118 {k : Int} (h0 : 0 ≤ k) (h1 : k < 2) : zD0 118 k = 0 := by
  obtain ⟨j, rfl⟩ := Int.eq_ofNat_of_zero_le h0
  have h2 : j < 2 := by omega
  have e := zD0_tab 118 (by decide) j h2
  exact e.trans ((by decide : ∀ j, j < 2 → (zTbD.getD 118 []).getD j 0 = 0) j h2)
theorem zDz_119 {k : Int} (h0 : 0 ≤ k) (h1 : k < 2) : zD0 119 k = 0 := by
  obtain ⟨j, rfl⟩ := Int.eq_ofNat_of_zero_le h0
  have h2 : j < 2 := by omega
  have e := zD0_tab 119 (by decide) j h2
  exact e.trans ((by decide : ∀ j, j < 2 → (zTbD.getD 119 []).getD j 0 = 0) j h2)
theorem zDz_120 {k : Int} (h0 : 0 ≤ k) (h1 : k < 2) : zD0 120 k = 0 := by
  obtain ⟨j, rfl⟩ := Int.eq_ofNat_of_zero_le h0
  have h2 : j < 2 := by omega
  have e := zD0_tab 120 (by decide) j h2
  exact e.trans ((by decide : ∀ j, j < 2 → (zTbD.getD 120 []).getD j 0 = 0) j h2)
theorem zDz_121 {k : Int} (h0 : 0 ≤ k) (h1 : k < 24) : zD0 121 k = 0 := by
  obtain ⟨j, rfl⟩ := Int.eq_ofNat_of_zero_le h0
  have h2 : j < 24 := by omega
  have e := zD0_tab 121 (by decide) j h2
  exact e.trans ((by decide : ∀ j, j < 24 → (zTbD.getD 121 []).getD j 0 = 0) j h2)
theorem zDz_123 {k : Int} (h0 : 0 ≤ k) (h1 : k < 4) : zD0 123 k = 0 := by
  obtain ⟨j, rfl⟩ := Int.eq_ofNat_of_zero_le h0
  have h2 : j < 4 := by omega
  have e := zD0_tab 123 (by decide) j h2
  exact e.trans ((by decide : ∀ j, j < 4 → (zTbD.getD 123 []).getD j 0 = 0) j h2)
theorem zDz_124 {k : Int} (h0 : 0 ≤ k) (h1 : k < 4) : zD0 124 k = 0 := by
  obtain ⟨j, rfl⟩ := Int.eq_ofNat_of_zero_le h0
  have h2 : j < 4 := by omega
  have e := zD0_tab 124 (by decide) j h2
  exact e.trans ((by decide : ∀ j, j < 4 → (zTbD.getD 124 []).getD j 0 = 0) j h2)
theorem zDz_125 {k : Int} (h0 : 0 ≤ k) (h1 : k < 4) : zD0 125 k = 0 := by
  obtain ⟨j, rfl⟩ := Int.eq_ofNat_of_zero_le h0
  have h2 : j < 4 := by omega
  have e := zD0_tab 125 (by decide) j h2
  exact e.trans ((by decide : ∀ j, j < 4 → (zTbD.getD 125 []).getD j 0 = 0) j h2)
theorem zDz_126 {k : Int} (h0 : 0 ≤ k) (h1 : k < 4) : zD0 126 k = 0 := by
  obtain ⟨j, rfl⟩ := Int.eq_ofNat_of_zero_le h0
  have h2 : j < 4 := by omega
  have e := zD0_tab 126 (by decide) j h2
  exact e.trans ((by decide : ∀ j, j < 4 → (zTbD.getD 126 []).getD j 0 = 0) j h2)
theorem zDz_127 {k : Int} (h0 : 0 ≤ k) (h1 : k < 4) : zD0 127 k = 0 := by
  obtain ⟨j, rfl⟩ := Int.eq_ofNat_of_zero_le h0
  have h2 : j < 4 := by omega
  have e := zD0_tab 127 (by decide) j h2
  exact e.trans ((by decide : ∀ j, j < 4 → (zTbD.getD 127 []).getD j 0 = 0) j h2)
theorem zDz_128 {k : Int} (h0 : 0 ≤ k) (h1 : k < 4) : zD0 128 k = 0 := by
  obtain ⟨j, rfl⟩ := Int.eq_ofNat_of_zero_le h0
  have h2 : j < 4 := by omega
  have e := zD0_tab 128 (by decide) j h2
  exact e.trans ((by decide : ∀ j, j < 4 → (zTbD.getD 128 []).getD j 0 = 0) j h2)
theorem zDz_129 {k : Int} (h0 : 0 ≤ k) (h1 : k < 4) : zD0 129 k = 0 := by
  obtain ⟨j, rfl⟩ := Int.eq_ofNat_of_zero_le h0
  have h2 : j < 4 := by omega
  have e := zD0_tab 129 (by decide) j h2
  exact e.trans ((by decide : ∀ j, j < 4 → (zTbD.getD 129 []).getD j 0 = 0) j h2)
theorem zDz_130 {k : Int} (h0 : 0 ≤ k) (h1 : k < 4) : zD0 130 k = 0 := by
  obtain ⟨j, rfl⟩ := Int.eq_ofNat_of_zero_le h0
  have h2 : j < 4 := by omega
  have e := zD0_tab 130 (by decide) j h2
  exact e.trans ((by decide : ∀ j, j < 4 → (zTbD.getD 130 []).getD j 0 = 0) j h2)
theorem zDz_131 {k : Int} (h0 : 0 ≤ k) (h1 : k < 4) : zD0 131 k = 0 := by
  obtain ⟨j, rfl⟩ := Int.eq_ofNat_of_zero_le h0
  have h2 : j < 4 := by omega
  have e := zD0_tab 131 (by decide) j h2
  exact e.trans ((by decide : ∀ j, j < 4 → (zTbD.getD 131 []).getD j 0 = 0) j h2)
theorem zDz_132 {k : Int} (h0 : 0 ≤ k) (h1 : k < 4) : zD0 132 k = 0 := by
  obtain ⟨j, rfl⟩ := Int.eq_ofNat_of_zero_le h0
  have h2 : j < 4 := by omega
  have e := zD0_tab 132 (by decide) j h2
  exact e.trans ((by decide : ∀ j, j < 4 → (zTbD.getD 132 []).getD j 0 = 0) j h2)
theorem zDz_134 {k : Int} (h0 : 0 ≤ k) (h1 : k < 8) : zD0 134 k = 4 := by
  obtain ⟨j, rfl⟩ := Int.eq_ofNat_of_zero_le h0
  have h2 : j < 8 := by omega
  have e := zD0_tab 134 (by decide) j h2
  exact e.trans ((by decide : ∀ j, j < 8 → (zTbD.getD 134 []).getD j 0 = 4) j h2)
theorem zDz_135 {k : Int} (h0 : 0 ≤ k) (h1 : k < 8) : zD0 135 k = 4 := by
  obtain ⟨j, rfl⟩ := Int.eq_ofNat_of_zero_le h0
  have h2 : j < 8 := by omega
  have e := zD0_tab 135 (by decide) j h2
  exact e.trans ((by decide : ∀ j, j < 8 → (zTbD.getD 135 []).getD j 0 = 4) j h2)
theorem zDz_136 {k : Int} (h0 : 0 ≤ k) (h1 : k < 8) : zD0 136 k = 4 := by
  obtain ⟨j, rfl⟩ := Int.eq_ofNat_of_zero_le h0
  have h2 : j < 8 := by omega
  have e := zD0_tab 136 (by decide) j h2
  exact e.trans ((by decide : ∀ j, j < 8 → (zTbD.getD 136 []).getD j 0 = 4) j h2)
theorem zDz_137 {k : Int} (h0 : 0 ≤ k) (h1 : k < 5) : zD0 137 k = 0 := by
  obtain ⟨j, rfl⟩ := Int.eq_ofNat_of_zero_le h0
  have h2 : j < 5 := by omega
  have e := zD0_tab 137 (by decide) j h2
  exact e.trans ((by decide : ∀ j, j < 5 → (zTbD.getD 137 []).getD j 0 = 0) j h2)
theorem zDz_139 {k : Int} (h0 : 0 ≤ k) (h1 : k < 2) : zD0 139 k = 0 := by
  obtain ⟨j, rfl⟩ := Int.eq_ofNat_of_zero_le h0
  have h2 : j < 2 := by omega
  have e := zD0_tab 139 (by decide) j h2
  exact e.trans ((by decide : ∀ j, j < 2 → (zTbD.getD 139 []).getD j 0 = 0) j h2)
theorem zDz_140 {k : Int} (h0 : 0 ≤ k) (h1 : k < 2) : zD0 140 k = 0 := by
  obtain ⟨j, rfl⟩ := Int.eq_ofNat_of_zero_le h0
  have h2 : j < 2 := by omega
  have e := zD0_tab 140 (by decide) j h2
  exact e.trans ((by decide : ∀ j, j < 2 → (zTbD.getD 140 []).getD j 0 = 0) j h2)
theorem zDz_141 {k : Int} (h0 : 0 ≤ k) (h1 : k < 2) : zD0 141 k = 0 := by
  obtain ⟨j, rfl⟩ := Int.eq_ofNat_of_zero_le h0
  have h2 : j < 2 := by omega
  have e := zD0_tab 141 (by decide) j h2
  exact e.trans ((by decide : ∀ j, j < 2 → (zTbD.getD 141 []).getD j 0 = 0) j h2)
theorem zDz_142 {k : Int} (h0 : 0 ≤ k) (h1 : k < 2) : zD0 142 k = 0 := by
  obtain ⟨j, rfl⟩ := Int.eq_ofNat_of_zero_le h0
  have h2 : j < 2 := by omega
  have e := zD0_tab 142 (by decide) j h2
  exact e.trans ((by decide : ∀ j, j < 2 → (zTbD.getD 142 []).getD j 0 = 0) j h2)
theorem zDz_143 {k : Int} (h0 : 0 ≤ k) (h1 : k < 2) : zD0 143 k = 0 := by
  obtain ⟨j, rfl⟩ := Int.eq_ofNat_of_zero_le h0
  have h2 : j < 2 := by omega
  have e := zD0_tab 143 (by decide) j h2
  exact e.trans ((by decide : ∀ j, j < 2 → (zTbD.getD 143 []).getD j 0 = 0) j h2)
theorem zDz_144 {k : Int} (h0 : 0 ≤ k) (h1 : k < 2) : zD0 144 k = 0 := by
  obtain ⟨j, rfl⟩ := Int.eq_ofNat_of_zero_le h0
  have h2 : j < 2 := by omega
  have e := zD0_tab 144 (by decide) j h2
  exact e.trans ((by decide : ∀ j, j < 2 → (zTbD.getD 144 []).getD j 0 = 0) j h2)
theorem zDz_145 {k : Int} (h0 : 0 ≤ k) (h1 : k < 2) : zD0 145 k = 0 := by
  obtain ⟨j, rfl⟩ := Int.eq_ofNat_of_zero_le h0
  have h2 : j < 2 := by omega
  have e := zD0_tab 145 (by decide) j h2
  exact e.trans ((by decide : ∀ j, j < 2 → (zTbD.getD 145 []).getD j 0 = 0) j h2)
theorem zDz_146 {k : Int} (h0 : 0 ≤ k) (h1 : k < 2) : zD0 146 k = 0 := by
  obtain ⟨j, rfl⟩ := Int.eq_ofNat_of_zero_le h0
  have h2 : j < 2 := by omega
  have e := zD0_tab 146 (by decide) j h2
  exact e.trans ((by decide : ∀ j, j < 2 → (zTbD.getD 146 []).getD j 0 = 0) j h2)
theorem zDz_147 {k : Int} (h0 : 0 ≤ k) (h1 : k < 2) : zD0 147 k = 0 := by
  obtain ⟨j, rfl⟩ := Int.eq_ofNat_of_zero_le h0
  have h2 : j < 2 := by omega
  have e := zD0_tab 147 (by decide) j h2
  exact e.trans ((by decide : ∀ j, j < 2 → (zTbD.getD 147 []).getD j 0 = 0) j h2)
theorem zDz_148 {k : Int} (h0 : 0 ≤ k) (h1 : k < 2) : zD0 148 k = 0 := by
  obtain ⟨j, rfl⟩ := Int.eq_ofNat_of_zero_le h0
  have h2 : j < 2 := by omega
  have e := zD0_tab 148 (by decide) j h2
  exact e.trans ((by decide : ∀ j, j < 2 → (zTbD.getD 148 []).getD j 0 = 0) j h2)
theorem zDz_149 {k : Int} (h0 : 0 ≤ k) (h1 : k < 2) : zD0 149 k = 0 := by
  obtain ⟨j, rfl⟩ := Int.eq_ofNat_of_zero_le h0
  have h2 : j < 2 := by omega
  have e := zD0_tab 149 (by decide) j h2
  exact e.trans ((by decide : ∀ j, j < 2 → (zTbD.getD 149 []).getD j 0 = 0) j h2)
theorem zDz_150 {k : Int} (h0 : 0 ≤ k) (h1 : k < 2) : zD0 150 k = 0 := by
  obtain ⟨j, rfl⟩ := Int.eq_ofNat_of_zero_le h0
  have h2 : j < 2 := by omega
  have e := zD0_tab 150 (by decide) j h2
  exact e.trans ((by decide : ∀ j, j < 2 → (zTbD.getD 150 []).getD j 0 = 0) j h2)
theorem zDz_152 {k : Int} (h0 : 0 ≤ k) (h1 : k < 4) : zD0 152 k = 0 := by
  obtain ⟨j, rfl⟩ := Int.eq_ofNat_of_zero_le h0
  have h2 : j < 4 := by omega
  have e := zD0_tab 152 (by decide) j h2
  exact e.trans ((by decide : ∀ j, j < 4 → (zTbD.getD 152 []).getD j 0 = 0) j h2)
theorem zDz_153 {k : Int} (h0 : 0 ≤ k) (h1 : k < 4) : zD0 153 k = 0 := by
  obtain ⟨j, rfl⟩ := Int.eq_ofNat_of_zero_le h0
  have h2 : j < 4 := by omega
  have e := zD0_tab 153 (by decide) j h2
  exact e.trans ((by decide : ∀ j, j < 4 → (zTbD.getD 153 []).getD j 0 = 0) j h2)
theorem zDz_154 {k : Int} (h0 : 0 ≤ k) (h1 : k < 4) : zD0 154 k = 0 := by
  obtain ⟨j, rfl⟩ := Int.eq_ofNat_of_zero_le h0
  have h2 : j < 4 := by omega
  have e := zD0_tab 154 (by decide) j h2
  exact e.trans ((by decide : ∀ j, j < 4 → (zTbD.getD 154 []).getD j 0 = 0) j h2)
theorem zDz_155 {k : Int} (h0 : 0 ≤ k) (h1 : k < 4) : zD0 155 k = 0 := by
  obtain ⟨j, rfl⟩ := Int.eq_ofNat_of_zero_le h0
  have h2 : j < 4 := by omega
  have e := zD0_tab 155 (by decide) j h2
  exact e.trans ((by decide : ∀ j, j < 4 → (zTbD.getD 155 []).getD j 0 = 0) j h2)
theorem zDz_156 {k : Int} (h0 : 0 ≤ k) (h1 : k < 4) : zD0 156 k = 0 := by
  obtain ⟨j, rfl⟩ := Int.eq_ofNat_of_zero_le h0
  have h2 : j < 4 := by omega
  have e := zD0_tab 156 (by decide) j h2
  exact e.trans ((by decide : ∀ j, j < 4 → (zTbD.getD 156 []).getD j 0 = 0) j h2)
theorem zDz_157 {k : Int} (h0 : 0 ≤ k) (h1 : k < 4) : zD0 157 k = 0 := by
  obtain ⟨j, rfl⟩ := Int.eq_ofNat_of_zero_le h0
  have h2 : j < 4 := by omega
  have e := zD0_tab 157 (by decide) j h2
  exact e.trans ((by decide : ∀ j, j < 4 → (zTbD.getD 157 []).getD j 0 = 0) j h2)
theorem zDz_158 {k : Int} (h0 : 0 ≤ k) (h1 : k < 4) : zD0 158 k = 0 := by
  obtain ⟨j, rfl⟩ := Int.eq_ofNat_of_zero_le h0
  have h2 : j < 4 := by omega
  have e := zD0_tab 158 (by decide) j h2
  exact e.trans ((by decide : ∀ j, j < 4 → (zTbD.getD 158 []).getD j 0 = 0) j h2)
theorem zDz_159 {k : Int} (h0 : 0 ≤ k) (h1 : k < 4) : zD0 159 k = 0 := by
  obtain ⟨j, rfl⟩ := Int.eq_ofNat_of_zero_le h0
  have h2 : j < 4 := by omega
  have e := zD0_tab 159 (by decide) j h2
  exact e.trans ((by decide : ∀ j, j < 4 → (zTbD.getD 159 []).getD j 0 = 0) j h2)
theorem zDz_160 {k : Int} (h0 : 0 ≤ k) (h1 : k < 1) : zD0 160 k = 0 := by
  obtain ⟨j, rfl⟩ := Int.eq_ofNat_of_zero_le h0
  have h2 : j < 1 := by omega
  have e := zD0_tab 160 (by decide) j h2
  exact e.trans ((by decide : ∀ j, j < 1 → (zTbD.getD 160 []).getD j 0 = 0) j h2)
theorem zDz_161 {k : Int} (h0 : 0 ≤ k) (h1 : k < 1) : zD0 161 k = 0 := by
  obtain ⟨j, rfl⟩ := Int.eq_ofNat_of_zero_le h0
  have h2 : j < 1 := by omega
  have e := zD0_tab 161 (by decide) j h2
  exact e.trans ((by decide : ∀ j, j < 1 → (zTbD.getD 161 []).getD j 0 = 0) j h2)
theorem zcast {k : Nat} : (Nat.cast (no_index (OfNat.ofNat k)) : Int) = OfNat.ofNat k := rfl
theorem zlcm_lt {x y : Int} (h : (x + 9223372036854775808) % 18446744073709551616 - 9223372036854775808 < (y + 9223372036854775808) % 18446744073709551616 - 9223372036854775808) : zlc x y = -1 := if_pos h
theorem zlcm_eq {x y : Int} (h : (x + 9223372036854775808) % 18446744073709551616 - 9223372036854775808 = (y + 9223372036854775808) % 18446744073709551616 - 9223372036854775808) : zlc x y = 0 := (if_neg (show ¬ (zwl x < zwl y) from by unfold zwl; omega)).trans (if_pos h)
theorem zlcm_gt {x y : Int} (h : (y + 9223372036854775808) % 18446744073709551616 - 9223372036854775808 < (x + 9223372036854775808) % 18446744073709551616 - 9223372036854775808) : zlc x y = 1 := (if_neg (show ¬ (zwl x < zwl y) from by unfold zwl; omega)).trans (if_neg (show ¬ (zwl x = zwl y) from by unfold zwl; omega))
theorem zbo_00 : zb_or 0 0 = 0 := by decide
theorem zbo_01 : zb_or 0 1 = 1 := by decide
theorem zbo_10 : zb_or 1 0 = 1 := by decide
theorem zbo_11 : zb_or 1 1 = 1 := by decide
theorem zba_00 : zb_and 0 0 = 0 := by decide
theorem zba_01 : zb_and 0 1 = 0 := by decide
theorem zba_10 : zb_and 1 0 = 0 := by decide
theorem zba_11 : zb_and 1 1 = 1 := by decide
def zQf (o : (Option zv_V) ⊕ Nat) (n : Nat) (sh : zk_S) (d : zm_D) (u : Nat) : Prop := o = .inl (some (zv_i 1)) ∧ (n ≤ 600006 ∧ u ≤ 7302064)
theorem zQf_s {x : Int} {n : Nat} {sh : zk_S} {d : zm_D} {u : Nat} : zQf (.inl (some (zv_i x))) n sh d u ↔ x = 1 ∧ (n ≤ 600006 ∧ u ≤ 7302064) := by unfold zQf; simp [zv_i]
