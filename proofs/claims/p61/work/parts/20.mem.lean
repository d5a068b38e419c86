/-! ===== MEM: any memory behind the constructors ===== -/
set_option maxRecDepth 100000
def zSg (g : Int → zk_K) : zk_S := fun r => if r ≤ 161 then zS0 r else g r
def zFt : List (List (Option Int)) := [[], [some 2, some 3, some 4, some 5, some 34, some 10, some 53, some 58, some 12], [some 15, some 17, some 19, some 21, some 23, some 25, some 27, some 29], [some 31, some 32, some 33], [], [some 6, some 7, some 8, some 9], [], [], [], [], [some 11], [], [some 13, some 14], [], [], [some 16], [], [some 18], [], [some 20], [], [some 22], [], [some 24], [], [some 26], [], [some 28], [], [some 30], [], [some 4], [some 4], [some 4], [some 5, some 31, some 35, some 36], [some 38, some 43, some 48], [some 37], [], [some 39, some 41], [some 40], [], [some 42], [], [some 44, some 46], [some 45], [], [some 47], [], [some 49, some 51], [some 50], [], [some 52], [], [some 32, some 54, some 55, some 56, some 57], [], [], [], [], [some 33, some 59, some 60], [], [], [some 62, some 63, some 64, some 65, some 66, some 67, some 68, some 69, some 70, some 79, some 88, some 89, some 90, some 91, some 92, some 93, some 94, some 95, some 96, some 97, some 98, some 99, some 109, some 113, some 117, some 121, some 122, some 133, some 137, some 138, some 151], [], [], [], [], [], [], [], [], [some 71, some 72, some 73, some 74, some 75, some 76, some 77, some 78], [], [], [], [], [], [], [], [], [some 80, some 81, some 82, some 83, some 84, some 85, some 86, some 87], [], [], [], [], [], [], [], [], [], [], [], [], [], [], [], [], [], [], [], [some 100, some 103, some 106], [some 101, some 102], [], [], [some 104, some 105], [], [], [some 107, some 108], [], [], [some 110, some 111, some 112], [], [], [], [some 114, some 115, some 116], [], [], [], [some 118, some 119, some 120], [], [], [], [], [some 123, some 124, some 125, some 126, some 127, some 128, some 129, some 130, some 131, some 132], [], [], [], [], [], [], [], [], [], [], [some 134, some 135, some 136], [], [], [], [], [some 139, some 140, some 141, some 142, some 143, some 144, some 145, some 146, some 147, some 148, some 149, some 150], [], [], [], [], [], [], [], [], [], [], [], [], [some 152, some 153, some 154, some 155, some 156, some 157, some 158, some 159], [], [], [], [], [], [], [], [], [], []]
def zFn (r k : Int) : Option Int := if 0 ≤ r ∧ 0 ≤ k then (zFt.getD r.toNat []).getD k.toNat none else none
def zDg (e : zm_D) : zm_D := fun r k => (zFn r k).getD (e r k)
theorem zDg_f {e : zm_D} {r k v : Int} (h : zFn r k = some v) : zDg e r k = v := by unfold zDg; rw [h]; rfl
theorem zDg_n {e : zm_D} {r k : Int} (h : zFn r k = none) : zDg e r k = e r k := by unfold zDg; rw [h]; rfl
theorem zDg_u {e : zm_D} {r k x : Int} (h : zFn r k = none) : zm_u (zDg e) r k x = zDg (zm_u e r k x) := by
  funext a j
  by_cases q : a = r ∧ j = k
  · obtain ⟨rfl, rfl⟩ := q
    rw [zm_ue rfl rfl, zDg_n h, zm_ue rfl rfl]
  · have q' : a ≠ r ∨ j ≠ k := by
      rcases Classical.em (a = r) with h1 | h1
      · exact Or.inr (fun h2 => q ⟨h1, h2⟩)
      · exact Or.inl h1
    rw [zm_un q']
    unfold zDg
    rw [zm_un q']
theorem zFn_row {r k : Int} (h : zFt.getD r.toNat [] = []) : zFn r k = none := by
  unfold zFn
  split
  · rw [h]; rfl
  · rfl
theorem zFn_out {r k : Int} (h : ¬ (0 ≤ r ∧ r < 162)) : zFn r k = none := by
  by_cases q : 0 ≤ r
  · refine zFn_row ?_
    rw [List.getD_eq_getElem?_getD, List.getElem?_eq_none (by rw [show zFt.length = 162 from by decide +kernel]; omega)]
    rfl
  · unfold zFn
    rw [if_neg (by omega)]
theorem zSg_u {g : Int → zk_K} {r : Int} {x : zk_K} (h : 161 < r) : zk_u (zSg g) r x = zSg (zk_u g r x) := by
  funext a
  unfold zSg
  by_cases q : a = r
  · rw [zk_ue q, if_neg (by omega), zk_ue q]
  · rw [zk_un q]
    split
    · rfl
    · exact (zk_un q).symm
theorem zDg_z {e : zm_D} {r : Int} (h : 161 < r) : zm_z (zDg e) r = zDg (zm_z e r) := by
  funext a j
  by_cases q : a = r
  · rw [zm_ze q, zDg_n (zFn_out (by omega)), zm_ze q]
  · rw [zm_zn q]
    unfold zDg
    rw [zm_zn q]
theorem zSg_0 : zSg zS0 = zS0 := by funext r; unfold zSg; split <;> rfl
theorem zSg_1 {g : Int → zk_K} : zSg g 1 = some (.inl 11) := (if_pos (by decide)).trans zS0_1
theorem zSg_2 {g : Int → zk_K} : zSg g 2 = some (.inr (.object (zcn 2), 8)) := (if_pos (by decide)).trans zS0_2
theorem zSg_3 {g : Int → zk_K} : zSg g 3 = some (.inr (.object (zcn 8), 3)) := (if_pos (by decide)).trans zS0_3
theorem zSg_4 {g : Int → zk_K} : zSg g 4 = some (.inl 9) := (if_pos (by decide)).trans zS0_4
theorem zSg_5 {g : Int → zk_K} : zSg g 5 = some (.inl 7) := (if_pos (by decide)).trans zS0_5
theorem zSg_6 {g : Int → zk_K} : zSg g 6 = some (.inr (.int, 104)) := (if_pos (by decide)).trans zS0_6
theorem zSg_7 {g : Int → zk_K} : zSg g 7 = some (.inr (.int, 104)) := (if_pos (by decide)).trans zS0_7
theorem zSg_8 {g : Int → zk_K} : zSg g 8 = some (.inr (.int, 11)) := (if_pos (by decide)).trans zS0_8
theorem zSg_9 {g : Int → zk_K} : zSg g 9 = some (.inr (.int, 11)) := (if_pos (by decide)).trans zS0_9
theorem zSg_10 {g : Int → zk_K} : zSg g 10 = some (.inl 1) := (if_pos (by decide)).trans zS0_10
theorem zSg_11 {g : Int → zk_K} : zSg g 11 = some (.inr (.int, 11)) := (if_pos (by decide)).trans zS0_11
theorem zSg_12 {g : Int → zk_K} : zSg g 12 = some (.inl 4) := (if_pos (by decide)).trans zS0_12
theorem zSg_13 {g : Int → zk_K} : zSg g 13 = some (.inr (.object (zcn 2), 12)) := (if_pos (by decide)).trans zS0_13
theorem zSg_14 {g : Int → zk_K} : zSg g 14 = some (.inr (.int, 12)) := (if_pos (by decide)).trans zS0_14
theorem zSg_15 {g : Int → zk_K} : zSg g 15 = some (.inl 2) := (if_pos (by decide)).trans zS0_15
theorem zSg_16 {g : Int → zk_K} : zSg g 16 = some (.inr (.int, 4)) := (if_pos (by decide)).trans zS0_16
theorem zSg_17 {g : Int → zk_K} : zSg g 17 = some (.inl 2) := (if_pos (by decide)).trans zS0_17
theorem zSg_18 {g : Int → zk_K} : zSg g 18 = some (.inr (.int, 4)) := (if_pos (by decide)).trans zS0_18
theorem zSg_19 {g : Int → zk_K} : zSg g 19 = some (.inl 2) := (if_pos (by decide)).trans zS0_19
theorem zSg_20 {g : Int → zk_K} : zSg g 20 = some (.inr (.int, 4)) := (if_pos (by decide)).trans zS0_20
theorem zSg_21 {g : Int → zk_K} : zSg g 21 = some (.inl 2) := (if_pos (by decide)).trans zS0_21
theorem zSg_22 {g : Int → zk_K} : zSg g 22 = some (.inr (.int, 4)) := (if_pos (by decide)).trans zS0_22
theorem zSg_23 {g : Int → zk_K} : zSg g 23 = some (.inl 2) := (if_pos (by decide)).trans zS0_23
theorem zSg_24 {g : Int → zk_K} : zSg g 24 = some (.inr (.int, 4)) := (if_pos (by decide)).trans zS0_24
theorem zSg_25 {g : Int → zk_K} : zSg g 25 = some (.inl 2) := (if_pos (by decide)).trans zS0_25
theorem zSg_26 {g : Int → zk_K} : zSg g 26 = some (.inr (.int, 4)) := (if_pos (by decide)).trans zS0_26
theorem zSg_27 {g : Int → zk_K} : zSg g 27 = some (.inl 2) := (if_pos (by decide)).trans zS0_27
theorem zSg_28 {g : Int → zk_K} : zSg g 28 = some (.inr (.int, 4)) := (if_pos (by decide)).trans zS0_28
theorem zSg_29 {g : Int → zk_K} : zSg g 29 = some (.inl 2) := (if_pos (by decide)).trans zS0_29
theorem zSg_30 {g : Int → zk_K} : zSg g 30 = some (.inr (.int, 4)) := (if_pos (by decide)).trans zS0_30
theorem zSg_31 {g : Int → zk_K} : zSg g 31 = some (.inl 8) := (if_pos (by decide)).trans zS0_31
theorem zSg_32 {g : Int → zk_K} : zSg g 32 = some (.inl 8) := (if_pos (by decide)).trans zS0_32
theorem zSg_33 {g : Int → zk_K} : zSg g 33 = some (.inl 8) := (if_pos (by decide)).trans zS0_33
theorem zSg_34 {g : Int → zk_K} : zSg g 34 = some (.inl 0) := (if_pos (by decide)).trans zS0_34
theorem zSg_35 {g : Int → zk_K} : zSg g 35 = some (.inr (.object (zcn 6), 3)) := (if_pos (by decide)).trans zS0_35
theorem zSg_36 {g : Int → zk_K} : zSg g 36 = some (.inl 3) := (if_pos (by decide)).trans zS0_36
theorem zSg_37 {g : Int → zk_K} : zSg g 37 = some (.inr (.int, 22)) := (if_pos (by decide)).trans zS0_37
theorem zSg_38 {g : Int → zk_K} : zSg g 38 = some (.inl 6) := (if_pos (by decide)).trans zS0_38
theorem zSg_39 {g : Int → zk_K} : zSg g 39 = some (.inl 3) := (if_pos (by decide)).trans zS0_39
theorem zSg_40 {g : Int → zk_K} : zSg g 40 = some (.inr (.int, 22)) := (if_pos (by decide)).trans zS0_40
theorem zSg_41 {g : Int → zk_K} : zSg g 41 = some (.inl 3) := (if_pos (by decide)).trans zS0_41
theorem zSg_42 {g : Int → zk_K} : zSg g 42 = some (.inr (.int, 22)) := (if_pos (by decide)).trans zS0_42
theorem zSg_43 {g : Int → zk_K} : zSg g 43 = some (.inl 6) := (if_pos (by decide)).trans zS0_43
theorem zSg_44 {g : Int → zk_K} : zSg g 44 = some (.inl 3) := (if_pos (by decide)).trans zS0_44
theorem zSg_45 {g : Int → zk_K} : zSg g 45 = some (.inr (.int, 22)) := (if_pos (by decide)).trans zS0_45
theorem zSg_46 {g : Int → zk_K} : zSg g 46 = some (.inl 3) := (if_pos (by decide)).trans zS0_46
theorem zSg_47 {g : Int → zk_K} : zSg g 47 = some (.inr (.int, 22)) := (if_pos (by decide)).trans zS0_47
theorem zSg_48 {g : Int → zk_K} : zSg g 48 = some (.inl 6) := (if_pos (by decide)).trans zS0_48
theorem zSg_49 {g : Int → zk_K} : zSg g 49 = some (.inl 3) := (if_pos (by decide)).trans zS0_49
theorem zSg_50 {g : Int → zk_K} : zSg g 50 = some (.inr (.int, 22)) := (if_pos (by decide)).trans zS0_50
theorem zSg_51 {g : Int → zk_K} : zSg g 51 = some (.inl 3) := (if_pos (by decide)).trans zS0_51
theorem zSg_52 {g : Int → zk_K} : zSg g 52 = some (.inr (.int, 22)) := (if_pos (by decide)).trans zS0_52
theorem zSg_53 {g : Int → zk_K} : zSg g 53 = some (.inl 10) := (if_pos (by decide)).trans zS0_53
theorem zSg_54 {g : Int → zk_K} : zSg g 54 = some (.inr (.object (zcn 2), 10)) := (if_pos (by decide)).trans zS0_54
theorem zSg_55 {g : Int → zk_K} : zSg g 55 = some (.inr (.char, 10)) := (if_pos (by decide)).trans zS0_55
theorem zSg_56 {g : Int → zk_K} : zSg g 56 = some (.inr (.int, 10)) := (if_pos (by decide)).trans zS0_56
theorem zSg_57 {g : Int → zk_K} : zSg g 57 = some (.inr (.int, 10)) := (if_pos (by decide)).trans zS0_57
theorem zSg_58 {g : Int → zk_K} : zSg g 58 = some (.inl 5) := (if_pos (by decide)).trans zS0_58
theorem zSg_59 {g : Int → zk_K} : zSg g 59 = some (.inr (.int, 24)) := (if_pos (by decide)).trans zS0_59
theorem zSg_60 {g : Int → zk_K} : zSg g 60 = some (.inr (.int, 5)) := (if_pos (by decide)).trans zS0_60
theorem zSg_61 {g : Int → zk_K} : zSg g 61 = some (.inl 12) := (if_pos (by decide)).trans zS0_61
theorem zSg_62 {g : Int → zk_K} : zSg g 62 = some (.inr (.int, 8)) := (if_pos (by decide)).trans zS0_62
theorem zSg_63 {g : Int → zk_K} : zSg g 63 = some (.inr (.int, 8)) := (if_pos (by decide)).trans zS0_63
theorem zSg_64 {g : Int → zk_K} : zSg g 64 = some (.inr (.int, 8)) := (if_pos (by decide)).trans zS0_64
theorem zSg_65 {g : Int → zk_K} : zSg g 65 = some (.inr (.int, 8)) := (if_pos (by decide)).trans zS0_65
theorem zSg_66 {g : Int → zk_K} : zSg g 66 = some (.inr (.int, 8)) := (if_pos (by decide)).trans zS0_66
theorem zSg_67 {g : Int → zk_K} : zSg g 67 = some (.inr (.int, 8)) := (if_pos (by decide)).trans zS0_67
theorem zSg_68 {g : Int → zk_K} : zSg g 68 = some (.inr (.int, 8)) := (if_pos (by decide)).trans zS0_68
theorem zSg_69 {g : Int → zk_K} : zSg g 69 = some (.inr (.int, 8)) := (if_pos (by decide)).trans zS0_69
theorem zSg_70 {g : Int → zk_K} : zSg g 70 = some (.inr (.array .int, 8)) := (if_pos (by decide)).trans zS0_70
theorem zSg_71 {g : Int → zk_K} : zSg g 71 = some (.inr (.int, 2)) := (if_pos (by decide)).trans zS0_71
theorem zSg_72 {g : Int → zk_K} : zSg g 72 = some (.inr (.int, 2)) := (if_pos (by decide)).trans zS0_72
theorem zSg_73 {g : Int → zk_K} : zSg g 73 = some (.inr (.int, 2)) := (if_pos (by decide)).trans zS0_73
theorem zSg_74 {g : Int → zk_K} : zSg g 74 = some (.inr (.int, 2)) := (if_pos (by decide)).trans zS0_74
theorem zSg_75 {g : Int → zk_K} : zSg g 75 = some (.inr (.int, 2)) := (if_pos (by decide)).trans zS0_75
theorem zSg_76 {g : Int → zk_K} : zSg g 76 = some (.inr (.int, 2)) := (if_pos (by decide)).trans zS0_76
theorem zSg_77 {g : Int → zk_K} : zSg g 77 = some (.inr (.int, 2)) := (if_pos (by decide)).trans zS0_77
theorem zSg_78 {g : Int → zk_K} : zSg g 78 = some (.inr (.int, 2)) := (if_pos (by decide)).trans zS0_78
theorem zSg_79 {g : Int → zk_K} : zSg g 79 = some (.inr (.array .int, 8)) := (if_pos (by decide)).trans zS0_79
theorem zSg_80 {g : Int → zk_K} : zSg g 80 = some (.inr (.int, 2)) := (if_pos (by decide)).trans zS0_80
theorem zSg_81 {g : Int → zk_K} : zSg g 81 = some (.inr (.int, 2)) := (if_pos (by decide)).trans zS0_81
theorem zSg_82 {g : Int → zk_K} : zSg g 82 = some (.inr (.int, 2)) := (if_pos (by decide)).trans zS0_82
theorem zSg_83 {g : Int → zk_K} : zSg g 83 = some (.inr (.int, 2)) := (if_pos (by decide)).trans zS0_83
theorem zSg_84 {g : Int → zk_K} : zSg g 84 = some (.inr (.int, 2)) := (if_pos (by decide)).trans zS0_84
theorem zSg_85 {g : Int → zk_K} : zSg g 85 = some (.inr (.int, 2)) := (if_pos (by decide)).trans zS0_85
theorem zSg_86 {g : Int → zk_K} : zSg g 86 = some (.inr (.int, 2)) := (if_pos (by decide)).trans zS0_86
theorem zSg_87 {g : Int → zk_K} : zSg g 87 = some (.inr (.int, 2)) := (if_pos (by decide)).trans zS0_87
theorem zSg_88 {g : Int → zk_K} : zSg g 88 = some (.inr (.int, 3)) := (if_pos (by decide)).trans zS0_88
theorem zSg_89 {g : Int → zk_K} : zSg g 89 = some (.inr (.int, 3)) := (if_pos (by decide)).trans zS0_89
theorem zSg_90 {g : Int → zk_K} : zSg g 90 = some (.inr (.int, 3)) := (if_pos (by decide)).trans zS0_90
theorem zSg_91 {g : Int → zk_K} : zSg g 91 = some (.inr (.boolean, 4)) := (if_pos (by decide)).trans zS0_91
theorem zSg_92 {g : Int → zk_K} : zSg g 92 = some (.inr (.int, 104)) := (if_pos (by decide)).trans zS0_92
theorem zSg_93 {g : Int → zk_K} : zSg g 93 = some (.inr (.int, 104)) := (if_pos (by decide)).trans zS0_93
theorem zSg_94 {g : Int → zk_K} : zSg g 94 = some (.inr (.int, 11)) := (if_pos (by decide)).trans zS0_94
theorem zSg_95 {g : Int → zk_K} : zSg g 95 = some (.inr (.int, 11)) := (if_pos (by decide)).trans zS0_95
theorem zSg_96 {g : Int → zk_K} : zSg g 96 = some (.inr (.int, 3)) := (if_pos (by decide)).trans zS0_96
theorem zSg_97 {g : Int → zk_K} : zSg g 97 = some (.inr (.int, 3)) := (if_pos (by decide)).trans zS0_97
theorem zSg_98 {g : Int → zk_K} : zSg g 98 = some (.inr (.int, 3)) := (if_pos (by decide)).trans zS0_98
theorem zSg_99 {g : Int → zk_K} : zSg g 99 = some (.inr (.array (.array .int), 3)) := (if_pos (by decide)).trans zS0_99
theorem zSg_100 {g : Int → zk_K} : zSg g 100 = some (.inr (.array .int, 2)) := (if_pos (by decide)).trans zS0_100
theorem zSg_101 {g : Int → zk_K} : zSg g 101 = some (.inr (.int, 24)) := (if_pos (by decide)).trans zS0_101
theorem zSg_102 {g : Int → zk_K} : zSg g 102 = some (.inr (.int, 24)) := (if_pos (by decide)).trans zS0_102
theorem zSg_103 {g : Int → zk_K} : zSg g 103 = some (.inr (.array .int, 2)) := (if_pos (by decide)).trans zS0_103
theorem zSg_104 {g : Int → zk_K} : zSg g 104 = some (.inr (.int, 24)) := (if_pos (by decide)).trans zS0_104
theorem zSg_105 {g : Int → zk_K} : zSg g 105 = some (.inr (.int, 24)) := (if_pos (by decide)).trans zS0_105
theorem zSg_106 {g : Int → zk_K} : zSg g 106 = some (.inr (.array .int, 2)) := (if_pos (by decide)).trans zS0_106
theorem zSg_107 {g : Int → zk_K} : zSg g 107 = some (.inr (.int, 24)) := (if_pos (by decide)).trans zS0_107
theorem zSg_108 {g : Int → zk_K} : zSg g 108 = some (.inr (.int, 24)) := (if_pos (by decide)).trans zS0_108
theorem zSg_109 {g : Int → zk_K} : zSg g 109 = some (.inr (.array .int, 3)) := (if_pos (by decide)).trans zS0_109
theorem zSg_110 {g : Int → zk_K} : zSg g 110 = some (.inr (.int, 2)) := (if_pos (by decide)).trans zS0_110
theorem zSg_111 {g : Int → zk_K} : zSg g 111 = some (.inr (.int, 2)) := (if_pos (by decide)).trans zS0_111
theorem zSg_112 {g : Int → zk_K} : zSg g 112 = some (.inr (.int, 2)) := (if_pos (by decide)).trans zS0_112
theorem zSg_113 {g : Int → zk_K} : zSg g 113 = some (.inr (.array .int, 3)) := (if_pos (by decide)).trans zS0_113
theorem zSg_114 {g : Int → zk_K} : zSg g 114 = some (.inr (.int, 2)) := (if_pos (by decide)).trans zS0_114
theorem zSg_115 {g : Int → zk_K} : zSg g 115 = some (.inr (.int, 2)) := (if_pos (by decide)).trans zS0_115
theorem zSg_116 {g : Int → zk_K} : zSg g 116 = some (.inr (.int, 2)) := (if_pos (by decide)).trans zS0_116
theorem zSg_117 {g : Int → zk_K} : zSg g 117 = some (.inr (.array .int, 3)) := (if_pos (by decide)).trans zS0_117
theorem zSg_118 {g : Int → zk_K} : zSg g 118 = some (.inr (.int, 2)) := (if_pos (by decide)).trans zS0_118
theorem zSg_119 {g : Int → zk_K} : zSg g 119 = some (.inr (.int, 2)) := (if_pos (by decide)).trans zS0_119
theorem zSg_120 {g : Int → zk_K} : zSg g 120 = some (.inr (.int, 2)) := (if_pos (by decide)).trans zS0_120
theorem zSg_121 {g : Int → zk_K} : zSg g 121 = some (.inr (.int, 24)) := (if_pos (by decide)).trans zS0_121
theorem zSg_122 {g : Int → zk_K} : zSg g 122 = some (.inr (.array .int, 10)) := (if_pos (by decide)).trans zS0_122
theorem zSg_123 {g : Int → zk_K} : zSg g 123 = some (.inr (.int, 4)) := (if_pos (by decide)).trans zS0_123
theorem zSg_124 {g : Int → zk_K} : zSg g 124 = some (.inr (.int, 4)) := (if_pos (by decide)).trans zS0_124
theorem zSg_125 {g : Int → zk_K} : zSg g 125 = some (.inr (.int, 4)) := (if_pos (by decide)).trans zS0_125
theorem zSg_126 {g : Int → zk_K} : zSg g 126 = some (.inr (.int, 4)) := (if_pos (by decide)).trans zS0_126
theorem zSg_127 {g : Int → zk_K} : zSg g 127 = some (.inr (.int, 4)) := (if_pos (by decide)).trans zS0_127
theorem zSg_128 {g : Int → zk_K} : zSg g 128 = some (.inr (.int, 4)) := (if_pos (by decide)).trans zS0_128
theorem zSg_129 {g : Int → zk_K} : zSg g 129 = some (.inr (.int, 4)) := (if_pos (by decide)).trans zS0_129
theorem zSg_130 {g : Int → zk_K} : zSg g 130 = some (.inr (.int, 4)) := (if_pos (by decide)).trans zS0_130
theorem zSg_131 {g : Int → zk_K} : zSg g 131 = some (.inr (.int, 4)) := (if_pos (by decide)).trans zS0_131
theorem zSg_132 {g : Int → zk_K} : zSg g 132 = some (.inr (.int, 4)) := (if_pos (by decide)).trans zS0_132
theorem zSg_133 {g : Int → zk_K} : zSg g 133 = some (.inr (.array .int, 3)) := (if_pos (by decide)).trans zS0_133
theorem zSg_134 {g : Int → zk_K} : zSg g 134 = some (.inr (.int, 8)) := (if_pos (by decide)).trans zS0_134
theorem zSg_135 {g : Int → zk_K} : zSg g 135 = some (.inr (.int, 8)) := (if_pos (by decide)).trans zS0_135
theorem zSg_136 {g : Int → zk_K} : zSg g 136 = some (.inr (.int, 8)) := (if_pos (by decide)).trans zS0_136
theorem zSg_137 {g : Int → zk_K} : zSg g 137 = some (.inr (.int, 5)) := (if_pos (by decide)).trans zS0_137
theorem zSg_138 {g : Int → zk_K} : zSg g 138 = some (.inr (.array .int, 12)) := (if_pos (by decide)).trans zS0_138
theorem zSg_139 {g : Int → zk_K} : zSg g 139 = some (.inr (.int, 2)) := (if_pos (by decide)).trans zS0_139
theorem zSg_140 {g : Int → zk_K} : zSg g 140 = some (.inr (.int, 2)) := (if_pos (by decide)).trans zS0_140
theorem zSg_141 {g : Int → zk_K} : zSg g 141 = some (.inr (.int, 2)) := (if_pos (by decide)).trans zS0_141
theorem zSg_142 {g : Int → zk_K} : zSg g 142 = some (.inr (.int, 2)) := (if_pos (by decide)).trans zS0_142
theorem zSg_143 {g : Int → zk_K} : zSg g 143 = some (.inr (.int, 2)) := (if_pos (by decide)).trans zS0_143
theorem zSg_144 {g : Int → zk_K} : zSg g 144 = some (.inr (.int, 2)) := (if_pos (by decide)).trans zS0_144
theorem zSg_145 {g : Int → zk_K} : zSg g 145 = some (.inr (.int, 2)) := (if_pos (by decide)).trans zS0_145
theorem zSg_146 {g : Int → zk_K} : zSg g 146 = some (.inr (.int, 2)) := (if_pos (by decide)).trans zS0_146
theorem zSg_147 {g : Int → zk_K} : zSg g 147 = some (.inr (.int, 2)) := (if_pos (by decide)).trans zS0_147
theorem zSg_148 {g : Int → zk_K} : zSg g 148 = some (.inr (.int, 2)) := (if_pos (by decide)).trans zS0_148
theorem zSg_149 {g : Int → zk_K} : zSg g 149 = some (.inr (.int, 2)) := (if_pos (by decide)).trans zS0_149
theorem zSg_150 {g : Int → zk_K} : zSg g 150 = some (.inr (.int, 2)) := (if_pos (by decide)).trans zS0_150
theorem zSg_151 {g : Int → zk_K} : zSg g 151 = some (.inr (.array .int, 8)) := (if_pos (by decide)).trans zS0_151
theorem zSg_152 {g : Int → zk_K} : zSg g 152 = some (.inr (.int, 4)) := (if_pos (by decide)).trans zS0_152
theorem zSg_153 {g : Int → zk_K} : zSg g 153 = some (.inr (.int, 4)) := (if_pos (by decide)).trans zS0_153
theorem zSg_154 {g : Int → zk_K} : zSg g 154 = some (.inr (.int, 4)) := (if_pos (by decide)).trans zS0_154
theorem zSg_155 {g : Int → zk_K} : zSg g 155 = some (.inr (.int, 4)) := (if_pos (by decide)).trans zS0_155
theorem zSg_156 {g : Int → zk_K} : zSg g 156 = some (.inr (.int, 4)) := (if_pos (by decide)).trans zS0_156
theorem zSg_157 {g : Int → zk_K} : zSg g 157 = some (.inr (.int, 4)) := (if_pos (by decide)).trans zS0_157
theorem zSg_158 {g : Int → zk_K} : zSg g 158 = some (.inr (.int, 4)) := (if_pos (by decide)).trans zS0_158
theorem zSg_159 {g : Int → zk_K} : zSg g 159 = some (.inr (.int, 4)) := (if_pos (by decide)).trans zS0_159
theorem zSg_160 {g : Int → zk_K} : zSg g 160 = some (.inr (.long, 1)) := (if_pos (by decide)).trans zS0_160
theorem zSg_161 {g : Int → zk_K} : zSg g 161 = some (.inr (.double, 1)) := (if_pos (by decide)).trans zS0_161
theorem zg_1_0 {e : zm_D} : zDg e 1 0 = 2 := zDg_f (by decide +kernel)
theorem zg_1_1 {e : zm_D} : zDg e 1 1 = 3 := zDg_f (by decide +kernel)
theorem zg_1_2 {e : zm_D} : zDg e 1 2 = 4 := zDg_f (by decide +kernel)
theorem zg_1_3 {e : zm_D} : zDg e 1 3 = 5 := zDg_f (by decide +kernel)
theorem zg_1_4 {e : zm_D} : zDg e 1 4 = 34 := zDg_f (by decide +kernel)
theorem zg_1_5 {e : zm_D} : zDg e 1 5 = 10 := zDg_f (by decide +kernel)
theorem zg_1_6 {e : zm_D} : zDg e 1 6 = 53 := zDg_f (by decide +kernel)
theorem zg_1_7 {e : zm_D} : zDg e 1 7 = 58 := zDg_f (by decide +kernel)
theorem zg_1_8 {e : zm_D} : zDg e 1 8 = 12 := zDg_f (by decide +kernel)
theorem zg_1_9 {e : zm_D} : zDg e 1 9 = e 1 9 := zDg_n (by decide +kernel)
theorem zgu_1_9 {e : zm_D} {x : Int} : zm_u (zDg e) 1 9 x = zDg (zm_u e 1 9 x) := zDg_u (by decide +kernel)
theorem zg_1_10 {e : zm_D} : zDg e 1 10 = e 1 10 := zDg_n (by decide +kernel)
theorem zgu_1_10 {e : zm_D} {x : Int} : zm_u (zDg e) 1 10 x = zDg (zm_u e 1 10 x) := zDg_u (by decide +kernel)
theorem zg_2_0 {e : zm_D} : zDg e 2 0 = 15 := zDg_f (by decide +kernel)
theorem zg_2_1 {e : zm_D} : zDg e 2 1 = 17 := zDg_f (by decide +kernel)
theorem zg_2_2 {e : zm_D} : zDg e 2 2 = 19 := zDg_f (by decide +kernel)
theorem zg_2_3 {e : zm_D} : zDg e 2 3 = 21 := zDg_f (by decide +kernel)
theorem zg_2_4 {e : zm_D} : zDg e 2 4 = 23 := zDg_f (by decide +kernel)
theorem zg_2_5 {e : zm_D} : zDg e 2 5 = 25 := zDg_f (by decide +kernel)
theorem zg_2_6 {e : zm_D} : zDg e 2 6 = 27 := zDg_f (by decide +kernel)
theorem zg_2_7 {e : zm_D} : zDg e 2 7 = 29 := zDg_f (by decide +kernel)
theorem zg_3_0 {e : zm_D} : zDg e 3 0 = 31 := zDg_f (by decide +kernel)
theorem zg_3_1 {e : zm_D} : zDg e 3 1 = 32 := zDg_f (by decide +kernel)
theorem zg_3_2 {e : zm_D} : zDg e 3 2 = 33 := zDg_f (by decide +kernel)
theorem zg_4_0 {e : zm_D} : zDg e 4 0 = e 4 0 := zDg_n (by decide +kernel)
theorem zgu_4_0 {e : zm_D} {x : Int} : zm_u (zDg e) 4 0 x = zDg (zm_u e 4 0 x) := zDg_u (by decide +kernel)
theorem zg_5_0 {e : zm_D} : zDg e 5 0 = 6 := zDg_f (by decide +kernel)
theorem zg_5_1 {e : zm_D} : zDg e 5 1 = 7 := zDg_f (by decide +kernel)
theorem zg_5_2 {e : zm_D} : zDg e 5 2 = 8 := zDg_f (by decide +kernel)
theorem zg_5_3 {e : zm_D} : zDg e 5 3 = 9 := zDg_f (by decide +kernel)
theorem zg_5_4 {e : zm_D} : zDg e 5 4 = e 5 4 := zDg_n (by decide +kernel)
theorem zgu_5_4 {e : zm_D} {x : Int} : zm_u (zDg e) 5 4 x = zDg (zm_u e 5 4 x) := zDg_u (by decide +kernel)
theorem zg_5_5 {e : zm_D} : zDg e 5 5 = e 5 5 := zDg_n (by decide +kernel)
theorem zgu_5_5 {e : zm_D} {x : Int} : zm_u (zDg e) 5 5 x = zDg (zm_u e 5 5 x) := zDg_u (by decide +kernel)
theorem zg_5_6 {e : zm_D} : zDg e 5 6 = e 5 6 := zDg_n (by decide +kernel)
theorem zgu_5_6 {e : zm_D} {x : Int} : zm_u (zDg e) 5 6 x = zDg (zm_u e 5 6 x) := zDg_u (by decide +kernel)
theorem zg_5_7 {e : zm_D} : zDg e 5 7 = e 5 7 := zDg_n (by decide +kernel)
theorem zgu_5_7 {e : zm_D} {x : Int} : zm_u (zDg e) 5 7 x = zDg (zm_u e 5 7 x) := zDg_u (by decide +kernel)
theorem zga_6 {e : zm_D} {k : Int} : zDg e 6 k = e 6 k := zDg_n (zFn_row (by decide +kernel))
theorem zgua_6 {e : zm_D} {k x : Int} : zm_u (zDg e) 6 k x = zDg (zm_u e 6 k x) := zDg_u (zFn_row (by decide +kernel))
theorem zga_7 {e : zm_D} {k : Int} : zDg e 7 k = e 7 k := zDg_n (zFn_row (by decide +kernel))
theorem zgua_7 {e : zm_D} {k x : Int} : zm_u (zDg e) 7 k x = zDg (zm_u e 7 k x) := zDg_u (zFn_row (by decide +kernel))
theorem zga_8 {e : zm_D} {k : Int} : zDg e 8 k = e 8 k := zDg_n (zFn_row (by decide +kernel))
theorem zgua_8 {e : zm_D} {k x : Int} : zm_u (zDg e) 8 k x = zDg (zm_u e 8 k x) := zDg_u (zFn_row (by decide +kernel))
theorem zga_9 {e : zm_D} {k : Int} : zDg e 9 k = e 9 k := zDg_n (zFn_row (by decide +kernel))
theorem zgua_9 {e : zm_D} {k x : Int} : zm_u (zDg e) 9 k x = zDg (zm_u e 9 k x) := zDg_u (zFn_row (by decide +kernel))
theorem zg_10_0 {e : zm_D} : zDg e 10 0 = 11 := zDg_f (by decide +kernel)
theorem zg_10_1 {e : zm_D} : zDg e 10 1 = e 10 1 := zDg_n (by decide +kernel)
theorem zgu_10_1 {e : zm_D} {x : Int} : zm_u (zDg e) 10 1 x = zDg (zm_u e 10 1 x) := zDg_u (by decide +kernel)
theorem zg_10_2 {e : zm_D} : zDg e 10 2 = e 10 2 := zDg_n (by decide +kernel)
theorem zgu_10_2 {e : zm_D} {x : Int} : zm_u (zDg e) 10 2 x = zDg (zm_u e 10 2 x) := zDg_u (by decide +kernel)
theorem zga_11 {e : zm_D} {k : Int} : zDg e 11 k = e 11 k := zDg_n (zFn_row (by decide +kernel))
theorem zgua_11 {e : zm_D} {k x : Int} : zm_u (zDg e) 11 k x = zDg (zm_u e 11 k x) := zDg_u (zFn_row (by decide +kernel))
theorem zg_12_0 {e : zm_D} : zDg e 12 0 = 13 := zDg_f (by decide +kernel)
theorem zg_12_1 {e : zm_D} : zDg e 12 1 = 14 := zDg_f (by decide +kernel)
theorem zg_12_2 {e : zm_D} : zDg e 12 2 = e 12 2 := zDg_n (by decide +kernel)
theorem zgu_12_2 {e : zm_D} {x : Int} : zm_u (zDg e) 12 2 x = zDg (zm_u e 12 2 x) := zDg_u (by decide +kernel)
theorem zg_12_3 {e : zm_D} : zDg e 12 3 = e 12 3 := zDg_n (by decide +kernel)
theorem zgu_12_3 {e : zm_D} {x : Int} : zm_u (zDg e) 12 3 x = zDg (zm_u e 12 3 x) := zDg_u (by decide +kernel)
theorem zg_12_4 {e : zm_D} : zDg e 12 4 = e 12 4 := zDg_n (by decide +kernel)
theorem zgu_12_4 {e : zm_D} {x : Int} : zm_u (zDg e) 12 4 x = zDg (zm_u e 12 4 x) := zDg_u (by decide +kernel)
theorem zga_13 {e : zm_D} {k : Int} : zDg e 13 k = e 13 k := zDg_n (zFn_row (by decide +kernel))
theorem zgua_13 {e : zm_D} {k x : Int} : zm_u (zDg e) 13 k x = zDg (zm_u e 13 k x) := zDg_u (zFn_row (by decide +kernel))
theorem zga_14 {e : zm_D} {k : Int} : zDg e 14 k = e 14 k := zDg_n (zFn_row (by decide +kernel))
theorem zgua_14 {e : zm_D} {k x : Int} : zm_u (zDg e) 14 k x = zDg (zm_u e 14 k x) := zDg_u (zFn_row (by decide +kernel))
theorem zg_15_0 {e : zm_D} : zDg e 15 0 = 16 := zDg_f (by decide +kernel)
theorem zg_15_1 {e : zm_D} : zDg e 15 1 = e 15 1 := zDg_n (by decide +kernel)
theorem zgu_15_1 {e : zm_D} {x : Int} : zm_u (zDg e) 15 1 x = zDg (zm_u e 15 1 x) := zDg_u (by decide +kernel)
theorem zg_15_2 {e : zm_D} : zDg e 15 2 = e 15 2 := zDg_n (by decide +kernel)
theorem zgu_15_2 {e : zm_D} {x : Int} : zm_u (zDg e) 15 2 x = zDg (zm_u e 15 2 x) := zDg_u (by decide +kernel)
theorem zg_15_3 {e : zm_D} : zDg e 15 3 = e 15 3 := zDg_n (by decide +kernel)
theorem zgu_15_3 {e : zm_D} {x : Int} : zm_u (zDg e) 15 3 x = zDg (zm_u e 15 3 x) := zDg_u (by decide +kernel)
theorem zg_15_4 {e : zm_D} : zDg e 15 4 = e 15 4 := zDg_n (by decide +kernel)
theorem zgu_15_4 {e : zm_D} {x : Int} : zm_u (zDg e) 15 4 x = zDg (zm_u e 15 4 x) := zDg_u (by decide +kernel)
theorem zg_15_5 {e : zm_D} : zDg e 15 5 = e 15 5 := zDg_n (by decide +kernel)
theorem zgu_15_5 {e : zm_D} {x : Int} : zm_u (zDg e) 15 5 x = zDg (zm_u e 15 5 x) := zDg_u (by decide +kernel)
theorem zg_15_6 {e : zm_D} : zDg e 15 6 = e 15 6 := zDg_n (by decide +kernel)
theorem zgu_15_6 {e : zm_D} {x : Int} : zm_u (zDg e) 15 6 x = zDg (zm_u e 15 6 x) := zDg_u (by decide +kernel)
theorem zg_15_7 {e : zm_D} : zDg e 15 7 = e 15 7 := zDg_n (by decide +kernel)
theorem zgu_15_7 {e : zm_D} {x : Int} : zm_u (zDg e) 15 7 x = zDg (zm_u e 15 7 x) := zDg_u (by decide +kernel)
theorem zg_15_8 {e : zm_D} : zDg e 15 8 = e 15 8 := zDg_n (by decide +kernel)
theorem zgu_15_8 {e : zm_D} {x : Int} : zm_u (zDg e) 15 8 x = zDg (zm_u e 15 8 x) := zDg_u (by decide +kernel)
theorem zg_15_9 {e : zm_D} : zDg e 15 9 = e 15 9 := zDg_n (by decide +kernel)
theorem zgu_15_9 {e : zm_D} {x : Int} : zm_u (zDg e) 15 9 x = zDg (zm_u e 15 9 x) := zDg_u (by decide +kernel)
theorem zg_15_10 {e : zm_D} : zDg e 15 10 = e 15 10 := zDg_n (by decide +kernel)
theorem zgu_15_10 {e : zm_D} {x : Int} : zm_u (zDg e) 15 10 x = zDg (zm_u e 15 10 x) := zDg_u (by decide +kernel)
theorem zg_15_11 {e : zm_D} : zDg e 15 11 = e 15 11 := zDg_n (by decide +kernel)
theorem zgu_15_11 {e : zm_D} {x : Int} : zm_u (zDg e) 15 11 x = zDg (zm_u e 15 11 x) := zDg_u (by decide +kernel)
theorem zg_15_12 {e : zm_D} : zDg e 15 12 = e 15 12 := zDg_n (by decide +kernel)
theorem zgu_15_12 {e : zm_D} {x : Int} : zm_u (zDg e) 15 12 x = zDg (zm_u e 15 12 x) := zDg_u (by decide +kernel)
theorem zga_16 {e : zm_D} {k : Int} : zDg e 16 k = e 16 k := zDg_n (zFn_row (by decide +kernel))
theorem zgua_16 {e : zm_D} {k x : Int} : zm_u (zDg e) 16 k x = zDg (zm_u e 16 k x) := zDg_u (zFn_row (by decide +kernel))
theorem zg_17_0 {e : zm_D} : zDg e 17 0 = 18 := zDg_f (by decide +kernel)
theorem zg_17_1 {e : zm_D} : zDg e 17 1 = e 17 1 := zDg_n (by decide +kernel)
theorem zgu_17_1 {e : zm_D} {x : Int} : zm_u (zDg e) 17 1 x = zDg (zm_u e 17 1 x) := zDg_u (by decide +kernel)
theorem zg_17_2 {e : zm_D} : zDg e 17 2 = e 17 2 := zDg_n (by decide +kernel)
theorem zgu_17_2 {e : zm_D} {x : Int} : zm_u (zDg e) 17 2 x = zDg (zm_u e 17 2 x) := zDg_u (by decide +kernel)
theorem zg_17_3 {e : zm_D} : zDg e 17 3 = e 17 3 := zDg_n (by decide +kernel)
theorem zgu_17_3 {e : zm_D} {x : Int} : zm_u (zDg e) 17 3 x = zDg (zm_u e 17 3 x) := zDg_u (by decide +kernel)
theorem zg_17_4 {e : zm_D} : zDg e 17 4 = e 17 4 := zDg_n (by decide +kernel)
theorem zgu_17_4 {e : zm_D} {x : Int} : zm_u (zDg e) 17 4 x = zDg (zm_u e 17 4 x) := zDg_u (by decide +kernel)
theorem zg_17_5 {e : zm_D} : zDg e 17 5 = e 17 5 := zDg_n (by decide +kernel)
theorem zgu_17_5 {e : zm_D} {x : Int} : zm_u (zDg e) 17 5 x = zDg (zm_u e 17 5 x) := zDg_u (by decide +kernel)
theorem zg_17_6 {e : zm_D} : zDg e 17 6 = e 17 6 := zDg_n (by decide +kernel)
theorem zgu_17_6 {e : zm_D} {x : Int} : zm_u (zDg e) 17 6 x = zDg (zm_u e 17 6 x) := zDg_u (by decide +kernel)
theorem zg_17_7 {e : zm_D} : zDg e 17 7 = e 17 7 := zDg_n (by decide +kernel)
theorem zgu_17_7 {e : zm_D} {x : Int} : zm_u (zDg e) 17 7 x = zDg (zm_u e 17 7 x) := zDg_u (by decide +kernel)
theorem zg_17_8 {e : zm_D} : zDg e 17 8 = e 17 8 := zDg_n (by decide +kernel)
theorem zgu_17_8 {e : zm_D} {x : Int} : zm_u (zDg e) 17 8 x = zDg (zm_u e 17 8 x) := zDg_u (by decide +kernel)
theorem zg_17_9 {e : zm_D} : zDg e 17 9 = e 17 9 := zDg_n (by decide +kernel)
theorem zgu_17_9 {e : zm_D} {x : Int} : zm_u (zDg e) 17 9 x = zDg (zm_u e 17 9 x) := zDg_u (by decide +kernel)
theorem zg_17_10 {e : zm_D} : zDg e 17 10 = e 17 10 := zDg_n (by decide +kernel)
theorem zgu_17_10 {e : zm_D} {x : Int} : zm_u (zDg e) 17 10 x = zDg (zm_u e 17 10 x) := zDg_u (by decide +kernel)
theorem zg_17_11 {e : zm_D} : zDg e 17 11 = e 17 11 := zDg_n (by decide +kernel)
theorem zgu_17_11 {e : zm_D} {x : Int} : zm_u (zDg e) 17 11 x = zDg (zm_u e 17 11 x) := zDg_u (by decide +kernel)
theorem zg_17_12 {e : zm_D} : zDg e 17 12 = e 17 12 := zDg_n (by decide +kernel)
theorem zgu_17_12 {e : zm_D} {x : Int} : zm_u (zDg e) 17 12 x = zDg (zm_u e 17 12 x) := zDg_u (by decide +kernel)
theorem zga_18 {e : zm_D} {k : Int} : zDg e 18 k = e 18 k := zDg_n (zFn_row (by decide +kernel))
theorem zgua_18 {e : zm_D} {k x : Int} : zm_u (zDg e) 18 k x = zDg (zm_u e 18 k x) := zDg_u (zFn_row (by decide +kernel))
theorem zg_19_0 {e : zm_D} : zDg e 19 0 = 20 := zDg_f (by decide +kernel)
theorem zg_19_1 {e : zm_D} : zDg e 19 1 = e 19 1 := zDg_n (by decide +kernel)
theorem zgu_19_1 {e : zm_D} {x : Int} : zm_u (zDg e) 19 1 x = zDg (zm_u e 19 1 x) := zDg_u (by decide +kernel)
theorem zg_19_2 {e : zm_D} : zDg e 19 2 = e 19 2 := zDg_n (by decide +kernel)
theorem zgu_19_2 {e : zm_D} {x : Int} : zm_u (zDg e) 19 2 x = zDg (zm_u e 19 2 x) := zDg_u (by decide +kernel)
theorem zg_19_3 {e : zm_D} : zDg e 19 3 = e 19 3 := zDg_n (by decide +kernel)
theorem zgu_19_3 {e : zm_D} {x : Int} : zm_u (zDg e) 19 3 x = zDg (zm_u e 19 3 x) := zDg_u (by decide +kernel)
theorem zg_19_4 {e : zm_D} : zDg e 19 4 = e 19 4 := zDg_n (by decide +kernel)
theorem zgu_19_4 {e : zm_D} {x : Int} : zm_u (zDg e) 19 4 x = zDg (zm_u e 19 4 x) := zDg_u (by decide +kernel)
theorem zg_19_5 {e : zm_D} : zDg e 19 5 = e 19 5 := zDg_n (by decide +kernel)
theorem zgu_19_5 {e : zm_D} {x : Int} : zm_u (zDg e) 19 5 x = zDg (zm_u e 19 5 x) := zDg_u (by decide +kernel)
theorem zg_19_6 {e : zm_D} : zDg e 19 6 = e 19 6 := zDg_n (by decide +kernel)
theorem zgu_19_6 {e : zm_D} {x : Int} : zm_u (zDg e) 19 6 x = zDg (zm_u e 19 6 x) := zDg_u (by decide +kernel)
theorem zg_19_7 {e : zm_D} : zDg e 19 7 = e 19 7 := zDg_n (by decide +kernel)
theorem zgu_19_7 {e : zm_D} {x : Int} : zm_u (zDg e) 19 7 x = zDg (zm_u e 19 7 x) := zDg_u (by decide +kernel)
theorem zg_19_8 {e : zm_D} : zDg e 19 8 = e 19 8 := zDg_n (by decide +kernel)
theorem zgu_19_8 {e : zm_D} {x : Int} : zm_u (zDg e) 19 8 x = zDg (zm_u e 19 8 x) := zDg_u (by decide +kernel)
theorem zg_19_9 {e : zm_D} : zDg e 19 9 = e 19 9 := zDg_n (by decide +kernel)
theorem zgu_19_9 {e : zm_D} {x : Int} : zm_u (zDg e) 19 9 x = zDg (zm_u e 19 9 x) := zDg_u (by decide +kernel)
theorem zg_19_10 {e : zm_D} : zDg e 19 10 = e 19 10 := zDg_n (by decide +kernel)
theorem zgu_19_10 {e : zm_D} {x : Int} : zm_u (zDg e) 19 10 x = zDg (zm_u e 19 10 x) := zDg_u (by decide +kernel)
theorem zg_19_11 {e : zm_D} : zDg e 19 11 = e 19 11 := zDg_n (by decide +kernel)
theorem zgu_19_11 {e : zm_D} {x : Int} : zm_u (zDg e) 19 11 x = zDg (zm_u e 19 11 x) := zDg_u (by decide +kernel)
theorem zg_19_12 {e : zm_D} : zDg e 19 12 = e 19 12 := zDg_n (by decide +kernel)
theorem zgu_19_12 {e : zm_D} {x : Int} : zm_u (zDg e) 19 12 x = zDg (zm_u e 19 12 x) := zDg_u (by decide +kernel)
theorem zga_20 {e : zm_D} {k : Int} : zDg e 20 k = e 20 k := zDg_n (zFn_row (by decide +kernel))
theorem zgua_20 {e : zm_D} {k x : Int} : zm_u (zDg e) 20 k x = zDg (zm_u e 20 k x) := zDg_u (zFn_row (by decide +kernel))
theorem zg_21_0 {e : zm_D} : zDg e 21 0 = 22 := zDg_f (by decide +kernel)
theorem zg_21_1 {e : zm_D} : zDg e 21 1 = e 21 1 := zDg_n (by decide +kernel)
theorem zgu_21_1 {e : zm_D} {x : Int} : zm_u (zDg e) 21 1 x = zDg (zm_u e 21 1 x) := zDg_u (by decide +kernel)
theorem zg_21_2 {e : zm_D} : zDg e 21 2 = e 21 2 := zDg_n (by decide +kernel)
theorem zgu_21_2 {e : zm_D} {x : Int} : zm_u (zDg e) 21 2 x = zDg (zm_u e 21 2 x) := zDg_u (by decide +kernel)
theorem zg_21_3 {e : zm_D} : zDg e 21 3 = e 21 3 := zDg_n (by decide +kernel)
theorem zgu_21_3 {e : zm_D} {x : Int} : zm_u (zDg e) 21 3 x = zDg (zm_u e 21 3 x) := zDg_u (by decide +kernel)
theorem zg_21_4 {e : zm_D} : zDg e 21 4 = e 21 4 := zDg_n (by decide +kernel)
theorem zgu_21_4 {e : zm_D} {x : Int} : zm_u (zDg e) 21 4 x = zDg (zm_u e 21 4 x) := zDg_u (by decide +kernel)
theorem zg_21_5 {e : zm_D} : zDg e 21 5 = e 21 5 := zDg_n (by decide +kernel)
theorem zgu_21_5 {e : zm_D} {x : Int} : zm_u (zDg e) 21 5 x = zDg (zm_u e 21 5 x) := zDg_u (by decide +kernel)
theorem zg_21_6 {e : zm_D} : zDg e 21 6 = e 21 6 := zDg_n (by decide +kernel)
theorem zgu_21_6 {e : zm_D} {x : Int} : zm_u (zDg e) 21 6 x = zDg (zm_u e 21 6 x) := zDg_u (by decide +kernel)
theorem zg_21_7 {e : zm_D} : zDg e 21 7 = e 21 7 := zDg_n (by decide +kernel)
theorem zgu_21_7 {e : zm_D} {x : Int} : zm_u (zDg e) 21 7 x = zDg (zm_u e 21 7 x) := zDg_u (by decide +kernel)
theorem zg_21_8 {e : zm_D} : zDg e 21 8 = e 21 8 := zDg_n (by decide +kernel)
theorem zgu_21_8 {e : zm_D} {x : Int} : zm_u (zDg e) 21 8 x = zDg (zm_u e 21 8 x) := zDg_u (by decide +kernel)
theorem zg_21_9 {e : zm_D} : zDg e 21 9 = e 21 9 := zDg_n (by decide +kernel)
theorem zgu_21_9 {e : zm_D} {x : Int} : zm_u (zDg e) 21 9 x = zDg (zm_u e 21 9 x) := zDg_u (by decide +kernel)
theorem zg_21_10 {e : zm_D} : zDg e 21 10 = e 21 10 := zDg_n (by decide +kernel)
theorem zgu_21_10 {e : zm_D} {x : Int} : zm_u (zDg e) 21 10 x = zDg (zm_u e 21 10 x) := zDg_u (by decide +kernel)
theorem zg_21_11 {e : zm_D} : zDg e 21 11 = e 21 11 := zDg_n (by decide +kernel)
theorem zgu_21_11 {e : zm_D} {x : Int} : zm_u (zDg e) 21 11 x = zDg (zm_u e 21 11 x) := zDg_u (by decide +kernel)
theorem zg_21_12 {e : zm_D} : zDg e 21 12 = e 21 12 := zDg_n (by decide +kernel)
theorem zgu_21_12 {e : zm_D} {x : Int} : zm_u (zDg e) 21 12 x = zDg (zm_u e 21 12 x) := zDg_u (by decide +kernel)
theorem zga_22 {e : zm_D} {k : Int} : zDg e 22 k = e 22 k := zDg_n (zFn_row (by decide +kernel))
theorem zgua_22 {e : zm_D} {k x : Int} : zm_u (zDg e) 22 k x = zDg (zm_u e 22 k x) := zDg_u (zFn_row (by decide +kernel))
theorem zg_23_0 {e : zm_D} : zDg e 23 0 = 24 := zDg_f (by decide +kernel)
theorem zg_23_1 {e : zm_D} : zDg e 23 1 = e 23 1 := zDg_n (by decide +kernel)
theorem zgu_23_1 {e : zm_D} {x : Int} : zm_u (zDg e) 23 1 x = zDg (zm_u e 23 1 x) := zDg_u (by decide +kernel)
theorem zg_23_2 {e : zm_D} : zDg e 23 2 = e 23 2 := zDg_n (by decide +kernel)
theorem zgu_23_2 {e : zm_D} {x : Int} : zm_u (zDg e) 23 2 x = zDg (zm_u e 23 2 x) := zDg_u (by decide +kernel)
theorem zg_23_3 {e : zm_D} : zDg e 23 3 = e 23 3 := zDg_n (by decide +kernel)
theorem zgu_23_3 {e : zm_D} {x : Int} : zm_u (zDg e) 23 3 x = zDg (zm_u e 23 3 x) := zDg_u (by decide +kernel)
theorem zg_23_4 {e : zm_D} : zDg e 23 4 = e 23 4 := zDg_n (by decide +kernel)
theorem zgu_23_4 {e : zm_D} {x : Int} : zm_u (zDg e) 23 4 x = zDg (zm_u e 23 4 x) := zDg_u (by decide +kernel)
theorem zg_23_5 {e : zm_D} : zDg e 23 5 = e 23 5 := zDg_n (by decide +kernel)
theorem zgu_23_5 {e : zm_D} {x : Int} : zm_u (zDg e) 23 5 x = zDg (zm_u e 23 5 x) := zDg_u (by decide +kernel)
theorem zg_23_6 {e : zm_D} : zDg e 23 6 = e 23 6 := zDg_n (by decide +kernel)
theorem zgu_23_6 {e : zm_D} {x : Int} : zm_u (zDg e) 23 6 x = zDg (zm_u e 23 6 x) := zDg_u (by decide +kernel)
theorem zg_23_7 {e : zm_D} : zDg e 23 7 = e 23 7 := zDg_n (by decide +kernel)
theorem zgu_23_7 {e : zm_D} {x : Int} : zm_u (zDg e) 23 7 x = zDg (zm_u e 23 7 x) := zDg_u (by decide +kernel)
theorem zg_23_8 {e : zm_D} : zDg e 23 8 = e 23 8 := zDg_n (by decide +kernel)
theorem zgu_23_8 {e : zm_D} {x : Int} : zm_u (zDg e) 23 8 x = zDg (zm_u e 23 8 x) := zDg_u (by decide +kernel)
theorem zg_23_9 {e : zm_D} : zDg e 23 9 = e 23 9 := zDg_n (by decide +kernel)
theorem zgu_23_9 {e : zm_D} {x : Int} : zm_u (zDg e) 23 9 x = zDg (zm_u e 23 9 x) := zDg_u (by decide +kernel)
theorem zg_23_10 {e : zm_D} : zDg e 23 10 = e 23 10 := zDg_n (by decide +kernel)
theorem zgu_23_10 {e : zm_D} {x : Int} : zm_u (zDg e) 23 10 x = zDg (zm_u e 23 10 x) := zDg_u (by decide +kernel)
theorem zg_23_11 {e : zm_D} : zDg e 23 11 = e 23 11 := zDg_n (by decide +kernel)
theorem zgu_23_11 {e : zm_D} {x : Int} : zm_u (zDg e) 23 11 x = zDg (zm_u e 23 11 x) := zDg_u (by decide +kernel)
theorem zg_23_12 {e : zm_D} : zDg e 23 12 = e 23 12 := zDg_n (by decide +kernel)
theorem zgu_23_12 {e : zm_D} {x : Int} : zm_u (zDg e) 23 12 x = zDg (zm_u e 23 12 x) := zDg_u (by decide +kernel)
theorem zga_24 {e : zm_D} {k : Int} : zDg e 24 k = e 24 k := zDg_n (zFn_row (by decide +kernel))
theorem zgua_24 {e : zm_D} {k x : Int} : zm_u (zDg e) 24 k x = zDg (zm_u e 24 k x) := zDg_u (zFn_row (by decide +kernel))
theorem zg_25_0 {e : zm_D} : zDg e 25 0 = 26 := zDg_f (by decide +kernel)
theorem zg_25_1 {e : zm_D} : zDg e 25 1 = e 25 1 := zDg_n (by decide +kernel)
theorem zgu_25_1 {e : zm_D} {x : Int} : zm_u (zDg e) 25 1 x = zDg (zm_u e 25 1 x) := zDg_u (by decide +kernel)
theorem zg_25_2 {e : zm_D} : zDg e 25 2 = e 25 2 := zDg_n (by decide +kernel)
theorem zgu_25_2 {e : zm_D} {x : Int} : zm_u (zDg e) 25 2 x = zDg (zm_u e 25 2 x) := zDg_u (by decide +kernel)
theorem zg_25_3 {e : zm_D} : zDg e 25 3 = e 25 3 := zDg_n (by decide +kernel)
theorem zgu_25_3 {e : zm_D} {x : Int} : zm_u (zDg e) 25 3 x = zDg (zm_u e 25 3 x) := zDg_u (by decide +kernel)
theorem zg_25_4 {e : zm_D} : zDg e 25 4 = e 25 4 := zDg_n (by decide +kernel)
theorem zgu_25_4 {e : zm_D} {x : Int} : zm_u (zDg e) 25 4 x = zDg (zm_u e 25 4 x) := zDg_u (by decide +kernel)
theorem zg_25_5 {e : zm_D} : zDg e 25 5 = e 25 5 := zDg_n (by decide +kernel)
theorem zgu_25_5 {e : zm_D} {x : Int} : zm_u (zDg e) 25 5 x = zDg (zm_u e 25 5 x) := zDg_u (by decide +kernel)
theorem zg_25_6 {e : zm_D} : zDg e 25 6 = e 25 6 := zDg_n (by decide +kernel)
theorem zgu_25_6 {e : zm_D} {x : Int} : zm_u (zDg e) 25 6 x = zDg (zm_u e 25 6 x) := zDg_u (by decide +kernel)
theorem zg_25_7 {e : zm_D} : zDg e 25 7 = e 25 7 := zDg_n (by decide +kernel)
theorem zgu_25_7 {e : zm_D} {x : Int} : zm_u (zDg e) 25 7 x = zDg (zm_u e 25 7 x) := zDg_u (by decide +kernel)
theorem zg_25_8 {e : zm_D} : zDg e 25 8 = e 25 8 := zDg_n (by decide +kernel)
theorem zgu_25_8 {e : zm_D} {x : Int} : zm_u (zDg e) 25 8 x = zDg (zm_u e 25 8 x) := zDg_u (by decide +kernel)
theorem zg_25_9 {e : zm_D} : zDg e 25 9 = e 25 9 := zDg_n (by decide +kernel)
theorem zgu_25_9 {e : zm_D} {x : Int} : zm_u (zDg e) 25 9 x = zDg (zm_u e 25 9 x) := zDg_u (by decide +kernel)
theorem zg_25_10 {e : zm_D} : zDg e 25 10 = e 25 10 := zDg_n (by decide +kernel)
theorem zgu_25_10 {e : zm_D} {x : Int} : zm_u (zDg e) 25 10 x = zDg (zm_u e 25 10 x) := zDg_u (by decide +kernel)
theorem zg_25_11 {e : zm_D} : zDg e 25 11 = e 25 11 := zDg_n (by decide +kernel)
theorem zgu_25_11 {e : zm_D} {x : Int} : zm_u (zDg e) 25 11 x = zDg (zm_u e 25 11 x) := zDg_u (by decide +kernel)
theorem zg_25_12 {e : zm_D} : zDg e 25 12 = e 25 12 := zDg_n (by decide +kernel)
theorem zgu_25_12 {e : zm_D} {x : Int} : zm_u (zDg e) 25 12 x = zDg (zm_u e 25 12 x) := zDg_u (by decide +kernel)
theorem zga_26 {e : zm_D} {k : Int} : zDg e 26 k = e 26 k := zDg_n (zFn_row (by decide +kernel))
theorem zgua_26 {e : zm_D} {k x : Int} : zm_u (zDg e) 26 k x = zDg (zm_u e 26 k x) := zDg_u (zFn_row (by decide +kernel))
theorem zg_27_0 {e : zm_D} : zDg e 27 0 = 28 := zDg_f (by decide +kernel)
theorem zg_27_1 {e : zm_D} : zDg e 27 1 = e 27 1 := zDg_n (by decide +kernel)
theorem zgu_27_1 {e : zm_D} {x : Int} : zm_u (zDg e) 27 1 x = zDg (zm_u e 27 1 x) := zDg_u (by decide +kernel)
theorem zg_27_2 {e : zm_D} : zDg e 27 2 = e 27 2 := zDg_n (by decide +kernel)
theorem zgu_27_2 {e : zm_D} {x : Int} : zm_u (zDg e) 27 2 x = zDg (zm_u e 27 2 x) := zDg_u (by decide +kernel)
theorem zg_27_3 {e : zm_D} : zDg e 27 3 = e 27 3 := zDg_n (by decide +kernel)
theorem zgu_27_3 {e : zm_D} {x : Int} : zm_u (zDg e) 27 3 x = zDg (zm_u e 27 3 x) := zDg_u (by decide +kernel)
theorem zg_27_4 {e : zm_D} : zDg e 27 4 = e 27 4 := zDg_n (by decide +kernel)
theorem zgu_27_4 {e : zm_D} {x : Int} : zm_u (zDg e) 27 4 x = zDg (zm_u e 27 4 x) := zDg_u (by decide +kernel)
theorem zg_27_5 {e : zm_D} : zDg e 27 5 = e 27 5 := zDg_n (by decide +kernel)
theorem zgu_27_5 {e : zm_D} {x : Int} : zm_u (zDg e) 27 5 x = zDg (zm_u e 27 5 x) := zDg_u (by decide +kernel)
theorem zg_27_6 {e : zm_D} : zDg e 27 6 = e 27 6 := zDg_n (by decide +kernel)
theorem zgu_27_6 {e : zm_D} {x : Int} : zm_u (zDg e) 27 6 x = zDg (zm_u e 27 6 x) := zDg_u (by decide +kernel)
theorem zg_27_7 {e : zm_D} : zDg e 27 7 = e 27 7 := zDg_n (by decide +kernel)
theorem zgu_27_7 {e : zm_D} {x : Int} : zm_u (zDg e) 27 7 x = zDg (zm_u e 27 7 x) := zDg_u (by decide +kernel)
theorem zg_27_8 {e : zm_D} : zDg e 27 8 = e 27 8 := zDg_n (by decide +kernel)
theorem zgu_27_8 {e : zm_D} {x : Int} : zm_u (zDg e) 27 8 x = zDg (zm_u e 27 8 x) := zDg_u (by decide +kernel)
theorem zg_27_9 {e : zm_D} : zDg e 27 9 = e 27 9 := zDg_n (by decide +kernel)
theorem zgu_27_9 {e : zm_D} {x : Int} : zm_u (zDg e) 27 9 x = zDg (zm_u e 27 9 x) := zDg_u (by decide +kernel)
theorem zg_27_10 {e : zm_D} : zDg e 27 10 = e 27 10 := zDg_n (by decide +kernel)
theorem zgu_27_10 {e : zm_D} {x : Int} : zm_u (zDg e) 27 10 x = zDg (zm_u e 27 10 x) := zDg_u (by decide +kernel)
theorem zg_27_11 {e : zm_D} : zDg e 27 11 = e 27 11 := zDg_n (by decide +kernel)
theorem zgu_27_11 {e : zm_D} {x : Int} : zm_u (zDg e) 27 11 x = zDg (zm_u e 27 11 x) := zDg_u (by decide +kernel)
theorem zg_27_12 {e : zm_D} : zDg e 27 12 = e 27 12 := zDg_n (by decide +kernel)
theorem zgu_27_12 {e : zm_D} {x : Int} : zm_u (zDg e) 27 12 x = zDg (zm_u e 27 12 x) := zDg_u (by decide +kernel)
theorem zga_28 {e : zm_D} {k : Int} : zDg e 28 k = e 28 k := zDg_n (zFn_row (by decide +kernel))
theorem zgua_28 {e : zm_D} {k x : Int} : zm_u (zDg e) 28 k x = zDg (zm_u e 28 k x) := zDg_u (zFn_row (by decide +kernel))
theorem zg_29_0 {e : zm_D} : zDg e 29 0 = 30 := zDg_f (by decide +kernel)
theorem zg_29_1 {e : zm_D} : zDg e 29 1 = e 29 1 := zDg_n (by decide +kernel)
theorem zgu_29_1 {e : zm_D} {x : Int} : zm_u (zDg e) 29 1 x = zDg (zm_u e 29 1 x) := zDg_u (by decide +kernel)
theorem zg_29_2 {e : zm_D} : zDg e 29 2 = e 29 2 := zDg_n (by decide +kernel)
theorem zgu_29_2 {e : zm_D} {x : Int} : zm_u (zDg e) 29 2 x = zDg (zm_u e 29 2 x) := zDg_u (by decide +kernel)
theorem zg_29_3 {e : zm_D} : zDg e 29 3 = e 29 3 := zDg_n (by decide +kernel)
theorem zgu_29_3 {e : zm_D} {x : Int} : zm_u (zDg e) 29 3 x = zDg (zm_u e 29 3 x) := zDg_u (by decide +kernel)
theorem zg_29_4 {e : zm_D} : zDg e 29 4 = e 29 4 := zDg_n (by decide +kernel)
theorem zgu_29_4 {e : zm_D} {x : Int} : zm_u (zDg e) 29 4 x = zDg (zm_u e 29 4 x) := zDg_u (by decide +kernel)
theorem zg_29_5 {e : zm_D} : zDg e 29 5 = e 29 5 := zDg_n (by decide +kernel)
theorem zgu_29_5 {e : zm_D} {x : Int} : zm_u (zDg e) 29 5 x = zDg (zm_u e 29 5 x) := zDg_u (by decide +kernel)
theorem zg_29_6 {e : zm_D} : zDg e 29 6 = e 29 6 := zDg_n (by decide +kernel)
theorem zgu_29_6 {e : zm_D} {x : Int} : zm_u (zDg e) 29 6 x = zDg (zm_u e 29 6 x) := zDg_u (by decide +kernel)
theorem zg_29_7 {e : zm_D} : zDg e 29 7 = e 29 7 := zDg_n (by decide +kernel)
theorem zgu_29_7 {e : zm_D} {x : Int} : zm_u (zDg e) 29 7 x = zDg (zm_u e 29 7 x) := zDg_u (by decide +kernel)
theorem zg_29_8 {e : zm_D} : zDg e 29 8 = e 29 8 := zDg_n (by decide +kernel)
theorem zgu_29_8 {e : zm_D} {x : Int} : zm_u (zDg e) 29 8 x = zDg (zm_u e 29 8 x) := zDg_u (by decide +kernel)
theorem zg_29_9 {e : zm_D} : zDg e 29 9 = e 29 9 := zDg_n (by decide +kernel)
theorem zgu_29_9 {e : zm_D} {x : Int} : zm_u (zDg e) 29 9 x = zDg (zm_u e 29 9 x) := zDg_u (by decide +kernel)
theorem zg_29_10 {e : zm_D} : zDg e 29 10 = e 29 10 := zDg_n (by decide +kernel)
theorem zgu_29_10 {e : zm_D} {x : Int} : zm_u (zDg e) 29 10 x = zDg (zm_u e 29 10 x) := zDg_u (by decide +kernel)
theorem zg_29_11 {e : zm_D} : zDg e 29 11 = e 29 11 := zDg_n (by decide +kernel)
theorem zgu_29_11 {e : zm_D} {x : Int} : zm_u (zDg e) 29 11 x = zDg (zm_u e 29 11 x) := zDg_u (by decide +kernel)
theorem zg_29_12 {e : zm_D} : zDg e 29 12 = e 29 12 := zDg_n (by decide +kernel)
theorem zgu_29_12 {e : zm_D} {x : Int} : zm_u (zDg e) 29 12 x = zDg (zm_u e 29 12 x) := zDg_u (by decide +kernel)
theorem zga_30 {e : zm_D} {k : Int} : zDg e 30 k = e 30 k := zDg_n (zFn_row (by decide +kernel))
theorem zgua_30 {e : zm_D} {k x : Int} : zm_u (zDg e) 30 k x = zDg (zm_u e 30 k x) := zDg_u (zFn_row (by decide +kernel))
theorem zg_31_0 {e : zm_D} : zDg e 31 0 = 4 := zDg_f (by decide +kernel)
theorem zg_31_1 {e : zm_D} : zDg e 31 1 = e 31 1 := zDg_n (by decide +kernel)
theorem zgu_31_1 {e : zm_D} {x : Int} : zm_u (zDg e) 31 1 x = zDg (zm_u e 31 1 x) := zDg_u (by decide +kernel)
theorem zg_31_2 {e : zm_D} : zDg e 31 2 = e 31 2 := zDg_n (by decide +kernel)
theorem zgu_31_2 {e : zm_D} {x : Int} : zm_u (zDg e) 31 2 x = zDg (zm_u e 31 2 x) := zDg_u (by decide +kernel)
theorem zg_31_3 {e : zm_D} : zDg e 31 3 = e 31 3 := zDg_n (by decide +kernel)
theorem zgu_31_3 {e : zm_D} {x : Int} : zm_u (zDg e) 31 3 x = zDg (zm_u e 31 3 x) := zDg_u (by decide +kernel)
theorem zg_31_4 {e : zm_D} : zDg e 31 4 = e 31 4 := zDg_n (by decide +kernel)
theorem zgu_31_4 {e : zm_D} {x : Int} : zm_u (zDg e) 31 4 x = zDg (zm_u e 31 4 x) := zDg_u (by decide +kernel)
theorem zg_32_0 {e : zm_D} : zDg e 32 0 = 4 := zDg_f (by decide +kernel)
theorem zg_32_1 {e : zm_D} : zDg e 32 1 = e 32 1 := zDg_n (by decide +kernel)
theorem zgu_32_1 {e : zm_D} {x : Int} : zm_u (zDg e) 32 1 x = zDg (zm_u e 32 1 x) := zDg_u (by decide +kernel)
theorem zg_32_2 {e : zm_D} : zDg e 32 2 = e 32 2 := zDg_n (by decide +kernel)
theorem zgu_32_2 {e : zm_D} {x : Int} : zm_u (zDg e) 32 2 x = zDg (zm_u e 32 2 x) := zDg_u (by decide +kernel)
theorem zg_32_3 {e : zm_D} : zDg e 32 3 = e 32 3 := zDg_n (by decide +kernel)
theorem zgu_32_3 {e : zm_D} {x : Int} : zm_u (zDg e) 32 3 x = zDg (zm_u e 32 3 x) := zDg_u (by decide +kernel)
theorem zg_32_4 {e : zm_D} : zDg e 32 4 = e 32 4 := zDg_n (by decide +kernel)
theorem zgu_32_4 {e : zm_D} {x : Int} : zm_u (zDg e) 32 4 x = zDg (zm_u e 32 4 x) := zDg_u (by decide +kernel)
theorem zg_33_0 {e : zm_D} : zDg e 33 0 = 4 := zDg_f (by decide +kernel)
theorem zg_33_1 {e : zm_D} : zDg e 33 1 = e 33 1 := zDg_n (by decide +kernel)
theorem zgu_33_1 {e : zm_D} {x : Int} : zm_u (zDg e) 33 1 x = zDg (zm_u e 33 1 x) := zDg_u (by decide +kernel)
theorem zg_33_2 {e : zm_D} : zDg e 33 2 = e 33 2 := zDg_n (by decide +kernel)
theorem zgu_33_2 {e : zm_D} {x : Int} : zm_u (zDg e) 33 2 x = zDg (zm_u e 33 2 x) := zDg_u (by decide +kernel)
theorem zg_33_3 {e : zm_D} : zDg e 33 3 = e 33 3 := zDg_n (by decide +kernel)
theorem zgu_33_3 {e : zm_D} {x : Int} : zm_u (zDg e) 33 3 x = zDg (zm_u e 33 3 x) := zDg_u (by decide +kernel)
theorem zg_33_4 {e : zm_D} : zDg e 33 4 = e 33 4 := zDg_n (by decide +kernel)
theorem zgu_33_4 {e : zm_D} {x : Int} : zm_u (zDg e) 33 4 x = zDg (zm_u e 33 4 x) := zDg_u (by decide +kernel)
theorem zg_34_0 {e : zm_D} : zDg e 34 0 = 5 := zDg_f (by decide +kernel)
theorem zg_34_1 {e : zm_D} : zDg e 34 1 = 31 := zDg_f (by decide +kernel)
theorem zg_34_2 {e : zm_D} : zDg e 34 2 = 35 := zDg_f (by decide +kernel)
theorem zg_34_3 {e : zm_D} : zDg e 34 3 = 36 := zDg_f (by decide +kernel)
theorem zg_34_4 {e : zm_D} : zDg e 34 4 = e 34 4 := zDg_n (by decide +kernel)
theorem zgu_34_4 {e : zm_D} {x : Int} : zm_u (zDg e) 34 4 x = zDg (zm_u e 34 4 x) := zDg_u (by decide +kernel)
theorem zg_34_5 {e : zm_D} : zDg e 34 5 = e 34 5 := zDg_n (by decide +kernel)
theorem zgu_34_5 {e : zm_D} {x : Int} : zm_u (zDg e) 34 5 x = zDg (zm_u e 34 5 x) := zDg_u (by decide +kernel)
theorem zg_34_6 {e : zm_D} : zDg e 34 6 = e 34 6 := zDg_n (by decide +kernel)
theorem zgu_34_6 {e : zm_D} {x : Int} : zm_u (zDg e) 34 6 x = zDg (zm_u e 34 6 x) := zDg_u (by decide +kernel)
theorem zg_34_7 {e : zm_D} : zDg e 34 7 = e 34 7 := zDg_n (by decide +kernel)
theorem zgu_34_7 {e : zm_D} {x : Int} : zm_u (zDg e) 34 7 x = zDg (zm_u e 34 7 x) := zDg_u (by decide +kernel)
theorem zg_34_8 {e : zm_D} : zDg e 34 8 = e 34 8 := zDg_n (by decide +kernel)
theorem zgu_34_8 {e : zm_D} {x : Int} : zm_u (zDg e) 34 8 x = zDg (zm_u e 34 8 x) := zDg_u (by decide +kernel)
theorem zg_34_9 {e : zm_D} : zDg e 34 9 = e 34 9 := zDg_n (by decide +kernel)
theorem zgu_34_9 {e : zm_D} {x : Int} : zm_u (zDg e) 34 9 x = zDg (zm_u e 34 9 x) := zDg_u (by decide +kernel)
theorem zg_35_0 {e : zm_D} : zDg e 35 0 = 38 := zDg_f (by decide +kernel)
theorem zg_35_1 {e : zm_D} : zDg e 35 1 = 43 := zDg_f (by decide +kernel)
theorem zg_35_2 {e : zm_D} : zDg e 35 2 = 48 := zDg_f (by decide +kernel)
theorem zg_36_0 {e : zm_D} : zDg e 36 0 = 37 := zDg_f (by decide +kernel)
theorem zg_36_1 {e : zm_D} : zDg e 36 1 = e 36 1 := zDg_n (by decide +kernel)
theorem zgu_36_1 {e : zm_D} {x : Int} : zm_u (zDg e) 36 1 x = zDg (zm_u e 36 1 x) := zDg_u (by decide +kernel)
theorem zg_36_2 {e : zm_D} : zDg e 36 2 = e 36 2 := zDg_n (by decide +kernel)
theorem zgu_36_2 {e : zm_D} {x : Int} : zm_u (zDg e) 36 2 x = zDg (zm_u e 36 2 x) := zDg_u (by decide +kernel)
theorem zg_36_3 {e : zm_D} : zDg e 36 3 = e 36 3 := zDg_n (by decide +kernel)
theorem zgu_36_3 {e : zm_D} {x : Int} : zm_u (zDg e) 36 3 x = zDg (zm_u e 36 3 x) := zDg_u (by decide +kernel)
theorem zg_36_4 {e : zm_D} : zDg e 36 4 = e 36 4 := zDg_n (by decide +kernel)
theorem zgu_36_4 {e : zm_D} {x : Int} : zm_u (zDg e) 36 4 x = zDg (zm_u e 36 4 x) := zDg_u (by decide +kernel)
theorem zg_36_5 {e : zm_D} : zDg e 36 5 = e 36 5 := zDg_n (by decide +kernel)
theorem zgu_36_5 {e : zm_D} {x : Int} : zm_u (zDg e) 36 5 x = zDg (zm_u e 36 5 x) := zDg_u (by decide +kernel)
theorem zg_36_6 {e : zm_D} : zDg e 36 6 = e 36 6 := zDg_n (by decide +kernel)
theorem zgu_36_6 {e : zm_D} {x : Int} : zm_u (zDg e) 36 6 x = zDg (zm_u e 36 6 x) := zDg_u (by decide +kernel)
theorem zga_37 {e : zm_D} {k : Int} : zDg e 37 k = e 37 k := zDg_n (zFn_row (by decide +kernel))
theorem zgua_37 {e : zm_D} {k x : Int} : zm_u (zDg e) 37 k x = zDg (zm_u e 37 k x) := zDg_u (zFn_row (by decide +kernel))
theorem zg_38_0 {e : zm_D} : zDg e 38 0 = 39 := zDg_f (by decide +kernel)
theorem zg_38_1 {e : zm_D} : zDg e 38 1 = 41 := zDg_f (by decide +kernel)
theorem zg_38_2 {e : zm_D} : zDg e 38 2 = e 38 2 := zDg_n (by decide +kernel)
theorem zgu_38_2 {e : zm_D} {x : Int} : zm_u (zDg e) 38 2 x = zDg (zm_u e 38 2 x) := zDg_u (by decide +kernel)
theorem zg_38_3 {e : zm_D} : zDg e 38 3 = e 38 3 := zDg_n (by decide +kernel)
theorem zgu_38_3 {e : zm_D} {x : Int} : zm_u (zDg e) 38 3 x = zDg (zm_u e 38 3 x) := zDg_u (by decide +kernel)
theorem zg_39_0 {e : zm_D} : zDg e 39 0 = 40 := zDg_f (by decide +kernel)
theorem zg_39_1 {e : zm_D} : zDg e 39 1 = e 39 1 := zDg_n (by decide +kernel)
theorem zgu_39_1 {e : zm_D} {x : Int} : zm_u (zDg e) 39 1 x = zDg (zm_u e 39 1 x) := zDg_u (by decide +kernel)
theorem zg_39_2 {e : zm_D} : zDg e 39 2 = e 39 2 := zDg_n (by decide +kernel)
theorem zgu_39_2 {e : zm_D} {x : Int} : zm_u (zDg e) 39 2 x = zDg (zm_u e 39 2 x) := zDg_u (by decide +kernel)
theorem zg_39_3 {e : zm_D} : zDg e 39 3 = e 39 3 := zDg_n (by decide +kernel)
theorem zgu_39_3 {e : zm_D} {x : Int} : zm_u (zDg e) 39 3 x = zDg (zm_u e 39 3 x) := zDg_u (by decide +kernel)
theorem zg_39_4 {e : zm_D} : zDg e 39 4 = e 39 4 := zDg_n (by decide +kernel)
theorem zgu_39_4 {e : zm_D} {x : Int} : zm_u (zDg e) 39 4 x = zDg (zm_u e 39 4 x) := zDg_u (by decide +kernel)
theorem zg_39_5 {e : zm_D} : zDg e 39 5 = e 39 5 := zDg_n (by decide +kernel)
theorem zgu_39_5 {e : zm_D} {x : Int} : zm_u (zDg e) 39 5 x = zDg (zm_u e 39 5 x) := zDg_u (by decide +kernel)
theorem zg_39_6 {e : zm_D} : zDg e 39 6 = e 39 6 := zDg_n (by decide +kernel)
theorem zgu_39_6 {e : zm_D} {x : Int} : zm_u (zDg e) 39 6 x = zDg (zm_u e 39 6 x) := zDg_u (by decide +kernel)
theorem zga_40 {e : zm_D} {k : Int} : zDg e 40 k = e 40 k := zDg_n (zFn_row (by decide +kernel))
theorem zgua_40 {e : zm_D} {k x : Int} : zm_u (zDg e) 40 k x = zDg (zm_u e 40 k x) := zDg_u (zFn_row (by decide +kernel))
theorem zg_41_0 {e : zm_D} : zDg e 41 0 = 42 := zDg_f (by decide +kernel)
theorem zg_41_1 {e : zm_D} : zDg e 41 1 = e 41 1 := zDg_n (by decide +kernel)
theorem zgu_41_1 {e : zm_D} {x : Int} : zm_u (zDg e) 41 1 x = zDg (zm_u e 41 1 x) := zDg_u (by decide +kernel)
theorem zg_41_2 {e : zm_D} : zDg e 41 2 = e 41 2 := zDg_n (by decide +kernel)
theorem zgu_41_2 {e : zm_D} {x : Int} : zm_u (zDg e) 41 2 x = zDg (zm_u e 41 2 x) := zDg_u (by decide +kernel)
theorem zg_41_3 {e : zm_D} : zDg e 41 3 = e 41 3 := zDg_n (by decide +kernel)
theorem zgu_41_3 {e : zm_D} {x : Int} : zm_u (zDg e) 41 3 x = zDg (zm_u e 41 3 x) := zDg_u (by decide +kernel)
theorem zg_41_4 {e : zm_D} : zDg e 41 4 = e 41 4 := zDg_n (by decide +kernel)
theorem zgu_41_4 {e : zm_D} {x : Int} : zm_u (zDg e) 41 4 x = zDg (zm_u e 41 4 x) := zDg_u (by decide +kernel)
theorem zg_41_5 {e : zm_D} : zDg e 41 5 = e 41 5 := zDg_n (by decide +kernel)
theorem zgu_41_5 {e : zm_D} {x : Int} : zm_u (zDg e) 41 5 x = zDg (zm_u e 41 5 x) := zDg_u (by decide +kernel)
theorem zg_41_6 {e : zm_D} : zDg e 41 6 = e 41 6 := zDg_n (by decide +kernel)
theorem zgu_41_6 {e : zm_D} {x : Int} : zm_u (zDg e) 41 6 x = zDg (zm_u e 41 6 x) := zDg_u (by decide +kernel)
theorem zga_42 {e : zm_D} {k : Int} : zDg e 42 k = e 42 k := zDg_n (zFn_row (by decide +kernel))
theorem zgua_42 {e : zm_D} {k x : Int} : zm_u (zDg e) 42 k x = zDg (zm_u e 42 k x) := zDg_u (zFn_row (by decide +kernel))
theorem zg_43_0 {e : zm_D} : zDg e 43 0 = 44 := zDg_f (by decide +kernel)
theorem zg_43_1 {e : zm_D} : zDg e 43 1 = 46 := zDg_f (by decide +kernel)
theorem zg_43_2 {e : zm_D} : zDg e 43 2 = e 43 2 := zDg_n (by decide +kernel)
theorem zgu_43_2 {e : zm_D} {x : Int} : zm_u (zDg e) 43 2 x = zDg (zm_u e 43 2 x) := zDg_u (by decide +kernel)
theorem zg_43_3 {e : zm_D} : zDg e 43 3 = e 43 3 := zDg_n (by decide +kernel)
theorem zgu_43_3 {e : zm_D} {x : Int} : zm_u (zDg e) 43 3 x = zDg (zm_u e 43 3 x) := zDg_u (by decide +kernel)
theorem zg_44_0 {e : zm_D} : zDg e 44 0 = 45 := zDg_f (by decide +kernel)
theorem zg_44_1 {e : zm_D} : zDg e 44 1 = e 44 1 := zDg_n (by decide +kernel)
theorem zgu_44_1 {e : zm_D} {x : Int} : zm_u (zDg e) 44 1 x = zDg (zm_u e 44 1 x) := zDg_u (by decide +kernel)
theorem zg_44_2 {e : zm_D} : zDg e 44 2 = e 44 2 := zDg_n (by decide +kernel)
theorem zgu_44_2 {e : zm_D} {x : Int} : zm_u (zDg e) 44 2 x = zDg (zm_u e 44 2 x) := zDg_u (by decide +kernel)
theorem zg_44_3 {e : zm_D} : zDg e 44 3 = e 44 3 := zDg_n (by decide +kernel)
theorem zgu_44_3 {e : zm_D} {x : Int} : zm_u (zDg e) 44 3 x = zDg (zm_u e 44 3 x) := zDg_u (by decide +kernel)
theorem zg_44_4 {e : zm_D} : zDg e 44 4 = e 44 4 := zDg_n (by decide +kernel)
theorem zgu_44_4 {e : zm_D} {x : Int} : zm_u (zDg e) 44 4 x = zDg (zm_u e 44 4 x) := zDg_u (by decide +kernel)
theorem zg_44_5 {e : zm_D} : zDg e 44 5 = e 44 5 := zDg_n (by decide +kernel)
theorem zgu_44_5 {e : zm_D} {x : Int} : zm_u (zDg e) 44 5 x = zDg (zm_u e 44 5 x) := zDg_u (by decide +kernel)
theorem zg_44_6 {e : zm_D} : zDg e 44 6 = e 44 6 := zDg_n (by decide +kernel)
theorem zgu_44_6 {e : zm_D} {x : Int} : zm_u (zDg e) 44 6 x = zDg (zm_u e 44 6 x) := zDg_u (by decide +kernel)
theorem zga_45 {e : zm_D} {k : Int} : zDg e 45 k = e 45 k := zDg_n (zFn_row (by decide +kernel))
theorem zgua_45 {e : zm_D} {k x : Int} : zm_u (zDg e) 45 k x = zDg (zm_u e 45 k x) := zDg_u (zFn_row (by decide +kernel))
theorem zg_46_0 {e : zm_D} : zDg e 46 0 = 47 := zDg_f (by decide +kernel)
theorem zg_46_1 {e : zm_D} : zDg e 46 1 = e 46 1 := zDg_n (by decide +kernel)
theorem zgu_46_1 {e : zm_D} {x : Int} : zm_u (zDg e) 46 1 x = zDg (zm_u e 46 1 x) := zDg_u (by decide +kernel)
theorem zg_46_2 {e : zm_D} : zDg e 46 2 = e 46 2 := zDg_n (by decide +kernel)
theorem zgu_46_2 {e : zm_D} {x : Int} : zm_u (zDg e) 46 2 x = zDg (zm_u e 46 2 x) := zDg_u (by decide +kernel)
theorem zg_46_3 {e : zm_D} : zDg e 46 3 = e 46 3 := zDg_n (by decide +kernel)
theorem zgu_46_3 {e : zm_D} {x : Int} : zm_u (zDg e) 46 3 x = zDg (zm_u e 46 3 x) := zDg_u (by decide +kernel)
theorem zg_46_4 {e : zm_D} : zDg e 46 4 = e 46 4 := zDg_n (by decide +kernel)
theorem zgu_46_4 {e : zm_D} {x : Int} : zm_u (zDg e) 46 4 x = zDg (zm_u e 46 4 x) := zDg_u (by decide +kernel)
theorem zg_46_5 {e : zm_D} : zDg e 46 5 = e 46 5 := zDg_n (by decide +kernel)
theorem zgu_46_5 {e : zm_D} {x : Int} : zm_u (zDg e) 46 5 x = zDg (zm_u e 46 5 x) := zDg_u (by decide +kernel)
theorem zg_46_6 {e : zm_D} : zDg e 46 6 = e 46 6 := zDg_n (by decide +kernel)
theorem zgu_46_6 {e : zm_D} {x : Int} : zm_u (zDg e) 46 6 x = zDg (zm_u e 46 6 x) := zDg_u (by decide +kernel)
theorem zga_47 {e : zm_D} {k : Int} : zDg e 47 k = e 47 k := zDg_n (zFn_row (by decide +kernel))
theorem zgua_47 {e : zm_D} {k x : Int} : zm_u (zDg e) 47 k x = zDg (zm_u e 47 k x) := zDg_u (zFn_row (by decide +kernel))
theorem zg_48_0 {e : zm_D} : zDg e 48 0 = 49 := zDg_f (by decide +kernel)
theorem zg_48_1 {e : zm_D} : zDg e 48 1 = 51 := zDg_f (by decide +kernel)
theorem zg_48_2 {e : zm_D} : zDg e 48 2 = e 48 2 := zDg_n (by decide +kernel)
theorem zgu_48_2 {e : zm_D} {x : Int} : zm_u (zDg e) 48 2 x = zDg (zm_u e 48 2 x) := zDg_u (by decide +kernel)
theorem zg_48_3 {e : zm_D} : zDg e 48 3 = e 48 3 := zDg_n (by decide +kernel)
theorem zgu_48_3 {e : zm_D} {x : Int} : zm_u (zDg e) 48 3 x = zDg (zm_u e 48 3 x) := zDg_u (by decide +kernel)
theorem zg_49_0 {e : zm_D} : zDg e 49 0 = 50 := zDg_f (by decide +kernel)
theorem zg_49_1 {e : zm_D} : zDg e 49 1 = e 49 1 := zDg_n (by decide +kernel)
theorem zgu_49_1 {e : zm_D} {x : Int} : zm_u (zDg e) 49 1 x = zDg (zm_u e 49 1 x) := zDg_u (by decide +kernel)
theorem zg_49_2 {e : zm_D} : zDg e 49 2 = e 49 2 := zDg_n (by decide +kernel)
theorem zgu_49_2 {e : zm_D} {x : Int} : zm_u (zDg e) 49 2 x = zDg (zm_u e 49 2 x) := zDg_u (by decide +kernel)
theorem zg_49_3 {e : zm_D} : zDg e 49 3 = e 49 3 := zDg_n (by decide +kernel)
theorem zgu_49_3 {e : zm_D} {x : Int} : zm_u (zDg e) 49 3 x = zDg (zm_u e 49 3 x) := zDg_u (by decide +kernel)
theorem zg_49_4 {e : zm_D} : zDg e 49 4 = e 49 4 := zDg_n (by decide +kernel)
theorem zgu_49_4 {e : zm_D} {x : Int} : zm_u (zDg e) 49 4 x = zDg (zm_u e 49 4 x) := zDg_u (by decide +kernel)
theorem zg_49_5 {e : zm_D} : zDg e 49 5 = e 49 5 := zDg_n (by decide +kernel)
theorem zgu_49_5 {e : zm_D} {x : Int} : zm_u (zDg e) 49 5 x = zDg (zm_u e 49 5 x) := zDg_u (by decide +kernel)
theorem zg_49_6 {e : zm_D} : zDg e 49 6 = e 49 6 := zDg_n (by decide +kernel)
theorem zgu_49_6 {e : zm_D} {x : Int} : zm_u (zDg e) 49 6 x = zDg (zm_u e 49 6 x) := zDg_u (by decide +kernel)
theorem zga_50 {e : zm_D} {k : Int} : zDg e 50 k = e 50 k := zDg_n (zFn_row (by decide +kernel))
theorem zgua_50 {e : zm_D} {k x : Int} : zm_u (zDg e) 50 k x = zDg (zm_u e 50 k x) := zDg_u (zFn_row (by decide +kernel))
theorem zg_51_0 {e : zm_D} : zDg e 51 0 = 52 := zDg_f (by decide +kernel)
theorem zg_51_1 {e : zm_D} : zDg e 51 1 = e 51 1 := zDg_n (by decide +kernel)
theorem zgu_51_1 {e : zm_D} {x : Int} : zm_u (zDg e) 51 1 x = zDg (zm_u e 51 1 x) := zDg_u (by decide +kernel)
theorem zg_51_2 {e : zm_D} : zDg e 51 2 = e 51 2 := zDg_n (by decide +kernel)
theorem zgu_51_2 {e : zm_D} {x : Int} : zm_u (zDg e) 51 2 x = zDg (zm_u e 51 2 x) := zDg_u (by decide +kernel)
theorem zg_51_3 {e : zm_D} : zDg e 51 3 = e 51 3 := zDg_n (by decide +kernel)
theorem zgu_51_3 {e : zm_D} {x : Int} : zm_u (zDg e) 51 3 x = zDg (zm_u e 51 3 x) := zDg_u (by decide +kernel)
theorem zg_51_4 {e : zm_D} : zDg e 51 4 = e 51 4 := zDg_n (by decide +kernel)
theorem zgu_51_4 {e : zm_D} {x : Int} : zm_u (zDg e) 51 4 x = zDg (zm_u e 51 4 x) := zDg_u (by decide +kernel)
theorem zg_51_5 {e : zm_D} : zDg e 51 5 = e 51 5 := zDg_n (by decide +kernel)
theorem zgu_51_5 {e : zm_D} {x : Int} : zm_u (zDg e) 51 5 x = zDg (zm_u e 51 5 x) := zDg_u (by decide +kernel)
theorem zg_51_6 {e : zm_D} : zDg e 51 6 = e 51 6 := zDg_n (by decide +kernel)
theorem zgu_51_6 {e : zm_D} {x : Int} : zm_u (zDg e) 51 6 x = zDg (zm_u e 51 6 x) := zDg_u (by decide +kernel)
theorem zga_52 {e : zm_D} {k : Int} : zDg e 52 k = e 52 k := zDg_n (zFn_row (by decide +kernel))
theorem zgua_52 {e : zm_D} {k x : Int} : zm_u (zDg e) 52 k x = zDg (zm_u e 52 k x) := zDg_u (zFn_row (by decide +kernel))
theorem zg_53_0 {e : zm_D} : zDg e 53 0 = 32 := zDg_f (by decide +kernel)
theorem zg_53_1 {e : zm_D} : zDg e 53 1 = 54 := zDg_f (by decide +kernel)
theorem zg_53_2 {e : zm_D} : zDg e 53 2 = 55 := zDg_f (by decide +kernel)
theorem zg_53_3 {e : zm_D} : zDg e 53 3 = 56 := zDg_f (by decide +kernel)
theorem zg_53_4 {e : zm_D} : zDg e 53 4 = 57 := zDg_f (by decide +kernel)
theorem zg_53_5 {e : zm_D} : zDg e 53 5 = e 53 5 := zDg_n (by decide +kernel)
theorem zgu_53_5 {e : zm_D} {x : Int} : zm_u (zDg e) 53 5 x = zDg (zm_u e 53 5 x) := zDg_u (by decide +kernel)
theorem zga_54 {e : zm_D} {k : Int} : zDg e 54 k = e 54 k := zDg_n (zFn_row (by decide +kernel))
theorem zgua_54 {e : zm_D} {k x : Int} : zm_u (zDg e) 54 k x = zDg (zm_u e 54 k x) := zDg_u (zFn_row (by decide +kernel))
theorem zga_55 {e : zm_D} {k : Int} : zDg e 55 k = e 55 k := zDg_n (zFn_row (by decide +kernel))
theorem zgua_55 {e : zm_D} {k x : Int} : zm_u (zDg e) 55 k x = zDg (zm_u e 55 k x) := zDg_u (zFn_row (by decide +kernel))
theorem zga_56 {e : zm_D} {k : Int} : zDg e 56 k = e 56 k := zDg_n (zFn_row (by decide +kernel))
theorem zgua_56 {e : zm_D} {k x : Int} : zm_u (zDg e) 56 k x = zDg (zm_u e 56 k x) := zDg_u (zFn_row (by decide +kernel))
theorem zga_57 {e : zm_D} {k : Int} : zDg e 57 k = e 57 k := zDg_n (zFn_row (by decide +kernel))
theorem zgua_57 {e : zm_D} {k x : Int} : zm_u (zDg e) 57 k x = zDg (zm_u e 57 k x) := zDg_u (zFn_row (by decide +kernel))
theorem zg_58_0 {e : zm_D} : zDg e 58 0 = 33 := zDg_f (by decide +kernel)
theorem zg_58_1 {e : zm_D} : zDg e 58 1 = 59 := zDg_f (by decide +kernel)
theorem zg_58_2 {e : zm_D} : zDg e 58 2 = 60 := zDg_f (by decide +kernel)
theorem zg_58_3 {e : zm_D} : zDg e 58 3 = e 58 3 := zDg_n (by decide +kernel)
theorem zgu_58_3 {e : zm_D} {x : Int} : zm_u (zDg e) 58 3 x = zDg (zm_u e 58 3 x) := zDg_u (by decide +kernel)
theorem zg_58_4 {e : zm_D} : zDg e 58 4 = e 58 4 := zDg_n (by decide +kernel)
theorem zgu_58_4 {e : zm_D} {x : Int} : zm_u (zDg e) 58 4 x = zDg (zm_u e 58 4 x) := zDg_u (by decide +kernel)
theorem zg_58_5 {e : zm_D} : zDg e 58 5 = e 58 5 := zDg_n (by decide +kernel)
theorem zgu_58_5 {e : zm_D} {x : Int} : zm_u (zDg e) 58 5 x = zDg (zm_u e 58 5 x) := zDg_u (by decide +kernel)
theorem zg_58_6 {e : zm_D} : zDg e 58 6 = e 58 6 := zDg_n (by decide +kernel)
theorem zgu_58_6 {e : zm_D} {x : Int} : zm_u (zDg e) 58 6 x = zDg (zm_u e 58 6 x) := zDg_u (by decide +kernel)
theorem zg_58_7 {e : zm_D} : zDg e 58 7 = e 58 7 := zDg_n (by decide +kernel)
theorem zgu_58_7 {e : zm_D} {x : Int} : zm_u (zDg e) 58 7 x = zDg (zm_u e 58 7 x) := zDg_u (by decide +kernel)
theorem zg_58_8 {e : zm_D} : zDg e 58 8 = e 58 8 := zDg_n (by decide +kernel)
theorem zgu_58_8 {e : zm_D} {x : Int} : zm_u (zDg e) 58 8 x = zDg (zm_u e 58 8 x) := zDg_u (by decide +kernel)
theorem zga_59 {e : zm_D} {k : Int} : zDg e 59 k = e 59 k := zDg_n (zFn_row (by decide +kernel))
theorem zgua_59 {e : zm_D} {k x : Int} : zm_u (zDg e) 59 k x = zDg (zm_u e 59 k x) := zDg_u (zFn_row (by decide +kernel))
theorem zga_60 {e : zm_D} {k : Int} : zDg e 60 k = e 60 k := zDg_n (zFn_row (by decide +kernel))
theorem zgua_60 {e : zm_D} {k x : Int} : zm_u (zDg e) 60 k x = zDg (zm_u e 60 k x) := zDg_u (zFn_row (by decide +kernel))
theorem zg_61_0 {e : zm_D} : zDg e 61 0 = 62 := zDg_f (by decide +kernel)
theorem zg_61_1 {e : zm_D} : zDg e 61 1 = 63 := zDg_f (by decide +kernel)
theorem zg_61_2 {e : zm_D} : zDg e 61 2 = 64 := zDg_f (by decide +kernel)
theorem zg_61_3 {e : zm_D} : zDg e 61 3 = 65 := zDg_f (by decide +kernel)
theorem zg_61_4 {e : zm_D} : zDg e 61 4 = 66 := zDg_f (by decide +kernel)
theorem zg_61_5 {e : zm_D} : zDg e 61 5 = 67 := zDg_f (by decide +kernel)
theorem zg_61_6 {e : zm_D} : zDg e 61 6 = 68 := zDg_f (by decide +kernel)
theorem zg_61_7 {e : zm_D} : zDg e 61 7 = 69 := zDg_f (by decide +kernel)
theorem zg_61_8 {e : zm_D} : zDg e 61 8 = 70 := zDg_f (by decide +kernel)
theorem zg_61_9 {e : zm_D} : zDg e 61 9 = 79 := zDg_f (by decide +kernel)
theorem zg_61_10 {e : zm_D} : zDg e 61 10 = 88 := zDg_f (by decide +kernel)
theorem zg_61_11 {e : zm_D} : zDg e 61 11 = 89 := zDg_f (by decide +kernel)
theorem zg_61_12 {e : zm_D} : zDg e 61 12 = 90 := zDg_f (by decide +kernel)
theorem zg_61_13 {e : zm_D} : zDg e 61 13 = 91 := zDg_f (by decide +kernel)
theorem zg_61_14 {e : zm_D} : zDg e 61 14 = 92 := zDg_f (by decide +kernel)
theorem zg_61_15 {e : zm_D} : zDg e 61 15 = 93 := zDg_f (by decide +kernel)
theorem zg_61_16 {e : zm_D} : zDg e 61 16 = 94 := zDg_f (by decide +kernel)
theorem zg_61_17 {e : zm_D} : zDg e 61 17 = 95 := zDg_f (by decide +kernel)
theorem zg_61_18 {e : zm_D} : zDg e 61 18 = 96 := zDg_f (by decide +kernel)
theorem zg_61_19 {e : zm_D} : zDg e 61 19 = 97 := zDg_f (by decide +kernel)
theorem zg_61_20 {e : zm_D} : zDg e 61 20 = 98 := zDg_f (by decide +kernel)
theorem zg_61_21 {e : zm_D} : zDg e 61 21 = 99 := zDg_f (by decide +kernel)
theorem zg_61_22 {e : zm_D} : zDg e 61 22 = 109 := zDg_f (by decide +kernel)
theorem zg_61_23 {e : zm_D} : zDg e 61 23 = 113 := zDg_f (by decide +kernel)
theorem zg_61_24 {e : zm_D} : zDg e 61 24 = 117 := zDg_f (by decide +kernel)
theorem zg_61_25 {e : zm_D} : zDg e 61 25 = 121 := zDg_f (by decide +kernel)
theorem zg_61_26 {e : zm_D} : zDg e 61 26 = 122 := zDg_f (by decide +kernel)
theorem zg_61_27 {e : zm_D} : zDg e 61 27 = 133 := zDg_f (by decide +kernel)
theorem zg_61_28 {e : zm_D} : zDg e 61 28 = 137 := zDg_f (by decide +kernel)
theorem zg_61_29 {e : zm_D} : zDg e 61 29 = 138 := zDg_f (by decide +kernel)
theorem zg_61_30 {e : zm_D} : zDg e 61 30 = 151 := zDg_f (by decide +kernel)
theorem zg_61_31 {e : zm_D} : zDg e 61 31 = e 61 31 := zDg_n (by decide +kernel)
theorem zgu_61_31 {e : zm_D} {x : Int} : zm_u (zDg e) 61 31 x = zDg (zm_u e 61 31 x) := zDg_u (by decide +kernel)
theorem zg_61_32 {e : zm_D} : zDg e 61 32 = e 61 32 := zDg_n (by decide +kernel)
theorem zgu_61_32 {e : zm_D} {x : Int} : zm_u (zDg e) 61 32 x = zDg (zm_u e 61 32 x) := zDg_u (by decide +kernel)
theorem zg_61_33 {e : zm_D} : zDg e 61 33 = e 61 33 := zDg_n (by decide +kernel)
theorem zgu_61_33 {e : zm_D} {x : Int} : zm_u (zDg e) 61 33 x = zDg (zm_u e 61 33 x) := zDg_u (by decide +kernel)
theorem zg_61_34 {e : zm_D} : zDg e 61 34 = e 61 34 := zDg_n (by decide +kernel)
theorem zgu_61_34 {e : zm_D} {x : Int} : zm_u (zDg e) 61 34 x = zDg (zm_u e 61 34 x) := zDg_u (by decide +kernel)
theorem zg_61_35 {e : zm_D} : zDg e 61 35 = e 61 35 := zDg_n (by decide +kernel)
theorem zgu_61_35 {e : zm_D} {x : Int} : zm_u (zDg e) 61 35 x = zDg (zm_u e 61 35 x) := zDg_u (by decide +kernel)
theorem zg_61_36 {e : zm_D} : zDg e 61 36 = e 61 36 := zDg_n (by decide +kernel)
theorem zgu_61_36 {e : zm_D} {x : Int} : zm_u (zDg e) 61 36 x = zDg (zm_u e 61 36 x) := zDg_u (by decide +kernel)
theorem zg_61_37 {e : zm_D} : zDg e 61 37 = e 61 37 := zDg_n (by decide +kernel)
theorem zgu_61_37 {e : zm_D} {x : Int} : zm_u (zDg e) 61 37 x = zDg (zm_u e 61 37 x) := zDg_u (by decide +kernel)
theorem zg_61_38 {e : zm_D} : zDg e 61 38 = e 61 38 := zDg_n (by decide +kernel)
theorem zgu_61_38 {e : zm_D} {x : Int} : zm_u (zDg e) 61 38 x = zDg (zm_u e 61 38 x) := zDg_u (by decide +kernel)
theorem zg_61_39 {e : zm_D} : zDg e 61 39 = e 61 39 := zDg_n (by decide +kernel)
theorem zgu_61_39 {e : zm_D} {x : Int} : zm_u (zDg e) 61 39 x = zDg (zm_u e 61 39 x) := zDg_u (by decide +kernel)
theorem zg_61_40 {e : zm_D} : zDg e 61 40 = e 61 40 := zDg_n (by decide +kernel)
theorem zgu_61_40 {e : zm_D} {x : Int} : zm_u (zDg e) 61 40 x = zDg (zm_u e 61 40 x) := zDg_u (by decide +kernel)
theorem zg_61_41 {e : zm_D} : zDg e 61 41 = e 61 41 := zDg_n (by decide +kernel)
theorem zgu_61_41 {e : zm_D} {x : Int} : zm_u (zDg e) 61 41 x = zDg (zm_u e 61 41 x) := zDg_u (by decide +kernel)
theorem zg_61_42 {e : zm_D} : zDg e 61 42 = e 61 42 := zDg_n (by decide +kernel)
theorem zgu_61_42 {e : zm_D} {x : Int} : zm_u (zDg e) 61 42 x = zDg (zm_u e 61 42 x) := zDg_u (by decide +kernel)
theorem zg_61_43 {e : zm_D} : zDg e 61 43 = e 61 43 := zDg_n (by decide +kernel)
theorem zgu_61_43 {e : zm_D} {x : Int} : zm_u (zDg e) 61 43 x = zDg (zm_u e 61 43 x) := zDg_u (by decide +kernel)
theorem zg_61_44 {e : zm_D} : zDg e 61 44 = e 61 44 := zDg_n (by decide +kernel)
theorem zgu_61_44 {e : zm_D} {x : Int} : zm_u (zDg e) 61 44 x = zDg (zm_u e 61 44 x) := zDg_u (by decide +kernel)
theorem zg_61_45 {e : zm_D} : zDg e 61 45 = e 61 45 := zDg_n (by decide +kernel)
theorem zgu_61_45 {e : zm_D} {x : Int} : zm_u (zDg e) 61 45 x = zDg (zm_u e 61 45 x) := zDg_u (by decide +kernel)
theorem zg_61_46 {e : zm_D} : zDg e 61 46 = e 61 46 := zDg_n (by decide +kernel)
theorem zgu_61_46 {e : zm_D} {x : Int} : zm_u (zDg e) 61 46 x = zDg (zm_u e 61 46 x) := zDg_u (by decide +kernel)
theorem zg_61_47 {e : zm_D} : zDg e 61 47 = e 61 47 := zDg_n (by decide +kernel)
theorem zgu_61_47 {e : zm_D} {x : Int} : zm_u (zDg e) 61 47 x = zDg (zm_u e 61 47 x) := zDg_u (by decide +kernel)
theorem zg_61_48 {e : zm_D} : zDg e 61 48 = e 61 48 := zDg_n (by decide +kernel)
theorem zgu_61_48 {e : zm_D} {x : Int} : zm_u (zDg e) 61 48 x = zDg (zm_u e 61 48 x) := zDg_u (by decide +kernel)
theorem zg_61_49 {e : zm_D} : zDg e 61 49 = e 61 49 := zDg_n (by decide +kernel)
theorem zgu_61_49 {e : zm_D} {x : Int} : zm_u (zDg e) 61 49 x = zDg (zm_u e 61 49 x) := zDg_u (by decide +kernel)
theorem zga_62 {e : zm_D} {k : Int} : zDg e 62 k = e 62 k := zDg_n (zFn_row (by decide +kernel))
theorem zgua_62 {e : zm_D} {k x : Int} : zm_u (zDg e) 62 k x = zDg (zm_u e 62 k x) := zDg_u (zFn_row (by decide +kernel))
theorem zga_63 {e : zm_D} {k : Int} : zDg e 63 k = e 63 k := zDg_n (zFn_row (by decide +kernel))
theorem zgua_63 {e : zm_D} {k x : Int} : zm_u (zDg e) 63 k x = zDg (zm_u e 63 k x) := zDg_u (zFn_row (by decide +kernel))
theorem zga_64 {e : zm_D} {k : Int} : zDg e 64 k = e 64 k := zDg_n (zFn_row (by decide +kernel))
theorem zgua_64 {e : zm_D} {k x : Int} : zm_u (zDg e) 64 k x = zDg (zm_u e 64 k x) := zDg_u (zFn_row (by decide +kernel))
theorem zga_65 {e : zm_D} {k : Int} : zDg e 65 k = e 65 k := zDg_n (zFn_row (by decide +kernel))
theorem zgua_65 {e : zm_D} {k x : Int} : zm_u (zDg e) 65 k x = zDg (zm_u e 65 k x) := zDg_u (zFn_row (by decide +kernel))
theorem zga_66 {e : zm_D} {k : Int} : zDg e 66 k = e 66 k := zDg_n (zFn_row (by decide +kernel))
theorem zgua_66 {e : zm_D} {k x : Int} : zm_u (zDg e) 66 k x = zDg (zm_u e 66 k x) := zDg_u (zFn_row (by decide +kernel))
theorem zga_67 {e : zm_D} {k : Int} : zDg e 67 k = e 67 k := zDg_n (zFn_row (by decide +kernel))
theorem zgua_67 {e : zm_D} {k x : Int} : zm_u (zDg e) 67 k x = zDg (zm_u e 67 k x) := zDg_u (zFn_row (by decide +kernel))
theorem zga_68 {e : zm_D} {k : Int} : zDg e 68 k = e 68 k := zDg_n (zFn_row (by decide +kernel))
theorem zgua_68 {e : zm_D} {k x : Int} : zm_u (zDg e) 68 k x = zDg (zm_u e 68 k x) := zDg_u (zFn_row (by decide +kernel))
theorem zga_69 {e : zm_D} {k : Int} : zDg e 69 k = e 69 k := zDg_n (zFn_row (by decide +kernel))
theorem zgua_69 {e : zm_D} {k x : Int} : zm_u (zDg e) 69 k x = zDg (zm_u e 69 k x) := zDg_u (zFn_row (by decide +kernel))
theorem zg_70_0 {e : zm_D} : zDg e 70 0 = 71 := zDg_f (by decide +kernel)
theorem zg_70_1 {e : zm_D} : zDg e 70 1 = 72 := zDg_f (by decide +kernel)
theorem zg_70_2 {e : zm_D} : zDg e 70 2 = 73 := zDg_f (by decide +kernel)
theorem zg_70_3 {e : zm_D} : zDg e 70 3 = 74 := zDg_f (by decide +kernel)
theorem zg_70_4 {e : zm_D} : zDg e 70 4 = 75 := zDg_f (by decide +kernel)
theorem zg_70_5 {e : zm_D} : zDg e 70 5 = 76 := zDg_f (by decide +kernel)
theorem zg_70_6 {e : zm_D} : zDg e 70 6 = 77 := zDg_f (by decide +kernel)
theorem zg_70_7 {e : zm_D} : zDg e 70 7 = 78 := zDg_f (by decide +kernel)
theorem zga_71 {e : zm_D} {k : Int} : zDg e 71 k = e 71 k := zDg_n (zFn_row (by decide +kernel))
theorem zgua_71 {e : zm_D} {k x : Int} : zm_u (zDg e) 71 k x = zDg (zm_u e 71 k x) := zDg_u (zFn_row (by decide +kernel))
theorem zga_72 {e : zm_D} {k : Int} : zDg e 72 k = e 72 k := zDg_n (zFn_row (by decide +kernel))
theorem zgua_72 {e : zm_D} {k x : Int} : zm_u (zDg e) 72 k x = zDg (zm_u e 72 k x) := zDg_u (zFn_row (by decide +kernel))
theorem zga_73 {e : zm_D} {k : Int} : zDg e 73 k = e 73 k := zDg_n (zFn_row (by decide +kernel))
theorem zgua_73 {e : zm_D} {k x : Int} : zm_u (zDg e) 73 k x = zDg (zm_u e 73 k x) := zDg_u (zFn_row (by decide +kernel))
theorem zga_74 {e : zm_D} {k : Int} : zDg e 74 k = e 74 k := zDg_n (zFn_row (by decide +kernel))
theorem zgua_74 {e : zm_D} {k x : Int} : zm_u (zDg e) 74 k x = zDg (zm_u e 74 k x) := zDg_u (zFn_row (by decide +kernel))
theorem zga_75 {e : zm_D} {k : Int} : zDg e 75 k = e 75 k := zDg_n (zFn_row (by decide +kernel))
theorem zgua_75 {e : zm_D} {k x : Int} : zm_u (zDg e) 75 k x = zDg (zm_u e 75 k x) := zDg_u (zFn_row (by decide +kernel))
theorem zga_76 {e : zm_D} {k : Int} : zDg e 76 k = e 76 k := zDg_n (zFn_row (by decide +kernel))
theorem zgua_76 {e : zm_D} {k x : Int} : zm_u (zDg e) 76 k x = zDg (zm_u e 76 k x) := zDg_u (zFn_row (by decide +kernel))
theorem zga_77 {e : zm_D} {k : Int} : zDg e 77 k = e 77 k := zDg_n (zFn_row (by decide +kernel))
theorem zgua_77 {e : zm_D} {k x : Int} : zm_u (zDg e) 77 k x = zDg (zm_u e 77 k x) := zDg_u (zFn_row (by decide +kernel))
theorem zga_78 {e : zm_D} {k : Int} : zDg e 78 k = e 78 k := zDg_n (zFn_row (by decide +kernel))
theorem zgua_78 {e : zm_D} {k x : Int} : zm_u (zDg e) 78 k x = zDg (zm_u e 78 k x) := zDg_u (zFn_row (by decide +kernel))
theorem zg_79_0 {e : zm_D} : zDg e 79 0 = 80 := zDg_f (by decide +kernel)
theorem zg_79_1 {e : zm_D} : zDg e 79 1 = 81 := zDg_f (by decide +kernel)
theorem zg_79_2 {e : zm_D} : zDg e 79 2 = 82 := zDg_f (by decide +kernel)
theorem zg_79_3 {e : zm_D} : zDg e 79 3 = 83 := zDg_f (by decide +kernel)
theorem zg_79_4 {e : zm_D} : zDg e 79 4 = 84 := zDg_f (by decide +kernel)
theorem zg_79_5 {e : zm_D} : zDg e 79 5 = 85 := zDg_f (by decide +kernel)
theorem zg_79_6 {e : zm_D} : zDg e 79 6 = 86 := zDg_f (by decide +kernel)
theorem zg_79_7 {e : zm_D} : zDg e 79 7 = 87 := zDg_f (by decide +kernel)
theorem zga_80 {e : zm_D} {k : Int} : zDg e 80 k = e 80 k := zDg_n (zFn_row (by decide +kernel))
theorem zgua_80 {e : zm_D} {k x : Int} : zm_u (zDg e) 80 k x = zDg (zm_u e 80 k x) := zDg_u (zFn_row (by decide +kernel))
theorem zga_81 {e : zm_D} {k : Int} : zDg e 81 k = e 81 k := zDg_n (zFn_row (by decide +kernel))
theorem zgua_81 {e : zm_D} {k x : Int} : zm_u (zDg e) 81 k x = zDg (zm_u e 81 k x) := zDg_u (zFn_row (by decide +kernel))
theorem zga_82 {e : zm_D} {k : Int} : zDg e 82 k = e 82 k := zDg_n (zFn_row (by decide +kernel))
theorem zgua_82 {e : zm_D} {k x : Int} : zm_u (zDg e) 82 k x = zDg (zm_u e 82 k x) := zDg_u (zFn_row (by decide +kernel))
theorem zga_83 {e : zm_D} {k : Int} : zDg e 83 k = e 83 k := zDg_n (zFn_row (by decide +kernel))
theorem zgua_83 {e : zm_D} {k x : Int} : zm_u (zDg e) 83 k x = zDg (zm_u e 83 k x) := zDg_u (zFn_row (by decide +kernel))
theorem zga_84 {e : zm_D} {k : Int} : zDg e 84 k = e 84 k := zDg_n (zFn_row (by decide +kernel))
theorem zgua_84 {e : zm_D} {k x : Int} : zm_u (zDg e) 84 k x = zDg (zm_u e 84 k x) := zDg_u (zFn_row (by decide +kernel))
theorem zga_85 {e : zm_D} {k : Int} : zDg e 85 k = e 85 k := zDg_n (zFn_row (by decide +kernel))
theorem zgua_85 {e : zm_D} {k x : Int} : zm_u (zDg e) 85 k x = zDg (zm_u e 85 k x) := zDg_u (zFn_row (by decide +kernel))
theorem zga_86 {e : zm_D} {k : Int} : zDg e 86 k = e 86 k := zDg_n (zFn_row (by decide +kernel))
theorem zgua_86 {e : zm_D} {k x : Int} : zm_u (zDg e) 86 k x = zDg (zm_u e 86 k x) := zDg_u (zFn_row (by decide +kernel))
theorem zga_87 {e : zm_D} {k : Int} : zDg e 87 k = e 87 k := zDg_n (zFn_row (by decide +kernel))
theorem zgua_87 {e : zm_D} {k x : Int} : zm_u (zDg e) 87 k x = zDg (zm_u e 87 k x) := zDg_u (zFn_row (by decide +kernel))
theorem zga_88 {e : zm_D} {k : Int} : zDg e 88 k = e 88 k := zDg_n (zFn_row (by decide +kernel))
theorem zgua_88 {e : zm_D} {k x : Int} : zm_u (zDg e) 88 k x = zDg (zm_u e 88 k x) := zDg_u (zFn_row (by decide +kernel))
theorem zga_89 {e : zm_D} {k : Int} : zDg e 89 k = e 89 k := zDg_n (zFn_row (by decide +kernel))
theorem zgua_89 {e : zm_D} {k x : Int} : zm_u (zDg e) 89 k x = zDg (zm_u e 89 k x) := zDg_u (zFn_row (by decide +kernel))
theorem zga_90 {e : zm_D} {k : Int} : zDg e 90 k = e 90 k := zDg_n (zFn_row (by decide +kernel))
theorem zgua_90 {e : zm_D} {k x : Int} : zm_u (zDg e) 90 k x = zDg (zm_u e 90 k x) := zDg_u (zFn_row (by decide +kernel))
theorem zga_91 {e : zm_D} {k : Int} : zDg e 91 k = e 91 k := zDg_n (zFn_row (by decide +kernel))
theorem zgua_91 {e : zm_D} {k x : Int} : zm_u (zDg e) 91 k x = zDg (zm_u e 91 k x) := zDg_u (zFn_row (by decide +kernel))
theorem zga_92 {e : zm_D} {k : Int} : zDg e 92 k = e 92 k := zDg_n (zFn_row (by decide +kernel))
theorem zgua_92 {e : zm_D} {k x : Int} : zm_u (zDg e) 92 k x = zDg (zm_u e 92 k x) := zDg_u (zFn_row (by decide +kernel))
theorem zga_93 {e : zm_D} {k : Int} : zDg e 93 k = e 93 k := zDg_n (zFn_row (by decide +kernel))
theorem zgua_93 {e : zm_D} {k x : Int} : zm_u (zDg e) 93 k x = zDg (zm_u e 93 k x) := zDg_u (zFn_row (by decide +kernel))
theorem zga_94 {e : zm_D} {k : Int} : zDg e 94 k = e 94 k := zDg_n (zFn_row (by decide +kernel))
theorem zgua_94 {e : zm_D} {k x : Int} : zm_u (zDg e) 94 k x = zDg (zm_u e 94 k x) := zDg_u (zFn_row (by decide +kernel))
theorem zga_95 {e : zm_D} {k : Int} : zDg e 95 k = e 95 k := zDg_n (zFn_row (by decide +kernel))
theorem zgua_95 {e : zm_D} {k x : Int} : zm_u (zDg e) 95 k x = zDg (zm_u e 95 k x) := zDg_u (zFn_row (by decide +kernel))
theorem zga_96 {e : zm_D} {k : Int} : zDg e 96 k = e 96 k := zDg_n (zFn_row (by decide +kernel))
theorem zgua_96 {e : zm_D} {k x : Int} : zm_u (zDg e) 96 k x = zDg (zm_u e 96 k x) := zDg_u (zFn_row (by decide +kernel))
theorem zga_97 {e : zm_D} {k : Int} : zDg e 97 k = e 97 k := zDg_n (zFn_row (by decide +kernel))
theorem zgua_97 {e : zm_D} {k x : Int} : zm_u (zDg e) 97 k x = zDg (zm_u e 97 k x) := zDg_u (zFn_row (by decide +kernel))
theorem zga_98 {e : zm_D} {k : Int} : zDg e 98 k = e 98 k := zDg_n (zFn_row (by decide +kernel))
theorem zgua_98 {e : zm_D} {k x : Int} : zm_u (zDg e) 98 k x = zDg (zm_u e 98 k x) := zDg_u (zFn_row (by decide +kernel))
theorem zg_99_0 {e : zm_D} : zDg e 99 0 = 100 := zDg_f (by decide +kernel)
theorem zg_99_1 {e : zm_D} : zDg e 99 1 = 103 := zDg_f (by decide +kernel)
theorem zg_99_2 {e : zm_D} : zDg e 99 2 = 106 := zDg_f (by decide +kernel)
theorem zg_100_0 {e : zm_D} : zDg e 100 0 = 101 := zDg_f (by decide +kernel)
theorem zg_100_1 {e : zm_D} : zDg e 100 1 = 102 := zDg_f (by decide +kernel)
theorem zga_101 {e : zm_D} {k : Int} : zDg e 101 k = e 101 k := zDg_n (zFn_row (by decide +kernel))
theorem zgua_101 {e : zm_D} {k x : Int} : zm_u (zDg e) 101 k x = zDg (zm_u e 101 k x) := zDg_u (zFn_row (by decide +kernel))
theorem zga_102 {e : zm_D} {k : Int} : zDg e 102 k = e 102 k := zDg_n (zFn_row (by decide +kernel))
theorem zgua_102 {e : zm_D} {k x : Int} : zm_u (zDg e) 102 k x = zDg (zm_u e 102 k x) := zDg_u (zFn_row (by decide +kernel))
theorem zg_103_0 {e : zm_D} : zDg e 103 0 = 104 := zDg_f (by decide +kernel)
theorem zg_103_1 {e : zm_D} : zDg e 103 1 = 105 := zDg_f (by decide +kernel)
theorem zga_104 {e : zm_D} {k : Int} : zDg e 104 k = e 104 k := zDg_n (zFn_row (by decide +kernel))
theorem zgua_104 {e : zm_D} {k x : Int} : zm_u (zDg e) 104 k x = zDg (zm_u e 104 k x) := zDg_u (zFn_row (by decide +kernel))
theorem zga_105 {e : zm_D} {k : Int} : zDg e 105 k = e 105 k := zDg_n (zFn_row (by decide +kernel))
theorem zgua_105 {e : zm_D} {k x : Int} : zm_u (zDg e) 105 k x = zDg (zm_u e 105 k x) := zDg_u (zFn_row (by decide +kernel))
theorem zg_106_0 {e : zm_D} : zDg e 106 0 = 107 := zDg_f (by decide +kernel)
theorem zg_106_1 {e : zm_D} : zDg e 106 1 = 108 := zDg_f (by decide +kernel)
theorem zga_107 {e : zm_D} {k : Int} : zDg e 107 k = e 107 k := zDg_n (zFn_row (by decide +kernel))
theorem zgua_107 {e : zm_D} {k x : Int} : zm_u (zDg e) 107 k x = zDg (zm_u e 107 k x) := zDg_u (zFn_row (by decide +kernel))
theorem zga_108 {e : zm_D} {k : Int} : zDg e 108 k = e 108 k := zDg_n (zFn_row (by decide +kernel))
theorem zgua_108 {e : zm_D} {k x : Int} : zm_u (zDg e) 108 k x = zDg (zm_u e 108 k x) := zDg_u (zFn_row (by decide +kernel))
theorem zg_109_0 {e : zm_D} : zDg e 109 0 = 110 := zDg_f (by decide +kernel)
theorem zg_109_1 {e : zm_D} : zDg e 109 1 = 111 := zDg_f (by decide +kernel)
theorem zg_109_2 {e : zm_D} : zDg e 109 2 = 112 := zDg_f (by decide +kernel)
theorem zga_110 {e : zm_D} {k : Int} : zDg e 110 k = e 110 k := zDg_n (zFn_row (by decide +kernel))
theorem zgua_110 {e : zm_D} {k x : Int} : zm_u (zDg e) 110 k x = zDg (zm_u e 110 k x) := zDg_u (zFn_row (by decide +kernel))
theorem zga_111 {e : zm_D} {k : Int} : zDg e 111 k = e 111 k := zDg_n (zFn_row (by decide +kernel))
theorem zgua_111 {e : zm_D} {k x : Int} : zm_u (zDg e) 111 k x = zDg (zm_u e 111 k x) := zDg_u (zFn_row (by decide +kernel))
theorem zga_112 {e : zm_D} {k : Int} : zDg e 112 k = e 112 k := zDg_n (zFn_row (by decide +kernel))
theorem zgua_112 {e : zm_D} {k x : Int} : zm_u (zDg e) 112 k x = zDg (zm_u e 112 k x) := zDg_u (zFn_row (by decide +kernel))
theorem zg_113_0 {e : zm_D} : zDg e 113 0 = 114 := zDg_f (by decide +kernel)
theorem zg_113_1 {e : zm_D} : zDg e 113 1 = 115 := zDg_f (by decide +kernel)
theorem zg_113_2 {e : zm_D} : zDg e 113 2 = 116 := zDg_f (by decide +kernel)
theorem zga_114 {e : zm_D} {k : Int} : zDg e 114 k = e 114 k := zDg_n (zFn_row (by decide +kernel))
theorem zgua_114 {e : zm_D} {k x : Int} : zm_u (zDg e) 114 k x = zDg (zm_u e 114 k x) := zDg_u (zFn_row (by decide +kernel))
theorem zga_115 {e : zm_D} {k : Int} : zDg e 115 k = e 115 k := zDg_n (zFn_row (by decide +kernel))
theorem zgua_115 {e : zm_D} {k x : Int} : zm_u (zDg e) 115 k x = zDg (zm_u e 115 k x) := zDg_u (zFn_row (by decide +kernel))
theorem zga_116 {e : zm_D} {k : Int} : zDg e 116 k = e 116 k := zDg_n (zFn_row (by decide +kernel))
theorem zgua_116 {e : zm_D} {k x : Int} : zm_u (zDg e) 116 k x = zDg (zm_u e 116 k x) := zDg_u (zFn_row (by decide +kernel))
theorem zg_117_0 {e : zm_D} : zDg e 117 0 = 118 := zDg_f (by decide +kernel)
theorem zg_117_1 {e : zm_D} : zDg e 117 1 = 119 := zDg_f (by decide +kernel)
theorem zg_117_2 {e : zm_D} : zDg e 117 2 = 120 := zDg_f (by decide +kernel)
theorem zga_118 {e : zm_D} {k : Int} : zDg e 118 k = e 118 k := zDg_n (zFn_row (by decide +kernel))
theorem zgua_118 {e : zm_D} {k x : Int} : zm_u (zDg e) 118 k x = zDg (zm_u e 118 k x) := zDg_u (zFn_row (by decide +kernel))
theorem zga_119 {e : zm_D} {k : Int} : zDg e 119 k = e 119 k := zDg_n (zFn_row (by decide +kernel))
theorem zgua_119 {e : zm_D} {k x : Int} : zm_u (zDg e) 119 k x = zDg (zm_u e 119 k x) := zDg_u (zFn_row (by decide +kernel))
theorem zga_120 {e : zm_D} {k : Int} : zDg e 120 k = e 120 k := zDg_n (zFn_row (by decide +kernel))
theorem zgua_120 {e : zm_D} {k x : Int} : zm_u (zDg e) 120 k x = zDg (zm_u e 120 k x) := zDg_u (zFn_row (by decide +kernel))
theorem zga_121 {e : zm_D} {k : Int} : zDg e 121 k = e 121 k := zDg_n (zFn_row (by decide +kernel))
theorem zgua_121 {e : zm_D} {k x : Int} : zm_u (zDg e) 121 k x = zDg (zm_u e 121 k x) := zDg_u (zFn_row (by decide +kernel))
theorem zg_122_0 {e : zm_D} : zDg e 122 0 = 123 := zDg_f (by decide +kernel)
theorem zg_122_1 {e : zm_D} : zDg e 122 1 = 124 := zDg_f (by decide +kernel)
theorem zg_122_2 {e : zm_D} : zDg e 122 2 = 125 := zDg_f (by decide +kernel)
theorem zg_122_3 {e : zm_D} : zDg e 122 3 = 126 := zDg_f (by decide +kernel)
theorem zg_122_4 {e : zm_D} : zDg e 122 4 = 127 := zDg_f (by decide +kernel)
theorem zg_122_5 {e : zm_D} : zDg e 122 5 = 128 := zDg_f (by decide +kernel)
theorem zg_122_6 {e : zm_D} : zDg e 122 6 = 129 := zDg_f (by decide +kernel)
theorem zg_122_7 {e : zm_D} : zDg e 122 7 = 130 := zDg_f (by decide +kernel)
theorem zg_122_8 {e : zm_D} : zDg e 122 8 = 131 := zDg_f (by decide +kernel)
theorem zg_122_9 {e : zm_D} : zDg e 122 9 = 132 := zDg_f (by decide +kernel)
theorem zga_123 {e : zm_D} {k : Int} : zDg e 123 k = e 123 k := zDg_n (zFn_row (by decide +kernel))
theorem zgua_123 {e : zm_D} {k x : Int} : zm_u (zDg e) 123 k x = zDg (zm_u e 123 k x) := zDg_u (zFn_row (by decide +kernel))
theorem zga_124 {e : zm_D} {k : Int} : zDg e 124 k = e 124 k := zDg_n (zFn_row (by decide +kernel))
theorem zgua_124 {e : zm_D} {k x : Int} : zm_u (zDg e) 124 k x = zDg (zm_u e 124 k x) := zDg_u (zFn_row (by decide +kernel))
theorem zga_125 {e : zm_D} {k : Int} : zDg e 125 k = e 125 k := zDg_n (zFn_row (by decide +kernel))
theorem zgua_125 {e : zm_D} {k x : Int} : zm_u (zDg e) 125 k x = zDg (zm_u e 125 k x) := zDg_u (zFn_row (by decide +kernel))
theorem zga_126 {e : zm_D} {k : Int} : zDg e 126 k = e 126 k := zDg_n (zFn_row (by decide +kernel))
theorem zgua_126 {e : zm_D} {k x : Int} : zm_u (zDg e) 126 k x = zDg (zm_u e 126 k x) := zDg_u (zFn_row (by decide +kernel))
theorem zga_127 {e : zm_D} {k : Int} : zDg e 127 k = e 127 k := zDg_n (zFn_row (by decide +kernel))
theorem zgua_127 {e : zm_D} {k x : Int} : zm_u (zDg e) 127 k x = zDg (zm_u e 127 k x) := zDg_u (zFn_row (by decide +kernel))
theorem zga_128 {e : zm_D} {k : Int} : zDg e 128 k = e 128 k := zDg_n (zFn_row (by decide +kernel))
theorem zgua_128 {e : zm_D} {k x : Int} : zm_u (zDg e) 128 k x = zDg (zm_u e 128 k x) := zDg_u (zFn_row (by decide +kernel))
theorem zga_129 {e : zm_D} {k : Int} : zDg e 129 k = e 129 k := zDg_n (zFn_row (by decide +kernel))
theorem zgua_129 {e : zm_D} {k x : Int} : zm_u (zDg e) 129 k x = zDg (zm_u e 129 k x) := zDg_u (zFn_row (by decide +kernel))
theorem zga_130 {e : zm_D} {k : Int} : zDg e 130 k = e 130 k := zDg_n (zFn_row (by decide +kernel))
theorem zgua_130 {e : zm_D} {k x : Int} : zm_u (zDg e) 130 k x = zDg (zm_u e 130 k x) := zDg_u (zFn_row (by decide +kernel))
theorem zga_131 {e : zm_D} {k : Int} : zDg e 131 k = e 131 k := zDg_n (zFn_row (by decide +kernel))
theorem zgua_131 {e : zm_D} {k x : Int} : zm_u (zDg e) 131 k x = zDg (zm_u e 131 k x) := zDg_u (zFn_row (by decide +kernel))
theorem zga_132 {e : zm_D} {k : Int} : zDg e 132 k = e 132 k := zDg_n (zFn_row (by decide +kernel))
theorem zgua_132 {e : zm_D} {k x : Int} : zm_u (zDg e) 132 k x = zDg (zm_u e 132 k x) := zDg_u (zFn_row (by decide +kernel))
theorem zg_133_0 {e : zm_D} : zDg e 133 0 = 134 := zDg_f (by decide +kernel)
theorem zg_133_1 {e : zm_D} : zDg e 133 1 = 135 := zDg_f (by decide +kernel)
theorem zg_133_2 {e : zm_D} : zDg e 133 2 = 136 := zDg_f (by decide +kernel)
theorem zga_134 {e : zm_D} {k : Int} : zDg e 134 k = e 134 k := zDg_n (zFn_row (by decide +kernel))
theorem zgua_134 {e : zm_D} {k x : Int} : zm_u (zDg e) 134 k x = zDg (zm_u e 134 k x) := zDg_u (zFn_row (by decide +kernel))
theorem zga_135 {e : zm_D} {k : Int} : zDg e 135 k = e 135 k := zDg_n (zFn_row (by decide +kernel))
theorem zgua_135 {e : zm_D} {k x : Int} : zm_u (zDg e) 135 k x = zDg (zm_u e 135 k x) := zDg_u (zFn_row (by decide +kernel))
theorem zga_136 {e : zm_D} {k : Int} : zDg e 136 k = e 136 k := zDg_n (zFn_row (by decide +kernel))
theorem zgua_136 {e : zm_D} {k x : Int} : zm_u (zDg e) 136 k x = zDg (zm_u e 136 k x) := zDg_u (zFn_row (by decide +kernel))
theorem zga_137 {e : zm_D} {k : Int} : zDg e 137 k = e 137 k := zDg_n (zFn_row (by decide +kernel))
theorem zgua_137 {e : zm_D} {k x : Int} : zm_u (zDg e) 137 k x = zDg (zm_u e 137 k x) := zDg_u (zFn_row (by decide +kernel))
theorem zg_138_0 {e : zm_D} : zDg e 138 0 = 139 := zDg_f (by decide +kernel)
theorem zg_138_1 {e : zm_D} : zDg e 138 1 = 140 := zDg_f (by decide +kernel)
theorem zg_138_2 {e : zm_D} : zDg e 138 2 = 141 := zDg_f (by decide +kernel)
theorem zg_138_3 {e : zm_D} : zDg e 138 3 = 142 := zDg_f (by decide +kernel)
theorem zg_138_4 {e : zm_D} : zDg e 138 4 = 143 := zDg_f (by decide +kernel)
theorem zg_138_5 {e : zm_D} : zDg e 138 5 = 144 := zDg_f (by decide +kernel)
theorem zg_138_6 {e : zm_D} : zDg e 138 6 = 145 := zDg_f (by decide +kernel)
theorem zg_138_7 {e : zm_D} : zDg e 138 7 = 146 := zDg_f (by decide +kernel)
theorem zg_138_8 {e : zm_D} : zDg e 138 8 = 147 := zDg_f (by decide +kernel)
theorem zg_138_9 {e : zm_D} : zDg e 138 9 = 148 := zDg_f (by decide +kernel)
theorem zg_138_10 {e : zm_D} : zDg e 138 10 = 149 := zDg_f (by decide +kernel)
theorem zg_138_11 {e : zm_D} : zDg e 138 11 = 150 := zDg_f (by decide +kernel)
theorem zga_139 {e : zm_D} {k : Int} : zDg e 139 k = e 139 k := zDg_n (zFn_row (by decide +kernel))
theorem zgua_139 {e : zm_D} {k x : Int} : zm_u (zDg e) 139 k x = zDg (zm_u e 139 k x) := zDg_u (zFn_row (by decide +kernel))
theorem zga_140 {e : zm_D} {k : Int} : zDg e 140 k = e 140 k := zDg_n (zFn_row (by decide +kernel))
theorem zgua_140 {e : zm_D} {k x : Int} : zm_u (zDg e) 140 k x = zDg (zm_u e 140 k x) := zDg_u (zFn_row (by decide +kernel))
theorem zga_141 {e : zm_D} {k : Int} : zDg e 141 k = e 141 k := zDg_n (zFn_row (by decide +kernel))
theorem zgua_141 {e : zm_D} {k x : Int} : zm_u (zDg e) 141 k x = zDg (zm_u e 141 k x) := zDg_u (zFn_row (by decide +kernel))
theorem zga_142 {e : zm_D} {k : Int} : zDg e 142 k = e 142 k := zDg_n (zFn_row (by decide +kernel))
theorem zgua_142 {e : zm_D} {k x : Int} : zm_u (zDg e) 142 k x = zDg (zm_u e 142 k x) := zDg_u (zFn_row (by decide +kernel))
theorem zga_143 {e : zm_D} {k : Int} : zDg e 143 k = e 143 k := zDg_n (zFn_row (by decide +kernel))
theorem zgua_143 {e : zm_D} {k x : Int} : zm_u (zDg e) 143 k x = zDg (zm_u e 143 k x) := zDg_u (zFn_row (by decide +kernel))
theorem zga_144 {e : zm_D} {k : Int} : zDg e 144 k = e 144 k := zDg_n (zFn_row (by decide +kernel))
theorem zgua_144 {e : zm_D} {k x : Int} : zm_u (zDg e) 144 k x = zDg (zm_u e 144 k x) := zDg_u (zFn_row (by decide +kernel))
theorem zga_145 {e : zm_D} {k : Int} : zDg e 145 k = e 145 k := zDg_n (zFn_row (by decide +kernel))
theorem zgua_145 {e : zm_D} {k x : Int} : zm_u (zDg e) 145 k x = zDg (zm_u e 145 k x) := zDg_u (zFn_row (by decide +kernel))
theorem zga_146 {e : zm_D} {k : Int} : zDg e 146 k = e 146 k := zDg_n (zFn_row (by decide +kernel))
theorem zgua_146 {e : zm_D} {k x : Int} : zm_u (zDg e) 146 k x = zDg (zm_u e 146 k x) := zDg_u (zFn_row (by decide +kernel))
theorem zga_147 {e : zm_D} {k : Int} : zDg e 147 k = e 147 k := zDg_n (zFn_row (by decide +kernel))
theorem zgua_147 {e : zm_D} {k x : Int} : zm_u (zDg e) 147 k x = zDg (zm_u e 147 k x) := zDg_u (zFn_row (by decide +kernel))
theorem zga_148 {e : zm_D} {k : Int} : zDg e 148 k = e 148 k := zDg_n (zFn_row (by decide +kernel))
theorem zgua_148 {e : zm_D} {k x : Int} : zm_u (zDg e) 148 k x = zDg (zm_u e 148 k x) := zDg_u (zFn_row (by decide +kernel))
theorem zga_149 {e : zm_D} {k : Int} : zDg e 149 k = e 149 k := zDg_n (zFn_row (by decide +kernel))
theorem zgua_149 {e : zm_D} {k x : Int} : zm_u (zDg e) 149 k x = zDg (zm_u e 149 k x) := zDg_u (zFn_row (by decide +kernel))
theorem zga_150 {e : zm_D} {k : Int} : zDg e 150 k = e 150 k := zDg_n (zFn_row (by decide +kernel))
theorem zgua_150 {e : zm_D} {k x : Int} : zm_u (zDg e) 150 k x = zDg (zm_u e 150 k x) := zDg_u (zFn_row (by decide +kernel))
theorem zg_151_0 {e : zm_D} : zDg e 151 0 = 152 := zDg_f (by decide +kernel)
theorem zg_151_1 {e : zm_D} : zDg e 151 1 = 153 := zDg_f (by decide +kernel)
theorem zg_151_2 {e : zm_D} : zDg e 151 2 = 154 := zDg_f (by decide +kernel)
theorem zg_151_3 {e : zm_D} : zDg e 151 3 = 155 := zDg_f (by decide +kernel)
theorem zg_151_4 {e : zm_D} : zDg e 151 4 = 156 := zDg_f (by decide +kernel)
theorem zg_151_5 {e : zm_D} : zDg e 151 5 = 157 := zDg_f (by decide +kernel)
theorem zg_151_6 {e : zm_D} : zDg e 151 6 = 158 := zDg_f (by decide +kernel)
theorem zg_151_7 {e : zm_D} : zDg e 151 7 = 159 := zDg_f (by decide +kernel)
theorem zga_152 {e : zm_D} {k : Int} : zDg e 152 k = e 152 k := zDg_n (zFn_row (by decide +kernel))
theorem zgua_152 {e : zm_D} {k x : Int} : zm_u (zDg e) 152 k x = zDg (zm_u e 152 k x) := zDg_u (zFn_row (by decide +kernel))
theorem zga_153 {e : zm_D} {k : Int} : zDg e 153 k = e 153 k := zDg_n (zFn_row (by decide +kernel))
theorem zgua_153 {e : zm_D} {k x : Int} : zm_u (zDg e) 153 k x = zDg (zm_u e 153 k x) := zDg_u (zFn_row (by decide +kernel))
theorem zga_154 {e : zm_D} {k : Int} : zDg e 154 k = e 154 k := zDg_n (zFn_row (by decide +kernel))
theorem zgua_154 {e : zm_D} {k x : Int} : zm_u (zDg e) 154 k x = zDg (zm_u e 154 k x) := zDg_u (zFn_row (by decide +kernel))
theorem zga_155 {e : zm_D} {k : Int} : zDg e 155 k = e 155 k := zDg_n (zFn_row (by decide +kernel))
theorem zgua_155 {e : zm_D} {k x : Int} : zm_u (zDg e) 155 k x = zDg (zm_u e 155 k x) := zDg_u (zFn_row (by decide +kernel))
theorem zga_156 {e : zm_D} {k : Int} : zDg e 156 k = e 156 k := zDg_n (zFn_row (by decide +kernel))
theorem zgua_156 {e : zm_D} {k x : Int} : zm_u (zDg e) 156 k x = zDg (zm_u e 156 k x) := zDg_u (zFn_row (by decide +kernel))
theorem zga_157 {e : zm_D} {k : Int} : zDg e 157 k = e 157 k := zDg_n (zFn_row (by decide +kernel))
theorem zgua_157 {e : zm_D} {k x : Int} : zm_u (zDg e) 157 k x = zDg (zm_u e 157 k x) := zDg_u (zFn_row (by decide +kernel))
theorem zga_158 {e : zm_D} {k : Int} : zDg e 158 k = e 158 k := zDg_n (zFn_row (by decide +kernel))
theorem zgua_158 {e : zm_D} {k x : Int} : zm_u (zDg e) 158 k x = zDg (zm_u e 158 k x) := zDg_u (zFn_row (by decide +kernel))
theorem zga_159 {e : zm_D} {k : Int} : zDg e 159 k = e 159 k := zDg_n (zFn_row (by decide +kernel))
theorem zgua_159 {e : zm_D} {k x : Int} : zm_u (zDg e) 159 k x = zDg (zm_u e 159 k x) := zDg_u (zFn_row (by decide +kernel))
theorem zga_160 {e : zm_D} {k : Int} : zDg e 160 k = e 160 k := zDg_n (zFn_row (by decide +kernel))
theorem zgua_160 {e : zm_D} {k x : Int} : zm_u (zDg e) 160 k x = zDg (zm_u e 160 k x) := zDg_u (zFn_row (by decide +kernel))
theorem zga_161 {e : zm_D} {k : Int} : zDg e 161 k = e 161 k := zDg_n (zFn_row (by decide +kernel))
theorem zgua_161 {e : zm_D} {k x : Int} : zm_u (zDg e) 161 k x = zDg (zm_u e 161 k x) := zDg_u (zFn_row (by decide +kernel))
theorem zSF_G {g : Int → zk_K} {i : Int} (h : 0 ≤ i ∧ i < 8) : zSg g (15 + 2 * i) = some (.inl 2) := by
  rcases (by omega : i = 0 ∨ i = 1 ∨ i = 2 ∨ i = 3 ∨ i = 4 ∨ i = 5 ∨ i = 6 ∨ i = 7) with rfl | rfl | rfl | rfl | rfl | rfl | rfl | rfl
  · exact zSg_15
  · exact zSg_17
  · exact zSg_19
  · exact zSg_21
  · exact zSg_23
  · exact zSg_25
  · exact zSg_27
  · exact zSg_29

theorem zDF_G_0 {e : zm_D} {i : Int} (h : 0 ≤ i ∧ i < 8) : zDg e (15 + 2 * i) 0 = 16 + 2 * i := by
  rcases (by omega : i = 0 ∨ i = 1 ∨ i = 2 ∨ i = 3 ∨ i = 4 ∨ i = 5 ∨ i = 6 ∨ i = 7) with rfl | rfl | rfl | rfl | rfl | rfl | rfl | rfl
  · exact zg_15_0
  · exact zg_17_0
  · exact zg_19_0
  · exact zg_21_0
  · exact zg_23_0
  · exact zg_25_0
  · exact zg_27_0
  · exact zg_29_0

theorem zDF_G_1 {e : zm_D} {i : Int} (h : 0 ≤ i ∧ i < 8) : zDg e (15 + 2 * i) 1 = e (15 + 2 * i) 1 := by
  rcases (by omega : i = 0 ∨ i = 1 ∨ i = 2 ∨ i = 3 ∨ i = 4 ∨ i = 5 ∨ i = 6 ∨ i = 7) with rfl | rfl | rfl | rfl | rfl | rfl | rfl | rfl
  · exact zg_15_1
  · exact zg_17_1
  · exact zg_19_1
  · exact zg_21_1
  · exact zg_23_1
  · exact zg_25_1
  · exact zg_27_1
  · exact zg_29_1

theorem zUF_G_1 {e : zm_D} {i x : Int} (h : 0 ≤ i ∧ i < 8) : zm_u (zDg e) (15 + 2 * i) 1 x = zDg (zm_u e (15 + 2 * i) 1 x) := by
  rcases (by omega : i = 0 ∨ i = 1 ∨ i = 2 ∨ i = 3 ∨ i = 4 ∨ i = 5 ∨ i = 6 ∨ i = 7) with rfl | rfl | rfl | rfl | rfl | rfl | rfl | rfl
  · exact zgu_15_1
  · exact zgu_17_1
  · exact zgu_19_1
  · exact zgu_21_1
  · exact zgu_23_1
  · exact zgu_25_1
  · exact zgu_27_1
  · exact zgu_29_1

theorem zDF_G_2 {e : zm_D} {i : Int} (h : 0 ≤ i ∧ i < 8) : zDg e (15 + 2 * i) 2 = e (15 + 2 * i) 2 := by
  rcases (by omega : i = 0 ∨ i = 1 ∨ i = 2 ∨ i = 3 ∨ i = 4 ∨ i = 5 ∨ i = 6 ∨ i = 7) with rfl | rfl | rfl | rfl | rfl | rfl | rfl | rfl
  · exact zg_15_2
  · exact zg_17_2
  · exact zg_19_2
  · exact zg_21_2
  · exact zg_23_2
  · exact zg_25_2
  · exact zg_27_2
  · exact zg_29_2

theorem zUF_G_2 {e : zm_D} {i x : Int} (h : 0 ≤ i ∧ i < 8) : zm_u (zDg e) (15 + 2 * i) 2 x = zDg (zm_u e (15 + 2 * i) 2 x) := by
  rcases (by omega : i = 0 ∨ i = 1 ∨ i = 2 ∨ i = 3 ∨ i = 4 ∨ i = 5 ∨ i = 6 ∨ i = 7) with rfl | rfl | rfl | rfl | rfl | rfl | rfl | rfl
  · exact zgu_15_2
  · exact zgu_17_2
  · exact zgu_19_2
  · exact zgu_21_2
  · exact zgu_23_2
  · exact zgu_25_2
  · exact zgu_27_2
  · exact zgu_29_2

theorem zDF_G_3 {e : zm_D} {i : Int} (h : 0 ≤ i ∧ i < 8) : zDg e (15 + 2 * i) 3 = e (15 + 2 * i) 3 := by
  rcases (by omega : i = 0 ∨ i = 1 ∨ i = 2 ∨ i = 3 ∨ i = 4 ∨ i = 5 ∨ i = 6 ∨ i = 7) with rfl | rfl | rfl | rfl | rfl | rfl | rfl | rfl
  · exact zg_15_3
  · exact zg_17_3
  · exact zg_19_3
  · exact zg_21_3
  · exact zg_23_3
  · exact zg_25_3
  · exact zg_27_3
  · exact zg_29_3

theorem zUF_G_3 {e : zm_D} {i x : Int} (h : 0 ≤ i ∧ i < 8) : zm_u (zDg e) (15 + 2 * i) 3 x = zDg (zm_u e (15 + 2 * i) 3 x) := by
  rcases (by omega : i = 0 ∨ i = 1 ∨ i = 2 ∨ i = 3 ∨ i = 4 ∨ i = 5 ∨ i = 6 ∨ i = 7) with rfl | rfl | rfl | rfl | rfl | rfl | rfl | rfl
  · exact zgu_15_3
  · exact zgu_17_3
  · exact zgu_19_3
  · exact zgu_21_3
  · exact zgu_23_3
  · exact zgu_25_3
  · exact zgu_27_3
  · exact zgu_29_3

theorem zDF_G_4 {e : zm_D} {i : Int} (h : 0 ≤ i ∧ i < 8) : zDg e (15 + 2 * i) 4 = e (15 + 2 * i) 4 := by
  rcases (by omega : i = 0 ∨ i = 1 ∨ i = 2 ∨ i = 3 ∨ i = 4 ∨ i = 5 ∨ i = 6 ∨ i = 7) with rfl | rfl | rfl | rfl | rfl | rfl | rfl | rfl
  · exact zg_15_4
  · exact zg_17_4
  · exact zg_19_4
  · exact zg_21_4
  · exact zg_23_4
  · exact zg_25_4
  · exact zg_27_4
  · exact zg_29_4

theorem zUF_G_4 {e : zm_D} {i x : Int} (h : 0 ≤ i ∧ i < 8) : zm_u (zDg e) (15 + 2 * i) 4 x = zDg (zm_u e (15 + 2 * i) 4 x) := by
  rcases (by omega : i = 0 ∨ i = 1 ∨ i = 2 ∨ i = 3 ∨ i = 4 ∨ i = 5 ∨ i = 6 ∨ i = 7) with rfl | rfl | rfl | rfl | rfl | rfl | rfl | rfl
  · exact zgu_15_4
  · exact zgu_17_4
  · exact zgu_19_4
  · exact zgu_21_4
  · exact zgu_23_4
  · exact zgu_25_4
  · exact zgu_27_4
  · exact zgu_29_4

theorem zDF_G_5 {e : zm_D} {i : Int} (h : 0 ≤ i ∧ i < 8) : zDg e (15 + 2 * i) 5 = e (15 + 2 * i) 5 := by
  rcases (by omega : i = 0 ∨ i = 1 ∨ i = 2 ∨ i = 3 ∨ i = 4 ∨ i = 5 ∨ i = 6 ∨ i = 7) with rfl | rfl | rfl | rfl | rfl | rfl | rfl | rfl
  · exact zg_15_5
  · exact zg_17_5
  · exact zg_19_5
  · exact zg_21_5
  · exact zg_23_5
  · exact zg_25_5
  · exact zg_27_5
  · exact zg_29_5

theorem zUF_G_5 {e : zm_D} {i x : Int} (h : 0 ≤ i ∧ i < 8) : zm_u (zDg e) (15 + 2 * i) 5 x = zDg (zm_u e (15 + 2 * i) 5 x) := by
  rcases (by omega : i = 0 ∨ i = 1 ∨ i = 2 ∨ i = 3 ∨ i = 4 ∨ i = 5 ∨ i = 6 ∨ i = 7) with rfl | rfl | rfl | rfl | rfl | rfl | rfl | rfl
  · exact zgu_15_5
  · exact zgu_17_5
  · exact zgu_19_5
  · exact zgu_21_5
  · exact zgu_23_5
  · exact zgu_25_5
  · exact zgu_27_5
  · exact zgu_29_5

theorem zDF_G_6 {e : zm_D} {i : Int} (h : 0 ≤ i ∧ i < 8) : zDg e (15 + 2 * i) 6 = e (15 + 2 * i) 6 := by
  rcases (by omega : i = 0 ∨ i = 1 ∨ i = 2 ∨ i = 3 ∨ i = 4 ∨ i = 5 ∨ i = 6 ∨ i = 7) with rfl | rfl | rfl | rfl | rfl | rfl | rfl | rfl
  · exact zg_15_6
  · exact zg_17_6
  · exact zg_19_6
  · exact zg_21_6
  · exact zg_23_6
  · exact zg_25_6
  · exact zg_27_6
  · exact zg_29_6

theorem zUF_G_6 {e : zm_D} {i x : Int} (h : 0 ≤ i ∧ i < 8) : zm_u (zDg e) (15 + 2 * i) 6 x = zDg (zm_u e (15 + 2 * i) 6 x) := by
  rcases (by omega : i = 0 ∨ i = 1 ∨ i = 2 ∨ i = 3 ∨ i = 4 ∨ i = 5 ∨ i = 6 ∨ i = 7) with rfl | rfl | rfl | rfl | rfl | rfl | rfl | rfl
  · exact zgu_15_6
  · exact zgu_17_6
  · exact zgu_19_6
  · exact zgu_21_6
  · exact zgu_23_6
  · exact zgu_25_6
  · exact zgu_27_6
  · exact zgu_29_6

theorem zDF_G_7 {e : zm_D} {i : Int} (h : 0 ≤ i ∧ i < 8) : zDg e (15 + 2 * i) 7 = e (15 + 2 * i) 7 := by
  rcases (by omega : i = 0 ∨ i = 1 ∨ i = 2 ∨ i = 3 ∨ i = 4 ∨ i = 5 ∨ i = 6 ∨ i = 7) with rfl | rfl | rfl | rfl | rfl | rfl | rfl | rfl
  · exact zg_15_7
  · exact zg_17_7
  · exact zg_19_7
  · exact zg_21_7
  · exact zg_23_7
  · exact zg_25_7
  · exact zg_27_7
  · exact zg_29_7

theorem zUF_G_7 {e : zm_D} {i x : Int} (h : 0 ≤ i ∧ i < 8) : zm_u (zDg e) (15 + 2 * i) 7 x = zDg (zm_u e (15 + 2 * i) 7 x) := by
  rcases (by omega : i = 0 ∨ i = 1 ∨ i = 2 ∨ i = 3 ∨ i = 4 ∨ i = 5 ∨ i = 6 ∨ i = 7) with rfl | rfl | rfl | rfl | rfl | rfl | rfl | rfl
  · exact zgu_15_7
  · exact zgu_17_7
  · exact zgu_19_7
  · exact zgu_21_7
  · exact zgu_23_7
  · exact zgu_25_7
  · exact zgu_27_7
  · exact zgu_29_7

theorem zDF_G_8 {e : zm_D} {i : Int} (h : 0 ≤ i ∧ i < 8) : zDg e (15 + 2 * i) 8 = e (15 + 2 * i) 8 := by
  rcases (by omega : i = 0 ∨ i = 1 ∨ i = 2 ∨ i = 3 ∨ i = 4 ∨ i = 5 ∨ i = 6 ∨ i = 7) with rfl | rfl | rfl | rfl | rfl | rfl | rfl | rfl
  · exact zg_15_8
  · exact zg_17_8
  · exact zg_19_8
  · exact zg_21_8
  · exact zg_23_8
  · exact zg_25_8
  · exact zg_27_8
  · exact zg_29_8

theorem zUF_G_8 {e : zm_D} {i x : Int} (h : 0 ≤ i ∧ i < 8) : zm_u (zDg e) (15 + 2 * i) 8 x = zDg (zm_u e (15 + 2 * i) 8 x) := by
  rcases (by omega : i = 0 ∨ i = 1 ∨ i = 2 ∨ i = 3 ∨ i = 4 ∨ i = 5 ∨ i = 6 ∨ i = 7) with rfl | rfl | rfl | rfl | rfl | rfl | rfl | rfl
  · exact zgu_15_8
  · exact zgu_17_8
  · exact zgu_19_8
  · exact zgu_21_8
  · exact zgu_23_8
  · exact zgu_25_8
  · exact zgu_27_8
  · exact zgu_29_8

theorem zDF_G_9 {e : zm_D} {i : Int} (h : 0 ≤ i ∧ i < 8) : zDg e (15 + 2 * i) 9 = e (15 + 2 * i) 9 := by
  rcases (by omega : i = 0 ∨ i = 1 ∨ i = 2 ∨ i = 3 ∨ i = 4 ∨ i = 5 ∨ i = 6 ∨ i = 7) with rfl | rfl | rfl | rfl | rfl | rfl | rfl | rfl
  · exact zg_15_9
  · exact zg_17_9
  · exact zg_19_9
  · exact zg_21_9
  · exact zg_23_9
  · exact zg_25_9
  · exact zg_27_9
  · exact zg_29_9

theorem zUF_G_9 {e : zm_D} {i x : Int} (h : 0 ≤ i ∧ i < 8) : zm_u (zDg e) (15 + 2 * i) 9 x = zDg (zm_u e (15 + 2 * i) 9 x) := by
  rcases (by omega : i = 0 ∨ i = 1 ∨ i = 2 ∨ i = 3 ∨ i = 4 ∨ i = 5 ∨ i = 6 ∨ i = 7) with rfl | rfl | rfl | rfl | rfl | rfl | rfl | rfl
  · exact zgu_15_9
  · exact zgu_17_9
  · exact zgu_19_9
  · exact zgu_21_9
  · exact zgu_23_9
  · exact zgu_25_9
  · exact zgu_27_9
  · exact zgu_29_9

theorem zDF_G_10 {e : zm_D} {i : Int} (h : 0 ≤ i ∧ i < 8) : zDg e (15 + 2 * i) 10 = e (15 + 2 * i) 10 := by
  rcases (by omega : i = 0 ∨ i = 1 ∨ i = 2 ∨ i = 3 ∨ i = 4 ∨ i = 5 ∨ i = 6 ∨ i = 7) with rfl | rfl | rfl | rfl | rfl | rfl | rfl | rfl
  · exact zg_15_10
  · exact zg_17_10
  · exact zg_19_10
  · exact zg_21_10
  · exact zg_23_10
  · exact zg_25_10
  · exact zg_27_10
  · exact zg_29_10

theorem zUF_G_10 {e : zm_D} {i x : Int} (h : 0 ≤ i ∧ i < 8) : zm_u (zDg e) (15 + 2 * i) 10 x = zDg (zm_u e (15 + 2 * i) 10 x) := by
  rcases (by omega : i = 0 ∨ i = 1 ∨ i = 2 ∨ i = 3 ∨ i = 4 ∨ i = 5 ∨ i = 6 ∨ i = 7) with rfl | rfl | rfl | rfl | rfl | rfl | rfl | rfl
  · exact zgu_15_10
  · exact zgu_17_10
  · exact zgu_19_10
  · exact zgu_21_10
  · exact zgu_23_10
  · exact zgu_25_10
  · exact zgu_27_10
  · exact zgu_29_10

theorem zDF_G_11 {e : zm_D} {i : Int} (h : 0 ≤ i ∧ i < 8) : zDg e (15 + 2 * i) 11 = e (15 + 2 * i) 11 := by
  rcases (by omega : i = 0 ∨ i = 1 ∨ i = 2 ∨ i = 3 ∨ i = 4 ∨ i = 5 ∨ i = 6 ∨ i = 7) with rfl | rfl | rfl | rfl | rfl | rfl | rfl | rfl
  · exact zg_15_11
  · exact zg_17_11
  · exact zg_19_11
  · exact zg_21_11
  · exact zg_23_11
  · exact zg_25_11
  · exact zg_27_11
  · exact zg_29_11

theorem zUF_G_11 {e : zm_D} {i x : Int} (h : 0 ≤ i ∧ i < 8) : zm_u (zDg e) (15 + 2 * i) 11 x = zDg (zm_u e (15 + 2 * i) 11 x) := by
  rcases (by omega : i = 0 ∨ i = 1 ∨ i = 2 ∨ i = 3 ∨ i = 4 ∨ i = 5 ∨ i = 6 ∨ i = 7) with rfl | rfl | rfl | rfl | rfl | rfl | rfl | rfl
  · exact zgu_15_11
  · exact zgu_17_11
  · exact zgu_19_11
  · exact zgu_21_11
  · exact zgu_23_11
  · exact zgu_25_11
  · exact zgu_27_11
  · exact zgu_29_11

theorem zDF_G_12 {e : zm_D} {i : Int} (h : 0 ≤ i ∧ i < 8) : zDg e (15 + 2 * i) 12 = e (15 + 2 * i) 12 := by
  rcases (by omega : i = 0 ∨ i = 1 ∨ i = 2 ∨ i = 3 ∨ i = 4 ∨ i = 5 ∨ i = 6 ∨ i = 7) with rfl | rfl | rfl | rfl | rfl | rfl | rfl | rfl
  · exact zg_15_12
  · exact zg_17_12
  · exact zg_19_12
  · exact zg_21_12
  · exact zg_23_12
  · exact zg_25_12
  · exact zg_27_12
  · exact zg_29_12

theorem zUF_G_12 {e : zm_D} {i x : Int} (h : 0 ≤ i ∧ i < 8) : zm_u (zDg e) (15 + 2 * i) 12 x = zDg (zm_u e (15 + 2 * i) 12 x) := by
  rcases (by omega : i = 0 ∨ i = 1 ∨ i = 2 ∨ i = 3 ∨ i = 4 ∨ i = 5 ∨ i = 6 ∨ i = 7) with rfl | rfl | rfl | rfl | rfl | rfl | rfl | rfl
  · exact zgu_15_12
  · exact zgu_17_12
  · exact zgu_19_12
  · exact zgu_21_12
  · exact zgu_23_12
  · exact zgu_25_12
  · exact zgu_27_12
  · exact zgu_29_12

theorem zSF_P {g : Int → zk_K} {i : Int} (h : 0 ≤ i ∧ i < 8) : zSg g (16 + 2 * i) = some (.inr (.int, 4)) := by
  rcases (by omega : i = 0 ∨ i = 1 ∨ i = 2 ∨ i = 3 ∨ i = 4 ∨ i = 5 ∨ i = 6 ∨ i = 7) with rfl | rfl | rfl | rfl | rfl | rfl | rfl | rfl
  · exact zSg_16
  · exact zSg_18
  · exact zSg_20
  · exact zSg_22
  · exact zSg_24
  · exact zSg_26
  · exact zSg_28
  · exact zSg_30

theorem zDF_P {e : zm_D} {i k : Int} (h : 0 ≤ i ∧ i < 8) : zDg e (16 + 2 * i) k = e (16 + 2 * i) k := by
  rcases (by omega : i = 0 ∨ i = 1 ∨ i = 2 ∨ i = 3 ∨ i = 4 ∨ i = 5 ∨ i = 6 ∨ i = 7) with rfl | rfl | rfl | rfl | rfl | rfl | rfl | rfl
  · exact zga_16
  · exact zga_18
  · exact zga_20
  · exact zga_22
  · exact zga_24
  · exact zga_26
  · exact zga_28
  · exact zga_30

theorem zUF_P {e : zm_D} {i k x : Int} (h : 0 ≤ i ∧ i < 8) : zm_u (zDg e) (16 + 2 * i) k x = zDg (zm_u e (16 + 2 * i) k x) := by
  rcases (by omega : i = 0 ∨ i = 1 ∨ i = 2 ∨ i = 3 ∨ i = 4 ∨ i = 5 ∨ i = 6 ∨ i = 7) with rfl | rfl | rfl | rfl | rfl | rfl | rfl | rfl
  · exact zgua_16
  · exact zgua_18
  · exact zgua_20
  · exact zgua_22
  · exact zgua_24
  · exact zgua_26
  · exact zgua_28
  · exact zgua_30

theorem zSF_T {g : Int → zk_K} {i : Int} (h : 0 ≤ i ∧ i < 3) : zSg g (31 + i) = some (.inl 8) := by
  rcases (by omega : i = 0 ∨ i = 1 ∨ i = 2) with rfl | rfl | rfl
  · exact zSg_31
  · exact zSg_32
  · exact zSg_33

theorem zDF_T_0 {e : zm_D} {i : Int} (h : 0 ≤ i ∧ i < 3) : zDg e (31 + i) 0 = 4 := by
  rcases (by omega : i = 0 ∨ i = 1 ∨ i = 2) with rfl | rfl | rfl
  · exact zg_31_0
  · exact zg_32_0
  · exact zg_33_0

theorem zDF_T_1 {e : zm_D} {i : Int} (h : 0 ≤ i ∧ i < 3) : zDg e (31 + i) 1 = e (31 + i) 1 := by
  rcases (by omega : i = 0 ∨ i = 1 ∨ i = 2) with rfl | rfl | rfl
  · exact zg_31_1
  · exact zg_32_1
  · exact zg_33_1

theorem zUF_T_1 {e : zm_D} {i x : Int} (h : 0 ≤ i ∧ i < 3) : zm_u (zDg e) (31 + i) 1 x = zDg (zm_u e (31 + i) 1 x) := by
  rcases (by omega : i = 0 ∨ i = 1 ∨ i = 2) with rfl | rfl | rfl
  · exact zgu_31_1
  · exact zgu_32_1
  · exact zgu_33_1

theorem zDF_T_2 {e : zm_D} {i : Int} (h : 0 ≤ i ∧ i < 3) : zDg e (31 + i) 2 = e (31 + i) 2 := by
  rcases (by omega : i = 0 ∨ i = 1 ∨ i = 2) with rfl | rfl | rfl
  · exact zg_31_2
  · exact zg_32_2
  · exact zg_33_2

theorem zUF_T_2 {e : zm_D} {i x : Int} (h : 0 ≤ i ∧ i < 3) : zm_u (zDg e) (31 + i) 2 x = zDg (zm_u e (31 + i) 2 x) := by
  rcases (by omega : i = 0 ∨ i = 1 ∨ i = 2) with rfl | rfl | rfl
  · exact zgu_31_2
  · exact zgu_32_2
  · exact zgu_33_2

theorem zDF_T_3 {e : zm_D} {i : Int} (h : 0 ≤ i ∧ i < 3) : zDg e (31 + i) 3 = e (31 + i) 3 := by
  rcases (by omega : i = 0 ∨ i = 1 ∨ i = 2) with rfl | rfl | rfl
  · exact zg_31_3
  · exact zg_32_3
  · exact zg_33_3

theorem zUF_T_3 {e : zm_D} {i x : Int} (h : 0 ≤ i ∧ i < 3) : zm_u (zDg e) (31 + i) 3 x = zDg (zm_u e (31 + i) 3 x) := by
  rcases (by omega : i = 0 ∨ i = 1 ∨ i = 2) with rfl | rfl | rfl
  · exact zgu_31_3
  · exact zgu_32_3
  · exact zgu_33_3

theorem zDF_T_4 {e : zm_D} {i : Int} (h : 0 ≤ i ∧ i < 3) : zDg e (31 + i) 4 = e (31 + i) 4 := by
  rcases (by omega : i = 0 ∨ i = 1 ∨ i = 2) with rfl | rfl | rfl
  · exact zg_31_4
  · exact zg_32_4
  · exact zg_33_4

theorem zUF_T_4 {e : zm_D} {i x : Int} (h : 0 ≤ i ∧ i < 3) : zm_u (zDg e) (31 + i) 4 x = zDg (zm_u e (31 + i) 4 x) := by
  rcases (by omega : i = 0 ∨ i = 1 ∨ i = 2) with rfl | rfl | rfl
  · exact zgu_31_4
  · exact zgu_32_4
  · exact zgu_33_4

theorem zSF_E {g : Int → zk_K} {i : Int} (h : 0 ≤ i ∧ i < 3) : zSg g (38 + 5 * i) = some (.inl 6) := by
  rcases (by omega : i = 0 ∨ i = 1 ∨ i = 2) with rfl | rfl | rfl
  · exact zSg_38
  · exact zSg_43
  · exact zSg_48

theorem zDF_E_0 {e : zm_D} {i : Int} (h : 0 ≤ i ∧ i < 3) : zDg e (38 + 5 * i) 0 = 39 + 5 * i := by
  rcases (by omega : i = 0 ∨ i = 1 ∨ i = 2) with rfl | rfl | rfl
  · exact zg_38_0
  · exact zg_43_0
  · exact zg_48_0

theorem zDF_E_1 {e : zm_D} {i : Int} (h : 0 ≤ i ∧ i < 3) : zDg e (38 + 5 * i) 1 = 41 + 5 * i := by
  rcases (by omega : i = 0 ∨ i = 1 ∨ i = 2) with rfl | rfl | rfl
  · exact zg_38_1
  · exact zg_43_1
  · exact zg_48_1

theorem zDF_E_2 {e : zm_D} {i : Int} (h : 0 ≤ i ∧ i < 3) : zDg e (38 + 5 * i) 2 = e (38 + 5 * i) 2 := by
  rcases (by omega : i = 0 ∨ i = 1 ∨ i = 2) with rfl | rfl | rfl
  · exact zg_38_2
  · exact zg_43_2
  · exact zg_48_2

theorem zUF_E_2 {e : zm_D} {i x : Int} (h : 0 ≤ i ∧ i < 3) : zm_u (zDg e) (38 + 5 * i) 2 x = zDg (zm_u e (38 + 5 * i) 2 x) := by
  rcases (by omega : i = 0 ∨ i = 1 ∨ i = 2) with rfl | rfl | rfl
  · exact zgu_38_2
  · exact zgu_43_2
  · exact zgu_48_2

theorem zDF_E_3 {e : zm_D} {i : Int} (h : 0 ≤ i ∧ i < 3) : zDg e (38 + 5 * i) 3 = e (38 + 5 * i) 3 := by
  rcases (by omega : i = 0 ∨ i = 1 ∨ i = 2) with rfl | rfl | rfl
  · exact zg_38_3
  · exact zg_43_3
  · exact zg_48_3

theorem zUF_E_3 {e : zm_D} {i x : Int} (h : 0 ≤ i ∧ i < 3) : zm_u (zDg e) (38 + 5 * i) 3 x = zDg (zm_u e (38 + 5 * i) 3 x) := by
  rcases (by omega : i = 0 ∨ i = 1 ∨ i = 2) with rfl | rfl | rfl
  · exact zgu_38_3
  · exact zgu_43_3
  · exact zgu_48_3

theorem zSF_H {g : Int → zk_K} {i : Int} (h : 0 ≤ i ∧ i < 3) : zSg g (39 + 5 * i) = some (.inl 3) := by
  rcases (by omega : i = 0 ∨ i = 1 ∨ i = 2) with rfl | rfl | rfl
  · exact zSg_39
  · exact zSg_44
  · exact zSg_49

theorem zDF_H_0 {e : zm_D} {i : Int} (h : 0 ≤ i ∧ i < 3) : zDg e (39 + 5 * i) 0 = 40 + 5 * i := by
  rcases (by omega : i = 0 ∨ i = 1 ∨ i = 2) with rfl | rfl | rfl
  · exact zg_39_0
  · exact zg_44_0
  · exact zg_49_0

theorem zDF_H_1 {e : zm_D} {i : Int} (h : 0 ≤ i ∧ i < 3) : zDg e (39 + 5 * i) 1 = e (39 + 5 * i) 1 := by
  rcases (by omega : i = 0 ∨ i = 1 ∨ i = 2) with rfl | rfl | rfl
  · exact zg_39_1
  · exact zg_44_1
  · exact zg_49_1

theorem zUF_H_1 {e : zm_D} {i x : Int} (h : 0 ≤ i ∧ i < 3) : zm_u (zDg e) (39 + 5 * i) 1 x = zDg (zm_u e (39 + 5 * i) 1 x) := by
  rcases (by omega : i = 0 ∨ i = 1 ∨ i = 2) with rfl | rfl | rfl
  · exact zgu_39_1
  · exact zgu_44_1
  · exact zgu_49_1

theorem zDF_H_2 {e : zm_D} {i : Int} (h : 0 ≤ i ∧ i < 3) : zDg e (39 + 5 * i) 2 = e (39 + 5 * i) 2 := by
  rcases (by omega : i = 0 ∨ i = 1 ∨ i = 2) with rfl | rfl | rfl
  · exact zg_39_2
  · exact zg_44_2
  · exact zg_49_2

theorem zUF_H_2 {e : zm_D} {i x : Int} (h : 0 ≤ i ∧ i < 3) : zm_u (zDg e) (39 + 5 * i) 2 x = zDg (zm_u e (39 + 5 * i) 2 x) := by
  rcases (by omega : i = 0 ∨ i = 1 ∨ i = 2) with rfl | rfl | rfl
  · exact zgu_39_2
  · exact zgu_44_2
  · exact zgu_49_2

theorem zDF_H_3 {e : zm_D} {i : Int} (h : 0 ≤ i ∧ i < 3) : zDg e (39 + 5 * i) 3 = e (39 + 5 * i) 3 := by
  rcases (by omega : i = 0 ∨ i = 1 ∨ i = 2) with rfl | rfl | rfl
  · exact zg_39_3
  · exact zg_44_3
  · exact zg_49_3

theorem zUF_H_3 {e : zm_D} {i x : Int} (h : 0 ≤ i ∧ i < 3) : zm_u (zDg e) (39 + 5 * i) 3 x = zDg (zm_u e (39 + 5 * i) 3 x) := by
  rcases (by omega : i = 0 ∨ i = 1 ∨ i = 2) with rfl | rfl | rfl
  · exact zgu_39_3
  · exact zgu_44_3
  · exact zgu_49_3

theorem zDF_H_4 {e : zm_D} {i : Int} (h : 0 ≤ i ∧ i < 3) : zDg e (39 + 5 * i) 4 = e (39 + 5 * i) 4 := by
  rcases (by omega : i = 0 ∨ i = 1 ∨ i = 2) with rfl | rfl | rfl
  · exact zg_39_4
  · exact zg_44_4
  · exact zg_49_4

theorem zUF_H_4 {e : zm_D} {i x : Int} (h : 0 ≤ i ∧ i < 3) : zm_u (zDg e) (39 + 5 * i) 4 x = zDg (zm_u e (39 + 5 * i) 4 x) := by
  rcases (by omega : i = 0 ∨ i = 1 ∨ i = 2) with rfl | rfl | rfl
  · exact zgu_39_4
  · exact zgu_44_4
  · exact zgu_49_4

theorem zDF_H_5 {e : zm_D} {i : Int} (h : 0 ≤ i ∧ i < 3) : zDg e (39 + 5 * i) 5 = e (39 + 5 * i) 5 := by
  rcases (by omega : i = 0 ∨ i = 1 ∨ i = 2) with rfl | rfl | rfl
  · exact zg_39_5
  · exact zg_44_5
  · exact zg_49_5

theorem zUF_H_5 {e : zm_D} {i x : Int} (h : 0 ≤ i ∧ i < 3) : zm_u (zDg e) (39 + 5 * i) 5 x = zDg (zm_u e (39 + 5 * i) 5 x) := by
  rcases (by omega : i = 0 ∨ i = 1 ∨ i = 2) with rfl | rfl | rfl
  · exact zgu_39_5
  · exact zgu_44_5
  · exact zgu_49_5

theorem zDF_H_6 {e : zm_D} {i : Int} (h : 0 ≤ i ∧ i < 3) : zDg e (39 + 5 * i) 6 = e (39 + 5 * i) 6 := by
  rcases (by omega : i = 0 ∨ i = 1 ∨ i = 2) with rfl | rfl | rfl
  · exact zg_39_6
  · exact zg_44_6
  · exact zg_49_6

theorem zUF_H_6 {e : zm_D} {i x : Int} (h : 0 ≤ i ∧ i < 3) : zm_u (zDg e) (39 + 5 * i) 6 x = zDg (zm_u e (39 + 5 * i) 6 x) := by
  rcases (by omega : i = 0 ∨ i = 1 ∨ i = 2) with rfl | rfl | rfl
  · exact zgu_39_6
  · exact zgu_44_6
  · exact zgu_49_6

theorem zSF_I {g : Int → zk_K} {i : Int} (h : 0 ≤ i ∧ i < 3) : zSg g (40 + 5 * i) = some (.inr (.int, 22)) := by
  rcases (by omega : i = 0 ∨ i = 1 ∨ i = 2) with rfl | rfl | rfl
  · exact zSg_40
  · exact zSg_45
  · exact zSg_50

theorem zDF_I {e : zm_D} {i k : Int} (h : 0 ≤ i ∧ i < 3) : zDg e (40 + 5 * i) k = e (40 + 5 * i) k := by
  rcases (by omega : i = 0 ∨ i = 1 ∨ i = 2) with rfl | rfl | rfl
  · exact zga_40
  · exact zga_45
  · exact zga_50

theorem zUF_I {e : zm_D} {i k x : Int} (h : 0 ≤ i ∧ i < 3) : zm_u (zDg e) (40 + 5 * i) k x = zDg (zm_u e (40 + 5 * i) k x) := by
  rcases (by omega : i = 0 ∨ i = 1 ∨ i = 2) with rfl | rfl | rfl
  · exact zgua_40
  · exact zgua_45
  · exact zgua_50

theorem zSF_J {g : Int → zk_K} {i : Int} (h : 0 ≤ i ∧ i < 3) : zSg g (41 + 5 * i) = some (.inl 3) := by
  rcases (by omega : i = 0 ∨ i = 1 ∨ i = 2) with rfl | rfl | rfl
  · exact zSg_41
  · exact zSg_46
  · exact zSg_51

theorem zDF_J_0 {e : zm_D} {i : Int} (h : 0 ≤ i ∧ i < 3) : zDg e (41 + 5 * i) 0 = 42 + 5 * i := by
  rcases (by omega : i = 0 ∨ i = 1 ∨ i = 2) with rfl | rfl | rfl
  · exact zg_41_0
  · exact zg_46_0
  · exact zg_51_0

theorem zDF_J_1 {e : zm_D} {i : Int} (h : 0 ≤ i ∧ i < 3) : zDg e (41 + 5 * i) 1 = e (41 + 5 * i) 1 := by
  rcases (by omega : i = 0 ∨ i = 1 ∨ i = 2) with rfl | rfl | rfl
  · exact zg_41_1
  · exact zg_46_1
  · exact zg_51_1

theorem zUF_J_1 {e : zm_D} {i x : Int} (h : 0 ≤ i ∧ i < 3) : zm_u (zDg e) (41 + 5 * i) 1 x = zDg (zm_u e (41 + 5 * i) 1 x) := by
  rcases (by omega : i = 0 ∨ i = 1 ∨ i = 2) with rfl | rfl | rfl
  · exact zgu_41_1
  · exact zgu_46_1
  · exact zgu_51_1

theorem zDF_J_2 {e : zm_D} {i : Int} (h : 0 ≤ i ∧ i < 3) : zDg e (41 + 5 * i) 2 = e (41 + 5 * i) 2 := by
  rcases (by omega : i = 0 ∨ i = 1 ∨ i = 2) with rfl | rfl | rfl
  · exact zg_41_2
  · exact zg_46_2
  · exact zg_51_2

theorem zUF_J_2 {e : zm_D} {i x : Int} (h : 0 ≤ i ∧ i < 3) : zm_u (zDg e) (41 + 5 * i) 2 x = zDg (zm_u e (41 + 5 * i) 2 x) := by
  rcases (by omega : i = 0 ∨ i = 1 ∨ i = 2) with rfl | rfl | rfl
  · exact zgu_41_2
  · exact zgu_46_2
  · exact zgu_51_2

theorem zDF_J_3 {e : zm_D} {i : Int} (h : 0 ≤ i ∧ i < 3) : zDg e (41 + 5 * i) 3 = e (41 + 5 * i) 3 := by
  rcases (by omega : i = 0 ∨ i = 1 ∨ i = 2) with rfl | rfl | rfl
  · exact zg_41_3
  · exact zg_46_3
  · exact zg_51_3

theorem zUF_J_3 {e : zm_D} {i x : Int} (h : 0 ≤ i ∧ i < 3) : zm_u (zDg e) (41 + 5 * i) 3 x = zDg (zm_u e (41 + 5 * i) 3 x) := by
  rcases (by omega : i = 0 ∨ i = 1 ∨ i = 2) with rfl | rfl | rfl
  · exact zgu_41_3
  · exact zgu_46_3
  · exact zgu_51_3

theorem zDF_J_4 {e : zm_D} {i : Int} (h : 0 ≤ i ∧ i < 3) : zDg e (41 + 5 * i) 4 = e (41 + 5 * i) 4 := by
  rcases (by omega : i = 0 ∨ i = 1 ∨ i = 2) with rfl | rfl | rfl
  · exact zg_41_4
  · exact zg_46_4
  · exact zg_51_4

theorem zUF_J_4 {e : zm_D} {i x : Int} (h : 0 ≤ i ∧ i < 3) : zm_u (zDg e) (41 + 5 * i) 4 x = zDg (zm_u e (41 + 5 * i) 4 x) := by
  rcases (by omega : i = 0 ∨ i = 1 ∨ i = 2) with rfl | rfl | rfl
  · exact zgu_41_4
  · exact zgu_46_4
  · exact zgu_51_4

theorem zDF_J_5 {e : zm_D} {i : Int} (h : 0 ≤ i ∧ i < 3) : zDg e (41 + 5 * i) 5 = e (41 + 5 * i) 5 := by
  rcases (by omega : i = 0 ∨ i = 1 ∨ i = 2) with rfl | rfl | rfl
  · exact zg_41_5
  · exact zg_46_5
  · exact zg_51_5

theorem zUF_J_5 {e : zm_D} {i x : Int} (h : 0 ≤ i ∧ i < 3) : zm_u (zDg e) (41 + 5 * i) 5 x = zDg (zm_u e (41 + 5 * i) 5 x) := by
  rcases (by omega : i = 0 ∨ i = 1 ∨ i = 2) with rfl | rfl | rfl
  · exact zgu_41_5
  · exact zgu_46_5
  · exact zgu_51_5

theorem zDF_J_6 {e : zm_D} {i : Int} (h : 0 ≤ i ∧ i < 3) : zDg e (41 + 5 * i) 6 = e (41 + 5 * i) 6 := by
  rcases (by omega : i = 0 ∨ i = 1 ∨ i = 2) with rfl | rfl | rfl
  · exact zg_41_6
  · exact zg_46_6
  · exact zg_51_6

theorem zUF_J_6 {e : zm_D} {i x : Int} (h : 0 ≤ i ∧ i < 3) : zm_u (zDg e) (41 + 5 * i) 6 x = zDg (zm_u e (41 + 5 * i) 6 x) := by
  rcases (by omega : i = 0 ∨ i = 1 ∨ i = 2) with rfl | rfl | rfl
  · exact zgu_41_6
  · exact zgu_46_6
  · exact zgu_51_6

theorem zSF_K {g : Int → zk_K} {i : Int} (h : 0 ≤ i ∧ i < 3) : zSg g (42 + 5 * i) = some (.inr (.int, 22)) := by
  rcases (by omega : i = 0 ∨ i = 1 ∨ i = 2) with rfl | rfl | rfl
  · exact zSg_42
  · exact zSg_47
  · exact zSg_52

theorem zDF_K {e : zm_D} {i k : Int} (h : 0 ≤ i ∧ i < 3) : zDg e (42 + 5 * i) k = e (42 + 5 * i) k := by
  rcases (by omega : i = 0 ∨ i = 1 ∨ i = 2) with rfl | rfl | rfl
  · exact zga_42
  · exact zga_47
  · exact zga_52

theorem zUF_K {e : zm_D} {i k x : Int} (h : 0 ≤ i ∧ i < 3) : zm_u (zDg e) (42 + 5 * i) k x = zDg (zm_u e (42 + 5 * i) k x) := by
  rcases (by omega : i = 0 ∨ i = 1 ∨ i = 2) with rfl | rfl | rfl
  · exact zgua_42
  · exact zgua_47
  · exact zgua_52

theorem zSF_bs {g : Int → zk_K} {i : Int} (h : 0 ≤ i ∧ i < 8) : zSg g (71 + i) = some (.inr (.int, 2)) := by
  rcases (by omega : i = 0 ∨ i = 1 ∨ i = 2 ∨ i = 3 ∨ i = 4 ∨ i = 5 ∨ i = 6 ∨ i = 7) with rfl | rfl | rfl | rfl | rfl | rfl | rfl | rfl
  · exact zSg_71
  · exact zSg_72
  · exact zSg_73
  · exact zSg_74
  · exact zSg_75
  · exact zSg_76
  · exact zSg_77
  · exact zSg_78

theorem zDF_bs {e : zm_D} {i k : Int} (h : 0 ≤ i ∧ i < 8) : zDg e (71 + i) k = e (71 + i) k := by
  rcases (by omega : i = 0 ∨ i = 1 ∨ i = 2 ∨ i = 3 ∨ i = 4 ∨ i = 5 ∨ i = 6 ∨ i = 7) with rfl | rfl | rfl | rfl | rfl | rfl | rfl | rfl
  · exact zga_71
  · exact zga_72
  · exact zga_73
  · exact zga_74
  · exact zga_75
  · exact zga_76
  · exact zga_77
  · exact zga_78

theorem zUF_bs {e : zm_D} {i k x : Int} (h : 0 ≤ i ∧ i < 8) : zm_u (zDg e) (71 + i) k x = zDg (zm_u e (71 + i) k x) := by
  rcases (by omega : i = 0 ∨ i = 1 ∨ i = 2 ∨ i = 3 ∨ i = 4 ∨ i = 5 ∨ i = 6 ∨ i = 7) with rfl | rfl | rfl | rfl | rfl | rfl | rfl | rfl
  · exact zgua_71
  · exact zgua_72
  · exact zgua_73
  · exact zgua_74
  · exact zgua_75
  · exact zgua_76
  · exact zgua_77
  · exact zgua_78

theorem zSF_bm {g : Int → zk_K} {i : Int} (h : 0 ≤ i ∧ i < 8) : zSg g (80 + i) = some (.inr (.int, 2)) := by
  rcases (by omega : i = 0 ∨ i = 1 ∨ i = 2 ∨ i = 3 ∨ i = 4 ∨ i = 5 ∨ i = 6 ∨ i = 7) with rfl | rfl | rfl | rfl | rfl | rfl | rfl | rfl
  · exact zSg_80
  · exact zSg_81
  · exact zSg_82
  · exact zSg_83
  · exact zSg_84
  · exact zSg_85
  · exact zSg_86
  · exact zSg_87

theorem zDF_bm {e : zm_D} {i k : Int} (h : 0 ≤ i ∧ i < 8) : zDg e (80 + i) k = e (80 + i) k := by
  rcases (by omega : i = 0 ∨ i = 1 ∨ i = 2 ∨ i = 3 ∨ i = 4 ∨ i = 5 ∨ i = 6 ∨ i = 7) with rfl | rfl | rfl | rfl | rfl | rfl | rfl | rfl
  · exact zga_80
  · exact zga_81
  · exact zga_82
  · exact zga_83
  · exact zga_84
  · exact zga_85
  · exact zga_86
  · exact zga_87

theorem zUF_bm {e : zm_D} {i k x : Int} (h : 0 ≤ i ∧ i < 8) : zm_u (zDg e) (80 + i) k x = zDg (zm_u e (80 + i) k x) := by
  rcases (by omega : i = 0 ∨ i = 1 ∨ i = 2 ∨ i = 3 ∨ i = 4 ∨ i = 5 ∨ i = 6 ∨ i = 7) with rfl | rfl | rfl | rfl | rfl | rfl | rfl | rfl
  · exact zgua_80
  · exact zgua_81
  · exact zgua_82
  · exact zgua_83
  · exact zgua_84
  · exact zgua_85
  · exact zgua_86
  · exact zgua_87

theorem zSF_cm {g : Int → zk_K} {i : Int} (h : 0 ≤ i ∧ i < 3) : zSg g (110 + i) = some (.inr (.int, 2)) := by
  rcases (by omega : i = 0 ∨ i = 1 ∨ i = 2) with rfl | rfl | rfl
  · exact zSg_110
  · exact zSg_111
  · exact zSg_112

theorem zDF_cm {e : zm_D} {i k : Int} (h : 0 ≤ i ∧ i < 3) : zDg e (110 + i) k = e (110 + i) k := by
  rcases (by omega : i = 0 ∨ i = 1 ∨ i = 2) with rfl | rfl | rfl
  · exact zga_110
  · exact zga_111
  · exact zga_112

theorem zUF_cm {e : zm_D} {i k x : Int} (h : 0 ≤ i ∧ i < 3) : zm_u (zDg e) (110 + i) k x = zDg (zm_u e (110 + i) k x) := by
  rcases (by omega : i = 0 ∨ i = 1 ∨ i = 2) with rfl | rfl | rfl
  · exact zgua_110
  · exact zgua_111
  · exact zgua_112

theorem zSF_sk {g : Int → zk_K} {i : Int} (h : 0 ≤ i ∧ i < 3) : zSg g (114 + i) = some (.inr (.int, 2)) := by
  rcases (by omega : i = 0 ∨ i = 1 ∨ i = 2) with rfl | rfl | rfl
  · exact zSg_114
  · exact zSg_115
  · exact zSg_116

theorem zDF_sk {e : zm_D} {i k : Int} (h : 0 ≤ i ∧ i < 3) : zDg e (114 + i) k = e (114 + i) k := by
  rcases (by omega : i = 0 ∨ i = 1 ∨ i = 2) with rfl | rfl | rfl
  · exact zga_114
  · exact zga_115
  · exact zga_116

theorem zUF_sk {e : zm_D} {i k x : Int} (h : 0 ≤ i ∧ i < 3) : zm_u (zDg e) (114 + i) k x = zDg (zm_u e (114 + i) k x) := by
  rcases (by omega : i = 0 ∨ i = 1 ∨ i = 2) with rfl | rfl | rfl
  · exact zgua_114
  · exact zgua_115
  · exact zgua_116

theorem zSF_st {g : Int → zk_K} {i : Int} (h : 0 ≤ i ∧ i < 3) : zSg g (118 + i) = some (.inr (.int, 2)) := by
  rcases (by omega : i = 0 ∨ i = 1 ∨ i = 2) with rfl | rfl | rfl
  · exact zSg_118
  · exact zSg_119
  · exact zSg_120

theorem zDF_st {e : zm_D} {i k : Int} (h : 0 ≤ i ∧ i < 3) : zDg e (118 + i) k = e (118 + i) k := by
  rcases (by omega : i = 0 ∨ i = 1 ∨ i = 2) with rfl | rfl | rfl
  · exact zga_118
  · exact zga_119
  · exact zga_120

theorem zUF_st {e : zm_D} {i k x : Int} (h : 0 ≤ i ∧ i < 3) : zm_u (zDg e) (118 + i) k x = zDg (zm_u e (118 + i) k x) := by
  rcases (by omega : i = 0 ∨ i = 1 ∨ i = 2) with rfl | rfl | rfl
  · exact zgua_118
  · exact zgua_119
  · exact zgua_120

theorem zSF_wg {g : Int → zk_K} {i : Int} (h : 0 ≤ i ∧ i < 10) : zSg g (123 + i) = some (.inr (.int, 4)) := by
  rcases (by omega : i = 0 ∨ i = 1 ∨ i = 2 ∨ i = 3 ∨ i = 4 ∨ i = 5 ∨ i = 6 ∨ i = 7 ∨ i = 8 ∨ i = 9) with rfl | rfl | rfl | rfl | rfl | rfl | rfl | rfl | rfl | rfl
  · exact zSg_123
  · exact zSg_124
  · exact zSg_125
  · exact zSg_126
  · exact zSg_127
  · exact zSg_128
  · exact zSg_129
  · exact zSg_130
  · exact zSg_131
  · exact zSg_132

theorem zDF_wg {e : zm_D} {i k : Int} (h : 0 ≤ i ∧ i < 10) : zDg e (123 + i) k = e (123 + i) k := by
  rcases (by omega : i = 0 ∨ i = 1 ∨ i = 2 ∨ i = 3 ∨ i = 4 ∨ i = 5 ∨ i = 6 ∨ i = 7 ∨ i = 8 ∨ i = 9) with rfl | rfl | rfl | rfl | rfl | rfl | rfl | rfl | rfl | rfl
  · exact zga_123
  · exact zga_124
  · exact zga_125
  · exact zga_126
  · exact zga_127
  · exact zga_128
  · exact zga_129
  · exact zga_130
  · exact zga_131
  · exact zga_132

theorem zUF_wg {e : zm_D} {i k x : Int} (h : 0 ≤ i ∧ i < 10) : zm_u (zDg e) (123 + i) k x = zDg (zm_u e (123 + i) k x) := by
  rcases (by omega : i = 0 ∨ i = 1 ∨ i = 2 ∨ i = 3 ∨ i = 4 ∨ i = 5 ∨ i = 6 ∨ i = 7 ∨ i = 8 ∨ i = 9) with rfl | rfl | rfl | rfl | rfl | rfl | rfl | rfl | rfl | rfl
  · exact zgua_123
  · exact zgua_124
  · exact zgua_125
  · exact zgua_126
  · exact zgua_127
  · exact zgua_128
  · exact zgua_129
  · exact zgua_130
  · exact zgua_131
  · exact zgua_132

theorem zSF_sy {g : Int → zk_K} {i : Int} (h : 0 ≤ i ∧ i < 3) : zSg g (134 + i) = some (.inr (.int, 8)) := by
  rcases (by omega : i = 0 ∨ i = 1 ∨ i = 2) with rfl | rfl | rfl
  · exact zSg_134
  · exact zSg_135
  · exact zSg_136

theorem zDF_sy {e : zm_D} {i k : Int} (h : 0 ≤ i ∧ i < 3) : zDg e (134 + i) k = e (134 + i) k := by
  rcases (by omega : i = 0 ∨ i = 1 ∨ i = 2) with rfl | rfl | rfl
  · exact zga_134
  · exact zga_135
  · exact zga_136

theorem zUF_sy {e : zm_D} {i k x : Int} (h : 0 ≤ i ∧ i < 3) : zm_u (zDg e) (134 + i) k x = zDg (zm_u e (134 + i) k x) := by
  rcases (by omega : i = 0 ∨ i = 1 ∨ i = 2) with rfl | rfl | rfl
  · exact zgua_134
  · exact zgua_135
  · exact zgua_136

theorem zSF_tk {g : Int → zk_K} {i : Int} (h : 0 ≤ i ∧ i < 12) : zSg g (139 + i) = some (.inr (.int, 2)) := by
  rcases (by omega : i = 0 ∨ i = 1 ∨ i = 2 ∨ i = 3 ∨ i = 4 ∨ i = 5 ∨ i = 6 ∨ i = 7 ∨ i = 8 ∨ i = 9 ∨ i = 10 ∨ i = 11) with rfl | rfl | rfl | rfl | rfl | rfl | rfl | rfl | rfl | rfl | rfl | rfl
  · exact zSg_139
  · exact zSg_140
  · exact zSg_141
  · exact zSg_142
  · exact zSg_143
  · exact zSg_144
  · exact zSg_145
  · exact zSg_146
  · exact zSg_147
  · exact zSg_148
  · exact zSg_149
  · exact zSg_150

theorem zDF_tk {e : zm_D} {i k : Int} (h : 0 ≤ i ∧ i < 12) : zDg e (139 + i) k = e (139 + i) k := by
  rcases (by omega : i = 0 ∨ i = 1 ∨ i = 2 ∨ i = 3 ∨ i = 4 ∨ i = 5 ∨ i = 6 ∨ i = 7 ∨ i = 8 ∨ i = 9 ∨ i = 10 ∨ i = 11) with rfl | rfl | rfl | rfl | rfl | rfl | rfl | rfl | rfl | rfl | rfl | rfl
  · exact zga_139
  · exact zga_140
  · exact zga_141
  · exact zga_142
  · exact zga_143
  · exact zga_144
  · exact zga_145
  · exact zga_146
  · exact zga_147
  · exact zga_148
  · exact zga_149
  · exact zga_150

theorem zUF_tk {e : zm_D} {i k x : Int} (h : 0 ≤ i ∧ i < 12) : zm_u (zDg e) (139 + i) k x = zDg (zm_u e (139 + i) k x) := by
  rcases (by omega : i = 0 ∨ i = 1 ∨ i = 2 ∨ i = 3 ∨ i = 4 ∨ i = 5 ∨ i = 6 ∨ i = 7 ∨ i = 8 ∨ i = 9 ∨ i = 10 ∨ i = 11) with rfl | rfl | rfl | rfl | rfl | rfl | rfl | rfl | rfl | rfl | rfl | rfl
  · exact zgua_139
  · exact zgua_140
  · exact zgua_141
  · exact zgua_142
  · exact zgua_143
  · exact zgua_144
  · exact zgua_145
  · exact zgua_146
  · exact zgua_147
  · exact zgua_148
  · exact zgua_149
  · exact zgua_150

theorem zSF_pr {g : Int → zk_K} {i : Int} (h : 0 ≤ i ∧ i < 8) : zSg g (152 + i) = some (.inr (.int, 4)) := by
  rcases (by omega : i = 0 ∨ i = 1 ∨ i = 2 ∨ i = 3 ∨ i = 4 ∨ i = 5 ∨ i = 6 ∨ i = 7) with rfl | rfl | rfl | rfl | rfl | rfl | rfl | rfl
  · exact zSg_152
  · exact zSg_153
  · exact zSg_154
  · exact zSg_155
  · exact zSg_156
  · exact zSg_157
  · exact zSg_158
  · exact zSg_159

theorem zDF_pr {e : zm_D} {i k : Int} (h : 0 ≤ i ∧ i < 8) : zDg e (152 + i) k = e (152 + i) k := by
  rcases (by omega : i = 0 ∨ i = 1 ∨ i = 2 ∨ i = 3 ∨ i = 4 ∨ i = 5 ∨ i = 6 ∨ i = 7) with rfl | rfl | rfl | rfl | rfl | rfl | rfl | rfl
  · exact zga_152
  · exact zga_153
  · exact zga_154
  · exact zga_155
  · exact zga_156
  · exact zga_157
  · exact zga_158
  · exact zga_159

theorem zUF_pr {e : zm_D} {i k x : Int} (h : 0 ≤ i ∧ i < 8) : zm_u (zDg e) (152 + i) k x = zDg (zm_u e (152 + i) k x) := by
  rcases (by omega : i = 0 ∨ i = 1 ∨ i = 2 ∨ i = 3 ∨ i = 4 ∨ i = 5 ∨ i = 6 ∨ i = 7) with rfl | rfl | rfl | rfl | rfl | rfl | rfl | rfl
  · exact zgua_152
  · exact zgua_153
  · exact zgua_154
  · exact zgua_155
  · exact zgua_156
  · exact zgua_157
  · exact zgua_158
  · exact zgua_159

theorem zSF_hr {g : Int → zk_K} {i : Int} (h : 0 ≤ i ∧ i < 3) : zSg g (100 + 3 * i) = some (.inr (.array .int, 2)) := by
  rcases (by omega : i = 0 ∨ i = 1 ∨ i = 2) with rfl | rfl | rfl
  · exact zSg_100
  · exact zSg_103
  · exact zSg_106

theorem zDF_hr_0 {e : zm_D} {i : Int} (h : 0 ≤ i ∧ i < 3) : zDg e (100 + 3 * i) 0 = 101 + 3 * i := by
  rcases (by omega : i = 0 ∨ i = 1 ∨ i = 2) with rfl | rfl | rfl
  · exact zg_100_0
  · exact zg_103_0
  · exact zg_106_0

theorem zDF_hr_1 {e : zm_D} {i : Int} (h : 0 ≤ i ∧ i < 3) : zDg e (100 + 3 * i) 1 = 102 + 3 * i := by
  rcases (by omega : i = 0 ∨ i = 1 ∨ i = 2) with rfl | rfl | rfl
  · exact zg_100_1
  · exact zg_103_1
  · exact zg_106_1

theorem zSF_h0 {g : Int → zk_K} {i : Int} (h : 0 ≤ i ∧ i < 3) : zSg g (101 + 3 * i) = some (.inr (.int, 24)) := by
  rcases (by omega : i = 0 ∨ i = 1 ∨ i = 2) with rfl | rfl | rfl
  · exact zSg_101
  · exact zSg_104
  · exact zSg_107

theorem zDF_h0 {e : zm_D} {i k : Int} (h : 0 ≤ i ∧ i < 3) : zDg e (101 + 3 * i) k = e (101 + 3 * i) k := by
  rcases (by omega : i = 0 ∨ i = 1 ∨ i = 2) with rfl | rfl | rfl
  · exact zga_101
  · exact zga_104
  · exact zga_107

theorem zUF_h0 {e : zm_D} {i k x : Int} (h : 0 ≤ i ∧ i < 3) : zm_u (zDg e) (101 + 3 * i) k x = zDg (zm_u e (101 + 3 * i) k x) := by
  rcases (by omega : i = 0 ∨ i = 1 ∨ i = 2) with rfl | rfl | rfl
  · exact zgua_101
  · exact zgua_104
  · exact zgua_107

theorem zSF_h1 {g : Int → zk_K} {i : Int} (h : 0 ≤ i ∧ i < 3) : zSg g (102 + 3 * i) = some (.inr (.int, 24)) := by
  rcases (by omega : i = 0 ∨ i = 1 ∨ i = 2) with rfl | rfl | rfl
  · exact zSg_102
  · exact zSg_105
  · exact zSg_108

theorem zDF_h1 {e : zm_D} {i k : Int} (h : 0 ≤ i ∧ i < 3) : zDg e (102 + 3 * i) k = e (102 + 3 * i) k := by
  rcases (by omega : i = 0 ∨ i = 1 ∨ i = 2) with rfl | rfl | rfl
  · exact zga_102
  · exact zga_105
  · exact zga_108

theorem zUF_h1 {e : zm_D} {i k x : Int} (h : 0 ≤ i ∧ i < 3) : zm_u (zDg e) (102 + 3 * i) k x = zDg (zm_u e (102 + 3 * i) k x) := by
  rcases (by omega : i = 0 ∨ i = 1 ∨ i = 2) with rfl | rfl | rfl
  · exact zgua_102
  · exact zgua_105
  · exact zgua_108

theorem zR_2 {e : zm_D} {i : Int} (h : 0 ≤ i ∧ i < 8) : zDg e 2 i = 15 + 2 * i := by
  rcases (by omega : i = 0 ∨ i = 1 ∨ i = 2 ∨ i = 3 ∨ i = 4 ∨ i = 5 ∨ i = 6 ∨ i = 7) with rfl | rfl | rfl | rfl | rfl | rfl | rfl | rfl
  · exact zg_2_0
  · exact zg_2_1
  · exact zg_2_2
  · exact zg_2_3
  · exact zg_2_4
  · exact zg_2_5
  · exact zg_2_6
  · exact zg_2_7

theorem zR_3 {e : zm_D} {i : Int} (h : 0 ≤ i ∧ i < 3) : zDg e 3 i = 31 + i := by
  rcases (by omega : i = 0 ∨ i = 1 ∨ i = 2) with rfl | rfl | rfl
  · exact zg_3_0
  · exact zg_3_1
  · exact zg_3_2

theorem zR_35 {e : zm_D} {i : Int} (h : 0 ≤ i ∧ i < 3) : zDg e 35 i = 38 + 5 * i := by
  rcases (by omega : i = 0 ∨ i = 1 ∨ i = 2) with rfl | rfl | rfl
  · exact zg_35_0
  · exact zg_35_1
  · exact zg_35_2

theorem zR_70 {e : zm_D} {i : Int} (h : 0 ≤ i ∧ i < 8) : zDg e 70 i = 71 + i := by
  rcases (by omega : i = 0 ∨ i = 1 ∨ i = 2 ∨ i = 3 ∨ i = 4 ∨ i = 5 ∨ i = 6 ∨ i = 7) with rfl | rfl | rfl | rfl | rfl | rfl | rfl | rfl
  · exact zg_70_0
  · exact zg_70_1
  · exact zg_70_2
  · exact zg_70_3
  · exact zg_70_4
  · exact zg_70_5
  · exact zg_70_6
  · exact zg_70_7

theorem zR_79 {e : zm_D} {i : Int} (h : 0 ≤ i ∧ i < 8) : zDg e 79 i = 80 + i := by
  rcases (by omega : i = 0 ∨ i = 1 ∨ i = 2 ∨ i = 3 ∨ i = 4 ∨ i = 5 ∨ i = 6 ∨ i = 7) with rfl | rfl | rfl | rfl | rfl | rfl | rfl | rfl
  · exact zg_79_0
  · exact zg_79_1
  · exact zg_79_2
  · exact zg_79_3
  · exact zg_79_4
  · exact zg_79_5
  · exact zg_79_6
  · exact zg_79_7

theorem zR_99 {e : zm_D} {i : Int} (h : 0 ≤ i ∧ i < 3) : zDg e 99 i = 100 + 3 * i := by
  rcases (by omega : i = 0 ∨ i = 1 ∨ i = 2) with rfl | rfl | rfl
  · exact zg_99_0
  · exact zg_99_1
  · exact zg_99_2

theorem zR_100 {e : zm_D} {i : Int} (h : 0 ≤ i ∧ i < 2) : zDg e 100 i = 101 + i := by
  rcases (by omega : i = 0 ∨ i = 1) with rfl | rfl
  · exact zg_100_0
  · exact zg_100_1

theorem zR_103 {e : zm_D} {i : Int} (h : 0 ≤ i ∧ i < 2) : zDg e 103 i = 104 + i := by
  rcases (by omega : i = 0 ∨ i = 1) with rfl | rfl
  · exact zg_103_0
  · exact zg_103_1

theorem zR_106 {e : zm_D} {i : Int} (h : 0 ≤ i ∧ i < 2) : zDg e 106 i = 107 + i := by
  rcases (by omega : i = 0 ∨ i = 1) with rfl | rfl
  · exact zg_106_0
  · exact zg_106_1

theorem zR_109 {e : zm_D} {i : Int} (h : 0 ≤ i ∧ i < 3) : zDg e 109 i = 110 + i := by
  rcases (by omega : i = 0 ∨ i = 1 ∨ i = 2) with rfl | rfl | rfl
  · exact zg_109_0
  · exact zg_109_1
  · exact zg_109_2

theorem zR_113 {e : zm_D} {i : Int} (h : 0 ≤ i ∧ i < 3) : zDg e 113 i = 114 + i := by
  rcases (by omega : i = 0 ∨ i = 1 ∨ i = 2) with rfl | rfl | rfl
  · exact zg_113_0
  · exact zg_113_1
  · exact zg_113_2

theorem zR_117 {e : zm_D} {i : Int} (h : 0 ≤ i ∧ i < 3) : zDg e 117 i = 118 + i := by
  rcases (by omega : i = 0 ∨ i = 1 ∨ i = 2) with rfl | rfl | rfl
  · exact zg_117_0
  · exact zg_117_1
  · exact zg_117_2

theorem zR_122 {e : zm_D} {i : Int} (h : 0 ≤ i ∧ i < 10) : zDg e 122 i = 123 + i := by
  rcases (by omega : i = 0 ∨ i = 1 ∨ i = 2 ∨ i = 3 ∨ i = 4 ∨ i = 5 ∨ i = 6 ∨ i = 7 ∨ i = 8 ∨ i = 9) with rfl | rfl | rfl | rfl | rfl | rfl | rfl | rfl | rfl | rfl
  · exact zg_122_0
  · exact zg_122_1
  · exact zg_122_2
  · exact zg_122_3
  · exact zg_122_4
  · exact zg_122_5
  · exact zg_122_6
  · exact zg_122_7
  · exact zg_122_8
  · exact zg_122_9

theorem zR_133 {e : zm_D} {i : Int} (h : 0 ≤ i ∧ i < 3) : zDg e 133 i = 134 + i := by
  rcases (by omega : i = 0 ∨ i = 1 ∨ i = 2) with rfl | rfl | rfl
  · exact zg_133_0
  · exact zg_133_1
  · exact zg_133_2

theorem zR_138 {e : zm_D} {i : Int} (h : 0 ≤ i ∧ i < 12) : zDg e 138 i = 139 + i := by
  rcases (by omega : i = 0 ∨ i = 1 ∨ i = 2 ∨ i = 3 ∨ i = 4 ∨ i = 5 ∨ i = 6 ∨ i = 7 ∨ i = 8 ∨ i = 9 ∨ i = 10 ∨ i = 11) with rfl | rfl | rfl | rfl | rfl | rfl | rfl | rfl | rfl | rfl | rfl | rfl
  · exact zg_138_0
  · exact zg_138_1
  · exact zg_138_2
  · exact zg_138_3
  · exact zg_138_4
  · exact zg_138_5
  · exact zg_138_6
  · exact zg_138_7
  · exact zg_138_8
  · exact zg_138_9
  · exact zg_138_10
  · exact zg_138_11

theorem zR_151 {e : zm_D} {i : Int} (h : 0 ≤ i ∧ i < 8) : zDg e 151 i = 152 + i := by
  rcases (by omega : i = 0 ∨ i = 1 ∨ i = 2 ∨ i = 3 ∨ i = 4 ∨ i = 5 ∨ i = 6 ∨ i = 7) with rfl | rfl | rfl | rfl | rfl | rfl | rfl | rfl
  · exact zg_151_0
  · exact zg_151_1
  · exact zg_151_2
  · exact zg_151_3
  · exact zg_151_4
  · exact zg_151_5
  · exact zg_151_6
  · exact zg_151_7

theorem zE_mono {S : zSs} {D m n u : Nat} {sh : zk_S} {d : zm_D} {As : List zv_V} {P Q : ((Option zv_V) ⊕ Nat) → Nat → zk_S → zm_D → Nat → Prop} (h : zE S D m As n sh d u P) (k : ∀ o n sh d u, P o n sh d u → Q o n sh d u) : zE S D m As n sh d u Q := by
  obtain ⟨h1, N, r, h2, h3⟩ := h
  exact ⟨h1, N, r, h2, k _ _ _ _ _ h3⟩
