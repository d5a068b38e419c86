/-! ===== LINKS: what the code names, and that the tables have it ===== -/
abbrev zFr : Type := String × (Nat × (Nat × (Nat × ((Nat × Nat) × String))))
def zFT : List zFr := [("ShoeHouse$CardTable", (11, (0, (2, ((2, 41), ""))))),
  ("ShoeHouse$CardTable", (18, (0, (3, ((2, 43), ""))))),
  ("ShoeHouse$CardTable", (22, (0, (0, ((2, 38), ""))))),
  ("ShoeHouse$CardTable", (26, (0, (1, ((2, 40), ""))))),
  ("ShoeHouse$CardTable", (31, (0, (5, ((2, 48), ""))))),
  ("ShoeHouse$CardTable", (35, (0, (6, ((2, 50), ""))))),
  ("ShoeHouse$CardTable", (38, (0, (7, ((2, 52), ""))))),
  ("ShoeHouse$CardTable", (41, (0, (8, ((2, 54), ""))))),
  ("ShoeHouse$CardTable", (48, (6, (2, ((2, 25), "ShoeHouse"))))),
  ("ShoeHouse$CardTable", (56, (0, (4, ((2, 46), ""))))),
  ("ShoeHouse$CardTable", (87, (6, (0, ((2, 19), "ShoeHouse"))))),
  ("ShoeHouse$CardTable", (94, (3, (5, ((1, 231), "ShoeHouse"))))),
  ("ShoeHouse$CardTable", (112, (2, (2, ((1, 141), "ShoeHouse"))))),
  ("ShoeHouse$CardTable", (130, (6, (1, ((2, 22), "ShoeHouse"))))),
  ("ShoeHouse$CardTable", (148, (3, (4, ((1, 228), "ShoeHouse"))))),
  ("ShoeHouse$CardTable", (161, (0, (9, ((2, 55), ""))))),
  ("ShoeHouse$DealerOdds", (9, (1, (0, ((1, 94), ""))))),
  ("ShoeHouse$DealerOdds", (15, (0, (0, ((2, 39), "ShoeHouse"))))),
  ("ShoeHouse$DealerOdds", (27, (1, (1, ((1, 95), ""))))),
  ("ShoeHouse$DealerOdds", (31, (0, (7, ((2, 53), "ShoeHouse"))))),
  ("ShoeHouse$DealerOdds", (35, (1, (2, ((1, 96), ""))))),
  ("ShoeHouse$DealerOdds", (36, (0, (3, ((2, 44), "ShoeHouse"))))),
  ("ShoeHouse$Guest", (9, (2, (0, ((1, 135), ""))))),
  ("ShoeHouse$Guest", (13, (2, (3, ((1, 143), ""))))),
  ("ShoeHouse$Guest", (17, (2, (4, ((1, 145), ""))))),
  ("ShoeHouse$Guest", (20, (2, (6, ((1, 148), ""))))),
  ("ShoeHouse$Guest", (27, (2, (2, ((1, 138), ""))))),
  ("ShoeHouse$Guest", (30, (2, (5, ((1, 146), ""))))),
  ("ShoeHouse$Guest", (33, (2, (1, ((1, 137), ""))))),
  ("ShoeHouse$Guest", (36, (2, (7, ((1, 150), ""))))),
  ("ShoeHouse$Guest", (39, (2, (8, ((1, 151), ""))))),
  ("ShoeHouse$Guest", (42, (2, (9, ((1, 153), ""))))),
  ("ShoeHouse$Guest", (45, (2, (10, ((1, 154), ""))))),
  ("ShoeHouse$Guest", (48, (2, (11, ((1, 155), ""))))),
  ("ShoeHouse$Guest", (51, (2, (12, ((1, 156), ""))))),
  ("ShoeHouse$Hand", (9, (3, (0, ((1, 220), ""))))),
  ("ShoeHouse$Hand", (13, (3, (1, ((1, 221), ""))))),
  ("ShoeHouse$Hand", (17, (3, (2, ((1, 224), ""))))),
  ("ShoeHouse$Hand", (20, (3, (3, ((1, 225), ""))))),
  ("ShoeHouse$Hand", (32, (3, (4, ((1, 227), ""))))),
  ("ShoeHouse$Hand", (35, (3, (5, ((1, 232), ""))))),
  ("ShoeHouse$Hand", (38, (3, (6, ((1, 235), ""))))),
  ("ShoeHouse$Lottery", (11, (4, (0, ((1, 111), ""))))),
  ("ShoeHouse$Lottery", (15, (4, (1, ((1, 112), ""))))),
  ("ShoeHouse$Lottery", (25, (4, (2, ((1, 113), ""))))),
  ("ShoeHouse$Lottery", (29, (4, (3, ((1, 115), ""))))),
  ("ShoeHouse$Lottery", (32, (4, (4, ((1, 117), ""))))),
  ("ShoeHouse$Machine", (9, (5, (1, ((2, 116), ""))))),
  ("ShoeHouse$Machine", (13, (5, (2, ((2, 117), ""))))),
  ("ShoeHouse$Machine", (16, (5, (4, ((2, 120), ""))))),
  ("ShoeHouse$Machine", (20, (5, (0, ((2, 115), ""))))),
  ("ShoeHouse$Machine", (34, (5, (5, ((2, 122), ""))))),
  ("ShoeHouse$Machine", (38, (5, (7, ((2, 126), ""))))),
  ("ShoeHouse$Machine", (42, (5, (6, ((2, 124), ""))))),
  ("ShoeHouse$Machine", (49, (5, (3, ((2, 118), ""))))),
  ("ShoeHouse$Machine", (52, (5, (8, ((2, 128), ""))))),
  ("ShoeHouse$Machine", (68, (2, (2, ((1, 142), "ShoeHouse"))))),
  ("ShoeHouse$Seat", (10, (6, (0, ((2, 18), ""))))),
  ("ShoeHouse$Seat", (16, (6, (1, ((2, 21), ""))))),
  ("ShoeHouse$Seat", (23, (3, (6, ((1, 234), "ShoeHouse"))))),
  ("ShoeHouse$Seat", (27, (3, (4, ((1, 226), "ShoeHouse"))))),
  ("ShoeHouse$Seat", (31, (6, (2, ((2, 24), ""))))),
  ("ShoeHouse$Seat", (35, (3, (1, ((1, 222), "ShoeHouse"))))),
  ("ShoeHouse$Seat", (38, (3, (5, ((1, 230), "ShoeHouse"))))),
  ("ShoeHouse$Seat", (45, (6, (3, ((2, 27), ""))))),
  ("ShoeHouse$Shoe", (11, (7, (0, ((1, 62), ""))))),
  ("ShoeHouse$Shoe", (15, (7, (1, ((1, 63), ""))))),
  ("ShoeHouse$Shoe", (18, (7, (2, ((1, 64), ""))))),
  ("ShoeHouse$Shoe", (21, (7, (3, ((1, 65), ""))))),
  ("ShoeHouse$Shoe", (24, (7, (5, ((1, 67), ""))))),
  ("ShoeHouse$Shoe", (28, (7, (4, ((1, 66), ""))))),
  ("ShoeHouse$Shoe", (31, (7, (6, ((1, 68), ""))))),
  ("ShoeHouse$Shoe", (34, (7, (7, ((1, 69), ""))))),
  ("ShoeHouse$Tray", (7, (8, (0, ((1, 189), ""))))),
  ("ShoeHouse$Tray", (13, (9, (0, ((1, 51), "ShoeHouse"))))),
  ("ShoeHouse$Tray", (19, (8, (1, ((1, 190), ""))))),
  ("ShoeHouse$Tray", (20, (8, (3, ((1, 193), ""))))),
  ("ShoeHouse$Tray", (23, (8, (4, ((1, 194), ""))))),
  ("ShoeHouse$Tray", (30, (8, (2, ((1, 192), ""))))),
  ("ShoeHouse$Vault", (10, (9, (0, ((1, 50), ""))))),
  ("ShoeHouse$Wheel", (11, (10, (1, ((2, 86), ""))))),
  ("ShoeHouse$Wheel", (15, (10, (2, ((2, 87), ""))))),
  ("ShoeHouse$Wheel", (19, (10, (3, ((2, 88), ""))))),
  ("ShoeHouse$Wheel", (23, (10, (4, ((2, 89), ""))))),
  ("ShoeHouse$Wheel", (26, (10, (0, ((2, 85), ""))))),
  ("ShoeHouse$Wheel", (34, (10, (5, ((2, 90), ""))))),
  ("ShoeHouse$Wheel", (51, (2, (2, ((1, 140), "ShoeHouse"))))),
  ("ShoeHouse", (11, (11, (0, ((2, 148), ""))))),
  ("ShoeHouse", (17, (11, (1, ((2, 149), ""))))),
  ("ShoeHouse", (24, (11, (2, ((2, 150), ""))))),
  ("ShoeHouse", (31, (11, (3, ((2, 151), ""))))),
  ("ShoeHouse", (38, (11, (5, ((2, 153), ""))))),
  ("ShoeHouse", (45, (11, (8, ((2, 156), ""))))),
  ("ShoeHouse", (58, (11, (4, ((2, 152), ""))))),
  ("ShoeHouse", (67, (11, (6, ((2, 154), ""))))),
  ("ShoeHouse", (74, (11, (7, ((2, 155), ""))))),
  ("ShoeHouse", (83, (11, (9, ((2, 157), ""))))),
  ("ShoeHouse", (94, (2, (1, ((1, 136), "ShoeHouse"))))),
  ("ShoeHouse", (101, (9, (0, ((1, 52), "ShoeHouse"))))),
  ("ShoeHouse", (113, (2, (2, ((1, 139), "ShoeHouse"))))),
  ("ShoeHouse", (119, (2, (3, ((1, 144), "ShoeHouse"))))),
  ("ShoeHouse", (122, (11, (10, ((2, 158), ""))))),
  ("ShoeHouse", (125, (2, (6, ((1, 149), "ShoeHouse"))))),
  ("ShoeHouse", (145, (0, (4, ((2, 47), "ShoeHouse"))))),
  ("ShoeHouse", (158, (4, (4, ((1, 118), "ShoeHouse"))))),
  ("ShoeHouse", (174, (8, (1, ((1, 191), "ShoeHouse"))))),
  ("ShoeHouse", (266, (3, (5, ((1, 233), "ShoeHouse"))))),
  ("ShoeHouse", (274, (3, (1, ((1, 223), "ShoeHouse"))))),
  ("ShoeHouse", (276, (6, (3, ((2, 28), "ShoeHouse"))))),
  ("ShoeHouse", (279, (0, (5, ((2, 49), "ShoeHouse"))))),
  ("ShoeHouse", (284, (3, (4, ((1, 229), "ShoeHouse"))))),
  ("ShoeHouse", (299, (6, (0, ((2, 20), "ShoeHouse"))))),
  ("ShoeHouse", (303, (6, (1, ((2, 23), "ShoeHouse"))))),
  ("ShoeHouse", (306, (0, (6, ((2, 51), "ShoeHouse"))))),
  ("ShoeHouse", (329, (0, (3, ((2, 45), "ShoeHouse"))))),
  ("ShoeHouse", (370, (0, (9, ((2, 56), "ShoeHouse"))))),
  ("ShoeHouse", (388, (10, (5, ((2, 91), "ShoeHouse"))))),
  ("ShoeHouse", (409, (5, (4, ((2, 121), "ShoeHouse"))))),
  ("ShoeHouse", (412, (5, (5, ((2, 123), "ShoeHouse"))))),
  ("ShoeHouse", (432, (5, (7, ((2, 127), "ShoeHouse"))))),
  ("ShoeHouse", (435, (5, (6, ((2, 125), "ShoeHouse"))))),
  ("ShoeHouse", (438, (5, (3, ((2, 119), "ShoeHouse"))))),
  ("ShoeHouse", (463, (4, (2, ((1, 114), "ShoeHouse"))))),
  ("ShoeHouse", (466, (4, (3, ((1, 116), "ShoeHouse"))))),
  ("ShoeHouse", (488, (2, (5, ((1, 147), "ShoeHouse"))))),
  ("ShoeHouse", (491, (2, (8, ((1, 152), "ShoeHouse"))))),
  ("ShoeHouse", (536, (0, (2, ((2, 42), "ShoeHouse"))))),
  ("ShoeHouse", (548, (6, (2, ((2, 26), "ShoeHouse"))))),
  ("ShoeHouseModel", (9, (12, (0, ((7, 198), ""))))),
  ("ShoeHouseModel", (13, (12, (1, ((7, 199), ""))))),
  ("ShoeHouseModel", (16, (12, (2, ((7, 200), ""))))),
  ("ShoeHouseModel", (19, (12, (3, ((7, 201), ""))))),
  ("ShoeHouseModel", (22, (12, (4, ((7, 202), ""))))),
  ("ShoeHouseModel", (25, (12, (5, ((7, 203), ""))))),
  ("ShoeHouseModel", (28, (12, (6, ((7, 204), ""))))),
  ("ShoeHouseModel", (31, (12, (7, ((7, 205), ""))))),
  ("ShoeHouseModel", (36, (12, (8, ((7, 206), ""))))),
  ("ShoeHouseModel", (39, (12, (9, ((7, 207), ""))))),
  ("ShoeHouseModel", (42, (12, (10, ((7, 208), ""))))),
  ("ShoeHouseModel", (45, (12, (11, ((7, 209), ""))))),
  ("ShoeHouseModel", (48, (12, (12, ((7, 210), ""))))),
  ("ShoeHouseModel", (51, (12, (13, ((7, 211), ""))))),
  ("ShoeHouseModel", (55, (12, (14, ((7, 212), ""))))),
  ("ShoeHouseModel", (58, (12, (15, ((7, 213), ""))))),
  ("ShoeHouseModel", (61, (12, (16, ((7, 214), ""))))),
  ("ShoeHouseModel", (64, (12, (17, ((7, 215), ""))))),
  ("ShoeHouseModel", (67, (12, (18, ((7, 216), ""))))),
  ("ShoeHouseModel", (70, (12, (19, ((7, 217), ""))))),
  ("ShoeHouseModel", (73, (12, (20, ((7, 218), ""))))),
  ("ShoeHouseModel", (78, (12, (21, ((7, 219), ""))))),
  ("ShoeHouseModel", (81, (12, (22, ((7, 220), ""))))),
  ("ShoeHouseModel", (84, (12, (23, ((7, 221), ""))))),
  ("ShoeHouseModel", (87, (12, (24, ((7, 222), ""))))),
  ("ShoeHouseModel", (90, (12, (25, ((7, 223), ""))))),
  ("ShoeHouseModel", (93, (12, (26, ((7, 224), ""))))),
  ("ShoeHouseModel", (96, (12, (27, ((7, 225), ""))))),
  ("ShoeHouseModel", (99, (12, (28, ((7, 226), ""))))),
  ("ShoeHouseModel", (102, (12, (29, ((7, 227), ""))))),
  ("ShoeHouseModel", (105, (12, (30, ((7, 228), ""))))),
  ("ShoeHouseModel", (109, (12, (32, ((7, 230), ""))))),
  ("ShoeHouseModel", (113, (12, (40, ((7, 238), ""))))),
  ("ShoeHouseModel", (116, (12, (42, ((8, 0), ""))))),
  ("ShoeHouseModel", (119, (12, (47, ((8, 5), ""))))),
  ("ShoeHouseModel", (122, (12, (49, ((8, 7), ""))))),
  ("ShoeHouseModel", (125, (12, (31, ((7, 229), ""))))),
  ("ShoeHouseModel", (147, (12, (33, ((7, 231), ""))))),
  ("ShoeHouseModel", (156, (12, (37, ((7, 235), ""))))),
  ("ShoeHouseModel", (160, (12, (39, ((7, 237), ""))))),
  ("ShoeHouseModel", (169, (12, (43, ((8, 1), ""))))),
  ("ShoeHouseModel", (172, (12, (44, ((8, 2), ""))))),
  ("ShoeHouseModel", (175, (12, (46, ((8, 4), ""))))),
  ("ShoeHouseModel", (178, (12, (48, ((8, 6), ""))))),
  ("ShoeHouseModel", (199, (12, (34, ((7, 232), ""))))),
  ("ShoeHouseModel", (202, (12, (35, ((7, 233), ""))))),
  ("ShoeHouseModel", (208, (12, (36, ((7, 234), ""))))),
  ("ShoeHouseModel", (263, (12, (38, ((7, 236), ""))))),
  ("ShoeHouseModel", (319, (12, (41, ((7, 239), ""))))),
  ("ShoeHouseModel", (322, (12, (45, ((8, 3), "")))))]
def zFok (r : zFr) : Bool := match zk_cl[r.2.2.1]? with
  | some q => decide (r.2.2.2.1 < q.2.2) && (if r.2.2.2.2.2 = "" then zhas r.2.2.2.2.1 (.fieldLink r.1 r.2.1 (q.2.1 r.2.2.2.1).1 (q.2.1 r.2.2.2.1).2.1 (q.2.1 r.2.2.2.1).2.2.1) else zhas r.2.2.2.2.1 (.fieldLinkNest r.1 r.2.1 (q.2.1 r.2.2.2.1).1 (q.2.1 r.2.2.2.1).2.1 (q.2.1 r.2.2.2.1).2.2.1 r.2.2.2.2.2))
  | none => false
set_option maxRecDepth 100000 in
theorem zFT_ok : zFT.all zFok = true := by decide +kernel
theorem zFT_l {M : zm_M} {r : zFr} (h : r ∈ zFT) (ho : r.1 = zm_o M) : zf_l M r.2.1 r.2.2.1 r.2.2.2.1 := by
  have h1 := List.all_eq_true.mp zFT_ok r h
  unfold zFok at h1
  cases hq : zk_cl[r.2.2.1]? with
  | none => rw [hq] at h1; cases h1
  | some q =>
    rw [hq] at h1
    simp only [Bool.and_eq_true] at h1
    refine ⟨q, hq, of_decide_eq_true h1.1, ?_⟩
    rw [← ho]
    have h2 := h1.2
    by_cases hh : r.2.2.2.2.2 = ""
    · rw [if_pos hh] at h2
      exact Or.inl (zhas_in h2)
    · rw [if_neg hh] at h2
      exact Or.inr ⟨_, zhas_in h2⟩
def zMP (M : zm_M) : Prop := ∃ k, zm_ok M k ∧ (zm_h M = [] → plainFor (zm_y M) = true) ∧ (zm_h M ≠ [] → plainName (zm_y M).cls = true)
def zMk (p : Nat × Nat) (k : Nat) (M : zm_M) : Bool := zhas p (.initialized (zm_o M)) && (decide (zm_o M ≠ "java/lang/invoke/MethodHandle") && (decide (zm_o M ≠ "java/lang/invoke/VarHandle") && (decide ((parseMethodDescriptor (zm_y M).desc).map (fun d => d.parameters.length) = some k) && (decide (zm_n M ≤ 40) && (if zm_h M = [] then plainFor (zm_y M) else plainName (zm_y M).cls)))))
theorem zMk_ok {p q : Nat × Nat} {k : Nat} {M : zm_M} (h0 : (zTb q.1)[q.2]? = some (zm_cw M)) (hg : zg_good (zm_cw M) = true) (h : zMk p k M = true) : zMP M := by
  simp only [zMk, Bool.and_eq_true] at h
  obtain ⟨h2, h3, h4, h5, h6, h7⟩ := h
  exact ⟨k, ⟨lw_g_of (zTb_in _ (List.mem_of_getElem? h0)) hg, zhas_in h2, ⟨of_decide_eq_true h3, of_decide_eq_true h4⟩, of_decide_eq_true h5, of_decide_eq_true h6⟩, fun q => by rw [if_pos q] at h7; exact h7, fun q => by rw [if_neg q] at h7; exact h7⟩
theorem zmp_0 : zMP (yX0_init, (cX0_init, (4, (none, [])))) := zMk_ok (p := (1, 8)) (q := (1, 210)) (k := 2) rfl rfl (by decide +kernel)
theorem zmp_1 : zMP (yX0_tellRule, (cX0_tellRule, (4, ((some .boolean), [])))) := zMk_ok (p := (1, 8)) (q := (5, 41)) (k := 2) rfl rfl (by decide +kernel)
theorem zmp_2 : zMP (yX0_hasStakes, (cX0_hasStakes, (5, ((some .boolean), [])))) := zMk_ok (p := (1, 8)) (q := (5, 156)) (k := 0) rfl rfl (by decide +kernel)
theorem zmp_3 : zMP (yX0_stakesOf, (cX0_stakesOf, (7, ((some .int), [])))) := zMk_ok (p := (1, 8)) (q := (3, 54)) (k := 1) rfl rfl (by decide +kernel)
theorem zmp_4 : zMP (yX0_takeAway, (cX0_takeAway, (7, ((some .int), [])))) := zMk_ok (p := (1, 8)) (q := (4, 75)) (k := 1) rfl rfl (by decide +kernel)
theorem zmp_5 : zMP (yX0_forgetCards, (cX0_forgetCards, (5, (none, [])))) := zMk_ok (p := (1, 8)) (q := (5, 57)) (k := 0) rfl rfl (by decide +kernel)
theorem zmp_6 : zMP (yX0_seatInTurn, (cX0_seatInTurn, (2, ((some .int), [])))) := zMk_ok (p := (1, 8)) (q := (4, 119)) (k := 0) rfl rfl (by decide +kernel)
theorem zmp_7 : zMP (yX0_dealRound, (cX0_dealRound, (5, ((some .int), [])))) := zMk_ok (p := (1, 8)) (q := (5, 162)) (k := 0) rfl rfl (by decide +kernel)
theorem zmp_8 : zMP (yX0_dealToSeats, (cX0_dealToSeats, (5, (none, [])))) := zMk_ok (p := (1, 8)) (q := (5, 167)) (k := 0) rfl rfl (by decide +kernel)
theorem zmp_9 : zMP (yX0_giveCard, (cX0_giveCard, (3, ((some .int), [])))) := zMk_ok (p := (1, 8)) (q := (5, 200)) (k := 1) rfl rfl (by decide +kernel)
theorem zmp_10 : zMP (yX0_giveUp, (cX0_giveUp, (5, ((some .int), [])))) := zMk_ok (p := (1, 8)) (q := (6, 10)) (k := 2) rfl rfl (by decide +kernel)
theorem zmp_11 : zMP (yX0_finishIfNobodyPlays, (cX0_finishIfNobodyPlays, (5, (none, [])))) := zMk_ok (p := (1, 8)) (q := (4, 115)) (k := 0) rfl rfl (by decide +kernel)
theorem zmp_12 : zMP (yX0_drawForDealer, (cX0_drawForDealer, (6, (none, [])))) := zMk_ok (p := (1, 8)) (q := (4, 135)) (k := 0) rfl rfl (by decide +kernel)
theorem zmp_13 : zMP (yX0_drawsAgain, (cX0_drawsAgain, (2, ((some .boolean), [])))) := zMk_ok (p := (1, 8)) (q := (4, 156)) (k := 0) rfl rfl (by decide +kernel)
theorem zmp_14 : zMP (yX0_settle, (cX0_settle, (6, (none, [])))) := zMk_ok (p := (1, 8)) (q := (4, 178)) (k := 2) rfl rfl (by decide +kernel)
theorem zmp_15 : zMP (yX0_gainOf, (cX0_gainOf, (5, ((some .int), [])))) := zMk_ok (p := (1, 8)) (q := (4, 182)) (k := 2) rfl rfl (by decide +kernel)
theorem zmp_16 : zMP (yX0_payForNatural, (cX0_payForNatural, (2, ((some .int), [])))) := zMk_ok (p := (1, 8)) (q := (4, 188)) (k := 1) rfl rfl (by decide +kernel)
theorem zmp_17 : zMP (yX1_init, (cX1_init, (1, (none, [])))) := zMk_ok (p := (1, 4)) (q := (1, 92)) (k := 0) rfl rfl (by decide +kernel)
theorem zmp_18 : zMP (yX1_chanceOf, (cX1_chanceOf, (5, ((some .double), [])))) := zMk_ok (p := (1, 4)) (q := (3, 102)) (k := 2) rfl rfl (by decide +kernel)
theorem zmp_19 : zMP (yX1_chanceFrom, (cX1_chanceFrom, (11, ((some .double), [])))) := zMk_ok (p := (1, 4)) (q := (3, 110)) (k := 5) rfl rfl (by decide +kernel)
theorem zmp_20 : zMP (yX2_init, (cX2_init, (1, (none, [])))) := zMk_ok (p := (1, 6)) (q := (1, 133)) (k := 0) rfl rfl (by decide +kernel)
theorem zmp_21 : zMP (yX2_isBarredOn, (cX2_isBarredOn, (2, ((some .boolean), [])))) := zMk_ok (p := (1, 6)) (q := (3, 94)) (k := 1) rfl rfl (by decide +kernel)
theorem zmp_22 : zMP (yX2_mayStake, (cX2_mayStake, (3, ((some .boolean), [])))) := zMk_ok (p := (1, 6)) (q := (5, 118)) (k := 2) rfl rfl (by decide +kernel)
theorem zmp_23 : zMP (yX2_putStake, (cX2_putStake, (2, (none, [])))) := zMk_ok (p := (1, 6)) (q := (5, 141)) (k := 1) rfl rfl (by decide +kernel)
theorem zmp_24 : zMP (yX2_bringMoney, (cX2_bringMoney, (2, (none, [])))) := zMk_ok (p := (1, 6)) (q := (4, 44)) (k := 1) rfl rfl (by decide +kernel)
theorem zmp_25 : zMP (yX2_tellLimit, (cX2_tellLimit, (2, (none, [])))) := zMk_ok (p := (1, 6)) (q := (4, 63)) (k := 1) rfl rfl (by decide +kernel)
theorem zmp_26 : zMP (yX2_beginDay, (cX2_beginDay, (1, (none, [])))) := zMk_ok (p := (1, 6)) (q := (4, 224)) (k := 0) rfl rfl (by decide +kernel)
theorem zmp_27 : zMP (yX2_noteBet, (cX2_noteBet, (3, (none, [])))) := zMk_ok (p := (1, 6)) (q := (5, 137)) (k := 2) rfl rfl (by decide +kernel)
theorem zmp_28 : zMP (yX2_isBettingByCount, (cX2_isBettingByCount, (1, ((some .boolean), [])))) := zMk_ok (p := (1, 6)) (q := (6, 136)) (k := 0) rfl rfl (by decide +kernel)
theorem zmp_29 : zMP (yX2_addPrize, (cX2_addPrize, (4, (none, [])))) := zMk_ok (p := (1, 6)) (q := (7, 93)) (k := 2) rfl rfl (by decide +kernel)
theorem zmp_30 : zMP (yX2_dropPrizesOf, (cX2_dropPrizesOf, (4, ((some .int), [])))) := zMk_ok (p := (1, 6)) (q := (4, 228)) (k := 1) rfl rfl (by decide +kernel)
theorem zmp_31 : zMP (yX2_allPrizes, (cX2_allPrizes, (6, ((some .int), [])))) := zMk_ok (p := (1, 6)) (q := (3, 46)) (k := 0) rfl rfl (by decide +kernel)
theorem zmp_32 : zMP (yX2_dropAllPrizes, (cX2_dropAllPrizes, (1, (none, [])))) := zMk_ok (p := (1, 6)) (q := (4, 110)) (k := 0) rfl rfl (by decide +kernel)
theorem zmp_33 : zMP (yX3_init, (cX3_init, (1, (none, [])))) := zMk_ok (p := (1, 9)) (q := (1, 218)) (k := 0) rfl rfl (by decide +kernel)
theorem zmp_34 : zMP (yX3_add, (cX3_add, (2, (none, [])))) := zMk_ok (p := (1, 9)) (q := (4, 174)) (k := 1) rfl rfl (by decide +kernel)
theorem zmp_35 : zMP (yX3_forgetCards, (cX3_forgetCards, (1, (none, [])))) := zMk_ok (p := (1, 9)) (q := (4, 87)) (k := 0) rfl rfl (by decide +kernel)
theorem zmp_36 : zMP (yX3_rankAt, (cX3_rankAt, (2, ((some .int), [])))) := zMk_ok (p := (1, 9)) (q := (3, 107)) (k := 1) rfl rfl (by decide +kernel)
theorem zmp_37 : zMP (yX3_value, (cX3_value, (1, ((some .int), [])))) := zMk_ok (p := (1, 9)) (q := (4, 152)) (k := 0) rfl rfl (by decide +kernel)
theorem zmp_38 : zMP (yX3_isSoft, (cX3_isSoft, (1, ((some .boolean), [])))) := zMk_ok (p := (1, 9)) (q := (4, 161)) (k := 0) rfl rfl (by decide +kernel)
theorem zmp_39 : zMP (yX3_isPair, (cX3_isPair, (1, ((some .boolean), [])))) := zMk_ok (p := (1, 9)) (q := (5, 230)) (k := 0) rfl rfl (by decide +kernel)
theorem zmp_40 : zMP (yX3_isNatural, (cX3_isNatural, (1, ((some .boolean), [])))) := zMk_ok (p := (1, 9)) (q := (4, 148)) (k := 0) rfl rfl (by decide +kernel)
theorem zmp_41 : zMP (yX3_settle, (cX3_settle, (2, ((some .int), [])))) := zMk_ok (p := (1, 9)) (q := (4, 192)) (k := 0) rfl rfl (by decide +kernel)
theorem zmp_42 : zMP (yX3_takeBack, (cX3_takeBack, (3, ((some .int), [])))) := zMk_ok (p := (1, 9)) (q := (4, 83)) (k := 1) rfl rfl (by decide +kernel)
theorem zmp_43 : zMP (yX4_init, (cX4_init, (1, (none, [])))) := zMk_ok (p := (1, 5)) (q := (1, 108)) (k := 0) rfl rfl (by decide +kernel)
theorem zmp_44 : zMP (yX4_setOf, (cX4_setOf, (2, ((some .int), [])))) := zMk_ok (p := (1, 5)) (q := (7, 37)) (k := 1) rfl rfl (by decide +kernel)
theorem zmp_45 : zMP (yX4_isSoldOut, (cX4_isSoldOut, (1, ((some .boolean), [])))) := zMk_ok (p := (1, 5)) (q := (7, 48)) (k := 0) rfl rfl (by decide +kernel)
theorem zmp_46 : zMP (yX4_isDrawn, (cX4_isDrawn, (1, ((some .boolean), [])))) := zMk_ok (p := (1, 5)) (q := (7, 52)) (k := 0) rfl rfl (by decide +kernel)
theorem zmp_47 : zMP (yX4_sell, (cX4_sell, (3, (none, [])))) := zMk_ok (p := (1, 5)) (q := (7, 57)) (k := 2) rfl rfl (by decide +kernel)
theorem zmp_48 : zMP (yX4_rightNumbers, (cX4_rightNumbers, (2, ((some .int), [])))) := zMk_ok (p := (1, 5)) (q := (7, 72)) (k := 1) rfl rfl (by decide +kernel)
theorem zmp_49 : zMP (yX4_ticketsWithRight, (cX4_ticketsWithRight, (4, ((some .int), [])))) := zMk_ok (p := (1, 5)) (q := (7, 68)) (k := 1) rfl rfl (by decide +kernel)
theorem zmp_50 : zMP (yX4_giveOut, (cX4_giveOut, (3, ((some .int), [])))) := zMk_ok (p := (1, 5)) (q := (7, 84)) (k := 1) rfl rfl (by decide +kernel)
theorem zmp_51 : zMP (yX4_giveTier, (cX4_giveTier, (8, ((some .int), [])))) := zMk_ok (p := (1, 5)) (q := (7, 88)) (k := 3) rfl rfl (by decide +kernel)
theorem zmp_52 : zMP (yX4_takeAway, (cX4_takeAway, (3, (none, [])))) := zMk_ok (p := (1, 5)) (q := (4, 105)) (k := 1) rfl rfl (by decide +kernel)
theorem zmp_53 : zMP (yX5_init, (cX5_init, (2, (none, [])))) := zMk_ok (p := (1, 12)) (q := (2, 110)) (k := 1) rfl rfl (by decide +kernel)
theorem zmp_54 : zMP (yX5_areSymbols, (cX5_areSymbols, (1, ((some .boolean), [])))) := zMk_ok (p := (1, 12)) (q := (6, 184)) (k := 1) rfl rfl (by decide +kernel)
theorem zmp_55 : zMP (yX5_areStops, (cX5_areStops, (1, ((some .boolean), [])))) := zMk_ok (p := (1, 12)) (q := (6, 237)) (k := 1) rfl rfl (by decide +kernel)
theorem zmp_56 : zMP (yX5_areDigits, (cX5_areDigits, (5, ((some .boolean), [])))) := zMk_ok (p := (1, 12)) (q := (6, 187)) (k := 3) rfl rfl (by decide +kernel)
theorem zmp_57 : zMP (yX5_isSpinning, (cX5_isSpinning, (1, ((some .boolean), [])))) := zMk_ok (p := (1, 12)) (q := (4, 219)) (k := 0) rfl rfl (by decide +kernel)
theorem zmp_58 : zMP (yX5_stakeOf, (cX5_stakeOf, (2, ((some .int), [])))) := zMk_ok (p := (1, 12)) (q := (3, 66)) (k := 1) rfl rfl (by decide +kernel)
theorem zmp_59 : zMP (yX5_symbolAt, (cX5_symbolAt, (4, ((some .int), [])))) := zMk_ok (p := (1, 12)) (q := (2, 225)) (k := 2) rfl rfl (by decide +kernel)
theorem zmp_60 : zMP (yX5_timesOf, (cX5_timesOf, (2, ((some .int), [])))) := zMk_ok (p := (1, 12)) (q := (2, 229)) (k := 1) rfl rfl (by decide +kernel)
theorem zmp_61 : zMP (yX5_tellSymbols, (cX5_tellSymbols, (7, ((some .int), [])))) := zMk_ok (p := (1, 12)) (q := (6, 197)) (k := 2) rfl rfl (by decide +kernel)
theorem zmp_62 : zMP (yX5_tellTimes, (cX5_tellTimes, (4, ((some .int), [])))) := zMk_ok (p := (1, 12)) (q := (6, 208)) (k := 2) rfl rfl (by decide +kernel)
theorem zmp_63 : zMP (yX5_begin, (cX5_begin, (3, (none, [])))) := zMk_ok (p := (1, 12)) (q := (6, 227)) (k := 2) rfl rfl (by decide +kernel)
theorem zmp_64 : zMP (yX5_settleAt, (cX5_settleAt, (6, ((some .int), [])))) := zMk_ok (p := (1, 12)) (q := (7, 7)) (k := 1) rfl rfl (by decide +kernel)
theorem zmp_65 : zMP (yX5_takeAway, (cX5_takeAway, (3, ((some .int), [])))) := zMk_ok (p := (1, 12)) (q := (4, 100)) (k := 1) rfl rfl (by decide +kernel)
theorem zmp_66 : zMP (yX5_paidByAllStops, (cX5_paidByAllStops, (5, ((some .int), [])))) := zMk_ok (p := (1, 12)) (q := (2, 217)) (k := 0) rfl rfl (by decide +kernel)
theorem zmp_67 : zMP (yX5_stopsWith, (cX5_stopsWith, (5, ((some .int), [])))) := zMk_ok (p := (1, 12)) (q := (2, 221)) (k := 2) rfl rfl (by decide +kernel)
theorem zmp_68 : zMP (yX6_init, (cX6_init, (1, (none, [])))) := zMk_ok (p := (1, 10)) (q := (2, 14)) (k := 0) rfl rfl (by decide +kernel)
theorem zmp_69 : zMP (yX6_hasStake, (cX6_hasStake, (1, ((some .boolean), [])))) := zMk_ok (p := (1, 10)) (q := (5, 109)) (k := 0) rfl rfl (by decide +kernel)
theorem zmp_70 : zMP (yX6_stakes, (cX6_stakes, (1, ((some .int), [])))) := zMk_ok (p := (1, 10)) (q := (3, 58)) (k := 0) rfl rfl (by decide +kernel)
theorem zmp_71 : zMP (yX6_take, (cX6_take, (3, (none, [])))) := zMk_ok (p := (1, 10)) (q := (5, 145)) (k := 2) rfl rfl (by decide +kernel)
theorem zmp_72 : zMP (yX6_handAt, (cX6_handAt, (3, ((some (.object "ShoeHouse$Hand")), [])))) := zMk_ok (p := (1, 10)) (q := (6, 22)) (k := 1) rfl rfl (by decide +kernel)
theorem zmp_73 : zMP (yX6_handThatPlays, (cX6_handThatPlays, (1, ((some (.object "ShoeHouse$Hand")), [])))) := zMk_ok (p := (1, 10)) (q := (4, 123)) (k := 0) rfl rfl (by decide +kernel)
theorem zmp_74 : zMP (yX6_part, (cX6_part, (2, (none, [])))) := zMk_ok (p := (1, 10)) (q := (5, 236)) (k := 0) rfl rfl (by decide +kernel)
theorem zmp_75 : zMP (yX6_isNatural, (cX6_isNatural, (1, ((some .boolean), [])))) := zMk_ok (p := (1, 10)) (q := (4, 144)) (k := 0) rfl rfl (by decide +kernel)
theorem zmp_76 : zMP (yX6_needsDealer, (cX6_needsDealer, (1, ((some .boolean), [])))) := zMk_ok (p := (1, 10)) (q := (4, 139)) (k := 0) rfl rfl (by decide +kernel)
theorem zmp_77 : zMP (yX6_forgetCards, (cX6_forgetCards, (1, (none, [])))) := zMk_ok (p := (1, 10)) (q := (5, 61)) (k := 0) rfl rfl (by decide +kernel)
theorem zmp_78 : zMP (yX6_forgetStakes, (cX6_forgetStakes, (1, (none, [])))) := zMk_ok (p := (1, 10)) (q := (4, 208)) (k := 0) rfl rfl (by decide +kernel)
theorem zmp_79 : zMP (yX6_takeAway, (cX6_takeAway, (2, ((some .int), [])))) := zMk_ok (p := (1, 10)) (q := (4, 79)) (k := 1) rfl rfl (by decide +kernel)
theorem zmp_80 : zMP (yX7_init, (cX7_init, (1, (none, [])))) := zMk_ok (p := (1, 3)) (q := (1, 60)) (k := 0) rfl rfl (by decide +kernel)
theorem zmp_81 : zMP (yX7_cardsInDeck, (cX7_cardsInDeck, (1, ((some .int), [])))) := zMk_ok (p := (1, 3)) (q := (3, 86)) (k := 1) rfl rfl (by decide +kernel)
theorem zmp_82 : zMP (yX7_size, (cX7_size, (1, ((some .int), [])))) := zMk_ok (p := (1, 3)) (q := (3, 75)) (k := 0) rfl rfl (by decide +kernel)
theorem zmp_83 : zMP (yX7_rankAt, (cX7_rankAt, (3, ((some .int), [])))) := zMk_ok (p := (1, 3)) (q := (3, 79)) (k := 1) rfl rfl (by decide +kernel)
theorem zmp_84 : zMP (yX7_layDecks, (cX7_layDecks, (4, (none, [])))) := zMk_ok (p := (1, 3)) (q := (5, 52)) (k := 1) rfl rfl (by decide +kernel)
theorem zmp_85 : zMP (yX7_bringBehind, (cX7_bringBehind, (5, (none, [])))) := zMk_ok (p := (1, 3)) (q := (5, 76)) (k := 1) rfl rfl (by decide +kernel)
theorem zmp_86 : zMP (yX7_mixHalves, (cX7_mixHalves, (6, (none, [])))) := zMk_ok (p := (1, 3)) (q := (5, 93)) (k := 1) rfl rfl (by decide +kernel)
theorem zmp_87 : zMP (yX7_layMixed, (cX7_layMixed, (3, (none, [])))) := zMk_ok (p := (1, 3)) (q := (5, 80)) (k := 1) rfl rfl (by decide +kernel)
theorem zmp_88 : zMP (yX7_takeCard, (cX7_takeCard, (2, ((some .int), [])))) := zMk_ok (p := (1, 3)) (q := (4, 170)) (k := 0) rfl rfl (by decide +kernel)
theorem zmp_89 : zMP (yX7_see, (cX7_see, (2, (none, [])))) := zMk_ok (p := (1, 3)) (q := (4, 131)) (k := 1) rfl rfl (by decide +kernel)
theorem zmp_90 : zMP (yX7_takeSeen, (cX7_takeSeen, (2, ((some .int), [])))) := zMk_ok (p := (1, 3)) (q := (4, 166)) (k := 0) rfl rfl (by decide +kernel)
theorem zmp_91 : zMP (yX7_takeHidden, (cX7_takeHidden, (1, ((some .int), [])))) := zMk_ok (p := (1, 3)) (q := (5, 171)) (k := 0) rfl rfl (by decide +kernel)
theorem zmp_92 : zMP (yX7_showHidden, (cX7_showHidden, (1, (none, [])))) := zMk_ok (p := (1, 3)) (q := (4, 127)) (k := 0) rfl rfl (by decide +kernel)
theorem zmp_93 : zMP (yX7_unseenOf, (cX7_unseenOf, (2, ((some .int), [])))) := zMk_ok (p := (1, 3)) (q := (3, 83)) (k := 1) rfl rfl (by decide +kernel)
theorem zmp_94 : zMP (yX7_unseenAbove, (cX7_unseenAbove, (4, ((some .int), [])))) := zMk_ok (p := (1, 3)) (q := (5, 132)) (k := 1) rfl rfl (by decide +kernel)
theorem zmp_95 : zMP (yX7_unseen, (cX7_unseen, (1, ((some .int), [])))) := zMk_ok (p := (1, 3)) (q := (5, 128)) (k := 0) rfl rfl (by decide +kernel)
theorem zmp_96 : zMP (yX7_tellWeight, (cX7_tellWeight, (4, ((some .int), [])))) := zMk_ok (p := (1, 3)) (q := (6, 118)) (k := 2) rfl rfl (by decide +kernel)
theorem zmp_97 : zMP (yX7_countSeen, (cX7_countSeen, (3, ((some .int), [])))) := zMk_ok (p := (1, 3)) (q := (2, 201)) (k := 0) rfl rfl (by decide +kernel)
theorem zmp_98 : zMP (yX7_countByDeck, (cX7_countByDeck, (2, ((some .int), [])))) := zMk_ok (p := (1, 3)) (q := (5, 124)) (k := 0) rfl rfl (by decide +kernel)
theorem zmp_99 : zMP (yX7_isWhole, (cX7_isWhole, (4, ((some .boolean), [])))) := zMk_ok (p := (1, 3)) (q := (3, 71)) (k := 0) rfl rfl (by decide +kernel)
theorem zmp_100 : zMP (yX8_init, (cX8_init, (2, (none, [])))) := zMk_ok (p := (1, 7)) (q := (1, 187)) (k := 1) rfl rfl (by decide +kernel)
theorem zmp_101 : zMP (yX8_takeFromVault, (cX8_takeFromVault, (2, (none, [])))) := zMk_ok (p := (1, 7)) (q := (4, 204)) (k := 1) rfl rfl (by decide +kernel)
theorem zmp_102 : zMP (yX8_bringToVault, (cX8_bringToVault, (2, (none, [])))) := zMk_ok (p := (1, 7)) (q := (5, 17)) (k := 1) rfl rfl (by decide +kernel)
theorem zmp_103 : zMP (yX8_collect, (cX8_collect, (2, (none, [])))) := zMk_ok (p := (1, 7)) (q := (4, 196)) (k := 1) rfl rfl (by decide +kernel)
theorem zmp_104 : zMP (yX8_payOut, (cX8_payOut, (2, (none, [])))) := zMk_ok (p := (1, 7)) (q := (4, 200)) (k := 1) rfl rfl (by decide +kernel)
theorem zmp_105 : zMP (yX8_winOfShift, (cX8_winOfShift, (1, ((some .int), [])))) := zMk_ok (p := (1, 7)) (q := (2, 189)) (k := 0) rfl rfl (by decide +kernel)
theorem zmp_106 : zMP (yX8_beginShift, (cX8_beginShift, (1, (none, [])))) := zMk_ok (p := (1, 7)) (q := (2, 193)) (k := 0) rfl rfl (by decide +kernel)
theorem zmp_107 : zMP (yX9_init, (cX9_init, (1, (none, [])))) := zMk_ok (p := (1, 2)) (q := (1, 47)) (k := 0) rfl rfl (by decide +kernel)
theorem zmp_108 : zMP (yX10_init, (cX10_init, (2, (none, [])))) := zMk_ok (p := (1, 11)) (q := (2, 82)) (k := 1) rfl rfl (by decide +kernel)
theorem zmp_109 : zMP (yX10_isWager, (cX10_isWager, (2, ((some .boolean), [])))) := zMk_ok (p := (1, 11)) (q := (6, 147)) (k := 2) rfl rfl (by decide +kernel)
theorem zmp_110 : zMP (yX10_isRed, (cX10_isRed, (3, ((some .boolean), [])))) := zMk_ok (p := (1, 11)) (q := (6, 171)) (k := 1) rfl rfl (by decide +kernel)
theorem zmp_111 : zMP (yX10_timesPaid, (cX10_timesPaid, (3, ((some .int), [])))) := zMk_ok (p := (1, 11)) (q := (6, 168)) (k := 3) rfl rfl (by decide +kernel)
theorem zmp_112 : zMP (yX10_isFull, (cX10_isFull, (1, ((some .boolean), [])))) := zMk_ok (p := (1, 11)) (q := (6, 152)) (k := 0) rfl rfl (by decide +kernel)
theorem zmp_113 : zMP (yX10_add, (cX10_add, (5, (none, [])))) := zMk_ok (p := (1, 11)) (q := (4, 96)) (k := 4) rfl rfl (by decide +kernel)
theorem zmp_114 : zMP (yX10_settleAll, (cX10_settleAll, (6, ((some .int), [])))) := zMk_ok (p := (1, 11)) (q := (6, 165)) (k := 1) rfl rfl (by decide +kernel)
theorem zmp_115 : zMP (yX10_stakesOf, (cX10_stakesOf, (4, ((some .int), [])))) := zMk_ok (p := (1, 11)) (q := (3, 62)) (k := 1) rfl rfl (by decide +kernel)
theorem zmp_116 : zMP (yX10_takeAway, (cX10_takeAway, (6, ((some .int), [])))) := zMk_ok (p := (1, 11)) (q := (4, 91)) (k := 1) rfl rfl (by decide +kernel)
theorem zmp_117 : zMP (yX11_init, (cX11_init, (2, (none, [])))) := zMk_ok (p := (1, 1)) (q := (1, 35)) (k := 0) rfl rfl (by decide +kernel)
theorem zmp_118 : zMP (yX11_guest, (cX11_guest, (2, ((some .int), [])))) := zMk_ok (p := (1, 1)) (q := (3, 123)) (k := 1) rfl rfl (by decide +kernel)
theorem zmp_119 : zMP (yX11_buyIn, (cX11_buyIn, (4, ((some .int), [])))) := zMk_ok (p := (1, 1)) (q := (4, 7)) (k := 2) rfl rfl (by decide +kernel)
theorem zmp_120 : zMP (yX11_cashOut, (cX11_cashOut, (4, ((some .int), [])))) := zMk_ok (p := (1, 1)) (q := (4, 51)) (k := 2) rfl rfl (by decide +kernel)
theorem zmp_121 : zMP (yX11_limit, (cX11_limit, (4, ((some .int), [])))) := zMk_ok (p := (1, 1)) (q := (4, 59)) (k := 2) rfl rfl (by decide +kernel)
theorem zmp_122 : zMP (yX11_bar, (cX11_bar, (5, ((some .int), [])))) := zMk_ok (p := (1, 1)) (q := (4, 70)) (k := 2) rfl rfl (by decide +kernel)
theorem zmp_123 : zMP (yX11_pass, (cX11_pass, (7, ((some .int), [])))) := zMk_ok (p := (1, 1)) (q := (4, 215)) (k := 1) rfl rfl (by decide +kernel)
theorem zmp_124 : zMP (yX11_fill, (cX11_fill, (4, ((some .int), [])))) := zMk_ok (p := (1, 1)) (q := (4, 238)) (k := 2) rfl rfl (by decide +kernel)
theorem zmp_125 : zMP (yX11_credit, (cX11_credit, (4, ((some .int), [])))) := zMk_ok (p := (1, 1)) (q := (5, 12)) (k := 2) rfl rfl (by decide +kernel)
theorem zmp_126 : zMP (yX11_shift, (cX11_shift, (6, ((some .int), [])))) := zMk_ok (p := (1, 1)) (q := (2, 185)) (k := 0) rfl rfl (by decide +kernel)
theorem zmp_127 : zMP (yX11_win, (cX11_win, (2, ((some .int), [])))) := zMk_ok (p := (1, 1)) (q := (5, 24)) (k := 1) rfl rfl (by decide +kernel)
theorem zmp_128 : zMP (yX11_rule, (cX11_rule, (3, ((some .boolean), [])))) := zMk_ok (p := (1, 1)) (q := (5, 31)) (k := 2) rfl rfl (by decide +kernel)
theorem zmp_129 : zMP (yX11_lay, (cX11_lay, (2, ((some .int), [])))) := zMk_ok (p := (1, 1)) (q := (5, 48)) (k := 1) rfl rfl (by decide +kernel)
theorem zmp_130 : zMP (yX11_cut, (cX11_cut, (2, ((some .int), [])))) := zMk_ok (p := (1, 1)) (q := (5, 71)) (k := 1) rfl rfl (by decide +kernel)
theorem zmp_131 : zMP (yX11_riffle, (cX11_riffle, (2, ((some .int), [])))) := zMk_ok (p := (1, 1)) (q := (5, 88)) (k := 1) rfl rfl (by decide +kernel)
theorem zmp_132 : zMP (yX11_bet, (cX11_bet, (6, ((some .int), [])))) := zMk_ok (p := (1, 1)) (q := (5, 100)) (k := 3) rfl rfl (by decide +kernel)
theorem zmp_133 : zMP (yX11_deal, (cX11_deal, (2, ((some .int), [])))) := zMk_ok (p := (1, 1)) (q := (5, 152)) (k := 0) rfl rfl (by decide +kernel)
theorem zmp_134 : zMP (yX11_hit, (cX11_hit, (4, ((some .int), [])))) := zMk_ok (p := (1, 1)) (q := (5, 179)) (k := 1) rfl rfl (by decide +kernel)
theorem zmp_135 : zMP (yX11_stand, (cX11_stand, (3, ((some .int), [])))) := zMk_ok (p := (1, 1)) (q := (5, 207)) (k := 1) rfl rfl (by decide +kernel)
theorem zmp_136 : zMP (yX11_twice, (cX11_twice, (6, ((some .int), [])))) := zMk_ok (p := (1, 1)) (q := (5, 214)) (k := 1) rfl rfl (by decide +kernel)
theorem zmp_137 : zMP (yX11_split, (cX11_split, (6, ((some .int), [])))) := zMk_ok (p := (1, 1)) (q := (5, 226)) (k := 1) rfl rfl (by decide +kernel)
theorem zmp_138 : zMP (yX11_surrender, (cX11_surrender, (5, ((some .int), [])))) := zMk_ok (p := (1, 1)) (q := (6, 5)) (k := 1) rfl rfl (by decide +kernel)
theorem zmp_139 : zMP (yX11_cardAt, (cX11_cardAt, (6, ((some .int), [])))) := zMk_ok (p := (1, 1)) (q := (6, 18)) (k := 3) rfl rfl (by decide +kernel)
theorem zmp_140 : zMP (yX11_dealerAt, (cX11_dealerAt, (3, ((some .int), [])))) := zMk_ok (p := (1, 1)) (q := (6, 47)) (k := 1) rfl rfl (by decide +kernel)
theorem zmp_141 : zMP (yX11_turn, (cX11_turn, (1, ((some .int), [])))) := zMk_ok (p := (1, 1)) (q := (6, 55)) (k := 0) rfl rfl (by decide +kernel)
theorem zmp_142 : zMP (yX11_left, (cX11_left, (2, ((some .int), [])))) := zMk_ok (p := (1, 1)) (q := (6, 62)) (k := 1) rfl rfl (by decide +kernel)
theorem zmp_143 : zMP (yX11_bustOver, (cX11_bustOver, (2, ((some .long), [])))) := zMk_ok (p := (1, 1)) (q := (6, 84)) (k := 1) rfl rfl (by decide +kernel)
theorem zmp_144 : zMP (yX11_bustUnder, (cX11_bustUnder, (2, ((some .long), [])))) := zMk_ok (p := (1, 1)) (q := (6, 100)) (k := 1) rfl rfl (by decide +kernel)
theorem zmp_145 : zMP (yX11_dealerEnds, (cX11_dealerEnds, (2, ((some .double), [])))) := zMk_ok (p := (1, 1)) (q := (6, 107)) (k := 1) rfl rfl (by decide +kernel)
theorem zmp_146 : zMP (yX11_weigh, (cX11_weigh, (3, ((some .int), [])))) := zMk_ok (p := (1, 1)) (q := (6, 114)) (k := 2) rfl rfl (by decide +kernel)
theorem zmp_147 : zMP (yX11_count, (cX11_count, (1, ((some .int), [])))) := zMk_ok (p := (1, 1)) (q := (2, 197)) (k := 0) rfl rfl (by decide +kernel)
theorem zmp_148 : zMP (yX11_trueCount, (cX11_trueCount, (1, ((some .int), [])))) := zMk_ok (p := (1, 1)) (q := (6, 125)) (k := 0) rfl rfl (by decide +kernel)
theorem zmp_149 : zMP (yX11_isSuspected, (cX11_isSuspected, (2, ((some .boolean), [])))) := zMk_ok (p := (1, 1)) (q := (6, 132)) (k := 1) rfl rfl (by decide +kernel)
theorem zmp_150 : zMP (yX11_broken, (cX11_broken, (1, ((some .int), [])))) := zMk_ok (p := (1, 1)) (q := (2, 205)) (k := 0) rfl rfl (by decide +kernel)
theorem zmp_151 : zMP (yX11_wager, (cX11_wager, (6, ((some .int), [])))) := zMk_ok (p := (1, 1)) (q := (6, 144)) (k := 4) rfl rfl (by decide +kernel)
theorem zmp_152 : zMP (yX11_spin, (cX11_spin, (2, ((some .int), [])))) := zMk_ok (p := (1, 1)) (q := (6, 161)) (k := 1) rfl rfl (by decide +kernel)
theorem zmp_153 : zMP (yX11_stops, (cX11_stops, (3, ((some .int), [])))) := zMk_ok (p := (1, 1)) (q := (6, 180)) (k := 2) rfl rfl (by decide +kernel)
theorem zmp_154 : zMP (yX11_pays, (cX11_pays, (3, ((some .int), [])))) := zMk_ok (p := (1, 1)) (q := (6, 204)) (k := 2) rfl rfl (by decide +kernel)
theorem zmp_155 : zMP (yX11_bound, (cX11_bound, (3, ((some .int), [])))) := zMk_ok (p := (1, 1)) (q := (6, 215)) (k := 1) rfl rfl (by decide +kernel)
theorem zmp_156 : zMP (yX11_pull, (cX11_pull, (4, ((some .int), [])))) := zMk_ok (p := (1, 1)) (q := (6, 222)) (k := 2) rfl rfl (by decide +kernel)
theorem zmp_157 : zMP (yX11_stop, (cX11_stop, (2, ((some .int), [])))) := zMk_ok (p := (1, 1)) (q := (6, 234)) (k := 1) rfl rfl (by decide +kernel)
theorem zmp_158 : zMP (yX11_tilt, (cX11_tilt, (1, ((some .int), [])))) := zMk_ok (p := (1, 1)) (q := (7, 16)) (k := 0) rfl rfl (by decide +kernel)
theorem zmp_159 : zMP (yX11_recover, (cX11_recover, (2, ((some .int), [])))) := zMk_ok (p := (1, 1)) (q := (7, 23)) (k := 0) rfl rfl (by decide +kernel)
theorem zmp_160 : zMP (yX11_pot, (cX11_pot, (1, ((some .int), [])))) := zMk_ok (p := (1, 1)) (q := (2, 209)) (k := 0) rfl rfl (by decide +kernel)
theorem zmp_161 : zMP (yX11_returnOver, (cX11_returnOver, (1, ((some .long), [])))) := zMk_ok (p := (1, 1)) (q := (2, 213)) (k := 0) rfl rfl (by decide +kernel)
theorem zmp_162 : zMP (yX11_returnUnder, (cX11_returnUnder, (1, ((some .long), [])))) := zMk_ok (p := (1, 1)) (q := (3, 0)) (k := 0) rfl rfl (by decide +kernel)
theorem zmp_163 : zMP (yX11_ticket, (cX11_ticket, (4, ((some .int), [])))) := zMk_ok (p := (1, 1)) (q := (7, 31)) (k := 2) rfl rfl (by decide +kernel)
theorem zmp_164 : zMP (yX11_draw, (cX11_draw, (2, ((some .int), [])))) := zMk_ok (p := (1, 1)) (q := (7, 64)) (k := 1) rfl rfl (by decide +kernel)
theorem zmp_165 : zMP (yX11_confirm, (cX11_confirm, (1, ((some .int), [])))) := zMk_ok (p := (1, 1)) (q := (7, 79)) (k := 0) rfl rfl (by decide +kernel)
theorem zmp_166 : zMP (yX11_claim, (cX11_claim, (4, ((some .int), [])))) := zMk_ok (p := (1, 1)) (q := (7, 100)) (k := 1) rfl rfl (by decide +kernel)
theorem zmp_167 : zMP (yX11_pool, (cX11_pool, (1, ((some .int), [])))) := zMk_ok (p := (1, 1)) (q := (3, 7)) (k := 0) rfl rfl (by decide +kernel)
theorem zmp_168 : zMP (yX11_day, (cX11_day, (1, ((some .int), [])))) := zMk_ok (p := (1, 1)) (q := (3, 11)) (k := 0) rfl rfl (by decide +kernel)
theorem zmp_169 : zMP (yX11_money, (cX11_money, (2, ((some .int), [])))) := zMk_ok (p := (1, 1)) (q := (7, 109)) (k := 1) rfl rfl (by decide +kernel)
theorem zmp_170 : zMP (yX11_chips, (cX11_chips, (2, ((some .int), [])))) := zMk_ok (p := (1, 1)) (q := (7, 116)) (k := 1) rfl rfl (by decide +kernel)
theorem zmp_171 : zMP (yX11_isBarred, (cX11_isBarred, (2, ((some .boolean), [])))) := zMk_ok (p := (1, 1)) (q := (7, 123)) (k := 1) rfl rfl (by decide +kernel)
theorem zmp_172 : zMP (yX11_staked, (cX11_staked, (2, ((some .int), [])))) := zMk_ok (p := (1, 1)) (q := (7, 130)) (k := 1) rfl rfl (by decide +kernel)
theorem zmp_173 : zMP (yX11_reports, (cX11_reports, (2, ((some .int), [])))) := zMk_ok (p := (1, 1)) (q := (7, 137)) (k := 1) rfl rfl (by decide +kernel)
theorem zmp_174 : zMP (yX11_tray, (cX11_tray, (2, ((some .int), [])))) := zMk_ok (p := (1, 1)) (q := (7, 144)) (k := 1) rfl rfl (by decide +kernel)
theorem zmp_175 : zMP (yX11_vault, (cX11_vault, (1, ((some .int), [])))) := zMk_ok (p := (1, 1)) (q := (3, 15)) (k := 0) rfl rfl (by decide +kernel)
theorem zmp_176 : zMP (yX11_ruinOver, (cX11_ruinOver, (3, ((some .long), [])))) := zMk_ok (p := (1, 1)) (q := (7, 151)) (k := 2) rfl rfl (by decide +kernel)
theorem zmp_177 : zMP (yX11_ruinUnder, (cX11_ruinUnder, (3, ((some .long), [])))) := zMk_ok (p := (1, 1)) (q := (7, 167)) (k := 2) rfl rfl (by decide +kernel)
theorem zmp_178 : zMP (yX11_checksum, (cX11_checksum, (7, ((some .long), [])))) := zMk_ok (p := (1, 1)) (q := (3, 19)) (k := 0) rfl rfl (by decide +kernel)
theorem zmp_179 : zMP (yX11_vaultBits, (cX11_vaultBits, (1, ((some .int), [])))) := zMk_ok (p := (1, 1)) (q := (3, 25)) (k := 0) rfl rfl (by decide +kernel)
theorem zmp_180 : zMP (yX11_barredShare, (cX11_barredShare, (3, ((some .float), [])))) := zMk_ok (p := (1, 1)) (q := (7, 174)) (k := 0) rfl rfl (by decide +kernel)
theorem zmp_181 : zMP (yX11_meanChips, (cX11_meanChips, (1, ((some .double), [])))) := zMk_ok (p := (1, 1)) (q := (7, 186)) (k := 0) rfl rfl (by decide +kernel)
theorem zmp_182 : zMP (yX11_isSound, (cX11_isSound, (1, ((some .boolean), [])))) := zMk_ok (p := (1, 1)) (q := (3, 34)) (k := 0) rfl rfl (by decide +kernel)
theorem zmp_183 : zMP (yX11_guestAt, (cX11_guestAt, (2, ((some (.object "ShoeHouse$Guest")), [])))) := zMk_ok (p := (1, 1)) (q := (4, 11)) (k := 1) rfl rfl (by decide +kernel)
theorem zmp_184 : zMP (yX11_trayAt, (cX11_trayAt, (2, ((some (.object "ShoeHouse$Tray")), [])))) := zMk_ok (p := (1, 1)) (q := (5, 2)) (k := 1) rfl rfl (by decide +kernel)
theorem zmp_185 : zMP (yX11_seatAt, (cX11_seatAt, (2, ((some (.object "ShoeHouse$Seat")), [])))) := zMk_ok (p := (1, 1)) (q := (5, 104)) (k := 1) rfl rfl (by decide +kernel)
theorem zmp_186 : zMP (yX11_handInTurn, (cX11_handInTurn, (4, ((some (.object "ShoeHouse$Hand")), [])))) := zMk_ok (p := (1, 1)) (q := (5, 183)) (k := 1) rfl rfl (by decide +kernel)
theorem zmp_187 : zMP (yX11_playerAt, (cX11_playerAt, (4, ((some (.object "ShoeHouse$Guest")), [])))) := zMk_ok (p := (1, 1)) (q := (5, 219)) (k := 2) rfl rfl (by decide +kernel)
theorem zmp_188 : zMP (yX11_needStake, (cX11_needStake, (3, (none, [])))) := zMk_ok (p := (1, 1)) (q := (5, 114)) (k := 2) rfl rfl (by decide +kernel)
theorem zmp_189 : zMP (yX11_needCards, (cX11_needCards, (2, (none, [])))) := zMk_ok (p := (1, 1)) (q := (5, 195)) (k := 1) rfl rfl (by decide +kernel)
theorem zmp_190 : zMP (yX11_needUnseen, (cX11_needUnseen, (1, (none, [])))) := zMk_ok (p := (1, 1)) (q := (6, 88)) (k := 0) rfl rfl (by decide +kernel)
theorem zmp_191 : zMP (yX11_needRound, (cX11_needRound, (1, (none, [])))) := zMk_ok (p := (1, 1)) (q := (5, 187)) (k := 0) rfl rfl (by decide +kernel)
theorem zmp_192 : zMP (yX11_needNoRound, (cX11_needNoRound, (1, (none, [])))) := zMk_ok (p := (1, 1)) (q := (5, 36)) (k := 0) rfl rfl (by decide +kernel)
theorem zmp_193 : zMP (yX11_needSpin, (cX11_needSpin, (1, (none, [])))) := zMk_ok (p := (1, 1)) (q := (7, 2)) (k := 0) rfl rfl (by decide +kernel)
theorem zmp_194 : zMP (yX11_needNoSpin, (cX11_needNoSpin, (1, (none, [])))) := zMk_ok (p := (1, 1)) (q := (6, 192)) (k := 0) rfl rfl (by decide +kernel)
theorem zmp_195 : zMP (yX11_needGuests, (cX11_needGuests, (1, (none, [])))) := zMk_ok (p := (1, 1)) (q := (7, 178)) (k := 0) rfl rfl (by decide +kernel)
theorem zmp_196 : zMP (yX11_needThreeNumbers, (cX11_needThreeNumbers, (1, (none, [])))) := zMk_ok (p := (1, 1)) (q := (7, 34)) (k := 1) rfl rfl (by decide +kernel)
theorem zmp_197 : zMP (yX11_needRuin, (cX11_needRuin, (2, (none, [])))) := zMk_ok (p := (1, 1)) (q := (7, 154)) (k := 2) rfl rfl (by decide +kernel)
theorem zmp_198 : zMP (yX11_needRange, (cX11_needRange, (3, (none, [])))) := zMk_ok (p := (1, 1)) (q := (3, 127)) (k := 3) rfl rfl (by decide +kernel)
theorem zmp_199 : zMP (yX11_chipsOfGuests, (cX11_chipsOfGuests, (3, ((some .int), [])))) := zMk_ok (p := (1, 1)) (q := (3, 42)) (k := 0) rfl rfl (by decide +kernel)
theorem zmp_200 : zMP (yX11_areAllChipsHere, (cX11_areAllChipsHere, (6, ((some .boolean), [])))) := zMk_ok (p := (1, 1)) (q := (3, 38)) (k := 0) rfl rfl (by decide +kernel)
theorem zmp_201 : zMP (yX11_stakesOf, (cX11_stakesOf, (2, ((some .int), [])))) := zMk_ok (p := (1, 1)) (q := (3, 50)) (k := 1) rfl rfl (by decide +kernel)
theorem zmp_202 : zMP (yX11_isNothingOfBarred, (cX11_isNothingOfBarred, (5, ((some .boolean), [])))) := zMk_ok (p := (1, 1)) (q := (3, 90)) (k := 0) rfl rfl (by decide +kernel)
theorem zmp_203 : zMP (yX11_areChancesSound, (cX11_areChancesSound, (4, ((some .boolean), [])))) := zMk_ok (p := (1, 1)) (q := (3, 98)) (k := 0) rfl rfl (by decide +kernel)
theorem zmp_204 : zMP (yX11_lowestOver, (cX11_lowestOver, (6, ((some .long), [])))) := zMk_ok (p := (1, 1)) (q := (2, 233)) (k := 2) rfl rfl (by decide +kernel)
theorem zmp_205 : zMP (yX11_lowestUnder, (cX11_lowestUnder, (6, ((some .long), [])))) := zMk_ok (p := (1, 1)) (q := (3, 3)) (k := 2) rfl rfl (by decide +kernel)
theorem zmp_206 : zMP (yX11_sharedDivisor, (cX11_sharedDivisor, (11, ((some .long), [])))) := zMk_ok (p := (1, 1)) (q := (2, 236)) (k := 2) rfl rfl (by decide +kernel)
theorem zmp_207 : zMP (yX11_power, (cX11_power, (5, ((some .long), [])))) := zMk_ok (p := (1, 1)) (q := (7, 160)) (k := 2) rfl rfl (by decide +kernel)
theorem zmp_208 : zMP (yX11_ruinPart, (cX11_ruinPart, (2, ((some .long), [])))) := zMk_ok (p := (1, 1)) (q := (7, 157)) (k := 2) rfl rfl (by decide +kernel)
theorem zmp_209 : zMP (yX11_bitsOf, (cX11_bitsOf, (5, ((some .int), [])))) := zMk_ok (p := (1, 1)) (q := (3, 29)) (k := 1) rfl rfl (by decide +kernel)
theorem zmp_210 : zMP (yX12_init, (cX12_init, (6, (none, [])))) := zMk_ok (p := (1, 14)) (q := (7, 191)) (k := 0) rfl rfl (by decide +kernel)
theorem zmp_211 : zMP (yX12_thrown, (cX12_thrown, (1, ((some .int), [])))) := zMk_ok (p := (1, 14)) (q := (8, 113)) (k := 0) rfl rfl (by decide +kernel)
theorem zmp_212 : zMP (yX12_isThrown, (cX12_isThrown, (3, ((some .boolean), [])))) := zMk_ok (p := (1, 14)) (q := (8, 125)) (k := 2) rfl rfl (by decide +kernel)
theorem zmp_213 : zMP (yX12_isIn, (cX12_isIn, (3, ((some .boolean), [])))) := zMk_ok (p := (1, 14)) (q := (8, 121)) (k := 3) rfl rfl (by decide +kernel)
theorem zmp_214 : zMP (yX12_isNobody, (cX12_isNobody, (2, ((some .boolean), [])))) := zMk_ok (p := (1, 14)) (q := (8, 133)) (k := 1) rfl rfl (by decide +kernel)
theorem zmp_215 : zMP (yX12_guest, (cX12_guest, (2, ((some .int), [])))) := zMk_ok (p := (1, 14)) (q := (8, 117)) (k := 1) rfl rfl (by decide +kernel)
theorem zmp_216 : zMP (yX12_buyIn, (cX12_buyIn, (3, ((some .int), [])))) := zMk_ok (p := (1, 14)) (q := (8, 129)) (k := 2) rfl rfl (by decide +kernel)
theorem zmp_217 : zMP (yX12_cashOut, (cX12_cashOut, (3, ((some .int), [])))) := zMk_ok (p := (1, 14)) (q := (8, 137)) (k := 2) rfl rfl (by decide +kernel)
theorem zmp_218 : zMP (yX12_limit, (cX12_limit, (3, ((some .int), [])))) := zMk_ok (p := (1, 14)) (q := (8, 141)) (k := 2) rfl rfl (by decide +kernel)
theorem zmp_219 : zMP (yX12_isBarredNow, (cX12_isBarredNow, (2, ((some .boolean), [])))) := zMk_ok (p := (1, 14)) (q := (9, 27)) (k := 1) rfl rfl (by decide +kernel)
theorem zmp_220 : zMP (yX12_mayStake, (cX12_mayStake, (3, ((some .boolean), [])))) := zMk_ok (p := (1, 14)) (q := (9, 23)) (k := 2) rfl rfl (by decide +kernel)
theorem zmp_221 : zMP (yX12_stakes, (cX12_stakes, (3, (none, [])))) := zMk_ok (p := (1, 14)) (q := (9, 31)) (k := 2) rfl rfl (by decide +kernel)
theorem zmp_222 : zMP (yX12_pay, (cX12_pay, (5, (none, [])))) := zMk_ok (p := (1, 14)) (q := (8, 195)) (k := 3) rfl rfl (by decide +kernel)
theorem zmp_223 : zMP (yX12_bar, (cX12_bar, (6, ((some .int), [])))) := zMk_ok (p := (1, 14)) (q := (8, 146)) (k := 2) rfl rfl (by decide +kernel)
theorem zmp_224 : zMP (yX12_pass, (cX12_pass, (4, ((some .int), [])))) := zMk_ok (p := (1, 14)) (q := (8, 206)) (k := 1) rfl rfl (by decide +kernel)
theorem zmp_225 : zMP (yX12_isNoTable, (cX12_isNoTable, (1, ((some .boolean), [])))) := zMk_ok (p := (1, 14)) (q := (8, 213)) (k := 1) rfl rfl (by decide +kernel)
theorem zmp_226 : zMP (yX12_fill, (cX12_fill, (3, ((some .int), [])))) := zMk_ok (p := (1, 14)) (q := (8, 210)) (k := 2) rfl rfl (by decide +kernel)
theorem zmp_227 : zMP (yX12_credit, (cX12_credit, (3, ((some .int), [])))) := zMk_ok (p := (1, 14)) (q := (8, 217)) (k := 2) rfl rfl (by decide +kernel)
theorem zmp_228 : zMP (yX12_winOf, (cX12_winOf, (2, ((some .int), [])))) := zMk_ok (p := (1, 14)) (q := (8, 225)) (k := 1) rfl rfl (by decide +kernel)
theorem zmp_229 : zMP (yX12_shift, (cX12_shift, (3, ((some .int), [])))) := zMk_ok (p := (1, 14)) (q := (8, 221)) (k := 0) rfl rfl (by decide +kernel)
theorem zmp_230 : zMP (yX12_win, (cX12_win, (2, ((some .int), [])))) := zMk_ok (p := (1, 14)) (q := (8, 229)) (k := 1) rfl rfl (by decide +kernel)
theorem zmp_231 : zMP (yX12_ruleOf, (cX12_ruleOf, (1, ((some .int), [])))) := zMk_ok (p := (1, 14)) (q := (8, 236)) (k := 1) rfl rfl (by decide +kernel)
theorem zmp_232 : zMP (yX12_rule, (cX12_rule, (4, ((some .boolean), [])))) := zMk_ok (p := (1, 14)) (q := (8, 233)) (k := 2) rfl rfl (by decide +kernel)
theorem zmp_233 : zMP (yX12_each, (cX12_each, (1, ((some .int), [])))) := zMk_ok (p := (1, 14)) (q := (9, 3)) (k := 1) rfl rfl (by decide +kernel)
theorem zmp_234 : zMP (yX12_lay, (cX12_lay, (4, ((some .int), [])))) := zMk_ok (p := (1, 14)) (q := (9, 0)) (k := 1) rfl rfl (by decide +kernel)
theorem zmp_235 : zMP (yX12_cut, (cX12_cut, (3, ((some .int), [])))) := zMk_ok (p := (1, 14)) (q := (9, 7)) (k := 1) rfl rfl (by decide +kernel)
theorem zmp_236 : zMP (yX12_riffle, (cX12_riffle, (5, ((some .int), [])))) := zMk_ok (p := (1, 14)) (q := (9, 11)) (k := 1) rfl rfl (by decide +kernel)
theorem zmp_237 : zMP (yX12_next, (cX12_next, (2, ((some .int), [])))) := zMk_ok (p := (1, 14)) (q := (8, 179)) (k := 0) rfl rfl (by decide +kernel)
theorem zmp_238 : zMP (yX12_valueOf, (cX12_valueOf, (5, ((some .int), [])))) := zMk_ok (p := (1, 14)) (q := (8, 168)) (k := 2) rfl rfl (by decide +kernel)
theorem zmp_239 : zMP (yX12_isSoft, (cX12_isSoft, (4, ((some .boolean), [])))) := zMk_ok (p := (1, 14)) (q := (8, 171)) (k := 2) rfl rfl (by decide +kernel)
theorem zmp_240 : zMP (yX12_valueAt, (cX12_valueAt, (3, ((some .int), [])))) := zMk_ok (p := (1, 14)) (q := (8, 165)) (k := 2) rfl rfl (by decide +kernel)
theorem zmp_241 : zMP (yX12_isNaturalAt, (cX12_isNaturalAt, (2, ((some .boolean), [])))) := zMk_ok (p := (1, 14)) (q := (8, 161)) (k := 1) rfl rfl (by decide +kernel)
theorem zmp_242 : zMP (yX12_hasStake, (cX12_hasStake, (2, ((some .boolean), [])))) := zMk_ok (p := (1, 14)) (q := (9, 19)) (k := 1) rfl rfl (by decide +kernel)
theorem zmp_243 : zMP (yX12_bet, (cX12_bet, (6, ((some .int), [])))) := zMk_ok (p := (1, 14)) (q := (9, 15)) (k := 3) rfl rfl (by decide +kernel)
theorem zmp_244 : zMP (yX12_take, (cX12_take, (3, (none, [])))) := zMk_ok (p := (1, 14)) (q := (9, 51)) (k := 2) rfl rfl (by decide +kernel)
theorem zmp_245 : zMP (yX12_deal, (cX12_deal, (4, ((some .int), [])))) := zMk_ok (p := (1, 14)) (q := (9, 47)) (k := 0) rfl rfl (by decide +kernel)
theorem zmp_246 : zMP (yX12_turnNow, (cX12_turnNow, (3, ((some .int), [])))) := zMk_ok (p := (1, 14)) (q := (8, 153)) (k := 0) rfl rfl (by decide +kernel)
theorem zmp_247 : zMP (yX12_lose, (cX12_lose, (3, (none, [])))) := zMk_ok (p := (1, 14)) (q := (8, 202)) (k := 2) rfl rfl (by decide +kernel)
theorem zmp_248 : zMP (yX12_win_, (cX12_win_, (5, (none, [])))) := zMk_ok (p := (1, 14)) (q := (8, 191)) (k := 3) rfl rfl (by decide +kernel)
theorem zmp_249 : zMP (yX12_finish, (cX12_finish, (4, (none, [])))) := zMk_ok (p := (1, 14)) (q := (8, 157)) (k := 0) rfl rfl (by decide +kernel)
theorem zmp_250 : zMP (yX12_isEnd, (cX12_isEnd, (3, ((some .boolean), [])))) := zMk_ok (p := (1, 14)) (q := (8, 175)) (k := 2) rfl rfl (by decide +kernel)
theorem zmp_251 : zMP (yX12_settleAll, (cX12_settleAll, (5, (none, [])))) := zMk_ok (p := (1, 14)) (q := (8, 183)) (k := 1) rfl rfl (by decide +kernel)
theorem zmp_252 : zMP (yX12_settle, (cX12_settle, (8, (none, [])))) := zMk_ok (p := (1, 14)) (q := (8, 187)) (k := 4) rfl rfl (by decide +kernel)
theorem zmp_253 : zMP (yX12_isNotTurn, (cX12_isNotTurn, (2, ((some .boolean), [])))) := zMk_ok (p := (1, 14)) (q := (9, 59)) (k := 1) rfl rfl (by decide +kernel)
theorem zmp_254 : zMP (yX12_goesOn, (cX12_goesOn, (1, (none, [])))) := zMk_ok (p := (1, 14)) (q := (9, 67)) (k := 0) rfl rfl (by decide +kernel)
theorem zmp_255 : zMP (yX12_looks, (cX12_looks, (4, (none, [])))) := zMk_ok (p := (1, 14)) (q := (9, 63)) (k := 2) rfl rfl (by decide +kernel)
theorem zmp_256 : zMP (yX12_hit, (cX12_hit, (4, ((some .int), [])))) := zMk_ok (p := (1, 14)) (q := (9, 55)) (k := 1) rfl rfl (by decide +kernel)
theorem zmp_257 : zMP (yX12_stand, (cX12_stand, (3, ((some .int), [])))) := zMk_ok (p := (1, 14)) (q := (9, 71)) (k := 1) rfl rfl (by decide +kernel)
theorem zmp_258 : zMP (yX12_twice, (cX12_twice, (6, ((some .int), [])))) := zMk_ok (p := (1, 14)) (q := (9, 75)) (k := 1) rfl rfl (by decide +kernel)
theorem zmp_259 : zMP (yX12_split, (cX12_split, (5, ((some .int), [])))) := zMk_ok (p := (1, 14)) (q := (9, 79)) (k := 1) rfl rfl (by decide +kernel)
theorem zmp_260 : zMP (yX12_surrender, (cX12_surrender, (3, ((some .int), [])))) := zMk_ok (p := (1, 14)) (q := (9, 83)) (k := 1) rfl rfl (by decide +kernel)
theorem zmp_261 : zMP (yX12_cardAt, (cX12_cardAt, (4, ((some .int), [])))) := zMk_ok (p := (1, 14)) (q := (9, 87)) (k := 3) rfl rfl (by decide +kernel)
theorem zmp_262 : zMP (yX12_dealerAt, (cX12_dealerAt, (2, ((some .int), [])))) := zMk_ok (p := (1, 14)) (q := (9, 91)) (k := 1) rfl rfl (by decide +kernel)
theorem zmp_263 : zMP (yX12_turn, (cX12_turn, (1, ((some .int), [])))) := zMk_ok (p := (1, 14)) (q := (9, 95)) (k := 0) rfl rfl (by decide +kernel)
theorem zmp_264 : zMP (yX12_leftOf, (cX12_leftOf, (4, ((some .int), [])))) := zMk_ok (p := (1, 14)) (q := (9, 43)) (k := 1) rfl rfl (by decide +kernel)
theorem zmp_265 : zMP (yX12_unseen, (cX12_unseen, (1, ((some .int), [])))) := zMk_ok (p := (1, 14)) (q := (9, 35)) (k := 0) rfl rfl (by decide +kernel)
theorem zmp_266 : zMP (yX12_left, (cX12_left, (2, ((some .int), [])))) := zMk_ok (p := (1, 14)) (q := (9, 99)) (k := 1) rfl rfl (by decide +kernel)
theorem zmp_267 : zMP (yX12_common, (cX12_common, (10, ((some .long), [])))) := zMk_ok (p := (1, 14)) (q := (9, 114)) (k := 2) rfl rfl (by decide +kernel)
theorem zmp_268 : zMP (yX12_busting, (cX12_busting, (4, ((some .int), [])))) := zMk_ok (p := (1, 14)) (q := (9, 111)) (k := 1) rfl rfl (by decide +kernel)
theorem zmp_269 : zMP (yX12_bust, (cX12_bust, (4, ((some .long), [])))) := zMk_ok (p := (1, 14)) (q := (9, 107)) (k := 2) rfl rfl (by decide +kernel)
theorem zmp_270 : zMP (yX12_bustOver, (cX12_bustOver, (2, ((some .long), [])))) := zMk_ok (p := (1, 14)) (q := (9, 103)) (k := 1) rfl rfl (by decide +kernel)
theorem zmp_271 : zMP (yX12_bustUnder, (cX12_bustUnder, (2, ((some .long), [])))) := zMk_ok (p := (1, 14)) (q := (9, 118)) (k := 1) rfl rfl (by decide +kernel)
theorem zmp_272 : zMP (yX12_ends, (cX12_ends, (12, ((some .double), [])))) := zMk_ok (p := (1, 14)) (q := (9, 126)) (k := 4) rfl rfl (by decide +kernel)
theorem zmp_273 : zMP (yX12_dealerEnds, (cX12_dealerEnds, (3, ((some .double), [])))) := zMk_ok (p := (1, 14)) (q := (9, 122)) (k := 1) rfl rfl (by decide +kernel)
theorem zmp_274 : zMP (yX12_weigh, (cX12_weigh, (4, ((some .int), [])))) := zMk_ok (p := (1, 14)) (q := (9, 130)) (k := 2) rfl rfl (by decide +kernel)
theorem zmp_275 : zMP (yX12_counted, (cX12_counted, (3, ((some .int), [])))) := zMk_ok (p := (1, 14)) (q := (9, 39)) (k := 0) rfl rfl (by decide +kernel)
theorem zmp_276 : zMP (yX12_count, (cX12_count, (1, ((some .int), [])))) := zMk_ok (p := (1, 14)) (q := (9, 134)) (k := 0) rfl rfl (by decide +kernel)
theorem zmp_277 : zMP (yX12_trueCount, (cX12_trueCount, (1, ((some .int), [])))) := zMk_ok (p := (1, 14)) (q := (9, 138)) (k := 0) rfl rfl (by decide +kernel)
theorem zmp_278 : zMP (yX12_isSuspected, (cX12_isSuspected, (4, ((some .boolean), [])))) := zMk_ok (p := (1, 14)) (q := (9, 142)) (k := 1) rfl rfl (by decide +kernel)
theorem zmp_279 : zMP (yX12_broken, (cX12_broken, (1, ((some .int), [])))) := zMk_ok (p := (1, 14)) (q := (9, 147)) (k := 0) rfl rfl (by decide +kernel)
theorem zmp_280 : zMP (yX12_wager, (cX12_wager, (7, ((some .int), [])))) := zMk_ok (p := (1, 14)) (q := (9, 151)) (k := 4) rfl rfl (by decide +kernel)
theorem zmp_281 : zMP (yX12_isRed, (cX12_isRed, (3, ((some .boolean), [])))) := zMk_ok (p := (1, 14)) (q := (9, 161)) (k := 1) rfl rfl (by decide +kernel)
theorem zmp_282 : zMP (yX12_times, (cX12_times, (3, ((some .int), [])))) := zMk_ok (p := (1, 14)) (q := (9, 158)) (k := 3) rfl rfl (by decide +kernel)
theorem zmp_283 : zMP (yX12_spin, (cX12_spin, (6, ((some .int), [])))) := zMk_ok (p := (1, 14)) (q := (9, 155)) (k := 1) rfl rfl (by decide +kernel)
theorem zmp_284 : zMP (yX12_isSpinning, (cX12_isSpinning, (1, ((some .boolean), [])))) := zMk_ok (p := (1, 14)) (q := (9, 176)) (k := 0) rfl rfl (by decide +kernel)
theorem zmp_285 : zMP (yX12_digit, (cX12_digit, (4, ((some .int), [])))) := zMk_ok (p := (1, 14)) (q := (9, 171)) (k := 2) rfl rfl (by decide +kernel)
theorem zmp_286 : zMP (yX12_areDigits, (cX12_areDigits, (5, ((some .boolean), [])))) := zMk_ok (p := (1, 14)) (q := (9, 168)) (k := 3) rfl rfl (by decide +kernel)
theorem zmp_287 : zMP (yX12_stops, (cX12_stops, (6, ((some .int), [])))) := zMk_ok (p := (1, 14)) (q := (9, 165)) (k := 2) rfl rfl (by decide +kernel)
theorem zmp_288 : zMP (yX12_pays, (cX12_pays, (4, ((some .int), [])))) := zMk_ok (p := (1, 14)) (q := (9, 180)) (k := 2) rfl rfl (by decide +kernel)
theorem zmp_289 : zMP (yX12_bound, (cX12_bound, (3, ((some .int), [])))) := zMk_ok (p := (1, 14)) (q := (9, 184)) (k := 1) rfl rfl (by decide +kernel)
theorem zmp_290 : zMP (yX12_pull, (cX12_pull, (3, ((some .int), [])))) := zMk_ok (p := (1, 14)) (q := (9, 188)) (k := 2) rfl rfl (by decide +kernel)
theorem zmp_291 : zMP (yX12_stop, (cX12_stop, (5, ((some .int), [])))) := zMk_ok (p := (1, 14)) (q := (9, 192)) (k := 1) rfl rfl (by decide +kernel)
theorem zmp_292 : zMP (yX12_tilt, (cX12_tilt, (1, ((some .int), [])))) := zMk_ok (p := (1, 14)) (q := (9, 196)) (k := 0) rfl rfl (by decide +kernel)
theorem zmp_293 : zMP (yX12_recover, (cX12_recover, (2, ((some .int), [])))) := zMk_ok (p := (1, 14)) (q := (9, 200)) (k := 0) rfl rfl (by decide +kernel)
theorem zmp_294 : zMP (yX12_pot, (cX12_pot, (1, ((some .int), [])))) := zMk_ok (p := (1, 14)) (q := (9, 204)) (k := 0) rfl rfl (by decide +kernel)
theorem zmp_295 : zMP (yX12_returned, (cX12_returned, (16, ((some .long), [])))) := zMk_ok (p := (1, 14)) (q := (9, 212)) (k := 1) rfl rfl (by decide +kernel)
theorem zmp_296 : zMP (yX12_returnOver, (cX12_returnOver, (1, ((some .long), [])))) := zMk_ok (p := (1, 14)) (q := (9, 208)) (k := 0) rfl rfl (by decide +kernel)
theorem zmp_297 : zMP (yX12_returnUnder, (cX12_returnUnder, (1, ((some .long), [])))) := zMk_ok (p := (1, 14)) (q := (9, 217)) (k := 0) rfl rfl (by decide +kernel)
theorem zmp_298 : zMP (yX12_setOf, (cX12_setOf, (2, ((some .int), [])))) := zMk_ok (p := (1, 14)) (q := (9, 224)) (k := 1) rfl rfl (by decide +kernel)
theorem zmp_299 : zMP (yX12_ticket, (cX12_ticket, (3, ((some .int), [])))) := zMk_ok (p := (1, 14)) (q := (9, 221)) (k := 2) rfl rfl (by decide +kernel)
theorem zmp_300 : zMP (yX12_right, (cX12_right, (4, ((some .int), [])))) := zMk_ok (p := (1, 14)) (q := (9, 233)) (k := 1) rfl rfl (by decide +kernel)
theorem zmp_301 : zMP (yX12_draw, (cX12_draw, (2, ((some .int), [])))) := zMk_ok (p := (1, 14)) (q := (9, 229)) (k := 1) rfl rfl (by decide +kernel)
theorem zmp_302 : zMP (yX12_confirm, (cX12_confirm, (7, ((some .int), [])))) := zMk_ok (p := (1, 14)) (q := (9, 237)) (k := 0) rfl rfl (by decide +kernel)
theorem zmp_303 : zMP (yX12_claim, (cX12_claim, (4, ((some .int), [])))) := zMk_ok (p := (1, 14)) (q := (10, 1)) (k := 1) rfl rfl (by decide +kernel)
theorem zmp_304 : zMP (yX12_pool, (cX12_pool, (1, ((some .int), [])))) := zMk_ok (p := (1, 14)) (q := (10, 5)) (k := 0) rfl rfl (by decide +kernel)
theorem zmp_305 : zMP (yX12_day, (cX12_day, (1, ((some .int), [])))) := zMk_ok (p := (1, 14)) (q := (10, 9)) (k := 0) rfl rfl (by decide +kernel)
theorem zmp_306 : zMP (yX12_money, (cX12_money, (2, ((some .int), [])))) := zMk_ok (p := (1, 14)) (q := (10, 13)) (k := 1) rfl rfl (by decide +kernel)
theorem zmp_307 : zMP (yX12_chips, (cX12_chips, (2, ((some .int), [])))) := zMk_ok (p := (1, 14)) (q := (10, 17)) (k := 1) rfl rfl (by decide +kernel)
theorem zmp_308 : zMP (yX12_isBarred, (cX12_isBarred, (2, ((some .boolean), [])))) := zMk_ok (p := (1, 14)) (q := (10, 21)) (k := 1) rfl rfl (by decide +kernel)
theorem zmp_309 : zMP (yX12_staked, (cX12_staked, (2, ((some .int), [])))) := zMk_ok (p := (1, 14)) (q := (10, 25)) (k := 1) rfl rfl (by decide +kernel)
theorem zmp_310 : zMP (yX12_reports, (cX12_reports, (2, ((some .int), [])))) := zMk_ok (p := (1, 14)) (q := (10, 29)) (k := 1) rfl rfl (by decide +kernel)
theorem zmp_311 : zMP (yX12_tray, (cX12_tray, (2, ((some .int), [])))) := zMk_ok (p := (1, 14)) (q := (10, 33)) (k := 1) rfl rfl (by decide +kernel)
theorem zmp_312 : zMP (yX12_vault, (cX12_vault, (1, ((some .int), [])))) := zMk_ok (p := (1, 14)) (q := (10, 37)) (k := 0) rfl rfl (by decide +kernel)
theorem zmp_313 : zMP (yX12_power, (cX12_power, (6, ((some .long), [])))) := zMk_ok (p := (1, 14)) (q := (10, 49)) (k := 2) rfl rfl (by decide +kernel)
theorem zmp_314 : zMP (yX12_ruin, (cX12_ruin, (8, ((some .long), [])))) := zMk_ok (p := (1, 14)) (q := (10, 45)) (k := 3) rfl rfl (by decide +kernel)
theorem zmp_315 : zMP (yX12_ruinOver, (cX12_ruinOver, (3, ((some .long), [])))) := zMk_ok (p := (1, 14)) (q := (10, 41)) (k := 2) rfl rfl (by decide +kernel)
theorem zmp_316 : zMP (yX12_ruinUnder, (cX12_ruinUnder, (3, ((some .long), [])))) := zMk_ok (p := (1, 14)) (q := (10, 54)) (k := 2) rfl rfl (by decide +kernel)
theorem zmp_317 : zMP (yX12_checksum, (cX12_checksum, (7, ((some .long), [])))) := zMk_ok (p := (1, 14)) (q := (10, 58)) (k := 0) rfl rfl (by decide +kernel)
theorem zmp_318 : zMP (yX12_vaultBits, (cX12_vaultBits, (1, ((some .int), [])))) := zMk_ok (p := (1, 14)) (q := (10, 64)) (k := 0) rfl rfl (by decide +kernel)
theorem zmp_319 : zMP (yX12_barredShare, (cX12_barredShare, (3, ((some .float), [])))) := zMk_ok (p := (1, 14)) (q := (10, 79)) (k := 0) rfl rfl (by decide +kernel)
theorem zmp_320 : zMP (yX12_meanChips, (cX12_meanChips, (3, ((some .double), [])))) := zMk_ok (p := (1, 14)) (q := (10, 83)) (k := 0) rfl rfl (by decide +kernel)
theorem zmp_321 : zMP (yX12_isSound, (cX12_isSound, (1, ((some .boolean), [])))) := zMk_ok (p := (1, 14)) (q := (10, 87)) (k := 0) rfl rfl (by decide +kernel)
theorem zmp_322 : zMP (yJxf58ca_isNaN_12338, (cJxf58ca_isNaN_12338, (1, ((some .boolean), [])))) := zMk_ok (p := (1, 30)) (q := (10, 71)) (k := 1) rfl rfl (by decide +kernel)
theorem zmp_323 : zMP (yJxf58ca_floatToIntBits_5c35a, (cJxf58ca_floatToIntBits_5c35a, (1, ((some .int), [])))) := zMk_ok (p := (1, 30)) (q := (10, 68)) (k := 1) rfl rfl (by decide +kernel)
theorem zmp_324 : zMP (yJ6_bitCount_0f7a4, (cJ6_bitCount_0f7a4, (1, ((some .int), [])))) := zMk_ok (p := (1, 29)) (q := (7, 40)) (k := 1) rfl rfl (by decide +kernel)
theorem zmp_325 : zMP (yJ9_floorMod_7cf53, (cJ9_floorMod_7cf53, (3, ((some .int), [])))) := zMk_ok (p := (1, 24)) (q := (4, 231)) (k := 2) rfl rfl (by decide +kernel)
theorem zmp_326 : zMP (yJ9_max_7cf53, (cJ9_max_7cf53, (2, ((some .int), [])))) := zMk_ok (p := (1, 24)) (q := (8, 198)) (k := 2) rfl rfl (by decide +kernel)
theorem zmp_327 : zMP (yJ9_min_7cf53, (cJ9_min_7cf53, (2, ((some .int), [])))) := zMk_ok (p := (1, 24)) (q := (3, 113)) (k := 2) rfl rfl (by decide +kernel)
theorem zmp_328 : zMP (yJ7_fill_53178, (cJ7_fill_53178, (4, (none, [])))) := zMk_ok (p := (1, 13)) (q := (2, 114)) (k := 2) rfl rfl (by decide +kernel)
theorem zmp_329 : zMP (yL_guest, (cL_guest, (4, ((some .int), [(0, 9, 12, 13), (0, 9, 15, 15)])))) := zMk_ok (p := (1, 0)) (q := (3, 117)) (k := 3) rfl rfl (by decide +kernel)
theorem zmp_330 : zMP (yL_buyIn, (cL_buyIn, (5, ((some .int), [(0, 10, 13, 21), (0, 10, 17, 13), (0, 10, 21, 23)])))) := zMk_ok (p := (1, 0)) (q := (3, 218)) (k := 4) rfl rfl (by decide +kernel)
theorem zmp_331 : zMP (yL_cashOut, (cL_cashOut, (5, ((some .int), [(0, 10, 13, 21), (0, 10, 17, 13), (0, 10, 21, 23)])))) := zMk_ok (p := (1, 0)) (q := (4, 47)) (k := 4) rfl rfl (by decide +kernel)
theorem zmp_332 : zMP (yL_limit, (cL_limit, (5, ((some .int), [(0, 10, 13, 21), (0, 10, 17, 13)])))) := zMk_ok (p := (1, 0)) (q := (4, 55)) (k := 4) rfl rfl (by decide +kernel)
theorem zmp_333 : zMP (yL_bar, (cL_bar, (5, ((some .int), [(0, 10, 13, 21), (0, 10, 17, 13)])))) := zMk_ok (p := (1, 0)) (q := (4, 66)) (k := 4) rfl rfl (by decide +kernel)
theorem zmp_334 : zMP (yL_pass, (cL_pass, (4, ((some .int), [(0, 9, 12, 13), (0, 9, 15, 15)])))) := zMk_ok (p := (1, 0)) (q := (4, 211)) (k := 3) rfl rfl (by decide +kernel)
theorem zmp_335 : zMP (yL_fill, (cL_fill, (5, ((some .int), [(0, 10, 13, 21), (0, 10, 17, 13), (0, 10, 21, 23)])))) := zMk_ok (p := (1, 0)) (q := (4, 234)) (k := 4) rfl rfl (by decide +kernel)
theorem zmp_336 : zMP (yL_credit, (cL_credit, (5, ((some .int), [(0, 10, 13, 21), (0, 10, 17, 13), (0, 10, 21, 23)])))) := zMk_ok (p := (1, 0)) (q := (5, 8)) (k := 4) rfl rfl (by decide +kernel)
theorem zmp_337 : zMP (yL_win, (cL_win, (4, ((some .int), [(0, 9, 12, 21)])))) := zMk_ok (p := (1, 0)) (q := (5, 20)) (k := 3) rfl rfl (by decide +kernel)
theorem zmp_338 : zMP (yL_rule, (cL_rule, (5, ((some .int), [(0, 17, 20, 13), (0, 17, 24, 15)])))) := zMk_ok (p := (1, 0)) (q := (5, 27)) (k := 4) rfl rfl (by decide +kernel)
theorem zmp_339 : zMP (yL_lay, (cL_lay, (4, ((some .int), [(0, 9, 12, 13), (0, 9, 15, 15)])))) := zMk_ok (p := (1, 0)) (q := (5, 44)) (k := 3) rfl rfl (by decide +kernel)
theorem zmp_340 : zMP (yL_cut, (cL_cut, (4, ((some .int), [(0, 9, 12, 13), (0, 9, 15, 15)])))) := zMk_ok (p := (1, 0)) (q := (5, 67)) (k := 3) rfl rfl (by decide +kernel)
theorem zmp_341 : zMP (yL_riffle, (cL_riffle, (4, ((some .int), [(0, 9, 12, 23), (0, 9, 15, 15)])))) := zMk_ok (p := (1, 0)) (q := (5, 84)) (k := 3) rfl rfl (by decide +kernel)
theorem zmp_342 : zMP (yL_bet, (cL_bet, (6, ((some .int), [(0, 12, 15, 21), (0, 12, 19, 13), (0, 12, 23, 23), (0, 12, 27, 15)])))) := zMk_ok (p := (1, 0)) (q := (5, 96)) (k := 5) rfl rfl (by decide +kernel)
theorem zmp_343 : zMP (yL_deal, (cL_deal, (3, ((some .int), [(0, 8, 11, 23), (0, 8, 14, 15)])))) := zMk_ok (p := (1, 0)) (q := (5, 148)) (k := 2) rfl rfl (by decide +kernel)
theorem zmp_344 : zMP (yL_hit, (cL_hit, (4, ((some .int), [(0, 9, 12, 21), (0, 9, 15, 15), (0, 9, 18, 23)])))) := zMk_ok (p := (1, 0)) (q := (5, 175)) (k := 3) rfl rfl (by decide +kernel)
theorem zmp_345 : zMP (yL_stand, (cL_stand, (4, ((some .int), [(0, 9, 12, 21), (0, 9, 15, 15), (0, 9, 18, 23)])))) := zMk_ok (p := (1, 0)) (q := (5, 203)) (k := 3) rfl rfl (by decide +kernel)
theorem zmp_346 : zMP (yL_twice, (cL_twice, (4, ((some .int), [(0, 9, 12, 21), (0, 9, 15, 15), (0, 9, 18, 23)])))) := zMk_ok (p := (1, 0)) (q := (5, 210)) (k := 3) rfl rfl (by decide +kernel)
theorem zmp_347 : zMP (yL_split, (cL_split, (4, ((some .int), [(0, 9, 12, 21), (0, 9, 15, 15), (0, 9, 18, 23)])))) := zMk_ok (p := (1, 0)) (q := (5, 222)) (k := 3) rfl rfl (by decide +kernel)
theorem zmp_348 : zMP (yL_surrender, (cL_surrender, (4, ((some .int), [(0, 9, 12, 21), (0, 9, 15, 15), (0, 9, 18, 23)])))) := zMk_ok (p := (1, 0)) (q := (6, 1)) (k := 3) rfl rfl (by decide +kernel)
theorem zmp_349 : zMP (yL_cardAt, (cL_cardAt, (6, ((some .int), [(0, 12, 15, 21), (0, 12, 19, 86)])))) := zMk_ok (p := (1, 0)) (q := (6, 13)) (k := 5) rfl rfl (by decide +kernel)
theorem zmp_350 : zMP (yL_dealerAt, (cL_dealerAt, (4, ((some .int), [(0, 9, 12, 86)])))) := zMk_ok (p := (1, 0)) (q := (6, 43)) (k := 3) rfl rfl (by decide +kernel)
theorem zmp_351 : zMP (yL_turn, (cL_turn, (3, ((some .int), [(0, 8, 11, 15)])))) := zMk_ok (p := (1, 0)) (q := (6, 51)) (k := 2) rfl rfl (by decide +kernel)
theorem zmp_352 : zMP (yL_left, (cL_left, (4, ((some .int), [(0, 9, 12, 13)])))) := zMk_ok (p := (1, 0)) (q := (6, 58)) (k := 3) rfl rfl (by decide +kernel)
theorem zmp_353 : zMP (yL_bustOver, (cL_bustOver, (4, ((some .int), [(0, 8, 11, 13), (0, 8, 14, 101)])))) := zMk_ok (p := (1, 0)) (q := (6, 66)) (k := 3) rfl rfl (by decide +kernel)
theorem zmp_354 : zMP (yL_bustUnder, (cL_bustUnder, (4, ((some .int), [(0, 8, 11, 13), (0, 8, 14, 101)])))) := zMk_ok (p := (1, 0)) (q := (6, 96)) (k := 3) rfl rfl (by decide +kernel)
theorem zmp_355 : zMP (yL_dealerEnds, (cL_dealerEnds, (4, ((some .int), [(0, 8, 11, 13), (0, 8, 14, 15)])))) := zMk_ok (p := (1, 0)) (q := (6, 103)) (k := 3) rfl rfl (by decide +kernel)
theorem zmp_356 : zMP (yL_weigh, (cL_weigh, (5, ((some .int), [(0, 10, 13, 13)])))) := zMk_ok (p := (1, 0)) (q := (6, 110)) (k := 4) rfl rfl (by decide +kernel)
theorem zmp_357 : zMP (yL_trueCount, (cL_trueCount, (3, ((some .int), [(0, 8, 11, 101)])))) := zMk_ok (p := (1, 0)) (q := (6, 121)) (k := 2) rfl rfl (by decide +kernel)
theorem zmp_358 : zMP (yL_isSuspected, (cL_isSuspected, (4, ((some .int), [(0, 16, 19, 21)])))) := zMk_ok (p := (1, 0)) (q := (6, 128)) (k := 3) rfl rfl (by decide +kernel)
theorem zmp_359 : zMP (yL_wager, (cL_wager, (7, ((some .int), [(0, 14, 17, 21), (0, 14, 21, 13), (0, 14, 25, 23), (0, 14, 29, 15)])))) := zMk_ok (p := (1, 0)) (q := (6, 140)) (k := 6) rfl rfl (by decide +kernel)
theorem zmp_360 : zMP (yL_spin, (cL_spin, (4, ((some .int), [(0, 9, 12, 13)])))) := zMk_ok (p := (1, 0)) (q := (6, 157)) (k := 3) rfl rfl (by decide +kernel)
theorem zmp_361 : zMP (yL_stops, (cL_stops, (5, ((some .int), [(0, 10, 13, 21), (0, 10, 17, 13), (0, 10, 21, 15)])))) := zMk_ok (p := (1, 0)) (q := (6, 176)) (k := 4) rfl rfl (by decide +kernel)
theorem zmp_362 : zMP (yL_pays, (cL_pays, (5, ((some .int), [(0, 10, 13, 13), (0, 10, 17, 15)])))) := zMk_ok (p := (1, 0)) (q := (6, 200)) (k := 4) rfl rfl (by decide +kernel)
theorem zmp_363 : zMP (yL_bound, (cL_bound, (4, ((some .int), [(0, 9, 12, 13), (0, 9, 15, 15)])))) := zMk_ok (p := (1, 0)) (q := (6, 211)) (k := 3) rfl rfl (by decide +kernel)
theorem zmp_364 : zMP (yL_pull, (cL_pull, (5, ((some .int), [(0, 10, 13, 21), (0, 10, 17, 13), (0, 10, 21, 23), (0, 10, 25, 15)])))) := zMk_ok (p := (1, 0)) (q := (6, 218)) (k := 4) rfl rfl (by decide +kernel)
theorem zmp_365 : zMP (yL_stop, (cL_stop, (4, ((some .int), [(0, 9, 12, 13), (0, 9, 15, 15)])))) := zMk_ok (p := (1, 0)) (q := (6, 230)) (k := 3) rfl rfl (by decide +kernel)
theorem zmp_366 : zMP (yL_tilt, (cL_tilt, (3, ((some .int), [(0, 8, 11, 15)])))) := zMk_ok (p := (1, 0)) (q := (7, 12)) (k := 2) rfl rfl (by decide +kernel)
theorem zmp_367 : zMP (yL_recover, (cL_recover, (3, ((some .int), [(0, 8, 11, 15)])))) := zMk_ok (p := (1, 0)) (q := (7, 19)) (k := 2) rfl rfl (by decide +kernel)
theorem zmp_368 : zMP (yL_ticket, (cL_ticket, (5, ((some .int), [(0, 10, 13, 21), (0, 10, 17, 13), (0, 10, 21, 23), (0, 10, 25, 15)])))) := zMk_ok (p := (1, 0)) (q := (7, 27)) (k := 4) rfl rfl (by decide +kernel)
theorem zmp_369 : zMP (yL_draw, (cL_draw, (4, ((some .int), [(0, 9, 12, 13)])))) := zMk_ok (p := (1, 0)) (q := (7, 60)) (k := 3) rfl rfl (by decide +kernel)
theorem zmp_370 : zMP (yL_confirm, (cL_confirm, (3, ((some .int), [(0, 8, 11, 15)])))) := zMk_ok (p := (1, 0)) (q := (7, 75)) (k := 2) rfl rfl (by decide +kernel)
theorem zmp_371 : zMP (yL_claim, (cL_claim, (4, ((some .int), [(0, 9, 12, 21), (0, 9, 15, 86)])))) := zMk_ok (p := (1, 0)) (q := (7, 96)) (k := 3) rfl rfl (by decide +kernel)
theorem zmp_372 : zMP (yL_money, (cL_money, (4, ((some .int), [(0, 9, 12, 21)])))) := zMk_ok (p := (1, 0)) (q := (7, 105)) (k := 3) rfl rfl (by decide +kernel)
theorem zmp_373 : zMP (yL_chips, (cL_chips, (4, ((some .int), [(0, 9, 12, 21)])))) := zMk_ok (p := (1, 0)) (q := (7, 112)) (k := 3) rfl rfl (by decide +kernel)
theorem zmp_374 : zMP (yL_isBarred, (cL_isBarred, (4, ((some .int), [(0, 16, 19, 21)])))) := zMk_ok (p := (1, 0)) (q := (7, 119)) (k := 3) rfl rfl (by decide +kernel)
theorem zmp_375 : zMP (yL_staked, (cL_staked, (4, ((some .int), [(0, 9, 12, 21)])))) := zMk_ok (p := (1, 0)) (q := (7, 126)) (k := 3) rfl rfl (by decide +kernel)
theorem zmp_376 : zMP (yL_reports, (cL_reports, (4, ((some .int), [(0, 9, 12, 21)])))) := zMk_ok (p := (1, 0)) (q := (7, 133)) (k := 3) rfl rfl (by decide +kernel)
theorem zmp_377 : zMP (yL_tray, (cL_tray, (4, ((some .int), [(0, 9, 12, 21)])))) := zMk_ok (p := (1, 0)) (q := (7, 140)) (k := 3) rfl rfl (by decide +kernel)
theorem zmp_378 : zMP (yL_ruinOver, (cL_ruinOver, (5, ((some .int), [(0, 9, 12, 13)])))) := zMk_ok (p := (1, 0)) (q := (7, 147)) (k := 4) rfl rfl (by decide +kernel)
theorem zmp_379 : zMP (yL_ruinUnder, (cL_ruinUnder, (5, ((some .int), [(0, 9, 12, 13)])))) := zMk_ok (p := (1, 0)) (q := (7, 163)) (k := 4) rfl rfl (by decide +kernel)
theorem zmp_380 : zMP (yL_barredShare, (cL_barredShare, (3, ((some .int), [(0, 8, 11, 101)])))) := zMk_ok (p := (1, 0)) (q := (7, 170)) (k := 2) rfl rfl (by decide +kernel)
theorem zmp_381 : zMP (yL_meanChips, (cL_meanChips, (3, ((some .int), [(0, 7, 10, 101)])))) := zMk_ok (p := (1, 0)) (q := (7, 182)) (k := 2) rfl rfl (by decide +kernel)
def zMc_0 : List zm_M := [(yX0_init, (cX0_init, (4, (none, [])))), (yX0_tellRule, (cX0_tellRule, (4, ((some .boolean), [])))), (yX0_hasStakes, (cX0_hasStakes, (5, ((some .boolean), [])))), (yX0_stakesOf, (cX0_stakesOf, (7, ((some .int), [])))), (yX0_takeAway, (cX0_takeAway, (7, ((some .int), [])))), (yX0_forgetCards, (cX0_forgetCards, (5, (none, [])))), (yX0_seatInTurn, (cX0_seatInTurn, (2, ((some .int), [])))), (yX0_dealRound, (cX0_dealRound, (5, ((some .int), [])))), (yX0_dealToSeats, (cX0_dealToSeats, (5, (none, [])))), (yX0_giveCard, (cX0_giveCard, (3, ((some .int), [])))), (yX0_giveUp, (cX0_giveUp, (5, ((some .int), [])))), (yX0_finishIfNobodyPlays, (cX0_finishIfNobodyPlays, (5, (none, [])))), (yX0_drawForDealer, (cX0_drawForDealer, (6, (none, [])))), (yX0_drawsAgain, (cX0_drawsAgain, (2, ((some .boolean), [])))), (yX0_settle, (cX0_settle, (6, (none, [])))), (yX0_gainOf, (cX0_gainOf, (5, ((some .int), []))))]
theorem zMcp_0 : ∀ M ∈ zMc_0, zMP M := List.forall_mem_cons.mpr ⟨zmp_0, List.forall_mem_cons.mpr ⟨zmp_1, List.forall_mem_cons.mpr ⟨zmp_2, List.forall_mem_cons.mpr ⟨zmp_3, List.forall_mem_cons.mpr ⟨zmp_4, List.forall_mem_cons.mpr ⟨zmp_5, List.forall_mem_cons.mpr ⟨zmp_6, List.forall_mem_cons.mpr ⟨zmp_7, List.forall_mem_cons.mpr ⟨zmp_8, List.forall_mem_cons.mpr ⟨zmp_9, List.forall_mem_cons.mpr ⟨zmp_10, List.forall_mem_cons.mpr ⟨zmp_11, List.forall_mem_cons.mpr ⟨zmp_12, List.forall_mem_cons.mpr ⟨zmp_13, List.forall_mem_cons.mpr ⟨zmp_14, List.forall_mem_cons.mpr ⟨zmp_15, fun _ h => nomatch h⟩⟩⟩⟩⟩⟩⟩⟩⟩⟩⟩⟩⟩⟩⟩⟩
def zMc_16 : List zm_M := [(yX0_payForNatural, (cX0_payForNatural, (2, ((some .int), [])))), (yX1_init, (cX1_init, (1, (none, [])))), (yX1_chanceOf, (cX1_chanceOf, (5, ((some .double), [])))), (yX1_chanceFrom, (cX1_chanceFrom, (11, ((some .double), [])))), (yX2_init, (cX2_init, (1, (none, [])))), (yX2_isBarredOn, (cX2_isBarredOn, (2, ((some .boolean), [])))), (yX2_mayStake, (cX2_mayStake, (3, ((some .boolean), [])))), (yX2_putStake, (cX2_putStake, (2, (none, [])))), (yX2_bringMoney, (cX2_bringMoney, (2, (none, [])))), (yX2_tellLimit, (cX2_tellLimit, (2, (none, [])))), (yX2_beginDay, (cX2_beginDay, (1, (none, [])))), (yX2_noteBet, (cX2_noteBet, (3, (none, [])))), (yX2_isBettingByCount, (cX2_isBettingByCount, (1, ((some .boolean), [])))), (yX2_addPrize, (cX2_addPrize, (4, (none, [])))), (yX2_dropPrizesOf, (cX2_dropPrizesOf, (4, ((some .int), [])))), (yX2_allPrizes, (cX2_allPrizes, (6, ((some .int), []))))]
theorem zMcp_16 : ∀ M ∈ zMc_16, zMP M := List.forall_mem_cons.mpr ⟨zmp_16, List.forall_mem_cons.mpr ⟨zmp_17, List.forall_mem_cons.mpr ⟨zmp_18, List.forall_mem_cons.mpr ⟨zmp_19, List.forall_mem_cons.mpr ⟨zmp_20, List.forall_mem_cons.mpr ⟨zmp_21, List.forall_mem_cons.mpr ⟨zmp_22, List.forall_mem_cons.mpr ⟨zmp_23, List.forall_mem_cons.mpr ⟨zmp_24, List.forall_mem_cons.mpr ⟨zmp_25, List.forall_mem_cons.mpr ⟨zmp_26, List.forall_mem_cons.mpr ⟨zmp_27, List.forall_mem_cons.mpr ⟨zmp_28, List.forall_mem_cons.mpr ⟨zmp_29, List.forall_mem_cons.mpr ⟨zmp_30, List.forall_mem_cons.mpr ⟨zmp_31, fun _ h => nomatch h⟩⟩⟩⟩⟩⟩⟩⟩⟩⟩⟩⟩⟩⟩⟩⟩
def zMc_32 : List zm_M := [(yX2_dropAllPrizes, (cX2_dropAllPrizes, (1, (none, [])))), (yX3_init, (cX3_init, (1, (none, [])))), (yX3_add, (cX3_add, (2, (none, [])))), (yX3_forgetCards, (cX3_forgetCards, (1, (none, [])))), (yX3_rankAt, (cX3_rankAt, (2, ((some .int), [])))), (yX3_value, (cX3_value, (1, ((some .int), [])))), (yX3_isSoft, (cX3_isSoft, (1, ((some .boolean), [])))), (yX3_isPair, (cX3_isPair, (1, ((some .boolean), [])))), (yX3_isNatural, (cX3_isNatural, (1, ((some .boolean), [])))), (yX3_settle, (cX3_settle, (2, ((some .int), [])))), (yX3_takeBack, (cX3_takeBack, (3, ((some .int), [])))), (yX4_init, (cX4_init, (1, (none, [])))), (yX4_setOf, (cX4_setOf, (2, ((some .int), [])))), (yX4_isSoldOut, (cX4_isSoldOut, (1, ((some .boolean), [])))), (yX4_isDrawn, (cX4_isDrawn, (1, ((some .boolean), [])))), (yX4_sell, (cX4_sell, (3, (none, []))))]
theorem zMcp_32 : ∀ M ∈ zMc_32, zMP M := List.forall_mem_cons.mpr ⟨zmp_32, List.forall_mem_cons.mpr ⟨zmp_33, List.forall_mem_cons.mpr ⟨zmp_34, List.forall_mem_cons.mpr ⟨zmp_35, List.forall_mem_cons.mpr ⟨zmp_36, List.forall_mem_cons.mpr ⟨zmp_37, List.forall_mem_cons.mpr ⟨zmp_38, List.forall_mem_cons.mpr ⟨zmp_39, List.forall_mem_cons.mpr ⟨zmp_40, List.forall_mem_cons.mpr ⟨zmp_41, List.forall_mem_cons.mpr ⟨zmp_42, List.forall_mem_cons.mpr ⟨zmp_43, List.forall_mem_cons.mpr ⟨zmp_44, List.forall_mem_cons.mpr ⟨zmp_45, List.forall_mem_cons.mpr ⟨zmp_46, List.forall_mem_cons.mpr ⟨zmp_47, fun _ h => nomatch h⟩⟩⟩⟩⟩⟩⟩⟩⟩⟩⟩⟩⟩⟩⟩⟩
def zMc_48 : List zm_M := [(yX4_rightNumbers, (cX4_rightNumbers, (2, ((some .int), [])))), (yX4_ticketsWithRight, (cX4_ticketsWithRight, (4, ((some .int), [])))), (yX4_giveOut, (cX4_giveOut, (3, ((some .int), [])))), (yX4_giveTier, (cX4_giveTier, (8, ((some .int), [])))), (yX4_takeAway, (cX4_takeAway, (3, (none, [])))), (yX5_init, (cX5_init, (2, (none, [])))), (yX5_areSymbols, (cX5_areSymbols, (1, ((some .boolean), [])))), (yX5_areStops, (cX5_areStops, (1, ((some .boolean), [])))), (yX5_areDigits, (cX5_areDigits, (5, ((some .boolean), [])))), (yX5_isSpinning, (cX5_isSpinning, (1, ((some .boolean), [])))), (yX5_stakeOf, (cX5_stakeOf, (2, ((some .int), [])))), (yX5_symbolAt, (cX5_symbolAt, (4, ((some .int), [])))), (yX5_timesOf, (cX5_timesOf, (2, ((some .int), [])))), (yX5_tellSymbols, (cX5_tellSymbols, (7, ((some .int), [])))), (yX5_tellTimes, (cX5_tellTimes, (4, ((some .int), [])))), (yX5_begin, (cX5_begin, (3, (none, []))))]
theorem zMcp_48 : ∀ M ∈ zMc_48, zMP M := List.forall_mem_cons.mpr ⟨zmp_48, List.forall_mem_cons.mpr ⟨zmp_49, List.forall_mem_cons.mpr ⟨zmp_50, List.forall_mem_cons.mpr ⟨zmp_51, List.forall_mem_cons.mpr ⟨zmp_52, List.forall_mem_cons.mpr ⟨zmp_53, List.forall_mem_cons.mpr ⟨zmp_54, List.forall_mem_cons.mpr ⟨zmp_55, List.forall_mem_cons.mpr ⟨zmp_56, List.forall_mem_cons.mpr ⟨zmp_57, List.forall_mem_cons.mpr ⟨zmp_58, List.forall_mem_cons.mpr ⟨zmp_59, List.forall_mem_cons.mpr ⟨zmp_60, List.forall_mem_cons.mpr ⟨zmp_61, List.forall_mem_cons.mpr ⟨zmp_62, List.forall_mem_cons.mpr ⟨zmp_63, fun _ h => nomatch h⟩⟩⟩⟩⟩⟩⟩⟩⟩⟩⟩⟩⟩⟩⟩⟩
def zMc_64 : List zm_M := [(yX5_settleAt, (cX5_settleAt, (6, ((some .int), [])))), (yX5_takeAway, (cX5_takeAway, (3, ((some .int), [])))), (yX5_paidByAllStops, (cX5_paidByAllStops, (5, ((some .int), [])))), (yX5_stopsWith, (cX5_stopsWith, (5, ((some .int), [])))), (yX6_init, (cX6_init, (1, (none, [])))), (yX6_hasStake, (cX6_hasStake, (1, ((some .boolean), [])))), (yX6_stakes, (cX6_stakes, (1, ((some .int), [])))), (yX6_take, (cX6_take, (3, (none, [])))), (yX6_handAt, (cX6_handAt, (3, ((some (.object "ShoeHouse$Hand")), [])))), (yX6_handThatPlays, (cX6_handThatPlays, (1, ((some (.object "ShoeHouse$Hand")), [])))), (yX6_part, (cX6_part, (2, (none, [])))), (yX6_isNatural, (cX6_isNatural, (1, ((some .boolean), [])))), (yX6_needsDealer, (cX6_needsDealer, (1, ((some .boolean), [])))), (yX6_forgetCards, (cX6_forgetCards, (1, (none, [])))), (yX6_forgetStakes, (cX6_forgetStakes, (1, (none, [])))), (yX6_takeAway, (cX6_takeAway, (2, ((some .int), []))))]
theorem zMcp_64 : ∀ M ∈ zMc_64, zMP M := List.forall_mem_cons.mpr ⟨zmp_64, List.forall_mem_cons.mpr ⟨zmp_65, List.forall_mem_cons.mpr ⟨zmp_66, List.forall_mem_cons.mpr ⟨zmp_67, List.forall_mem_cons.mpr ⟨zmp_68, List.forall_mem_cons.mpr ⟨zmp_69, List.forall_mem_cons.mpr ⟨zmp_70, List.forall_mem_cons.mpr ⟨zmp_71, List.forall_mem_cons.mpr ⟨zmp_72, List.forall_mem_cons.mpr ⟨zmp_73, List.forall_mem_cons.mpr ⟨zmp_74, List.forall_mem_cons.mpr ⟨zmp_75, List.forall_mem_cons.mpr ⟨zmp_76, List.forall_mem_cons.mpr ⟨zmp_77, List.forall_mem_cons.mpr ⟨zmp_78, List.forall_mem_cons.mpr ⟨zmp_79, fun _ h => nomatch h⟩⟩⟩⟩⟩⟩⟩⟩⟩⟩⟩⟩⟩⟩⟩⟩
def zMc_80 : List zm_M := [(yX7_init, (cX7_init, (1, (none, [])))), (yX7_cardsInDeck, (cX7_cardsInDeck, (1, ((some .int), [])))), (yX7_size, (cX7_size, (1, ((some .int), [])))), (yX7_rankAt, (cX7_rankAt, (3, ((some .int), [])))), (yX7_layDecks, (cX7_layDecks, (4, (none, [])))), (yX7_bringBehind, (cX7_bringBehind, (5, (none, [])))), (yX7_mixHalves, (cX7_mixHalves, (6, (none, [])))), (yX7_layMixed, (cX7_layMixed, (3, (none, [])))), (yX7_takeCard, (cX7_takeCard, (2, ((some .int), [])))), (yX7_see, (cX7_see, (2, (none, [])))), (yX7_takeSeen, (cX7_takeSeen, (2, ((some .int), [])))), (yX7_takeHidden, (cX7_takeHidden, (1, ((some .int), [])))), (yX7_showHidden, (cX7_showHidden, (1, (none, [])))), (yX7_unseenOf, (cX7_unseenOf, (2, ((some .int), [])))), (yX7_unseenAbove, (cX7_unseenAbove, (4, ((some .int), [])))), (yX7_unseen, (cX7_unseen, (1, ((some .int), []))))]
theorem zMcp_80 : ∀ M ∈ zMc_80, zMP M := List.forall_mem_cons.mpr ⟨zmp_80, List.forall_mem_cons.mpr ⟨zmp_81, List.forall_mem_cons.mpr ⟨zmp_82, List.forall_mem_cons.mpr ⟨zmp_83, List.forall_mem_cons.mpr ⟨zmp_84, List.forall_mem_cons.mpr ⟨zmp_85, List.forall_mem_cons.mpr ⟨zmp_86, List.forall_mem_cons.mpr ⟨zmp_87, List.forall_mem_cons.mpr ⟨zmp_88, List.forall_mem_cons.mpr ⟨zmp_89, List.forall_mem_cons.mpr ⟨zmp_90, List.forall_mem_cons.mpr ⟨zmp_91, List.forall_mem_cons.mpr ⟨zmp_92, List.forall_mem_cons.mpr ⟨zmp_93, List.forall_mem_cons.mpr ⟨zmp_94, List.forall_mem_cons.mpr ⟨zmp_95, fun _ h => nomatch h⟩⟩⟩⟩⟩⟩⟩⟩⟩⟩⟩⟩⟩⟩⟩⟩
def zMc_96 : List zm_M := [(yX7_tellWeight, (cX7_tellWeight, (4, ((some .int), [])))), (yX7_countSeen, (cX7_countSeen, (3, ((some .int), [])))), (yX7_countByDeck, (cX7_countByDeck, (2, ((some .int), [])))), (yX7_isWhole, (cX7_isWhole, (4, ((some .boolean), [])))), (yX8_init, (cX8_init, (2, (none, [])))), (yX8_takeFromVault, (cX8_takeFromVault, (2, (none, [])))), (yX8_bringToVault, (cX8_bringToVault, (2, (none, [])))), (yX8_collect, (cX8_collect, (2, (none, [])))), (yX8_payOut, (cX8_payOut, (2, (none, [])))), (yX8_winOfShift, (cX8_winOfShift, (1, ((some .int), [])))), (yX8_beginShift, (cX8_beginShift, (1, (none, [])))), (yX9_init, (cX9_init, (1, (none, [])))), (yX10_init, (cX10_init, (2, (none, [])))), (yX10_isWager, (cX10_isWager, (2, ((some .boolean), [])))), (yX10_isRed, (cX10_isRed, (3, ((some .boolean), [])))), (yX10_timesPaid, (cX10_timesPaid, (3, ((some .int), []))))]
theorem zMcp_96 : ∀ M ∈ zMc_96, zMP M := List.forall_mem_cons.mpr ⟨zmp_96, List.forall_mem_cons.mpr ⟨zmp_97, List.forall_mem_cons.mpr ⟨zmp_98, List.forall_mem_cons.mpr ⟨zmp_99, List.forall_mem_cons.mpr ⟨zmp_100, List.forall_mem_cons.mpr ⟨zmp_101, List.forall_mem_cons.mpr ⟨zmp_102, List.forall_mem_cons.mpr ⟨zmp_103, List.forall_mem_cons.mpr ⟨zmp_104, List.forall_mem_cons.mpr ⟨zmp_105, List.forall_mem_cons.mpr ⟨zmp_106, List.forall_mem_cons.mpr ⟨zmp_107, List.forall_mem_cons.mpr ⟨zmp_108, List.forall_mem_cons.mpr ⟨zmp_109, List.forall_mem_cons.mpr ⟨zmp_110, List.forall_mem_cons.mpr ⟨zmp_111, fun _ h => nomatch h⟩⟩⟩⟩⟩⟩⟩⟩⟩⟩⟩⟩⟩⟩⟩⟩
def zMc_112 : List zm_M := [(yX10_isFull, (cX10_isFull, (1, ((some .boolean), [])))), (yX10_add, (cX10_add, (5, (none, [])))), (yX10_settleAll, (cX10_settleAll, (6, ((some .int), [])))), (yX10_stakesOf, (cX10_stakesOf, (4, ((some .int), [])))), (yX10_takeAway, (cX10_takeAway, (6, ((some .int), [])))), (yX11_init, (cX11_init, (2, (none, [])))), (yX11_guest, (cX11_guest, (2, ((some .int), [])))), (yX11_buyIn, (cX11_buyIn, (4, ((some .int), [])))), (yX11_cashOut, (cX11_cashOut, (4, ((some .int), [])))), (yX11_limit, (cX11_limit, (4, ((some .int), [])))), (yX11_bar, (cX11_bar, (5, ((some .int), [])))), (yX11_pass, (cX11_pass, (7, ((some .int), [])))), (yX11_fill, (cX11_fill, (4, ((some .int), [])))), (yX11_credit, (cX11_credit, (4, ((some .int), [])))), (yX11_shift, (cX11_shift, (6, ((some .int), [])))), (yX11_win, (cX11_win, (2, ((some .int), []))))]
theorem zMcp_112 : ∀ M ∈ zMc_112, zMP M := List.forall_mem_cons.mpr ⟨zmp_112, List.forall_mem_cons.mpr ⟨zmp_113, List.forall_mem_cons.mpr ⟨zmp_114, List.forall_mem_cons.mpr ⟨zmp_115, List.forall_mem_cons.mpr ⟨zmp_116, List.forall_mem_cons.mpr ⟨zmp_117, List.forall_mem_cons.mpr ⟨zmp_118, List.forall_mem_cons.mpr ⟨zmp_119, List.forall_mem_cons.mpr ⟨zmp_120, List.forall_mem_cons.mpr ⟨zmp_121, List.forall_mem_cons.mpr ⟨zmp_122, List.forall_mem_cons.mpr ⟨zmp_123, List.forall_mem_cons.mpr ⟨zmp_124, List.forall_mem_cons.mpr ⟨zmp_125, List.forall_mem_cons.mpr ⟨zmp_126, List.forall_mem_cons.mpr ⟨zmp_127, fun _ h => nomatch h⟩⟩⟩⟩⟩⟩⟩⟩⟩⟩⟩⟩⟩⟩⟩⟩
def zMc_128 : List zm_M := [(yX11_rule, (cX11_rule, (3, ((some .boolean), [])))), (yX11_lay, (cX11_lay, (2, ((some .int), [])))), (yX11_cut, (cX11_cut, (2, ((some .int), [])))), (yX11_riffle, (cX11_riffle, (2, ((some .int), [])))), (yX11_bet, (cX11_bet, (6, ((some .int), [])))), (yX11_deal, (cX11_deal, (2, ((some .int), [])))), (yX11_hit, (cX11_hit, (4, ((some .int), [])))), (yX11_stand, (cX11_stand, (3, ((some .int), [])))), (yX11_twice, (cX11_twice, (6, ((some .int), [])))), (yX11_split, (cX11_split, (6, ((some .int), [])))), (yX11_surrender, (cX11_surrender, (5, ((some .int), [])))), (yX11_cardAt, (cX11_cardAt, (6, ((some .int), [])))), (yX11_dealerAt, (cX11_dealerAt, (3, ((some .int), [])))), (yX11_turn, (cX11_turn, (1, ((some .int), [])))), (yX11_left, (cX11_left, (2, ((some .int), [])))), (yX11_bustOver, (cX11_bustOver, (2, ((some .long), []))))]
theorem zMcp_128 : ∀ M ∈ zMc_128, zMP M := List.forall_mem_cons.mpr ⟨zmp_128, List.forall_mem_cons.mpr ⟨zmp_129, List.forall_mem_cons.mpr ⟨zmp_130, List.forall_mem_cons.mpr ⟨zmp_131, List.forall_mem_cons.mpr ⟨zmp_132, List.forall_mem_cons.mpr ⟨zmp_133, List.forall_mem_cons.mpr ⟨zmp_134, List.forall_mem_cons.mpr ⟨zmp_135, List.forall_mem_cons.mpr ⟨zmp_136, List.forall_mem_cons.mpr ⟨zmp_137, List.forall_mem_cons.mpr ⟨zmp_138, List.forall_mem_cons.mpr ⟨zmp_139, List.forall_mem_cons.mpr ⟨zmp_140, List.forall_mem_cons.mpr ⟨zmp_141, List.forall_mem_cons.mpr ⟨zmp_142, List.forall_mem_cons.mpr ⟨zmp_143, fun _ h => nomatch h⟩⟩⟩⟩⟩⟩⟩⟩⟩⟩⟩⟩⟩⟩⟩⟩
def zMc_144 : List zm_M := [(yX11_bustUnder, (cX11_bustUnder, (2, ((some .long), [])))), (yX11_dealerEnds, (cX11_dealerEnds, (2, ((some .double), [])))), (yX11_weigh, (cX11_weigh, (3, ((some .int), [])))), (yX11_count, (cX11_count, (1, ((some .int), [])))), (yX11_trueCount, (cX11_trueCount, (1, ((some .int), [])))), (yX11_isSuspected, (cX11_isSuspected, (2, ((some .boolean), [])))), (yX11_broken, (cX11_broken, (1, ((some .int), [])))), (yX11_wager, (cX11_wager, (6, ((some .int), [])))), (yX11_spin, (cX11_spin, (2, ((some .int), [])))), (yX11_stops, (cX11_stops, (3, ((some .int), [])))), (yX11_pays, (cX11_pays, (3, ((some .int), [])))), (yX11_bound, (cX11_bound, (3, ((some .int), [])))), (yX11_pull, (cX11_pull, (4, ((some .int), [])))), (yX11_stop, (cX11_stop, (2, ((some .int), [])))), (yX11_tilt, (cX11_tilt, (1, ((some .int), [])))), (yX11_recover, (cX11_recover, (2, ((some .int), []))))]
theorem zMcp_144 : ∀ M ∈ zMc_144, zMP M := List.forall_mem_cons.mpr ⟨zmp_144, List.forall_mem_cons.mpr ⟨zmp_145, List.forall_mem_cons.mpr ⟨zmp_146, List.forall_mem_cons.mpr ⟨zmp_147, List.forall_mem_cons.mpr ⟨zmp_148, List.forall_mem_cons.mpr ⟨zmp_149, List.forall_mem_cons.mpr ⟨zmp_150, List.forall_mem_cons.mpr ⟨zmp_151, List.forall_mem_cons.mpr ⟨zmp_152, List.forall_mem_cons.mpr ⟨zmp_153, List.forall_mem_cons.mpr ⟨zmp_154, List.forall_mem_cons.mpr ⟨zmp_155, List.forall_mem_cons.mpr ⟨zmp_156, List.forall_mem_cons.mpr ⟨zmp_157, List.forall_mem_cons.mpr ⟨zmp_158, List.forall_mem_cons.mpr ⟨zmp_159, fun _ h => nomatch h⟩⟩⟩⟩⟩⟩⟩⟩⟩⟩⟩⟩⟩⟩⟩⟩
def zMc_160 : List zm_M := [(yX11_pot, (cX11_pot, (1, ((some .int), [])))), (yX11_returnOver, (cX11_returnOver, (1, ((some .long), [])))), (yX11_returnUnder, (cX11_returnUnder, (1, ((some .long), [])))), (yX11_ticket, (cX11_ticket, (4, ((some .int), [])))), (yX11_draw, (cX11_draw, (2, ((some .int), [])))), (yX11_confirm, (cX11_confirm, (1, ((some .int), [])))), (yX11_claim, (cX11_claim, (4, ((some .int), [])))), (yX11_pool, (cX11_pool, (1, ((some .int), [])))), (yX11_day, (cX11_day, (1, ((some .int), [])))), (yX11_money, (cX11_money, (2, ((some .int), [])))), (yX11_chips, (cX11_chips, (2, ((some .int), [])))), (yX11_isBarred, (cX11_isBarred, (2, ((some .boolean), [])))), (yX11_staked, (cX11_staked, (2, ((some .int), [])))), (yX11_reports, (cX11_reports, (2, ((some .int), [])))), (yX11_tray, (cX11_tray, (2, ((some .int), [])))), (yX11_vault, (cX11_vault, (1, ((some .int), []))))]
theorem zMcp_160 : ∀ M ∈ zMc_160, zMP M := List.forall_mem_cons.mpr ⟨zmp_160, List.forall_mem_cons.mpr ⟨zmp_161, List.forall_mem_cons.mpr ⟨zmp_162, List.forall_mem_cons.mpr ⟨zmp_163, List.forall_mem_cons.mpr ⟨zmp_164, List.forall_mem_cons.mpr ⟨zmp_165, List.forall_mem_cons.mpr ⟨zmp_166, List.forall_mem_cons.mpr ⟨zmp_167, List.forall_mem_cons.mpr ⟨zmp_168, List.forall_mem_cons.mpr ⟨zmp_169, List.forall_mem_cons.mpr ⟨zmp_170, List.forall_mem_cons.mpr ⟨zmp_171, List.forall_mem_cons.mpr ⟨zmp_172, List.forall_mem_cons.mpr ⟨zmp_173, List.forall_mem_cons.mpr ⟨zmp_174, List.forall_mem_cons.mpr ⟨zmp_175, fun _ h => nomatch h⟩⟩⟩⟩⟩⟩⟩⟩⟩⟩⟩⟩⟩⟩⟩⟩
def zMc_176 : List zm_M := [(yX11_ruinOver, (cX11_ruinOver, (3, ((some .long), [])))), (yX11_ruinUnder, (cX11_ruinUnder, (3, ((some .long), [])))), (yX11_checksum, (cX11_checksum, (7, ((some .long), [])))), (yX11_vaultBits, (cX11_vaultBits, (1, ((some .int), [])))), (yX11_barredShare, (cX11_barredShare, (3, ((some .float), [])))), (yX11_meanChips, (cX11_meanChips, (1, ((some .double), [])))), (yX11_isSound, (cX11_isSound, (1, ((some .boolean), [])))), (yX11_guestAt, (cX11_guestAt, (2, ((some (.object "ShoeHouse$Guest")), [])))), (yX11_trayAt, (cX11_trayAt, (2, ((some (.object "ShoeHouse$Tray")), [])))), (yX11_seatAt, (cX11_seatAt, (2, ((some (.object "ShoeHouse$Seat")), [])))), (yX11_handInTurn, (cX11_handInTurn, (4, ((some (.object "ShoeHouse$Hand")), [])))), (yX11_playerAt, (cX11_playerAt, (4, ((some (.object "ShoeHouse$Guest")), [])))), (yX11_needStake, (cX11_needStake, (3, (none, [])))), (yX11_needCards, (cX11_needCards, (2, (none, [])))), (yX11_needUnseen, (cX11_needUnseen, (1, (none, [])))), (yX11_needRound, (cX11_needRound, (1, (none, []))))]
theorem zMcp_176 : ∀ M ∈ zMc_176, zMP M := List.forall_mem_cons.mpr ⟨zmp_176, List.forall_mem_cons.mpr ⟨zmp_177, List.forall_mem_cons.mpr ⟨zmp_178, List.forall_mem_cons.mpr ⟨zmp_179, List.forall_mem_cons.mpr ⟨zmp_180, List.forall_mem_cons.mpr ⟨zmp_181, List.forall_mem_cons.mpr ⟨zmp_182, List.forall_mem_cons.mpr ⟨zmp_183, List.forall_mem_cons.mpr ⟨zmp_184, List.forall_mem_cons.mpr ⟨zmp_185, List.forall_mem_cons.mpr ⟨zmp_186, List.forall_mem_cons.mpr ⟨zmp_187, List.forall_mem_cons.mpr ⟨zmp_188, List.forall_mem_cons.mpr ⟨zmp_189, List.forall_mem_cons.mpr ⟨zmp_190, List.forall_mem_cons.mpr ⟨zmp_191, fun _ h => nomatch h⟩⟩⟩⟩⟩⟩⟩⟩⟩⟩⟩⟩⟩⟩⟩⟩
def zMc_192 : List zm_M := [(yX11_needNoRound, (cX11_needNoRound, (1, (none, [])))), (yX11_needSpin, (cX11_needSpin, (1, (none, [])))), (yX11_needNoSpin, (cX11_needNoSpin, (1, (none, [])))), (yX11_needGuests, (cX11_needGuests, (1, (none, [])))), (yX11_needThreeNumbers, (cX11_needThreeNumbers, (1, (none, [])))), (yX11_needRuin, (cX11_needRuin, (2, (none, [])))), (yX11_needRange, (cX11_needRange, (3, (none, [])))), (yX11_chipsOfGuests, (cX11_chipsOfGuests, (3, ((some .int), [])))), (yX11_areAllChipsHere, (cX11_areAllChipsHere, (6, ((some .boolean), [])))), (yX11_stakesOf, (cX11_stakesOf, (2, ((some .int), [])))), (yX11_isNothingOfBarred, (cX11_isNothingOfBarred, (5, ((some .boolean), [])))), (yX11_areChancesSound, (cX11_areChancesSound, (4, ((some .boolean), [])))), (yX11_lowestOver, (cX11_lowestOver, (6, ((some .long), [])))), (yX11_lowestUnder, (cX11_lowestUnder, (6, ((some .long), [])))), (yX11_sharedDivisor, (cX11_sharedDivisor, (11, ((some .long), [])))), (yX11_power, (cX11_power, (5, ((some .long), []))))]
theorem zMcp_192 : ∀ M ∈ zMc_192, zMP M := List.forall_mem_cons.mpr ⟨zmp_192, List.forall_mem_cons.mpr ⟨zmp_193, List.forall_mem_cons.mpr ⟨zmp_194, List.forall_mem_cons.mpr ⟨zmp_195, List.forall_mem_cons.mpr ⟨zmp_196, List.forall_mem_cons.mpr ⟨zmp_197, List.forall_mem_cons.mpr ⟨zmp_198, List.forall_mem_cons.mpr ⟨zmp_199, List.forall_mem_cons.mpr ⟨zmp_200, List.forall_mem_cons.mpr ⟨zmp_201, List.forall_mem_cons.mpr ⟨zmp_202, List.forall_mem_cons.mpr ⟨zmp_203, List.forall_mem_cons.mpr ⟨zmp_204, List.forall_mem_cons.mpr ⟨zmp_205, List.forall_mem_cons.mpr ⟨zmp_206, List.forall_mem_cons.mpr ⟨zmp_207, fun _ h => nomatch h⟩⟩⟩⟩⟩⟩⟩⟩⟩⟩⟩⟩⟩⟩⟩⟩
def zMc_208 : List zm_M := [(yX11_ruinPart, (cX11_ruinPart, (2, ((some .long), [])))), (yX11_bitsOf, (cX11_bitsOf, (5, ((some .int), [])))), (yX12_init, (cX12_init, (6, (none, [])))), (yX12_thrown, (cX12_thrown, (1, ((some .int), [])))), (yX12_isThrown, (cX12_isThrown, (3, ((some .boolean), [])))), (yX12_isIn, (cX12_isIn, (3, ((some .boolean), [])))), (yX12_isNobody, (cX12_isNobody, (2, ((some .boolean), [])))), (yX12_guest, (cX12_guest, (2, ((some .int), [])))), (yX12_buyIn, (cX12_buyIn, (3, ((some .int), [])))), (yX12_cashOut, (cX12_cashOut, (3, ((some .int), [])))), (yX12_limit, (cX12_limit, (3, ((some .int), [])))), (yX12_isBarredNow, (cX12_isBarredNow, (2, ((some .boolean), [])))), (yX12_mayStake, (cX12_mayStake, (3, ((some .boolean), [])))), (yX12_stakes, (cX12_stakes, (3, (none, [])))), (yX12_pay, (cX12_pay, (5, (none, [])))), (yX12_bar, (cX12_bar, (6, ((some .int), []))))]
theorem zMcp_208 : ∀ M ∈ zMc_208, zMP M := List.forall_mem_cons.mpr ⟨zmp_208, List.forall_mem_cons.mpr ⟨zmp_209, List.forall_mem_cons.mpr ⟨zmp_210, List.forall_mem_cons.mpr ⟨zmp_211, List.forall_mem_cons.mpr ⟨zmp_212, List.forall_mem_cons.mpr ⟨zmp_213, List.forall_mem_cons.mpr ⟨zmp_214, List.forall_mem_cons.mpr ⟨zmp_215, List.forall_mem_cons.mpr ⟨zmp_216, List.forall_mem_cons.mpr ⟨zmp_217, List.forall_mem_cons.mpr ⟨zmp_218, List.forall_mem_cons.mpr ⟨zmp_219, List.forall_mem_cons.mpr ⟨zmp_220, List.forall_mem_cons.mpr ⟨zmp_221, List.forall_mem_cons.mpr ⟨zmp_222, List.forall_mem_cons.mpr ⟨zmp_223, fun _ h => nomatch h⟩⟩⟩⟩⟩⟩⟩⟩⟩⟩⟩⟩⟩⟩⟩⟩
def zMc_224 : List zm_M := [(yX12_pass, (cX12_pass, (4, ((some .int), [])))), (yX12_isNoTable, (cX12_isNoTable, (1, ((some .boolean), [])))), (yX12_fill, (cX12_fill, (3, ((some .int), [])))), (yX12_credit, (cX12_credit, (3, ((some .int), [])))), (yX12_winOf, (cX12_winOf, (2, ((some .int), [])))), (yX12_shift, (cX12_shift, (3, ((some .int), [])))), (yX12_win, (cX12_win, (2, ((some .int), [])))), (yX12_ruleOf, (cX12_ruleOf, (1, ((some .int), [])))), (yX12_rule, (cX12_rule, (4, ((some .boolean), [])))), (yX12_each, (cX12_each, (1, ((some .int), [])))), (yX12_lay, (cX12_lay, (4, ((some .int), [])))), (yX12_cut, (cX12_cut, (3, ((some .int), [])))), (yX12_riffle, (cX12_riffle, (5, ((some .int), [])))), (yX12_next, (cX12_next, (2, ((some .int), [])))), (yX12_valueOf, (cX12_valueOf, (5, ((some .int), [])))), (yX12_isSoft, (cX12_isSoft, (4, ((some .boolean), []))))]
theorem zMcp_224 : ∀ M ∈ zMc_224, zMP M := List.forall_mem_cons.mpr ⟨zmp_224, List.forall_mem_cons.mpr ⟨zmp_225, List.forall_mem_cons.mpr ⟨zmp_226, List.forall_mem_cons.mpr ⟨zmp_227, List.forall_mem_cons.mpr ⟨zmp_228, List.forall_mem_cons.mpr ⟨zmp_229, List.forall_mem_cons.mpr ⟨zmp_230, List.forall_mem_cons.mpr ⟨zmp_231, List.forall_mem_cons.mpr ⟨zmp_232, List.forall_mem_cons.mpr ⟨zmp_233, List.forall_mem_cons.mpr ⟨zmp_234, List.forall_mem_cons.mpr ⟨zmp_235, List.forall_mem_cons.mpr ⟨zmp_236, List.forall_mem_cons.mpr ⟨zmp_237, List.forall_mem_cons.mpr ⟨zmp_238, List.forall_mem_cons.mpr ⟨zmp_239, fun _ h => nomatch h⟩⟩⟩⟩⟩⟩⟩⟩⟩⟩⟩⟩⟩⟩⟩⟩
def zMc_240 : List zm_M := [(yX12_valueAt, (cX12_valueAt, (3, ((some .int), [])))), (yX12_isNaturalAt, (cX12_isNaturalAt, (2, ((some .boolean), [])))), (yX12_hasStake, (cX12_hasStake, (2, ((some .boolean), [])))), (yX12_bet, (cX12_bet, (6, ((some .int), [])))), (yX12_take, (cX12_take, (3, (none, [])))), (yX12_deal, (cX12_deal, (4, ((some .int), [])))), (yX12_turnNow, (cX12_turnNow, (3, ((some .int), [])))), (yX12_lose, (cX12_lose, (3, (none, [])))), (yX12_win_, (cX12_win_, (5, (none, [])))), (yX12_finish, (cX12_finish, (4, (none, [])))), (yX12_isEnd, (cX12_isEnd, (3, ((some .boolean), [])))), (yX12_settleAll, (cX12_settleAll, (5, (none, [])))), (yX12_settle, (cX12_settle, (8, (none, [])))), (yX12_isNotTurn, (cX12_isNotTurn, (2, ((some .boolean), [])))), (yX12_goesOn, (cX12_goesOn, (1, (none, [])))), (yX12_looks, (cX12_looks, (4, (none, []))))]
theorem zMcp_240 : ∀ M ∈ zMc_240, zMP M := List.forall_mem_cons.mpr ⟨zmp_240, List.forall_mem_cons.mpr ⟨zmp_241, List.forall_mem_cons.mpr ⟨zmp_242, List.forall_mem_cons.mpr ⟨zmp_243, List.forall_mem_cons.mpr ⟨zmp_244, List.forall_mem_cons.mpr ⟨zmp_245, List.forall_mem_cons.mpr ⟨zmp_246, List.forall_mem_cons.mpr ⟨zmp_247, List.forall_mem_cons.mpr ⟨zmp_248, List.forall_mem_cons.mpr ⟨zmp_249, List.forall_mem_cons.mpr ⟨zmp_250, List.forall_mem_cons.mpr ⟨zmp_251, List.forall_mem_cons.mpr ⟨zmp_252, List.forall_mem_cons.mpr ⟨zmp_253, List.forall_mem_cons.mpr ⟨zmp_254, List.forall_mem_cons.mpr ⟨zmp_255, fun _ h => nomatch h⟩⟩⟩⟩⟩⟩⟩⟩⟩⟩⟩⟩⟩⟩⟩⟩
def zMc_256 : List zm_M := [(yX12_hit, (cX12_hit, (4, ((some .int), [])))), (yX12_stand, (cX12_stand, (3, ((some .int), [])))), (yX12_twice, (cX12_twice, (6, ((some .int), [])))), (yX12_split, (cX12_split, (5, ((some .int), [])))), (yX12_surrender, (cX12_surrender, (3, ((some .int), [])))), (yX12_cardAt, (cX12_cardAt, (4, ((some .int), [])))), (yX12_dealerAt, (cX12_dealerAt, (2, ((some .int), [])))), (yX12_turn, (cX12_turn, (1, ((some .int), [])))), (yX12_leftOf, (cX12_leftOf, (4, ((some .int), [])))), (yX12_unseen, (cX12_unseen, (1, ((some .int), [])))), (yX12_left, (cX12_left, (2, ((some .int), [])))), (yX12_common, (cX12_common, (10, ((some .long), [])))), (yX12_busting, (cX12_busting, (4, ((some .int), [])))), (yX12_bust, (cX12_bust, (4, ((some .long), [])))), (yX12_bustOver, (cX12_bustOver, (2, ((some .long), [])))), (yX12_bustUnder, (cX12_bustUnder, (2, ((some .long), []))))]
theorem zMcp_256 : ∀ M ∈ zMc_256, zMP M := List.forall_mem_cons.mpr ⟨zmp_256, List.forall_mem_cons.mpr ⟨zmp_257, List.forall_mem_cons.mpr ⟨zmp_258, List.forall_mem_cons.mpr ⟨zmp_259, List.forall_mem_cons.mpr ⟨zmp_260, List.forall_mem_cons.mpr ⟨zmp_261, List.forall_mem_cons.mpr ⟨zmp_262, List.forall_mem_cons.mpr ⟨zmp_263, List.forall_mem_cons.mpr ⟨zmp_264, List.forall_mem_cons.mpr ⟨zmp_265, List.forall_mem_cons.mpr ⟨zmp_266, List.forall_mem_cons.mpr ⟨zmp_267, List.forall_mem_cons.mpr ⟨zmp_268, List.forall_mem_cons.mpr ⟨zmp_269, List.forall_mem_cons.mpr ⟨zmp_270, List.forall_mem_cons.mpr ⟨zmp_271, fun _ h => nomatch h⟩⟩⟩⟩⟩⟩⟩⟩⟩⟩⟩⟩⟩⟩⟩⟩
def zMc_272 : List zm_M := [(yX12_ends, (cX12_ends, (12, ((some .double), [])))), (yX12_dealerEnds, (cX12_dealerEnds, (3, ((some .double), [])))), (yX12_weigh, (cX12_weigh, (4, ((some .int), [])))), (yX12_counted, (cX12_counted, (3, ((some .int), [])))), (yX12_count, (cX12_count, (1, ((some .int), [])))), (yX12_trueCount, (cX12_trueCount, (1, ((some .int), [])))), (yX12_isSuspected, (cX12_isSuspected, (4, ((some .boolean), [])))), (yX12_broken, (cX12_broken, (1, ((some .int), [])))), (yX12_wager, (cX12_wager, (7, ((some .int), [])))), (yX12_isRed, (cX12_isRed, (3, ((some .boolean), [])))), (yX12_times, (cX12_times, (3, ((some .int), [])))), (yX12_spin, (cX12_spin, (6, ((some .int), [])))), (yX12_isSpinning, (cX12_isSpinning, (1, ((some .boolean), [])))), (yX12_digit, (cX12_digit, (4, ((some .int), [])))), (yX12_areDigits, (cX12_areDigits, (5, ((some .boolean), [])))), (yX12_stops, (cX12_stops, (6, ((some .int), []))))]
theorem zMcp_272 : ∀ M ∈ zMc_272, zMP M := List.forall_mem_cons.mpr ⟨zmp_272, List.forall_mem_cons.mpr ⟨zmp_273, List.forall_mem_cons.mpr ⟨zmp_274, List.forall_mem_cons.mpr ⟨zmp_275, List.forall_mem_cons.mpr ⟨zmp_276, List.forall_mem_cons.mpr ⟨zmp_277, List.forall_mem_cons.mpr ⟨zmp_278, List.forall_mem_cons.mpr ⟨zmp_279, List.forall_mem_cons.mpr ⟨zmp_280, List.forall_mem_cons.mpr ⟨zmp_281, List.forall_mem_cons.mpr ⟨zmp_282, List.forall_mem_cons.mpr ⟨zmp_283, List.forall_mem_cons.mpr ⟨zmp_284, List.forall_mem_cons.mpr ⟨zmp_285, List.forall_mem_cons.mpr ⟨zmp_286, List.forall_mem_cons.mpr ⟨zmp_287, fun _ h => nomatch h⟩⟩⟩⟩⟩⟩⟩⟩⟩⟩⟩⟩⟩⟩⟩⟩
def zMc_288 : List zm_M := [(yX12_pays, (cX12_pays, (4, ((some .int), [])))), (yX12_bound, (cX12_bound, (3, ((some .int), [])))), (yX12_pull, (cX12_pull, (3, ((some .int), [])))), (yX12_stop, (cX12_stop, (5, ((some .int), [])))), (yX12_tilt, (cX12_tilt, (1, ((some .int), [])))), (yX12_recover, (cX12_recover, (2, ((some .int), [])))), (yX12_pot, (cX12_pot, (1, ((some .int), [])))), (yX12_returned, (cX12_returned, (16, ((some .long), [])))), (yX12_returnOver, (cX12_returnOver, (1, ((some .long), [])))), (yX12_returnUnder, (cX12_returnUnder, (1, ((some .long), [])))), (yX12_setOf, (cX12_setOf, (2, ((some .int), [])))), (yX12_ticket, (cX12_ticket, (3, ((some .int), [])))), (yX12_right, (cX12_right, (4, ((some .int), [])))), (yX12_draw, (cX12_draw, (2, ((some .int), [])))), (yX12_confirm, (cX12_confirm, (7, ((some .int), [])))), (yX12_claim, (cX12_claim, (4, ((some .int), []))))]
theorem zMcp_288 : ∀ M ∈ zMc_288, zMP M := List.forall_mem_cons.mpr ⟨zmp_288, List.forall_mem_cons.mpr ⟨zmp_289, List.forall_mem_cons.mpr ⟨zmp_290, List.forall_mem_cons.mpr ⟨zmp_291, List.forall_mem_cons.mpr ⟨zmp_292, List.forall_mem_cons.mpr ⟨zmp_293, List.forall_mem_cons.mpr ⟨zmp_294, List.forall_mem_cons.mpr ⟨zmp_295, List.forall_mem_cons.mpr ⟨zmp_296, List.forall_mem_cons.mpr ⟨zmp_297, List.forall_mem_cons.mpr ⟨zmp_298, List.forall_mem_cons.mpr ⟨zmp_299, List.forall_mem_cons.mpr ⟨zmp_300, List.forall_mem_cons.mpr ⟨zmp_301, List.forall_mem_cons.mpr ⟨zmp_302, List.forall_mem_cons.mpr ⟨zmp_303, fun _ h => nomatch h⟩⟩⟩⟩⟩⟩⟩⟩⟩⟩⟩⟩⟩⟩⟩⟩
def zMc_304 : List zm_M := [(yX12_pool, (cX12_pool, (1, ((some .int), [])))), (yX12_day, (cX12_day, (1, ((some .int), [])))), (yX12_money, (cX12_money, (2, ((some .int), [])))), (yX12_chips, (cX12_chips, (2, ((some .int), [])))), (yX12_isBarred, (cX12_isBarred, (2, ((some .boolean), [])))), (yX12_staked, (cX12_staked, (2, ((some .int), [])))), (yX12_reports, (cX12_reports, (2, ((some .int), [])))), (yX12_tray, (cX12_tray, (2, ((some .int), [])))), (yX12_vault, (cX12_vault, (1, ((some .int), [])))), (yX12_power, (cX12_power, (6, ((some .long), [])))), (yX12_ruin, (cX12_ruin, (8, ((some .long), [])))), (yX12_ruinOver, (cX12_ruinOver, (3, ((some .long), [])))), (yX12_ruinUnder, (cX12_ruinUnder, (3, ((some .long), [])))), (yX12_checksum, (cX12_checksum, (7, ((some .long), [])))), (yX12_vaultBits, (cX12_vaultBits, (1, ((some .int), [])))), (yX12_barredShare, (cX12_barredShare, (3, ((some .float), []))))]
theorem zMcp_304 : ∀ M ∈ zMc_304, zMP M := List.forall_mem_cons.mpr ⟨zmp_304, List.forall_mem_cons.mpr ⟨zmp_305, List.forall_mem_cons.mpr ⟨zmp_306, List.forall_mem_cons.mpr ⟨zmp_307, List.forall_mem_cons.mpr ⟨zmp_308, List.forall_mem_cons.mpr ⟨zmp_309, List.forall_mem_cons.mpr ⟨zmp_310, List.forall_mem_cons.mpr ⟨zmp_311, List.forall_mem_cons.mpr ⟨zmp_312, List.forall_mem_cons.mpr ⟨zmp_313, List.forall_mem_cons.mpr ⟨zmp_314, List.forall_mem_cons.mpr ⟨zmp_315, List.forall_mem_cons.mpr ⟨zmp_316, List.forall_mem_cons.mpr ⟨zmp_317, List.forall_mem_cons.mpr ⟨zmp_318, List.forall_mem_cons.mpr ⟨zmp_319, fun _ h => nomatch h⟩⟩⟩⟩⟩⟩⟩⟩⟩⟩⟩⟩⟩⟩⟩⟩
def zMc_320 : List zm_M := [(yX12_meanChips, (cX12_meanChips, (3, ((some .double), [])))), (yX12_isSound, (cX12_isSound, (1, ((some .boolean), [])))), (yJxf58ca_isNaN_12338, (cJxf58ca_isNaN_12338, (1, ((some .boolean), [])))), (yJxf58ca_floatToIntBits_5c35a, (cJxf58ca_floatToIntBits_5c35a, (1, ((some .int), [])))), (yJ6_bitCount_0f7a4, (cJ6_bitCount_0f7a4, (1, ((some .int), [])))), (yJ9_floorMod_7cf53, (cJ9_floorMod_7cf53, (3, ((some .int), [])))), (yJ9_max_7cf53, (cJ9_max_7cf53, (2, ((some .int), [])))), (yJ9_min_7cf53, (cJ9_min_7cf53, (2, ((some .int), [])))), (yJ7_fill_53178, (cJ7_fill_53178, (4, (none, [])))), (yL_guest, (cL_guest, (4, ((some .int), [(0, 9, 12, 13), (0, 9, 15, 15)])))), (yL_buyIn, (cL_buyIn, (5, ((some .int), [(0, 10, 13, 21), (0, 10, 17, 13), (0, 10, 21, 23)])))), (yL_cashOut, (cL_cashOut, (5, ((some .int), [(0, 10, 13, 21), (0, 10, 17, 13), (0, 10, 21, 23)])))), (yL_limit, (cL_limit, (5, ((some .int), [(0, 10, 13, 21), (0, 10, 17, 13)])))), (yL_bar, (cL_bar, (5, ((some .int), [(0, 10, 13, 21), (0, 10, 17, 13)])))), (yL_pass, (cL_pass, (4, ((some .int), [(0, 9, 12, 13), (0, 9, 15, 15)])))), (yL_fill, (cL_fill, (5, ((some .int), [(0, 10, 13, 21), (0, 10, 17, 13), (0, 10, 21, 23)]))))]
theorem zMcp_320 : ∀ M ∈ zMc_320, zMP M := List.forall_mem_cons.mpr ⟨zmp_320, List.forall_mem_cons.mpr ⟨zmp_321, List.forall_mem_cons.mpr ⟨zmp_322, List.forall_mem_cons.mpr ⟨zmp_323, List.forall_mem_cons.mpr ⟨zmp_324, List.forall_mem_cons.mpr ⟨zmp_325, List.forall_mem_cons.mpr ⟨zmp_326, List.forall_mem_cons.mpr ⟨zmp_327, List.forall_mem_cons.mpr ⟨zmp_328, List.forall_mem_cons.mpr ⟨zmp_329, List.forall_mem_cons.mpr ⟨zmp_330, List.forall_mem_cons.mpr ⟨zmp_331, List.forall_mem_cons.mpr ⟨zmp_332, List.forall_mem_cons.mpr ⟨zmp_333, List.forall_mem_cons.mpr ⟨zmp_334, List.forall_mem_cons.mpr ⟨zmp_335, fun _ h => nomatch h⟩⟩⟩⟩⟩⟩⟩⟩⟩⟩⟩⟩⟩⟩⟩⟩
def zMc_336 : List zm_M := [(yL_credit, (cL_credit, (5, ((some .int), [(0, 10, 13, 21), (0, 10, 17, 13), (0, 10, 21, 23)])))), (yL_win, (cL_win, (4, ((some .int), [(0, 9, 12, 21)])))), (yL_rule, (cL_rule, (5, ((some .int), [(0, 17, 20, 13), (0, 17, 24, 15)])))), (yL_lay, (cL_lay, (4, ((some .int), [(0, 9, 12, 13), (0, 9, 15, 15)])))), (yL_cut, (cL_cut, (4, ((some .int), [(0, 9, 12, 13), (0, 9, 15, 15)])))), (yL_riffle, (cL_riffle, (4, ((some .int), [(0, 9, 12, 23), (0, 9, 15, 15)])))), (yL_bet, (cL_bet, (6, ((some .int), [(0, 12, 15, 21), (0, 12, 19, 13), (0, 12, 23, 23), (0, 12, 27, 15)])))), (yL_deal, (cL_deal, (3, ((some .int), [(0, 8, 11, 23), (0, 8, 14, 15)])))), (yL_hit, (cL_hit, (4, ((some .int), [(0, 9, 12, 21), (0, 9, 15, 15), (0, 9, 18, 23)])))), (yL_stand, (cL_stand, (4, ((some .int), [(0, 9, 12, 21), (0, 9, 15, 15), (0, 9, 18, 23)])))), (yL_twice, (cL_twice, (4, ((some .int), [(0, 9, 12, 21), (0, 9, 15, 15), (0, 9, 18, 23)])))), (yL_split, (cL_split, (4, ((some .int), [(0, 9, 12, 21), (0, 9, 15, 15), (0, 9, 18, 23)])))), (yL_surrender, (cL_surrender, (4, ((some .int), [(0, 9, 12, 21), (0, 9, 15, 15), (0, 9, 18, 23)])))), (yL_cardAt, (cL_cardAt, (6, ((some .int), [(0, 12, 15, 21), (0, 12, 19, 86)])))), (yL_dealerAt, (cL_dealerAt, (4, ((some .int), [(0, 9, 12, 86)])))), (yL_turn, (cL_turn, (3, ((some .int), [(0, 8, 11, 15)]))))]
theorem zMcp_336 : ∀ M ∈ zMc_336, zMP M := List.forall_mem_cons.mpr ⟨zmp_336, List.forall_mem_cons.mpr ⟨zmp_337, List.forall_mem_cons.mpr ⟨zmp_338, List.forall_mem_cons.mpr ⟨zmp_339, List.forall_mem_cons.mpr ⟨zmp_340, List.forall_mem_cons.mpr ⟨zmp_341, List.forall_mem_cons.mpr ⟨zmp_342, List.forall_mem_cons.mpr ⟨zmp_343, List.forall_mem_cons.mpr ⟨zmp_344, List.forall_mem_cons.mpr ⟨zmp_345, List.forall_mem_cons.mpr ⟨zmp_346, List.forall_mem_cons.mpr ⟨zmp_347, List.forall_mem_cons.mpr ⟨zmp_348, List.forall_mem_cons.mpr ⟨zmp_349, List.forall_mem_cons.mpr ⟨zmp_350, List.forall_mem_cons.mpr ⟨zmp_351, fun _ h => nomatch h⟩⟩⟩⟩⟩⟩⟩⟩⟩⟩⟩⟩⟩⟩⟩⟩
def zMc_352 : List zm_M := [(yL_left, (cL_left, (4, ((some .int), [(0, 9, 12, 13)])))), (yL_bustOver, (cL_bustOver, (4, ((some .int), [(0, 8, 11, 13), (0, 8, 14, 101)])))), (yL_bustUnder, (cL_bustUnder, (4, ((some .int), [(0, 8, 11, 13), (0, 8, 14, 101)])))), (yL_dealerEnds, (cL_dealerEnds, (4, ((some .int), [(0, 8, 11, 13), (0, 8, 14, 15)])))), (yL_weigh, (cL_weigh, (5, ((some .int), [(0, 10, 13, 13)])))), (yL_trueCount, (cL_trueCount, (3, ((some .int), [(0, 8, 11, 101)])))), (yL_isSuspected, (cL_isSuspected, (4, ((some .int), [(0, 16, 19, 21)])))), (yL_wager, (cL_wager, (7, ((some .int), [(0, 14, 17, 21), (0, 14, 21, 13), (0, 14, 25, 23), (0, 14, 29, 15)])))), (yL_spin, (cL_spin, (4, ((some .int), [(0, 9, 12, 13)])))), (yL_stops, (cL_stops, (5, ((some .int), [(0, 10, 13, 21), (0, 10, 17, 13), (0, 10, 21, 15)])))), (yL_pays, (cL_pays, (5, ((some .int), [(0, 10, 13, 13), (0, 10, 17, 15)])))), (yL_bound, (cL_bound, (4, ((some .int), [(0, 9, 12, 13), (0, 9, 15, 15)])))), (yL_pull, (cL_pull, (5, ((some .int), [(0, 10, 13, 21), (0, 10, 17, 13), (0, 10, 21, 23), (0, 10, 25, 15)])))), (yL_stop, (cL_stop, (4, ((some .int), [(0, 9, 12, 13), (0, 9, 15, 15)])))), (yL_tilt, (cL_tilt, (3, ((some .int), [(0, 8, 11, 15)])))), (yL_recover, (cL_recover, (3, ((some .int), [(0, 8, 11, 15)]))))]
theorem zMcp_352 : ∀ M ∈ zMc_352, zMP M := List.forall_mem_cons.mpr ⟨zmp_352, List.forall_mem_cons.mpr ⟨zmp_353, List.forall_mem_cons.mpr ⟨zmp_354, List.forall_mem_cons.mpr ⟨zmp_355, List.forall_mem_cons.mpr ⟨zmp_356, List.forall_mem_cons.mpr ⟨zmp_357, List.forall_mem_cons.mpr ⟨zmp_358, List.forall_mem_cons.mpr ⟨zmp_359, List.forall_mem_cons.mpr ⟨zmp_360, List.forall_mem_cons.mpr ⟨zmp_361, List.forall_mem_cons.mpr ⟨zmp_362, List.forall_mem_cons.mpr ⟨zmp_363, List.forall_mem_cons.mpr ⟨zmp_364, List.forall_mem_cons.mpr ⟨zmp_365, List.forall_mem_cons.mpr ⟨zmp_366, List.forall_mem_cons.mpr ⟨zmp_367, fun _ h => nomatch h⟩⟩⟩⟩⟩⟩⟩⟩⟩⟩⟩⟩⟩⟩⟩⟩
def zMc_368 : List zm_M := [(yL_ticket, (cL_ticket, (5, ((some .int), [(0, 10, 13, 21), (0, 10, 17, 13), (0, 10, 21, 23), (0, 10, 25, 15)])))), (yL_draw, (cL_draw, (4, ((some .int), [(0, 9, 12, 13)])))), (yL_confirm, (cL_confirm, (3, ((some .int), [(0, 8, 11, 15)])))), (yL_claim, (cL_claim, (4, ((some .int), [(0, 9, 12, 21), (0, 9, 15, 86)])))), (yL_money, (cL_money, (4, ((some .int), [(0, 9, 12, 21)])))), (yL_chips, (cL_chips, (4, ((some .int), [(0, 9, 12, 21)])))), (yL_isBarred, (cL_isBarred, (4, ((some .int), [(0, 16, 19, 21)])))), (yL_staked, (cL_staked, (4, ((some .int), [(0, 9, 12, 21)])))), (yL_reports, (cL_reports, (4, ((some .int), [(0, 9, 12, 21)])))), (yL_tray, (cL_tray, (4, ((some .int), [(0, 9, 12, 21)])))), (yL_ruinOver, (cL_ruinOver, (5, ((some .int), [(0, 9, 12, 13)])))), (yL_ruinUnder, (cL_ruinUnder, (5, ((some .int), [(0, 9, 12, 13)])))), (yL_barredShare, (cL_barredShare, (3, ((some .int), [(0, 8, 11, 101)])))), (yL_meanChips, (cL_meanChips, (3, ((some .int), [(0, 7, 10, 101)]))))]
theorem zMcp_368 : ∀ M ∈ zMc_368, zMP M := List.forall_mem_cons.mpr ⟨zmp_368, List.forall_mem_cons.mpr ⟨zmp_369, List.forall_mem_cons.mpr ⟨zmp_370, List.forall_mem_cons.mpr ⟨zmp_371, List.forall_mem_cons.mpr ⟨zmp_372, List.forall_mem_cons.mpr ⟨zmp_373, List.forall_mem_cons.mpr ⟨zmp_374, List.forall_mem_cons.mpr ⟨zmp_375, List.forall_mem_cons.mpr ⟨zmp_376, List.forall_mem_cons.mpr ⟨zmp_377, List.forall_mem_cons.mpr ⟨zmp_378, List.forall_mem_cons.mpr ⟨zmp_379, List.forall_mem_cons.mpr ⟨zmp_380, List.forall_mem_cons.mpr ⟨zmp_381, fun _ h => nomatch h⟩⟩⟩⟩⟩⟩⟩⟩⟩⟩⟩⟩⟩⟩
set_option maxRecDepth 100000 in
theorem zMM0_e : zMM0 = zMc_0 ++ (zMc_16 ++ (zMc_32 ++ (zMc_48 ++ (zMc_64 ++ (zMc_80 ++ (zMc_96 ++ (zMc_112 ++ (zMc_128 ++ (zMc_144 ++ (zMc_160 ++ (zMc_176 ++ (zMc_192 ++ (zMc_208 ++ (zMc_224 ++ (zMc_240 ++ (zMc_256 ++ (zMc_272 ++ (zMc_288 ++ (zMc_304 ++ (zMc_320 ++ (zMc_336 ++ (zMc_352 ++ (zMc_368))))))))))))))))))))))) := rfl
theorem zMM0_ok : ∀ M ∈ zMM0, zMP M := by
  rw [zMM0_e]
  exact List.forall_mem_append.mpr ⟨zMcp_0, List.forall_mem_append.mpr ⟨zMcp_16, List.forall_mem_append.mpr ⟨zMcp_32, List.forall_mem_append.mpr ⟨zMcp_48, List.forall_mem_append.mpr ⟨zMcp_64, List.forall_mem_append.mpr ⟨zMcp_80, List.forall_mem_append.mpr ⟨zMcp_96, List.forall_mem_append.mpr ⟨zMcp_112, List.forall_mem_append.mpr ⟨zMcp_128, List.forall_mem_append.mpr ⟨zMcp_144, List.forall_mem_append.mpr ⟨zMcp_160, List.forall_mem_append.mpr ⟨zMcp_176, List.forall_mem_append.mpr ⟨zMcp_192, List.forall_mem_append.mpr ⟨zMcp_208, List.forall_mem_append.mpr ⟨zMcp_224, List.forall_mem_append.mpr ⟨zMcp_240, List.forall_mem_append.mpr ⟨zMcp_256, List.forall_mem_append.mpr ⟨zMcp_272, List.forall_mem_append.mpr ⟨zMcp_288, List.forall_mem_append.mpr ⟨zMcp_304, List.forall_mem_append.mpr ⟨zMcp_320, List.forall_mem_append.mpr ⟨zMcp_336, List.forall_mem_append.mpr ⟨zMcp_352, zMcp_368⟩⟩⟩⟩⟩⟩⟩⟩⟩⟩⟩⟩⟩⟩⟩⟩⟩⟩⟩⟩⟩⟩⟩
theorem zMM0_len : zMM0.length = 382 := by decide +kernel
theorem zM_ok {m : Nat} (hl : m < 382) : zMP (zMM m) := by
  have h0 : m < zMM0.length := by rw [zMM0_len]; exact hl
  have e : zMM m = zMM0[m] := by
    unfold zMM zMMl
    rw [List.getD_eq_getElem?_getD, List.getElem?_append_left h0, List.getElem?_eq_getElem h0]
    rfl
  rw [e]
  exact zMM0_ok _ (List.getElem_mem h0)
abbrev zCr : Type := String × (Nat × (Nat × (Nat × ((Nat × Nat) × ((Nat × Nat) × ((Nat × Nat) × String))))))
set_option maxRecDepth 100000 in
def zCT : List zCr := [("ShoeHouse$CardTable", (17, (33, (2, ((1, 216), ((1, 217), ((99, 0), "ShoeHouse"))))))),
  ("ShoeHouse$CardTable", (30, (68, (2, ((2, 12), ((2, 13), ((99, 0), "ShoeHouse"))))))),
  ("ShoeHouse$CardTable", (44, (69, (1, ((5, 157), ((5, 107), ((5, 108), ""))))))),
  ("ShoeHouse$CardTable", (52, (70, (1, ((3, 55), ((3, 56), ((3, 57), ""))))))),
  ("ShoeHouse$CardTable", (59, (79, (5, ((4, 76), ((4, 77), ((4, 78), ""))))))),
  ("ShoeHouse$CardTable", (63, (77, (1, ((5, 58), ((5, 59), ((5, 60), ""))))))),
  ("ShoeHouse$CardTable", (66, (35, (1, ((5, 63), ((4, 85), ((4, 86), ""))))))),
  ("ShoeHouse$CardTable", (67, (73, (1, ((4, 120), ((4, 121), ((4, 122), ""))))))),
  ("ShoeHouse$CardTable", (71, (5, (1, ((5, 163), ((5, 55), ((5, 56), ""))))))),
  ("ShoeHouse$CardTable", (72, (8, (1, ((5, 164), ((5, 166), ((0, 22), ""))))))),
  ("ShoeHouse$CardTable", (75, (90, (1, ((4, 163), ((4, 164), ((4, 165), ""))))))),
  ("ShoeHouse$CardTable", (80, (34, (5, ((4, 171), ((4, 172), ((4, 173), ""))))))),
  ("ShoeHouse$CardTable", (84, (91, (1, ((5, 168), ((5, 169), ((5, 170), ""))))))),
  ("ShoeHouse$CardTable", (90, (75, (1, ((4, 183), ((4, 142), ((4, 143), ""))))))),
  ("ShoeHouse$CardTable", (93, (40, (1, ((4, 184), ((4, 146), ((4, 147), ""))))))),
  ("ShoeHouse$CardTable", (97, (36, (5, ((5, 172), ((3, 105), ((3, 106), ""))))))),
  ("ShoeHouse$CardTable", (101, (37, (1, ((4, 157), ((4, 150), ((4, 151), ""))))))),
  ("ShoeHouse$CardTable", (104, (41, (1, ((4, 189), ((4, 190), ((4, 191), ""))))))),
  ("ShoeHouse$CardTable", (107, (103, (5, ((4, 193), ((4, 194), ((4, 195), ""))))))),
  ("ShoeHouse$CardTable", (118, (6, (1, ((4, 116), ((4, 117), ((4, 118), ""))))))),
  ("ShoeHouse$CardTable", (121, (92, (1, ((4, 124), ((4, 125), ((4, 126), ""))))))),
  ("ShoeHouse$CardTable", (124, (12, (1, ((4, 132), ((4, 134), ((0, 11), ""))))))),
  ("ShoeHouse$CardTable", (127, (14, (9, ((4, 175), ((4, 177), ((0, 14), ""))))))),
  ("ShoeHouse$CardTable", (133, (78, (1, ((4, 205), ((4, 206), ((4, 207), ""))))))),
  ("ShoeHouse$CardTable", (136, (76, (1, ((4, 136), ((4, 137), ((4, 138), ""))))))),
  ("ShoeHouse$CardTable", (139, (13, (1, ((4, 153), ((4, 155), ((0, 12), ""))))))),
  ("ShoeHouse$CardTable", (142, (82, (1, ((4, 162), ((3, 73), ((3, 74), ""))))))),
  ("ShoeHouse$CardTable", (145, (38, (1, ((4, 158), ((4, 159), ((4, 160), ""))))))),
  ("ShoeHouse$CardTable", (151, (15, (9, ((4, 179), ((4, 181), ((0, 15), ""))))))),
  ("ShoeHouse$CardTable", (155, (104, (5, ((4, 197), ((4, 198), ((4, 199), ""))))))),
  ("ShoeHouse$CardTable", (158, (16, (5, ((4, 185), ((4, 187), ((0, 16), ""))))))),
  ("ShoeHouse$DealerOdds", (21, (93, (5, ((3, 103), ((3, 81), ((3, 82), ""))))))),
  ("ShoeHouse$DealerOdds", (40, (36, (5, ((3, 104), ((3, 105), ((3, 106), ""))))))),
  ("ShoeHouse$DealerOdds", (45, (19, (20, ((3, 108), ((3, 109), ((99, 0), ""))))))),
  ("ShoeHouse$DealerOdds", (49, (327, (8, ((3, 111), ((3, 112), ((99, 0), ""))))))),
  ("ShoeHouse$Guest", (23, (21, (5, ((5, 119), ((3, 92), ((3, 93), ""))))))),
  ("ShoeHouse$Guest", (56, (325, (8, ((4, 229), ((4, 230), ((99, 0), ""))))))),
  ("ShoeHouse$Guest", (62, (328, (8, ((4, 111), ((2, 113), ((99, 0), ""))))))),
  ("ShoeHouse$Hand", (24, (37, (1, ((4, 149), ((4, 150), ((4, 151), ""))))))),
  ("ShoeHouse$Hand", (28, (36, (5, ((5, 231), ((3, 105), ((3, 106), ""))))))),
  ("ShoeHouse$Hand", (41, (35, (1, ((4, 84), ((4, 85), ((4, 86), ""))))))),
  ("ShoeHouse$Lottery", (19, (324, (4, ((7, 38), ((7, 39), ((99, 0), ""))))))),
  ("ShoeHouse$Lottery", (35, (48, (5, ((7, 69), ((7, 71), ((0, 30), ""))))))),
  ("ShoeHouse$Lottery", (38, (51, (13, ((7, 85), ((7, 87), ((0, 31), ""))))))),
  ("ShoeHouse$Lottery", (42, (49, (5, ((7, 89), ((7, 66), ((7, 67), ""))))))),
  ("ShoeHouse$Lottery", (45, (29, (9, ((7, 90), ((7, 91), ((7, 92), ""))))))),
  ("ShoeHouse$Lottery", (49, (31, (1, ((4, 106), ((3, 44), ((3, 45), ""))))))),
  ("ShoeHouse$Lottery", (53, (32, (1, ((4, 107), ((4, 108), ((4, 109), ""))))))),
  ("ShoeHouse$Machine", (24, (328, (8, ((2, 112), ((2, 113), ((99, 0), ""))))))),
  ("ShoeHouse$Machine", (30, (56, (12, ((6, 185), ((6, 186), ((99, 0), ""))))))),
  ("ShoeHouse$Machine", (45, (60, (5, ((2, 226), ((2, 228), ((0, 2), ""))))))),
  ("ShoeHouse$Machine", (55, (59, (9, ((2, 222), ((2, 224), ((0, 1), ""))))))),
  ("ShoeHouse$Machine", (59, (103, (5, ((7, 8), ((4, 194), ((4, 195), ""))))))),
  ("ShoeHouse$Machine", (65, (104, (5, ((7, 9), ((4, 198), ((4, 199), ""))))))),
  ("ShoeHouse$Machine", (73, (58, (5, ((4, 101), ((3, 64), ((3, 65), ""))))))),
  ("ShoeHouse$Machine", (77, (67, (9, ((2, 218), ((2, 220), ((0, 0), ""))))))),
  ("ShoeHouse$Seat", (9, (33, (2, ((2, 17), ((1, 217), ((99, 0), "ShoeHouse"))))))),
  ("ShoeHouse$Seat", (19, (70, (1, ((4, 140), ((3, 56), ((3, 57), ""))))))),
  ("ShoeHouse$Seat", (41, (36, (5, ((5, 237), ((3, 105), ((3, 106), ""))))))),
  ("ShoeHouse$Seat", (48, (35, (1, ((5, 62), ((4, 85), ((4, 86), ""))))))),
  ("ShoeHouse$Seat", (51, (34, (5, ((5, 238), ((4, 172), ((4, 173), ""))))))),
  ("ShoeHouse$Seat", (55, (40, (1, ((4, 145), ((4, 146), ((4, 147), ""))))))),
  ("ShoeHouse$Seat", (59, (75, (1, ((4, 141), ((4, 142), ((4, 143), ""))))))),
  ("ShoeHouse$Seat", (60, (42, (5, ((4, 80), ((4, 81), ((4, 82), ""))))))),
  ("ShoeHouse$Shoe", (37, (328, (8, ((5, 53), ((2, 113), ((99, 0), ""))))))),
  ("ShoeHouse$Shoe", (43, (81, (4, ((3, 84), ((3, 85), ((99, 0), ""))))))),
  ("ShoeHouse$Shoe", (47, (82, (1, ((3, 72), ((3, 73), ((3, 74), ""))))))),
  ("ShoeHouse$Shoe", (51, (83, (5, ((3, 76), ((3, 77), ((3, 78), ""))))))),
  ("ShoeHouse$Shoe", (54, (87, (5, ((5, 77), ((5, 79), ((0, 19), ""))))))),
  ("ShoeHouse$Shoe", (58, (88, (1, ((4, 167), ((4, 169), ((0, 13), ""))))))),
  ("ShoeHouse$Shoe", (61, (89, (5, ((4, 128), ((4, 130), ((0, 10), ""))))))),
  ("ShoeHouse$Shoe", (64, (93, (5, ((3, 80), ((3, 81), ((3, 82), ""))))))),
  ("ShoeHouse$Shoe", (67, (94, (5, ((5, 129), ((5, 130), ((5, 131), ""))))))),
  ("ShoeHouse$Shoe", (70, (95, (1, ((5, 125), ((5, 126), ((5, 127), ""))))))),
  ("ShoeHouse$Shoe", (73, (97, (1, ((5, 133), ((2, 199), ((2, 200), ""))))))),
  ("ShoeHouse$Tray", (26, (101, (5, ((4, 201), ((4, 202), ((4, 203), ""))))))),
  ("ShoeHouse$Wheel", (30, (110, (4, ((6, 169), ((6, 170), ((99, 0), ""))))))),
  ("ShoeHouse$Wheel", (38, (111, (12, ((6, 166), ((6, 167), ((99, 0), ""))))))),
  ("ShoeHouse$Wheel", (42, (103, (5, ((6, 172), ((4, 194), ((4, 195), ""))))))),
  ("ShoeHouse$Wheel", (48, (104, (5, ((6, 173), ((4, 198), ((4, 199), ""))))))),
  ("ShoeHouse$Wheel", (54, (115, (5, ((4, 92), ((3, 60), ((3, 61), ""))))))),
  ("ShoeHouse$Wheel", (58, (113, (17, ((4, 93), ((4, 94), ((4, 95), ""))))))),
  ("ShoeHouse", (23, (107, (2, ((1, 45), ((1, 46), ((99, 0), "ShoeHouse"))))))),
  ("ShoeHouse", (30, (80, (2, ((1, 58), ((1, 59), ((99, 0), "ShoeHouse"))))))),
  ("ShoeHouse", (37, (17, (2, ((1, 90), ((1, 91), ((99, 0), "ShoeHouse"))))))),
  ("ShoeHouse", (44, (43, (2, ((1, 106), ((1, 107), ((99, 0), "ShoeHouse"))))))),
  ("ShoeHouse", (49, (20, (2, ((1, 131), ((1, 132), ((99, 0), "ShoeHouse"))))))),
  ("ShoeHouse", (50, (100, (6, ((1, 185), ((1, 186), ((99, 0), ""))))))),
  ("ShoeHouse", (55, (0, (10, ((1, 208), ((1, 209), ((99, 0), ""))))))),
  ("ShoeHouse", (64, (108, (6, ((2, 80), ((2, 81), ((99, 0), ""))))))),
  ("ShoeHouse", (73, (53, (6, ((2, 108), ((2, 109), ((99, 0), ""))))))),
  ("ShoeHouse", (79, (198, (12, ((3, 125), ((3, 126), ((99, 0), ""))))))),
  ("ShoeHouse", (97, (183, (5, ((4, 8), ((4, 10), ((0, 9), ""))))))),
  ("ShoeHouse", (109, (24, (5, ((4, 41), ((4, 42), ((4, 43), ""))))))),
  ("ShoeHouse", (116, (25, (5, ((4, 60), ((4, 61), ((4, 62), ""))))))),
  ("ShoeHouse", (133, (4, (5, ((4, 72), ((4, 73), ((4, 74), ""))))))),
  ("ShoeHouse", (137, (116, (5, ((4, 88), ((4, 89), ((4, 90), ""))))))),
  ("ShoeHouse", (138, (65, (5, ((4, 97), ((4, 98), ((4, 99), ""))))))),
  ("ShoeHouse", (139, (52, (5, ((4, 102), ((4, 103), ((4, 104), ""))))))),
  ("ShoeHouse", (142, (11, (1, ((4, 112), ((4, 113), ((4, 114), ""))))))),
  ("ShoeHouse", (149, (57, (1, ((4, 216), ((4, 217), ((4, 218), ""))))))),
  ("ShoeHouse", (155, (26, (1, ((4, 221), ((4, 222), ((4, 223), ""))))))),
  ("ShoeHouse", (161, (30, (5, ((4, 225), ((4, 226), ((4, 227), ""))))))),
  ("ShoeHouse", (165, (184, (5, ((4, 239), ((5, 1), ((0, 17), ""))))))),
  ("ShoeHouse", (171, (101, (5, ((5, 5), ((4, 202), ((4, 203), ""))))))),
  ("ShoeHouse", (177, (102, (5, ((5, 14), ((5, 15), ((5, 16), ""))))))),
  ("ShoeHouse", (180, (105, (1, ((2, 186), ((2, 187), ((2, 188), ""))))))),
  ("ShoeHouse", (184, (106, (1, ((2, 190), ((2, 191), ((2, 192), ""))))))),
  ("ShoeHouse", (189, (192, (1, ((5, 33), ((5, 35), ((0, 18), ""))))))),
  ("ShoeHouse", (192, (1, (9, ((5, 38), ((5, 39), ((5, 40), ""))))))),
  ("ShoeHouse", (196, (84, (5, ((5, 49), ((5, 50), ((5, 51), ""))))))),
  ("ShoeHouse", (199, (5, (1, ((5, 54), ((5, 55), ((5, 56), ""))))))),
  ("ShoeHouse", (202, (82, (1, ((5, 64), ((3, 73), ((3, 74), ""))))))),
  ("ShoeHouse", (207, (85, (5, ((5, 73), ((5, 74), ((5, 75), ""))))))),
  ("ShoeHouse", (210, (83, (5, ((5, 81), ((3, 77), ((3, 78), ""))))))),
  ("ShoeHouse", (215, (86, (5, ((5, 90), ((5, 91), ((5, 92), ""))))))),
  ("ShoeHouse", (219, (185, (5, ((5, 101), ((5, 103), ((0, 20), ""))))))),
  ("ShoeHouse", (223, (69, (1, ((5, 106), ((5, 107), ((5, 108), ""))))))),
  ("ShoeHouse", (230, (188, (9, ((5, 111), ((5, 113), ((0, 21), ""))))))),
  ("ShoeHouse", (234, (98, (1, ((5, 121), ((5, 122), ((5, 123), ""))))))),
  ("ShoeHouse", (237, (27, (9, ((5, 134), ((5, 135), ((5, 136), ""))))))),
  ("ShoeHouse", (241, (23, (5, ((5, 138), ((5, 139), ((5, 140), ""))))))),
  ("ShoeHouse", (244, (71, (9, ((5, 142), ((5, 143), ((5, 144), ""))))))),
  ("ShoeHouse", (247, (2, (1, ((5, 153), ((5, 154), ((5, 155), ""))))))),
  ("ShoeHouse", (252, (7, (1, ((5, 159), ((5, 160), ((5, 161), ""))))))),
  ("ShoeHouse", (255, (186, (5, ((5, 180), ((5, 182), ((0, 23), ""))))))),
  ("ShoeHouse", (259, (189, (5, ((5, 192), ((5, 194), ((0, 25), ""))))))),
  ("ShoeHouse", (262, (9, (5, ((5, 197), ((5, 198), ((5, 199), ""))))))),
  ("ShoeHouse", (271, (6, (1, ((5, 190), ((4, 117), ((4, 118), ""))))))),
  ("ShoeHouse", (287, (187, (9, ((5, 216), ((5, 218), ((0, 26), ""))))))),
  ("ShoeHouse", (291, (39, (1, ((5, 227), ((5, 228), ((5, 229), ""))))))),
  ("ShoeHouse", (296, (74, (1, ((5, 233), ((5, 234), ((5, 235), ""))))))),
  ("ShoeHouse", (311, (10, (9, ((6, 7), ((6, 8), ((6, 9), ""))))))),
  ("ShoeHouse", (315, (72, (5, ((6, 19), ((6, 20), ((6, 21), ""))))))),
  ("ShoeHouse", (323, (36, (5, ((6, 24), ((3, 105), ((3, 106), ""))))))),
  ("ShoeHouse", (334, (191, (1, ((5, 184), ((5, 186), ((0, 24), ""))))))),
  ("ShoeHouse", (337, (93, (5, ((6, 63), ((3, 81), ((3, 82), ""))))))),
  ("ShoeHouse", (340, (190, (1, ((6, 85), ((6, 87), ((0, 27), ""))))))),
  ("ShoeHouse", (343, (94, (5, ((6, 93), ((5, 130), ((5, 131), ""))))))),
  ("ShoeHouse", (346, (95, (1, ((6, 89), ((5, 126), ((5, 127), ""))))))),
  ("ShoeHouse", (349, (204, (8, ((2, 231), ((2, 232), ((99, 0), ""))))))),
  ("ShoeHouse", (353, (205, (8, ((3, 1), ((3, 2), ((99, 0), ""))))))),
  ("ShoeHouse", (356, (18, (9, ((3, 99), ((3, 100), ((3, 101), ""))))))),
  ("ShoeHouse", (360, (96, (9, ((6, 115), ((6, 116), ((6, 117), ""))))))),
  ("ShoeHouse", (364, (97, (1, ((2, 198), ((2, 199), ((2, 200), ""))))))),
  ("ShoeHouse", (367, (28, (1, ((6, 133), ((6, 134), ((6, 135), ""))))))),
  ("ShoeHouse", (373, (109, (8, ((6, 145), ((6, 146), ((99, 0), ""))))))),
  ("ShoeHouse", (379, (112, (1, ((6, 149), ((6, 150), ((6, 151), ""))))))),
  ("ShoeHouse", (384, (113, (17, ((6, 154), ((4, 94), ((4, 95), ""))))))),
  ("ShoeHouse", (389, (114, (5, ((6, 162), ((6, 163), ((6, 164), ""))))))),
  ("ShoeHouse", (394, (54, (4, ((6, 182), ((6, 183), ((99, 0), ""))))))),
  ("ShoeHouse", (400, (194, (1, ((6, 189), ((6, 191), ((0, 28), ""))))))),
  ("ShoeHouse", (403, (61, (9, ((6, 194), ((6, 195), ((6, 196), ""))))))),
  ("ShoeHouse", (406, (62, (9, ((6, 205), ((6, 206), ((6, 207), ""))))))),
  ("ShoeHouse", (418, (63, (9, ((6, 224), ((6, 225), ((6, 226), ""))))))),
  ("ShoeHouse", (421, (55, (4, ((6, 235), ((6, 236), ((99, 0), ""))))))),
  ("ShoeHouse", (426, (193, (1, ((6, 239), ((7, 1), ((0, 29), ""))))))),
  ("ShoeHouse", (429, (64, (5, ((7, 4), ((7, 5), ((7, 6), ""))))))),
  ("ShoeHouse", (441, (66, (1, ((2, 214), ((2, 215), ((2, 216), ""))))))),
  ("ShoeHouse", (446, (196, (4, ((7, 32), ((7, 33), ((99, 0), ""))))))),
  ("ShoeHouse", (449, (45, (1, ((7, 45), ((7, 46), ((7, 47), ""))))))),
  ("ShoeHouse", (452, (46, (1, ((7, 49), ((7, 50), ((7, 51), ""))))))),
  ("ShoeHouse", (457, (44, (4, ((7, 35), ((7, 36), ((99, 0), ""))))))),
  ("ShoeHouse", (460, (47, (9, ((7, 54), ((7, 55), ((7, 56), ""))))))),
  ("ShoeHouse", (469, (49, (5, ((7, 65), ((7, 66), ((7, 67), ""))))))),
  ("ShoeHouse", (474, (50, (5, ((7, 81), ((7, 82), ((7, 83), ""))))))),
  ("ShoeHouse", (477, (31, (1, ((3, 43), ((3, 44), ((3, 45), ""))))))),
  ("ShoeHouse", (482, (32, (1, ((7, 102), ((4, 108), ((4, 109), ""))))))),
  ("ShoeHouse", (485, (21, (5, ((3, 91), ((3, 92), ((3, 93), ""))))))),
  ("ShoeHouse", (494, (197, (8, ((7, 152), ((7, 153), ((99, 0), ""))))))),
  ("ShoeHouse", (498, (208, (8, ((7, 155), ((7, 156), ((99, 0), ""))))))),
  ("ShoeHouse", (502, (207, (8, ((7, 158), ((7, 159), ((99, 0), ""))))))),
  ("ShoeHouse", (510, (209, (4, ((3, 27), ((3, 28), ((99, 0), ""))))))),
  ("ShoeHouse", (514, (195, (1, ((7, 175), ((7, 177), ((0, 32), ""))))))),
  ("ShoeHouse", (517, (199, (1, ((3, 39), ((3, 41), ((0, 4), ""))))))),
  ("ShoeHouse", (520, (200, (1, ((3, 35), ((3, 37), ((0, 3), ""))))))),
  ("ShoeHouse", (523, (99, (1, ((3, 68), ((3, 69), ((3, 70), ""))))))),
  ("ShoeHouse", (526, (202, (1, ((3, 87), ((3, 89), ((0, 6), ""))))))),
  ("ShoeHouse", (529, (203, (1, ((3, 95), ((3, 97), ((0, 7), ""))))))),
  ("ShoeHouse", (542, (73, (1, ((5, 189), ((4, 121), ((4, 122), ""))))))),
  ("ShoeHouse", (551, (22, (9, ((5, 115), ((5, 116), ((5, 117), ""))))))),
  ("ShoeHouse", (578, (201, (5, ((3, 47), ((3, 49), ((0, 5), ""))))))),
  ("ShoeHouse", (582, (3, (5, ((3, 51), ((3, 52), ((3, 53), ""))))))),
  ("ShoeHouse", (583, (115, (5, ((3, 59), ((3, 60), ((3, 61), ""))))))),
  ("ShoeHouse", (584, (58, (5, ((3, 63), ((3, 64), ((3, 65), ""))))))),
  ("ShoeHouse", (589, (206, (8, ((2, 234), ((2, 235), ((99, 0), ""))))))),
  ("ShoeHouseModel", (128, (213, (12, ((8, 119), ((8, 120), ((99, 0), ""))))))),
  ("ShoeHouseModel", (133, (212, (9, ((8, 122), ((8, 124), ((0, 33), ""))))))),
  ("ShoeHouseModel", (137, (214, (5, ((8, 130), ((8, 132), ((0, 34), ""))))))),
  ("ShoeHouseModel", (141, (327, (8, ((8, 142), ((3, 112), ((99, 0), ""))))))),
  ("ShoeHouseModel", (150, (219, (5, ((9, 24), ((9, 26), ((0, 49), ""))))))),
  ("ShoeHouseModel", (153, (326, (8, ((8, 196), ((8, 197), ((99, 0), ""))))))),
  ("ShoeHouseModel", (181, (246, (1, ((8, 150), ((8, 152), ((0, 35), ""))))))),
  ("ShoeHouseModel", (185, (249, (1, ((8, 154), ((8, 156), ((0, 36), ""))))))),
  ("ShoeHouseModel", (188, (225, (4, ((8, 211), ((8, 212), ((99, 0), ""))))))),
  ("ShoeHouseModel", (191, (228, (5, ((8, 222), ((8, 224), ((0, 46), ""))))))),
  ("ShoeHouseModel", (195, (231, (4, ((8, 234), ((8, 235), ((99, 0), ""))))))),
  ("ShoeHouseModel", (205, (233, (4, ((9, 1), ((9, 2), ((99, 0), ""))))))),
  ("ShoeHouseModel", (211, (238, (8, ((8, 166), ((8, 167), ((99, 0), ""))))))),
  ("ShoeHouseModel", (215, (240, (9, ((8, 162), ((8, 164), ((0, 38), ""))))))),
  ("ShoeHouseModel", (218, (242, (5, ((9, 16), ((9, 18), ((0, 47), ""))))))),
  ("ShoeHouseModel", (221, (220, (9, ((9, 20), ((9, 22), ((0, 48), ""))))))),
  ("ShoeHouseModel", (225, (221, (9, ((9, 28), ((9, 30), ((0, 50), ""))))))),
  ("ShoeHouseModel", (228, (265, (1, ((9, 32), ((9, 34), ((0, 51), ""))))))),
  ("ShoeHouseModel", (231, (275, (1, ((9, 36), ((9, 38), ((0, 52), ""))))))),
  ("ShoeHouseModel", (234, (237, (1, ((8, 176), ((8, 178), ((0, 40), ""))))))),
  ("ShoeHouseModel", (237, (244, (9, ((9, 48), ((9, 50), ((0, 54), ""))))))),
  ("ShoeHouseModel", (240, (251, (5, ((8, 180), ((8, 182), ((0, 41), ""))))))),
  ("ShoeHouseModel", (244, (222, (13, ((8, 192), ((8, 194), ((0, 44), ""))))))),
  ("ShoeHouseModel", (248, (241, (5, ((8, 158), ((8, 160), ((0, 37), ""))))))),
  ("ShoeHouseModel", (251, (239, (8, ((8, 169), ((8, 170), ((99, 0), ""))))))),
  ("ShoeHouseModel", (255, (250, (9, ((8, 172), ((8, 174), ((0, 39), ""))))))),
  ("ShoeHouseModel", (259, (252, (17, ((8, 184), ((8, 186), ((0, 42), ""))))))),
  ("ShoeHouseModel", (266, (248, (13, ((8, 188), ((8, 190), ((0, 43), ""))))))),
  ("ShoeHouseModel", (269, (247, (9, ((8, 199), ((8, 201), ((0, 45), ""))))))),
  ("ShoeHouseModel", (272, (253, (5, ((9, 56), ((9, 58), ((0, 55), ""))))))),
  ("ShoeHouseModel", (275, (255, (9, ((9, 60), ((9, 62), ((0, 56), ""))))))),
  ("ShoeHouseModel", (278, (254, (1, ((9, 64), ((9, 66), ((0, 57), ""))))))),
  ("ShoeHouseModel", (281, (264, (5, ((9, 40), ((9, 42), ((0, 53), ""))))))),
  ("ShoeHouseModel", (284, (268, (5, ((9, 108), ((9, 110), ((0, 59), ""))))))),
  ("ShoeHouseModel", (287, (267, (8, ((9, 112), ((9, 113), ((99, 0), ""))))))),
  ("ShoeHouseModel", (291, (269, (9, ((9, 104), ((9, 106), ((0, 58), ""))))))),
  ("ShoeHouseModel", (295, (272, (17, ((9, 123), ((9, 125), ((0, 60), ""))))))),
  ("ShoeHouseModel", (301, (281, (4, ((9, 159), ((9, 160), ((99, 0), ""))))))),
  ("ShoeHouseModel", (304, (282, (12, ((9, 156), ((9, 157), ((99, 0), ""))))))),
  ("ShoeHouseModel", (308, (285, (8, ((9, 169), ((9, 170), ((99, 0), ""))))))),
  ("ShoeHouseModel", (312, (286, (12, ((9, 166), ((9, 167), ((99, 0), ""))))))),
  ("ShoeHouseModel", (315, (284, (1, ((9, 173), ((9, 175), ((0, 61), ""))))))),
  ("ShoeHouseModel", (327, (295, (5, ((9, 209), ((9, 211), ((0, 62), ""))))))),
  ("ShoeHouseModel", (331, (324, (4, ((9, 225), ((7, 39), ((99, 0), ""))))))),
  ("ShoeHouseModel", (336, (298, (4, ((9, 222), ((9, 223), ((99, 0), ""))))))),
  ("ShoeHouseModel", (339, (300, (5, ((9, 230), ((9, 232), ((0, 63), ""))))))),
  ("ShoeHouseModel", (344, (313, (8, ((10, 47), ((10, 48), ((99, 0), ""))))))),
  ("ShoeHouseModel", (350, (314, (13, ((10, 42), ((10, 44), ((0, 64), ""))))))),
  ("ShoeHouseModel", (359, (323, (4, ((10, 66), ((10, 67), ((99, 0), ""))))))),
  ("java/lang/Float", (59, (322, (4, ((10, 69), ((10, 70), ((99, 0), ""))))))),
  ("ShoeHouseLaw", (7, (118, (5, ((3, 120), ((3, 121), ((3, 122), ""))))))),
  ("ShoeHouseLaw", (17, (119, (9, ((4, 4), ((4, 5), ((4, 6), ""))))))),
  ("ShoeHouseLaw", (25, (120, (9, ((4, 48), ((4, 49), ((4, 50), ""))))))),
  ("ShoeHouseLaw", (28, (121, (9, ((4, 56), ((4, 57), ((4, 58), ""))))))),
  ("ShoeHouseLaw", (31, (122, (9, ((4, 67), ((4, 68), ((4, 69), ""))))))),
  ("ShoeHouseLaw", (34, (123, (5, ((4, 212), ((4, 213), ((4, 214), ""))))))),
  ("ShoeHouseLaw", (37, (124, (9, ((4, 235), ((4, 236), ((4, 237), ""))))))),
  ("ShoeHouseLaw", (40, (125, (9, ((5, 9), ((5, 10), ((5, 11), ""))))))),
  ("ShoeHouseLaw", (43, (127, (5, ((5, 21), ((5, 22), ((5, 23), ""))))))),
  ("ShoeHouseLaw", (46, (128, (9, ((5, 28), ((5, 29), ((5, 30), ""))))))),
  ("ShoeHouseLaw", (50, (129, (5, ((5, 45), ((5, 46), ((5, 47), ""))))))),
  ("ShoeHouseLaw", (53, (130, (5, ((5, 68), ((5, 69), ((5, 70), ""))))))),
  ("ShoeHouseLaw", (56, (131, (5, ((5, 85), ((5, 86), ((5, 87), ""))))))),
  ("ShoeHouseLaw", (60, (132, (13, ((5, 97), ((5, 98), ((5, 99), ""))))))),
  ("ShoeHouseLaw", (64, (133, (1, ((5, 149), ((5, 150), ((5, 151), ""))))))),
  ("ShoeHouseLaw", (68, (134, (5, ((5, 176), ((5, 177), ((5, 178), ""))))))),
  ("ShoeHouseLaw", (71, (135, (5, ((5, 204), ((5, 205), ((5, 206), ""))))))),
  ("ShoeHouseLaw", (74, (136, (5, ((5, 211), ((5, 212), ((5, 213), ""))))))),
  ("ShoeHouseLaw", (77, (137, (5, ((5, 223), ((5, 224), ((5, 225), ""))))))),
  ("ShoeHouseLaw", (80, (138, (5, ((6, 2), ((6, 3), ((6, 4), ""))))))),
  ("ShoeHouseLaw", (83, (139, (13, ((6, 15), ((6, 16), ((6, 17), ""))))))),
  ("ShoeHouseLaw", (88, (140, (5, ((6, 44), ((6, 45), ((6, 46), ""))))))),
  ("ShoeHouseLaw", (91, (141, (1, ((6, 52), ((6, 53), ((6, 54), ""))))))),
  ("ShoeHouseLaw", (94, (142, (5, ((6, 59), ((6, 60), ((6, 61), ""))))))),
  ("ShoeHouseLaw", (97, (143, (5, ((6, 81), ((6, 82), ((6, 83), ""))))))),
  ("ShoeHouseLaw", (103, (144, (5, ((6, 97), ((6, 98), ((6, 99), ""))))))),
  ("ShoeHouseLaw", (106, (145, (5, ((6, 104), ((6, 105), ((6, 106), ""))))))),
  ("ShoeHouseLaw", (110, (146, (9, ((6, 111), ((6, 112), ((6, 113), ""))))))),
  ("ShoeHouseLaw", (113, (148, (1, ((6, 122), ((6, 123), ((6, 124), ""))))))),
  ("ShoeHouseLaw", (116, (149, (5, ((6, 129), ((6, 130), ((6, 131), ""))))))),
  ("ShoeHouseLaw", (120, (151, (17, ((6, 141), ((6, 142), ((6, 143), ""))))))),
  ("ShoeHouseLaw", (124, (152, (5, ((6, 158), ((6, 159), ((6, 160), ""))))))),
  ("ShoeHouseLaw", (127, (153, (9, ((6, 177), ((6, 178), ((6, 179), ""))))))),
  ("ShoeHouseLaw", (130, (154, (9, ((6, 201), ((6, 202), ((6, 203), ""))))))),
  ("ShoeHouseLaw", (133, (155, (5, ((6, 212), ((6, 213), ((6, 214), ""))))))),
  ("ShoeHouseLaw", (136, (156, (9, ((6, 219), ((6, 220), ((6, 221), ""))))))),
  ("ShoeHouseLaw", (139, (157, (5, ((6, 231), ((6, 232), ((6, 233), ""))))))),
  ("ShoeHouseLaw", (142, (158, (1, ((7, 13), ((7, 14), ((7, 15), ""))))))),
  ("ShoeHouseLaw", (145, (159, (1, ((7, 20), ((7, 21), ((7, 22), ""))))))),
  ("ShoeHouseLaw", (148, (163, (9, ((7, 28), ((7, 29), ((7, 30), ""))))))),
  ("ShoeHouseLaw", (151, (164, (5, ((7, 61), ((7, 62), ((7, 63), ""))))))),
  ("ShoeHouseLaw", (154, (165, (1, ((7, 76), ((7, 77), ((7, 78), ""))))))),
  ("ShoeHouseLaw", (157, (166, (5, ((7, 97), ((7, 98), ((7, 99), ""))))))),
  ("ShoeHouseLaw", (160, (169, (5, ((7, 106), ((7, 107), ((7, 108), ""))))))),
  ("ShoeHouseLaw", (163, (170, (5, ((7, 113), ((7, 114), ((7, 115), ""))))))),
  ("ShoeHouseLaw", (166, (171, (5, ((7, 120), ((7, 121), ((7, 122), ""))))))),
  ("ShoeHouseLaw", (169, (172, (5, ((7, 127), ((7, 128), ((7, 129), ""))))))),
  ("ShoeHouseLaw", (172, (173, (5, ((7, 134), ((7, 135), ((7, 136), ""))))))),
  ("ShoeHouseLaw", (175, (174, (5, ((7, 141), ((7, 142), ((7, 143), ""))))))),
  ("ShoeHouseLaw", (178, (176, (9, ((7, 148), ((7, 149), ((7, 150), ""))))))),
  ("ShoeHouseLaw", (182, (177, (9, ((7, 164), ((7, 165), ((7, 166), ""))))))),
  ("ShoeHouseLaw", (185, (180, (1, ((7, 171), ((7, 172), ((7, 173), ""))))))),
  ("ShoeHouseLaw", (189, (181, (1, ((7, 183), ((7, 184), ((7, 185), ""))))))),
  ("ShoeHouseLaw", (193, (117, (2, ((1, 33), ((1, 34), ((99, 0), ""))))))),
  ("ShoeHouseLaw", (196, (210, (2, ((7, 189), ((7, 190), ((99, 0), ""))))))),
  ("ShoeHouseLaw", (197, (329, (12, ((3, 115), ((3, 116), ((99, 0), ""))))))),
  ("ShoeHouseLaw", (202, (215, (5, ((8, 114), ((8, 115), ((8, 116), ""))))))),
  ("ShoeHouseLaw", (203, (330, (16, ((3, 216), ((3, 217), ((99, 0), ""))))))),
  ("ShoeHouseLaw", (206, (216, (9, ((8, 126), ((8, 127), ((8, 128), ""))))))),
  ("ShoeHouseLaw", (207, (331, (16, ((4, 45), ((4, 46), ((99, 0), ""))))))),
  ("ShoeHouseLaw", (209, (217, (9, ((8, 134), ((8, 135), ((8, 136), ""))))))),
  ("ShoeHouseLaw", (210, (332, (16, ((4, 53), ((4, 54), ((99, 0), ""))))))),
  ("ShoeHouseLaw", (212, (218, (9, ((8, 138), ((8, 139), ((8, 140), ""))))))),
  ("ShoeHouseLaw", (213, (333, (16, ((4, 64), ((4, 65), ((99, 0), ""))))))),
  ("ShoeHouseLaw", (215, (223, (9, ((8, 143), ((8, 144), ((8, 145), ""))))))),
  ("ShoeHouseLaw", (216, (334, (12, ((4, 209), ((4, 210), ((99, 0), ""))))))),
  ("ShoeHouseLaw", (218, (224, (5, ((8, 203), ((8, 204), ((8, 205), ""))))))),
  ("ShoeHouseLaw", (219, (335, (16, ((4, 232), ((4, 233), ((99, 0), ""))))))),
  ("ShoeHouseLaw", (221, (226, (9, ((8, 207), ((8, 208), ((8, 209), ""))))))),
  ("ShoeHouseLaw", (222, (336, (16, ((5, 6), ((5, 7), ((99, 0), ""))))))),
  ("ShoeHouseLaw", (224, (227, (9, ((8, 214), ((8, 215), ((8, 216), ""))))))),
  ("ShoeHouseLaw", (225, (126, (1, ((2, 182), ((2, 183), ((2, 184), ""))))))),
  ("ShoeHouseLaw", (228, (229, (1, ((8, 218), ((8, 219), ((8, 220), ""))))))),
  ("ShoeHouseLaw", (229, (337, (12, ((5, 18), ((5, 19), ((99, 0), ""))))))),
  ("ShoeHouseLaw", (231, (230, (5, ((8, 226), ((8, 227), ((8, 228), ""))))))),
  ("ShoeHouseLaw", (232, (338, (16, ((5, 25), ((5, 26), ((99, 0), ""))))))),
  ("ShoeHouseLaw", (235, (232, (9, ((8, 230), ((8, 231), ((8, 232), ""))))))),
  ("ShoeHouseLaw", (236, (339, (12, ((5, 42), ((5, 43), ((99, 0), ""))))))),
  ("ShoeHouseLaw", (238, (234, (5, ((8, 237), ((8, 238), ((8, 239), ""))))))),
  ("ShoeHouseLaw", (239, (340, (12, ((5, 65), ((5, 66), ((99, 0), ""))))))),
  ("ShoeHouseLaw", (241, (235, (5, ((9, 4), ((9, 5), ((9, 6), ""))))))),
  ("ShoeHouseLaw", (242, (341, (12, ((5, 82), ((5, 83), ((99, 0), ""))))))),
  ("ShoeHouseLaw", (245, (236, (5, ((9, 8), ((9, 9), ((9, 10), ""))))))),
  ("ShoeHouseLaw", (246, (342, (20, ((5, 94), ((5, 95), ((99, 0), ""))))))),
  ("ShoeHouseLaw", (249, (243, (13, ((9, 12), ((9, 13), ((9, 14), ""))))))),
  ("ShoeHouseLaw", (250, (343, (8, ((5, 146), ((5, 147), ((99, 0), ""))))))),
  ("ShoeHouseLaw", (253, (245, (1, ((9, 44), ((9, 45), ((9, 46), ""))))))),
  ("ShoeHouseLaw", (254, (344, (12, ((5, 173), ((5, 174), ((99, 0), ""))))))),
  ("ShoeHouseLaw", (256, (256, (5, ((9, 52), ((9, 53), ((9, 54), ""))))))),
  ("ShoeHouseLaw", (257, (345, (12, ((5, 201), ((5, 202), ((99, 0), ""))))))),
  ("ShoeHouseLaw", (259, (257, (5, ((9, 68), ((9, 69), ((9, 70), ""))))))),
  ("ShoeHouseLaw", (260, (346, (12, ((5, 208), ((5, 209), ((99, 0), ""))))))),
  ("ShoeHouseLaw", (262, (258, (5, ((9, 72), ((9, 73), ((9, 74), ""))))))),
  ("ShoeHouseLaw", (263, (347, (12, ((5, 220), ((5, 221), ((99, 0), ""))))))),
  ("ShoeHouseLaw", (265, (259, (5, ((9, 76), ((9, 77), ((9, 78), ""))))))),
  ("ShoeHouseLaw", (266, (348, (12, ((5, 239), ((6, 0), ((99, 0), ""))))))),
  ("ShoeHouseLaw", (268, (260, (5, ((9, 80), ((9, 81), ((9, 82), ""))))))),
  ("ShoeHouseLaw", (269, (349, (20, ((6, 11), ((6, 12), ((99, 0), ""))))))),
  ("ShoeHouseLaw", (271, (261, (13, ((9, 84), ((9, 85), ((9, 86), ""))))))),
  ("ShoeHouseLaw", (272, (350, (12, ((6, 41), ((6, 42), ((99, 0), ""))))))),
  ("ShoeHouseLaw", (274, (262, (5, ((9, 88), ((9, 89), ((9, 90), ""))))))),
  ("ShoeHouseLaw", (275, (351, (8, ((6, 49), ((6, 50), ((99, 0), ""))))))),
  ("ShoeHouseLaw", (277, (263, (1, ((9, 92), ((9, 93), ((9, 94), ""))))))),
  ("ShoeHouseLaw", (278, (352, (12, ((6, 56), ((6, 57), ((99, 0), ""))))))),
  ("ShoeHouseLaw", (280, (266, (5, ((9, 96), ((9, 97), ((9, 98), ""))))))),
  ("ShoeHouseLaw", (281, (353, (12, ((6, 64), ((6, 65), ((99, 0), ""))))))),
  ("ShoeHouseLaw", (283, (270, (5, ((9, 100), ((9, 101), ((9, 102), ""))))))),
  ("ShoeHouseLaw", (284, (354, (12, ((6, 94), ((6, 95), ((99, 0), ""))))))),
  ("ShoeHouseLaw", (286, (271, (5, ((9, 115), ((9, 116), ((9, 117), ""))))))),
  ("ShoeHouseLaw", (287, (355, (12, ((6, 101), ((6, 102), ((99, 0), ""))))))),
  ("ShoeHouseLaw", (290, (273, (5, ((9, 119), ((9, 120), ((9, 121), ""))))))),
  ("ShoeHouseLaw", (291, (356, (16, ((6, 108), ((6, 109), ((99, 0), ""))))))),
  ("ShoeHouseLaw", (293, (274, (9, ((9, 127), ((9, 128), ((9, 129), ""))))))),
  ("ShoeHouseLaw", (294, (147, (1, ((2, 194), ((2, 195), ((2, 196), ""))))))),
  ("ShoeHouseLaw", (297, (276, (1, ((9, 131), ((9, 132), ((9, 133), ""))))))),
  ("ShoeHouseLaw", (298, (357, (8, ((6, 119), ((6, 120), ((99, 0), ""))))))),
  ("ShoeHouseLaw", (300, (277, (1, ((9, 135), ((9, 136), ((9, 137), ""))))))),
  ("ShoeHouseLaw", (301, (358, (12, ((6, 126), ((6, 127), ((99, 0), ""))))))),
  ("ShoeHouseLaw", (303, (278, (5, ((9, 139), ((9, 140), ((9, 141), ""))))))),
  ("ShoeHouseLaw", (304, (150, (1, ((2, 202), ((2, 203), ((2, 204), ""))))))),
  ("ShoeHouseLaw", (307, (279, (1, ((9, 144), ((9, 145), ((9, 146), ""))))))),
  ("ShoeHouseLaw", (308, (359, (24, ((6, 138), ((6, 139), ((99, 0), ""))))))),
  ("ShoeHouseLaw", (311, (280, (17, ((9, 148), ((9, 149), ((9, 150), ""))))))),
  ("ShoeHouseLaw", (312, (360, (12, ((6, 155), ((6, 156), ((99, 0), ""))))))),
  ("ShoeHouseLaw", (314, (283, (5, ((9, 152), ((9, 153), ((9, 154), ""))))))),
  ("ShoeHouseLaw", (315, (361, (16, ((6, 174), ((6, 175), ((99, 0), ""))))))),
  ("ShoeHouseLaw", (317, (287, (9, ((9, 162), ((9, 163), ((9, 164), ""))))))),
  ("ShoeHouseLaw", (318, (362, (16, ((6, 198), ((6, 199), ((99, 0), ""))))))),
  ("ShoeHouseLaw", (320, (288, (9, ((9, 177), ((9, 178), ((9, 179), ""))))))),
  ("ShoeHouseLaw", (321, (363, (12, ((6, 209), ((6, 210), ((99, 0), ""))))))),
  ("ShoeHouseLaw", (323, (289, (5, ((9, 181), ((9, 182), ((9, 183), ""))))))),
  ("ShoeHouseLaw", (324, (364, (16, ((6, 216), ((6, 217), ((99, 0), ""))))))),
  ("ShoeHouseLaw", (326, (290, (9, ((9, 185), ((9, 186), ((9, 187), ""))))))),
  ("ShoeHouseLaw", (327, (365, (12, ((6, 228), ((6, 229), ((99, 0), ""))))))),
  ("ShoeHouseLaw", (329, (291, (5, ((9, 189), ((9, 190), ((9, 191), ""))))))),
  ("ShoeHouseLaw", (330, (366, (8, ((7, 10), ((7, 11), ((99, 0), ""))))))),
  ("ShoeHouseLaw", (332, (292, (1, ((9, 193), ((9, 194), ((9, 195), ""))))))),
  ("ShoeHouseLaw", (333, (367, (8, ((7, 17), ((7, 18), ((99, 0), ""))))))),
  ("ShoeHouseLaw", (335, (293, (1, ((9, 197), ((9, 198), ((9, 199), ""))))))),
  ("ShoeHouseLaw", (336, (160, (1, ((2, 206), ((2, 207), ((2, 208), ""))))))),
  ("ShoeHouseLaw", (339, (294, (1, ((9, 201), ((9, 202), ((9, 203), ""))))))),
  ("ShoeHouseLaw", (340, (161, (1, ((2, 210), ((2, 211), ((2, 212), ""))))))),
  ("ShoeHouseLaw", (344, (296, (1, ((9, 205), ((9, 206), ((9, 207), ""))))))),
  ("ShoeHouseLaw", (345, (162, (1, ((2, 237), ((2, 238), ((2, 239), ""))))))),
  ("ShoeHouseLaw", (348, (297, (1, ((9, 214), ((9, 215), ((9, 216), ""))))))),
  ("ShoeHouseLaw", (349, (368, (16, ((7, 25), ((7, 26), ((99, 0), ""))))))),
  ("ShoeHouseLaw", (351, (299, (9, ((9, 218), ((9, 219), ((9, 220), ""))))))),
  ("ShoeHouseLaw", (352, (369, (12, ((7, 58), ((7, 59), ((99, 0), ""))))))),
  ("ShoeHouseLaw", (354, (301, (5, ((9, 226), ((9, 227), ((9, 228), ""))))))),
  ("ShoeHouseLaw", (355, (370, (8, ((7, 73), ((7, 74), ((99, 0), ""))))))),
  ("ShoeHouseLaw", (357, (302, (1, ((9, 234), ((9, 235), ((9, 236), ""))))))),
  ("ShoeHouseLaw", (358, (371, (12, ((7, 94), ((7, 95), ((99, 0), ""))))))),
  ("ShoeHouseLaw", (360, (303, (5, ((9, 238), ((9, 239), ((10, 0), ""))))))),
  ("ShoeHouseLaw", (361, (167, (1, ((3, 4), ((3, 5), ((3, 6), ""))))))),
  ("ShoeHouseLaw", (364, (304, (1, ((10, 2), ((10, 3), ((10, 4), ""))))))),
  ("ShoeHouseLaw", (365, (168, (1, ((3, 8), ((3, 9), ((3, 10), ""))))))),
  ("ShoeHouseLaw", (368, (305, (1, ((10, 6), ((10, 7), ((10, 8), ""))))))),
  ("ShoeHouseLaw", (369, (372, (12, ((7, 103), ((7, 104), ((99, 0), ""))))))),
  ("ShoeHouseLaw", (371, (306, (5, ((10, 10), ((10, 11), ((10, 12), ""))))))),
  ("ShoeHouseLaw", (372, (373, (12, ((7, 110), ((7, 111), ((99, 0), ""))))))),
  ("ShoeHouseLaw", (374, (307, (5, ((10, 14), ((10, 15), ((10, 16), ""))))))),
  ("ShoeHouseLaw", (375, (374, (12, ((7, 117), ((7, 118), ((99, 0), ""))))))),
  ("ShoeHouseLaw", (377, (308, (5, ((10, 18), ((10, 19), ((10, 20), ""))))))),
  ("ShoeHouseLaw", (378, (375, (12, ((7, 124), ((7, 125), ((99, 0), ""))))))),
  ("ShoeHouseLaw", (380, (309, (5, ((10, 22), ((10, 23), ((10, 24), ""))))))),
  ("ShoeHouseLaw", (381, (376, (12, ((7, 131), ((7, 132), ((99, 0), ""))))))),
  ("ShoeHouseLaw", (383, (310, (5, ((10, 26), ((10, 27), ((10, 28), ""))))))),
  ("ShoeHouseLaw", (384, (377, (12, ((7, 138), ((7, 139), ((99, 0), ""))))))),
  ("ShoeHouseLaw", (386, (311, (5, ((10, 30), ((10, 31), ((10, 32), ""))))))),
  ("ShoeHouseLaw", (387, (175, (1, ((3, 12), ((3, 13), ((3, 14), ""))))))),
  ("ShoeHouseLaw", (390, (312, (1, ((10, 34), ((10, 35), ((10, 36), ""))))))),
  ("ShoeHouseLaw", (391, (378, (16, ((7, 145), ((7, 146), ((99, 0), ""))))))),
  ("ShoeHouseLaw", (393, (315, (9, ((10, 38), ((10, 39), ((10, 40), ""))))))),
  ("ShoeHouseLaw", (394, (379, (16, ((7, 161), ((7, 162), ((99, 0), ""))))))),
  ("ShoeHouseLaw", (396, (316, (9, ((10, 51), ((10, 52), ((10, 53), ""))))))),
  ("ShoeHouseLaw", (397, (211, (1, ((8, 110), ((8, 111), ((8, 112), ""))))))),
  ("ShoeHouseLaw", (400, (178, (1, ((3, 16), ((3, 17), ((3, 18), ""))))))),
  ("ShoeHouseLaw", (403, (317, (1, ((10, 55), ((10, 56), ((10, 57), ""))))))),
  ("ShoeHouseLaw", (404, (179, (1, ((3, 22), ((3, 23), ((3, 24), ""))))))),
  ("ShoeHouseLaw", (407, (318, (1, ((10, 61), ((10, 62), ((10, 63), ""))))))),
  ("ShoeHouseLaw", (408, (380, (8, ((7, 168), ((7, 169), ((99, 0), ""))))))),
  ("ShoeHouseLaw", (411, (319, (1, ((10, 76), ((10, 77), ((10, 78), ""))))))),
  ("ShoeHouseLaw", (412, (381, (8, ((7, 180), ((7, 181), ((99, 0), ""))))))),
  ("ShoeHouseLaw", (414, (320, (1, ((10, 80), ((10, 81), ((10, 82), ""))))))),
  ("ShoeHouseLaw", (415, (182, (1, ((3, 31), ((3, 32), ((3, 33), ""))))))),
  ("ShoeHouseLaw", (419, (321, (1, ((10, 84), ((10, 85), ((10, 86), "")))))))]
def zCok (r : zCr) : Bool := decide (r.2.2.1 < 382) && (decide ((parseMethodDescriptor (zm_y (zMM r.2.2.1)).desc).map (fun d => d.parameters.length) = some (r.2.2.2.1 / 4)) && (match r.2.2.2.1 % 4 with
  | 0 => zhas r.2.2.2.2.1 (.methodLink r.1 r.2.1 (zm_y (zMM r.2.2.1))) && zhas r.2.2.2.2.2.1 (.static (zm_y (zMM r.2.2.1)))
  | 1 => zhas r.2.2.2.2.1 (.methodLink r.1 r.2.1 (zm_y (zMM r.2.2.1))) && (zhas r.2.2.2.2.2.1 (.instanceMethod (zm_y (zMM r.2.2.1))) && (zhas r.2.2.2.2.2.2.1 (.selects (zm_o (zMM r.2.2.1)) (zm_y (zMM r.2.2.1)) (zm_y (zMM r.2.2.1))) && (zm_h (zMM r.2.2.1)).isEmpty))
  | _ => (if r.2.2.2.2.2.2.2 = "" then zhas r.2.2.2.2.1 (.methodLink r.1 r.2.1 (zm_y (zMM r.2.2.1))) else zhas r.2.2.2.2.1 (.methodLinkNest r.1 r.2.1 (zm_y (zMM r.2.2.1)) r.2.2.2.2.2.2.2)) && (zhas r.2.2.2.2.2.1 (.instanceMethod (zm_y (zMM r.2.2.1))) && (decide ((zm_y (zMM r.2.2.1)).name = "<init>") && (decide (zm_r (zMM r.2.2.1) = none) && (zm_h (zMM r.2.2.1)).isEmpty)))))
def zCokL : List zCr → Nat → Nat → Bool
  | r :: rs, 0, k + 1 => zCok r && zCokL rs 0 k
  | _ :: rs, n + 1, k => zCokL rs n k
  | _, _, 0 => true
  | _, _, _ => false
theorem zCokL_ok : ∀ {rs : List zCr} {n k : Nat}, zCokL rs n k = true → ∀ (i : Nat) (r : zCr), n ≤ i → i < n + k → rs[i]? = some r → zCok r = true
  | [], n, k, _, i, r, h1, h2, h3 => by cases h3
  | r0 :: rs, 0, 0, _, i, r, h1, h2, h3 => by omega
  | r0 :: rs, 0, k + 1, h, i, r, h1, h2, h3 => by
    simp only [zCokL, Bool.and_eq_true] at h
    cases i with
    | zero => cases h3; exact h.1
    | succ j => exact zCokL_ok h.2 j r (Nat.zero_le _) (by omega) (by simpa using h3)
  | r0 :: rs, n + 1, k, h, i, r, h1, h2, h3 => by
    simp only [zCokL] at h
    cases i with
    | zero => omega
    | succ j => exact zCokL_ok h j r (by omega) (by omega) (by simpa using h3)
set_option maxRecDepth 100000 in
theorem zCT_0 : zCokL zCT 0 60 = true := by decide +kernel
set_option maxRecDepth 100000 in
theorem zCT_60 : zCokL zCT 60 60 = true := by decide +kernel
set_option maxRecDepth 100000 in
theorem zCT_120 : zCokL zCT 120 60 = true := by decide +kernel
set_option maxRecDepth 100000 in
theorem zCT_180 : zCokL zCT 180 60 = true := by decide +kernel
set_option maxRecDepth 100000 in
theorem zCT_240 : zCokL zCT 240 60 = true := by decide +kernel
set_option maxRecDepth 100000 in
theorem zCT_300 : zCokL zCT 300 60 = true := by decide +kernel
set_option maxRecDepth 100000 in
theorem zCT_360 : zCokL zCT 360 60 = true := by decide +kernel
set_option maxRecDepth 100000 in
theorem zCT_420 : zCokL zCT 420 2 = true := by decide +kernel
theorem zCT_len : zCT.length = 422 := by decide +kernel
theorem zCT_ok {i : Nat} {r : zCr} (h : zCT[i]? = some r) : zCok r = true := by
  have hi := (List.getElem?_eq_some_iff.mp h).1
  rw [zCT_len] at hi
  by_cases h0 : 0 ≤ i ∧ i < 60
  · exact zCokL_ok zCT_0 i r h0.1 (by omega) h
  by_cases h60 : 60 ≤ i ∧ i < 120
  · exact zCokL_ok zCT_60 i r h60.1 (by omega) h
  by_cases h120 : 120 ≤ i ∧ i < 180
  · exact zCokL_ok zCT_120 i r h120.1 (by omega) h
  by_cases h180 : 180 ≤ i ∧ i < 240
  · exact zCokL_ok zCT_180 i r h180.1 (by omega) h
  by_cases h240 : 240 ≤ i ∧ i < 300
  · exact zCokL_ok zCT_240 i r h240.1 (by omega) h
  by_cases h300 : 300 ≤ i ∧ i < 360
  · exact zCokL_ok zCT_300 i r h300.1 (by omega) h
  by_cases h360 : 360 ≤ i ∧ i < 420
  · exact zCokL_ok zCT_360 i r h360.1 (by omega) h
  by_cases h420 : 420 ≤ i ∧ i < 422
  · exact zCokL_ok zCT_420 i r h420.1 (by omega) h
  omega
abbrev zKr9 : Type := Nat × (String × (Nat × (Int × (Nat × Nat))))
def zKT : List zKr9 := [(2, ("ShoeHouse$Guest", (54, (3, (6, 137))))), (0, ("ShoeHouse$Vault", (9, (100000, (1, 49))))), (0, ("ShoeHouse", (78, (99999, (3, 124))))), (2, ("ShoeHouse", (444, (512, (2, 230))))), (2, ("ShoeHouse", (505, (7, (3, 20))))), (2, ("ShoeHouse", (507, (31, (3, 21))))), (1, ("ShoeHouse", (509, (1203982336, (3, 26))))), (0, ("ShoeHouse", (581, (100000, (3, 67))))), (3, ("ShoeHouse", (587, (4607182423303617035, (3, 114))))), (1, ("ShoeHouse", (592, (1258291200, (3, 30))))), (0, ("ShoeHouseModel", (108, (100000, (7, 197))))), (0, ("ShoeHouseModel", (132, (99999, (8, 118))))), (2, ("ShoeHouseModel", (299, (3, (9, 143))))), (0, ("ShoeHouseModel", (311, (100000000, (9, 172))))), (2, ("ShoeHouseModel", (325, (512, (9, 213))))), (2, ("ShoeHouseModel", (342, (19, (10, 46))))), (2, ("ShoeHouseModel", (348, (18, (10, 50))))), (2, ("ShoeHouseModel", (354, (7, (10, 59))))), (2, ("ShoeHouseModel", (356, (31, (10, 60))))), (1, ("ShoeHouseModel", (358, (1203982336, (10, 65))))), (0, ("java/lang/Float", (77, (2143289344, (10, 75))))), (0, ("java/lang/Integer", (265, (1431655765, (7, 41))))), (0, ("java/lang/Integer", (266, (858993459, (7, 42))))), (0, ("java/lang/Integer", (267, (252645135, (7, 43)))))]
def zKok (r : zKr9) : Bool := match r.1 with
  | 0 => zhas r.2.2.2.2 (.constant r.2.1 r.2.2.1 (Int32.ofInt r.2.2.2.1))
  | 1 => zhas r.2.2.2.2 (.constantFloat r.2.1 r.2.2.1 (UInt32.ofNat r.2.2.2.1.toNat))
  | 2 => zhas r.2.2.2.2 (.constantLong r.2.1 r.2.2.1 (Int64.ofInt r.2.2.2.1))
  | _ => zhas r.2.2.2.2 (.constantDouble r.2.1 r.2.2.1 (UInt64.ofNat r.2.2.2.1.toNat))
theorem zKT_ok : zKT.all zKok = true := by decide +kernel
abbrev zNr : Type := Nat × (String × (Nat × (Nat × ((Nat × Nat) × ((Nat × Nat) × (Nat × Nat))))))
def zNT : List zNr := [(1, ("ShoeHouse$CardTable", (9, (6, ((1, 212), ((1, 213), (98, 0))))))), (0, ("ShoeHouse$CardTable", (15, (3, ((1, 214), ((1, 215), (1, 9))))))), (0, ("ShoeHouse$CardTable", (9, (6, ((1, 212), ((2, 11), (1, 10))))))), (1, ("ShoeHouse$Lottery", (9, (2, ((1, 110), ((1, 40), (98, 0))))))), (0, ("ShoeHouse$Seat", (7, (3, ((2, 16), ((1, 215), (1, 9))))))), (1, ("ShoeHouse$Wheel", (9, (2, ((2, 84), ((1, 40), (98, 0))))))), (1, ("ShoeHouse", (9, (2, ((1, 39), ((1, 40), (98, 0))))))), (1, ("ShoeHouse", (15, (8, ((1, 41), ((1, 42), (98, 0))))))), (0, ("ShoeHouse", (21, (9, ((1, 43), ((1, 44), (1, 2))))))), (0, ("ShoeHouse", (28, (7, ((1, 56), ((1, 57), (1, 3))))))), (0, ("ShoeHouse", (35, (1, ((1, 88), ((1, 89), (1, 4))))))), (0, ("ShoeHouse", (42, (4, ((1, 104), ((1, 105), (1, 5))))))), (0, ("ShoeHouse", (9, (2, ((1, 39), ((1, 130), (1, 6))))))), (0, ("ShoeHouse", (15, (8, ((1, 41), ((1, 184), (1, 7))))))), (0, ("ShoeHouse", (53, (0, ((1, 206), ((1, 207), (1, 8))))))), (0, ("ShoeHouse", (62, (10, ((2, 78), ((2, 79), (1, 11))))))), (0, ("ShoeHouse", (71, (5, ((2, 106), ((2, 107), (1, 12))))))), (2, ("ShoeHouseModel", (34, (0, ((7, 193), ((7, 194), (1, 87))))))), (3, ("ShoeHouseModel", (76, (0, ((7, 195), ((7, 196), (7, 194))))))), (0, ("ShoeHouseLaw", (8, (11, ((1, 31), ((1, 32), (1, 1))))))), (0, ("ShoeHouseLaw", (194, (12, ((7, 187), ((7, 188), (1, 14)))))))]
def zNok (r : zNr) : Bool := match r.1 with
  | 0 => match zk_cl[r.2.2.2.1]? with
    | some q => zhas r.2.2.2.2.1 (.classLink r.2.1 r.2.2.1 q.1) && (zhas r.2.2.2.2.2.1 (.instantiable q.1 q.2.2) && zhas r.2.2.2.2.2.2 (.initialized q.1))
    | none => false
  | 1 => zhas r.2.2.2.2.1 (.classLink r.2.1 r.2.2.1 (zcn r.2.2.2.1)) && (zhas r.2.2.2.2.2.1 (.arrayOver (.object (zcn r.2.2.2.1))) && decide (FieldType.object (zcn r.2.2.2.1) ∈ zk_aty))
  | 2 => zhas r.2.2.2.2.1 (.classLink r.2.1 r.2.2.1 "[[I") && (zhas r.2.2.2.2.2.1 (.arrayOver (.array .int)) && zhas r.2.2.2.2.2.2 (.arrayClass .int))
  | _ => zhas r.2.2.2.2.1 (.classLink r.2.1 r.2.2.1 "[[[I") && (zhas r.2.2.2.2.2.1 (.arrayOver (.array (.array .int))) && zhas r.2.2.2.2.2.2 (.arrayOver (.array .int)))
theorem zNT_ok : zNT.all zNok = true := by decide +kernel
theorem zAC_ok : ∀ t : Nat, t < 5 → Cond.arrayClass (znA9 t) ∈ lw_g ∧ znA9 t ∈ zk_aty
  | 0, _ => ⟨zhas_in (p := (1, 87)) (by decide +kernel), by decide +kernel⟩
  | 1, _ => ⟨zhas_in (p := (10, 88)) (by decide +kernel), by decide +kernel⟩
  | 2, _ => ⟨zhas_in (p := (10, 89)) (by decide +kernel), by decide +kernel⟩
  | 3, _ => ⟨zhas_in (p := (2, 105)) (by decide +kernel), by decide +kernel⟩
  | 4, _ => ⟨zhas_in (p := (8, 109)) (by decide +kernel), by decide +kernel⟩
  | n + 5, h => by omega
abbrev zWr : Type := String × (Nat × (Nat × (Nat × (Nat × (String × ((Nat × Nat) × ((Nat × Nat) × (Nat × Nat))))))))
def zWT : List zWr := [("ShoeHouse", (87, (89, (91, (1, ("there are as many guests as there can be", ((3, 200), ((1, 19), (3, 210))))))))),
  ("ShoeHouse", (104, (106, (108, (3, ("not so much money, or not so many chips in the vault", ((4, 25), ((1, 23), (4, 35))))))))),
  ("ShoeHouse", (104, (114, (108, (3, ("not so many chips", ((4, 25), ((1, 23), (4, 35))))))))),
  ("ShoeHouse", (128, (130, (132, (0, ("no day to be barred until", ((3, 128), ((1, 18), (3, 174))))))))),
  ("ShoeHouse", (87, (153, (91, (1, ("a round or a spin goes on", ((3, 200), ((1, 19), (3, 210))))))))),
  ("ShoeHouse", (104, (169, (108, (3, ("the vault has not so many chips", ((4, 25), ((1, 23), (4, 35))))))))),
  ("ShoeHouse", (104, (175, (108, (3, ("the tray has not so many chips", ((4, 25), ((1, 23), (4, 35))))))))),
  ("ShoeHouse", (128, (187, (132, (0, ("no such letter", ((3, 128), ((1, 18), (3, 174))))))))),
  ("ShoeHouse", (128, (205, (132, (0, ("not between the first and the last card", ((3, 128), ((1, 18), (3, 174))))))))),
  ("ShoeHouse", (104, (213, (108, (3, ("the shoe has no cards", ((4, 25), ((1, 23), (4, 35))))))))),
  ("ShoeHouse", (104, (228, (108, (3, ("the seat has a stake", ((4, 25), ((1, 23), (4, 35))))))))),
  ("ShoeHouse", (104, (250, (108, (3, ("no stake, or too few cards", ((4, 25), ((1, 23), (4, 35))))))))),
  ("ShoeHouse", (104, (282, (108, (3, ("this hand is not doubled", ((4, 25), ((1, 23), (4, 35))))))))),
  ("ShoeHouse", (104, (294, (108, (3, ("this hand is not split", ((4, 25), ((1, 23), (4, 35))))))))),
  ("ShoeHouse", (104, (309, (108, (3, ("this hand is not surrendered", ((4, 25), ((1, 23), (4, 35))))))))),
  ("ShoeHouse", (318, (320, (322, (2, ("no such hand", ((4, 12), ((1, 20), (4, 22))))))))),
  ("ShoeHouse", (324, (326, (328, (4, ("no such card", ((6, 25), ((1, 26), (6, 35))))))))),
  ("ShoeHouse", (324, (332, (328, (4, ("no such card, or it is hidden", ((6, 25), ((1, 26), (6, 35))))))))),
  ("ShoeHouse", (128, (377, (132, (0, ("no such wager", ((3, 128), ((1, 18), (3, 174))))))))),
  ("ShoeHouse", (87, (382, (91, (1, ("there are as many wagers as there can be", ((3, 200), ((1, 19), (3, 210))))))))),
  ("ShoeHouse", (318, (392, (322, (2, ("no such reel", ((4, 12), ((1, 20), (4, 22))))))))),
  ("ShoeHouse", (128, (398, (132, (0, ("not eight symbols", ((3, 128), ((1, 18), (3, 174))))))))),
  ("ShoeHouse", (87, (416, (91, (1, ("a spin goes on, or is to be recovered", ((3, 200), ((1, 19), (3, 210))))))))),
  ("ShoeHouse", (128, (424, (132, (0, ("not three stops", ((3, 128), ((1, 18), (3, 174))))))))),
  ("ShoeHouse", (87, (436, (91, (1, ("no spin is to be recovered", ((3, 200), ((1, 19), (3, 210))))))))),
  ("ShoeHouse", (87, (455, (91, (1, ("no ticket is sold now", ((3, 200), ((1, 19), (3, 210))))))))),
  ("ShoeHouse", (87, (472, (91, (1, ("no draw is to be confirmed", ((3, 200), ((1, 19), (3, 210))))))))),
  ("ShoeHouse", (324, (480, (328, (4, ("no prizes", ((6, 25), ((1, 26), (6, 35))))))))),
  ("ShoeHouse", (318, (532, (322, (2, ("no such guest", ((4, 12), ((1, 20), (4, 22))))))))),
  ("ShoeHouse", (318, (534, (322, (2, ("no such table", ((4, 12), ((1, 20), (4, 22))))))))),
  ("ShoeHouse", (318, (540, (322, (2, ("no such seat", ((4, 12), ((1, 20), (4, 22))))))))),
  ("ShoeHouse", (104, (546, (108, (3, ("it is not the turn of this seat", ((4, 25), ((1, 23), (4, 35))))))))),
  ("ShoeHouse", (104, (555, (108, (3, ("the guest may not stake that", ((4, 25), ((1, 23), (4, 35))))))))),
  ("ShoeHouse", (104, (557, (108, (3, ("the shoe has not so many cards", ((4, 25), ((1, 23), (4, 35))))))))),
  ("ShoeHouse", (559, (561, (563, (5, ("no cards are left", ((6, 90), ((1, 27), (6, 92))))))))),
  ("ShoeHouse", (87, (564, (91, (1, ("no round goes on", ((3, 200), ((1, 19), (3, 210))))))))),
  ("ShoeHouse", (87, (566, (91, (1, ("a round goes on", ((3, 200), ((1, 19), (3, 210))))))))),
  ("ShoeHouse", (87, (568, (91, (1, ("no spin goes on", ((3, 200), ((1, 19), (3, 210))))))))),
  ("ShoeHouse", (87, (570, (91, (1, ("a spin goes on", ((3, 200), ((1, 19), (3, 210))))))))),
  ("ShoeHouse", (559, (572, (563, (5, ("there are no guests", ((6, 90), ((1, 27), (6, 92))))))))),
  ("ShoeHouse", (128, (574, (132, (0, ("not three unlike numbers", ((3, 128), ((1, 18), (3, 174))))))))),
  ("ShoeHouse", (128, (576, (132, (0, ("a number is out of range", ((3, 128), ((1, 18), (3, 174)))))))))]
def zWn : List String := ["java/lang/RuntimeException", "java/lang/Exception"]
def zmem (w : Cond) : Bool := ((List.range 11).any fun j => (zTb j).any fun v => decide (v = w)) && zg_good w
theorem zmem_in {w : Cond} (h : zmem w = true) : w ∈ lw_g := by
  unfold zmem at h
  rw [Bool.and_eq_true] at h
  obtain ⟨j, -, hj⟩ := List.any_eq_true.mp h.1
  obtain ⟨v, hv, hd⟩ := List.any_eq_true.mp hj
  have e := of_decide_eq_true hd
  subst e
  exact lw_g_of (zTb_in j hv) h.2
/-- the words of a throw, but the link of its place -/
def zWa0 : List Cond := Bundle.throwableAtoms ++ Bundle.throwableSAtoms
def zWa (X : String) : List Cond := zWa0 ++ Bundle.chainSAtoms X zWn
def zWb (X : String) : List Cond := ((Bundle.ownAtoms "" 0 X zWn).drop (zWa X).length).drop 1
theorem zWc_of {own X : String} {ic : Nat} {w : Cond} (h : w ∈ Bundle.ownAtoms own ic X zWn) : w = .methodLink own ic (Bundle.initS X) ∨ (w ∈ zWa0 ∨ (w ∈ Bundle.chainSAtoms X zWn ∨ w ∈ zWb X)) := by
  unfold Bundle.ownAtoms at h
  rcases List.mem_append.mp h with h | h
  · rcases List.mem_append.mp h with h | h
    · exact Or.inr (Or.inl h)
    · exact Or.inr (Or.inr (Or.inl h))
  · rcases List.mem_cons.mp h with h | h
    · exact Or.inl h
    · refine Or.inr (Or.inr (Or.inr ?_))
      unfold zWb Bundle.ownAtoms zWa zWa0
      rw [List.drop_left]
      exact h
def zWk (w : Cond) : Bool := !(vx_no w) || (zmem w && !(zg_arr w))
theorem zWk_ok {w : Cond} (h : zWk w = true) (hv : vx_no w = true) : w ∈ lw_g ∧ zg_arr w = false := by
  unfold zWk at h
  rw [hv] at h
  simp only [Bool.not_true, Bool.false_or, Bool.and_eq_true, Bool.not_eq_true'] at h
  exact ⟨zmem_in h.1, h.2⟩
set_option maxRecDepth 100000 in
theorem zWa0_ok : zWa0.all zWk = true := by decide +kernel
set_option maxRecDepth 100000 in
theorem zWx_0 : (Bundle.chainSAtoms "java/lang/IllegalArgumentException" zWn ++ zWb "java/lang/IllegalArgumentException").all zWk = true := by decide +kernel
set_option maxRecDepth 100000 in
theorem zWx_1 : (Bundle.chainSAtoms "java/lang/IllegalStateException" zWn ++ zWb "java/lang/IllegalStateException").all zWk = true := by decide +kernel
set_option maxRecDepth 100000 in
theorem zWx_2 : (Bundle.chainSAtoms "java/lang/IndexOutOfBoundsException" zWn ++ zWb "java/lang/IndexOutOfBoundsException").all zWk = true := by decide +kernel
set_option maxRecDepth 100000 in
theorem zWx_3 : (Bundle.chainSAtoms "java/lang/UnsupportedOperationException" zWn ++ zWb "java/lang/UnsupportedOperationException").all zWk = true := by decide +kernel
set_option maxRecDepth 100000 in
theorem zWx_5 : (Bundle.chainSAtoms "java/lang/ArithmeticException" zWn ++ zWb "java/lang/ArithmeticException").all zWk = true := by decide +kernel
theorem zWx_ok : ∀ x : Nat, x < 6 → x ≠ 4 → (Bundle.chainSAtoms (zxn x) zWn ++ zWb (zxn x)).all zWk = true
  | 0, _, _ => zWx_0
  | 1, _, _ => zWx_1
  | 2, _, _ => zWx_2
  | 3, _, _ => zWx_3
  | 4, _, h => absurd rfl h
  | 5, _, _ => zWx_5
  | n + 6, h, _ => by omega
def zWok (r : zWr) : Bool := decide (r.2.2.2.2.1 < 6) && (Bundle.fit (zxn r.2.2.2.2.1) && (zhas r.2.2.2.2.2.2.1 (.classLink r.1 r.2.1 (zxn r.2.2.2.2.1)) && (zhas r.2.2.2.2.2.2.2.1 (.initialized (zxn r.2.2.2.2.1)) && (zhas r.2.2.2.2.2.2.2.2 (.methodLink r.1 r.2.2.2.1 (Bundle.initS (zxn r.2.2.2.2.1))) && decide ((r.1, (r.2.2.1, r.2.2.2.2.2.1)) ∈ zk_str)))))
set_option maxRecDepth 100000 in
theorem zWT_ok : zWT.all zWok = true := by decide +kernel
theorem zWn_fit : ∀ n ∈ zWn, Bundle.fit n = true := by decide +kernel
theorem zWT_t {M : zm_M} {r : zWr} (h : r ∈ zWT) (ho : r.1 = zm_o M) (hx4 : r.2.2.2.2.1 ≠ 4) : zt_ok M r.2.1 r.2.2.1 r.2.2.2.1 r.2.2.2.2.2.1 (zxn r.2.2.2.2.1) zWn := by
  have h1 := List.all_eq_true.mp zWT_ok r h
  simp only [zWok, Bool.and_eq_true] at h1
  obtain ⟨a1, a2, a3, a4, a5, a6⟩ := h1
  unfold zt_ok
  rw [← ho]
  refine ⟨a2, zWn_fit, zhas_in a3, zhas_in a4, of_decide_eq_true a6, fun w hw => ?_⟩
  unfold vx_atS at hw
  obtain ⟨b1, b2⟩ := List.mem_filter.mp hw
  rcases zWc_of b1 with e | e | e | e
  · subst e
    exact ⟨zhas_in a5, rfl⟩
  · exact zWk_ok (List.all_eq_true.mp zWa0_ok w e) b2
  · exact zWk_ok (List.all_eq_true.mp (zWx_ok _ (of_decide_eq_true a1) hx4) w (List.mem_append_left _ e)) b2
  · exact zWk_ok (List.all_eq_true.mp (zWx_ok _ (of_decide_eq_true a1) hx4) w (List.mem_append_right _ e)) b2
abbrev zNSb : ByteArray := prog_35_method_4_code
abbrev zNSi : Nat := 13
abbrev zNSn : String := "java/util/NoSuchElementException"
abbrev zNSy : String := "java/lang/RuntimeException"
abbrev zNSr : List String := ["java/lang/Exception"]
set_option maxRecDepth 100000 in
theorem zNS_ok : ((Bundle.passSAtoms zNSn zNSy zNSi zNSb ++ Bundle.chainSAtoms zNSy zNSr) ++ zWb zNSn).all zWk = true := by decide +kernel
theorem zWt_of {own X : String} {ic : Nat} {w : Cond} (h : w ∈ zWt own ic X) : w = .methodLink own ic (Bundle.initS X) ∨ w ∈ zWb X := by
  unfold zWt Bundle.ownAtoms at h
  rw [List.drop_left] at h
  rcases List.mem_cons.mp h with h | h
  · exact Or.inl h
  · refine Or.inr ?_
    unfold zWb Bundle.ownAtoms zWa zWa0
    rw [List.drop_left]
    exact h
theorem zNS_t {M : zm_M} {r : zWr} (h : r ∈ zWT) (ho : r.1 = zm_o M) (hx4 : r.2.2.2.2.1 = 4) : Cond.classLink (zm_o M) r.2.1 zNSn ∈ lw_g ∧ Cond.initialized zNSn ∈ lw_g ∧ (zm_o M, r.2.2.1, r.2.2.2.2.2.1) ∈ zk_str ∧ ∀ w ∈ (zxL (zm_o M) r.2.2.2.1 zNSn zNSy zNSr zNSi zNSb).filter vx_no, w ∈ lw_g ∧ zg_arr w = false := by
  have h1 := List.all_eq_true.mp zWT_ok r h
  simp only [zWok, Bool.and_eq_true, hx4] at h1
  obtain ⟨a1, a2, a3, a4, a5, a6⟩ := h1
  rw [← ho]
  refine ⟨zhas_in a3, zhas_in a4, of_decide_eq_true a6, fun w hw => ?_⟩
  obtain ⟨b1, b2⟩ := List.mem_filter.mp hw
  rcases List.mem_append.mp b1 with e | e
  · exact zWk_ok (List.all_eq_true.mp zWa0_ok w e) b2
  · rcases List.mem_append.mp e with e | e
    · exact zWk_ok (List.all_eq_true.mp zNS_ok w (List.mem_append_left _ e)) b2
    · rcases zWt_of e with e | e
      · subst e
        exact ⟨zhas_in a5, rfl⟩
      · exact zWk_ok (List.all_eq_true.mp zNS_ok w (List.mem_append_right _ e)) b2
theorem zOI : Cond.instanceMethod Lib.objectInit ∈ lw_g ∧ Cond.code Lib.objectInit ⟨#[0xb1]⟩ 1 none ∈ lw_g := ⟨zmem_in (by decide +kernel), zmem_in (by decide +kernel)⟩
theorem zAY : Cond.native arraycopyName ∈ lw_g ∧ (Cond.static arraycopyName ∈ lw_g ∧ Cond.initialized "java/lang/System" ∈ lw_g) := ⟨zmem_in (by decide +kernel), zmem_in (by decide +kernel), zmem_in (by decide +kernel)⟩
abbrev zFBn : MethodName := ⟨"java/lang/Float", "floatToRawIntBits", "(F)I"⟩
theorem zFB : Cond.native zFBn ∈ lw_g ∧ (Cond.static zFBn ∈ lw_g ∧ Cond.initialized "java/lang/Float" ∈ lw_g) := ⟨zmem_in (by decide +kernel), zmem_in (by decide +kernel), zmem_in (by decide +kernel)⟩
def zNLn : Nat → MethodName
  | 0 => arraycopyName
  | 1 => zFBn
  | _ => Lib.objectInit
def zNL : List (String × (Nat × (Nat × (Nat × Nat)))) := [("ShoeHouse$CardTable", (1, (2, (1, 211)))), ("ShoeHouse$DealerOdds", (3, (2, (1, 93)))), ("ShoeHouse$Guest", (1, (2, (1, 134)))), ("ShoeHouse$Hand", (1, (2, (1, 219)))), ("ShoeHouse$Lottery", (1, (2, (1, 109)))), ("ShoeHouse$Machine", (3, (2, (2, 111)))), ("ShoeHouse$Seat", (1, (2, (2, 15)))), ("ShoeHouse$Shoe", (3, (2, (1, 61)))), ("ShoeHouse$Tray", (1, (2, (1, 188)))), ("ShoeHouse$Vault", (3, (2, (1, 48)))), ("ShoeHouse$Wheel", (1, (2, (2, 83)))), ("ShoeHouse", (1, (2, (1, 36)))), ("ShoeHouseModel", (1, (2, (7, 192)))), ("ShoeHouseModel", (163, (0, (8, 147)))), ("java/lang/Float", (74, (1, (10, 72))))]
theorem zNL_ok : zNL.all (fun r => zhas r.2.2.2 (.methodLink r.1 r.2.1 (zNLn r.2.2.1))) = true := by decide +kernel
def zLT : List (Nat × (Nat × (Nat × Nat))) := [(13, (0, (3, 118))), (15, (1, (3, 119))), (21, (2, (3, 219))), (23, (3, (4, 3))), (86, (4, (6, 14))), (101, (5, (6, 67)))]
theorem zLT_ok : zLT.all (fun r => zhas r.2.2 (.classLink RL r.1 (zxn r.2.1))) = true := by decide +kernel
