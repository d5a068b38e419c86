section
-- ===== PART A: goes FIRST, ahead of the names: the tables' words, and 'selects' of the private methods out of them =====
/-- a private method of a class that the tables say can be made, by its rows of tables_1 -/
def lw_okq (q : MethodName × Nat) : Prop := (q.1.cls ≠ "java/lang/invoke/MethodHandle" ∧ q.1.cls ≠ "java/lang/invoke/VarHandle") ∧ Cond.instantiable q.1.cls q.2 ∈ tables_1 ∧ Cond.privateMethod q.1 ∈ tables_1 ∧ Cond.instanceMethod q.1 ∈ tables_1
theorem lw_p0 : lw_okq (⟨"ShoeHouse$Machine", "stopsWith", "(II)I"⟩, 9) := ⟨⟨by decide +kernel, by decide +kernel⟩, List.mem_of_getElem? (i := 347) (by decide +kernel), List.mem_of_getElem? (i := 459) (by decide +kernel), List.mem_of_getElem? (i := 460) (by decide +kernel)⟩
theorem lw_p1 : lw_okq (⟨"ShoeHouse$Machine", "symbolAt", "(II)I"⟩, 9) := ⟨⟨by decide +kernel, by decide +kernel⟩, List.mem_of_getElem? (i := 347) (by decide +kernel), List.mem_of_getElem? (i := 463) (by decide +kernel), List.mem_of_getElem? (i := 464) (by decide +kernel)⟩
theorem lw_p2 : lw_okq (⟨"ShoeHouse$Machine", "timesOf", "(I)I"⟩, 9) := ⟨⟨by decide +kernel, by decide +kernel⟩, List.mem_of_getElem? (i := 347) (by decide +kernel), List.mem_of_getElem? (i := 467) (by decide +kernel), List.mem_of_getElem? (i := 468) (by decide +kernel)⟩
theorem lw_p3 : lw_okq (⟨"ShoeHouse", "areAllChipsHere", "()Z"⟩, 11) := ⟨⟨by decide +kernel, by decide +kernel⟩, List.mem_of_getElem? (i := 32) (by decide +kernel), List.mem_of_getElem? (i := 516) (by decide +kernel), List.mem_of_getElem? (i := 517) (by decide +kernel)⟩
theorem lw_p4 : lw_okq (⟨"ShoeHouse", "chipsOfGuests", "()I"⟩, 11) := ⟨⟨by decide +kernel, by decide +kernel⟩, List.mem_of_getElem? (i := 32) (by decide +kernel), List.mem_of_getElem? (i := 520) (by decide +kernel), List.mem_of_getElem? (i := 521) (by decide +kernel)⟩
theorem lw_p5 : lw_okq (⟨"ShoeHouse", "stakesOf", "(LShoeHouse$Guest;)I"⟩, 11) := ⟨⟨by decide +kernel, by decide +kernel⟩, List.mem_of_getElem? (i := 32) (by decide +kernel), List.mem_of_getElem? (i := 528) (by decide +kernel), List.mem_of_getElem? (i := 529) (by decide +kernel)⟩
theorem lw_p6 : lw_okq (⟨"ShoeHouse", "isNothingOfBarred", "()Z"⟩, 11) := ⟨⟨by decide +kernel, by decide +kernel⟩, List.mem_of_getElem? (i := 32) (by decide +kernel), List.mem_of_getElem? (i := 568) (by decide +kernel), List.mem_of_getElem? (i := 569) (by decide +kernel)⟩
theorem lw_p7 : lw_okq (⟨"ShoeHouse", "areChancesSound", "()Z"⟩, 11) := ⟨⟨by decide +kernel, by decide +kernel⟩, List.mem_of_getElem? (i := 32) (by decide +kernel), List.mem_of_getElem? (i := 576) (by decide +kernel), List.mem_of_getElem? (i := 577) (by decide +kernel)⟩
theorem lw_p8 : lw_okq (⟨"java/lang/Throwable", "fillInStackTrace", "(I)Ljava/lang/Throwable;"⟩, 6) := ⟨⟨by decide +kernel, by decide +kernel⟩, List.mem_of_getElem? (i := 651) (by decide +kernel), List.mem_of_getElem? (i := 649) (by decide +kernel), List.mem_of_getElem? (i := 650) (by decide +kernel)⟩
theorem lw_p9 : lw_okq (⟨"ShoeHouse", "guestAt", "(I)LShoeHouse$Guest;"⟩, 11) := ⟨⟨by decide +kernel, by decide +kernel⟩, List.mem_of_getElem? (i := 32) (by decide +kernel), List.mem_of_getElem? (i := 729) (by decide +kernel), List.mem_of_getElem? (i := 730) (by decide +kernel)⟩
theorem lw_p10 : lw_okq (⟨"ShoeHouse$Shoe", "see", "(I)V"⟩, 8) := ⟨⟨by decide +kernel, by decide +kernel⟩, List.mem_of_getElem? (i := 57) (by decide +kernel), List.mem_of_getElem? (i := 849) (by decide +kernel), List.mem_of_getElem? (i := 850) (by decide +kernel)⟩
theorem lw_p11 : lw_okq (⟨"ShoeHouse$CardTable", "drawForDealer", "()V"⟩, 10) := ⟨⟨by decide +kernel, by decide +kernel⟩, List.mem_of_getElem? (i := 207) (by decide +kernel), List.mem_of_getElem? (i := 853) (by decide +kernel), List.mem_of_getElem? (i := 854) (by decide +kernel)⟩
theorem lw_p12 : lw_okq (⟨"ShoeHouse$CardTable", "drawsAgain", "()Z"⟩, 10) := ⟨⟨by decide +kernel, by decide +kernel⟩, List.mem_of_getElem? (i := 207) (by decide +kernel), List.mem_of_getElem? (i := 874) (by decide +kernel), List.mem_of_getElem? (i := 875) (by decide +kernel)⟩
theorem lw_p13 : lw_okq (⟨"ShoeHouse$Shoe", "takeCard", "()I"⟩, 8) := ⟨⟨by decide +kernel, by decide +kernel⟩, List.mem_of_getElem? (i := 57) (by decide +kernel), List.mem_of_getElem? (i := 888) (by decide +kernel), List.mem_of_getElem? (i := 889) (by decide +kernel)⟩
theorem lw_p14 : lw_okq (⟨"ShoeHouse$CardTable", "settle", "(LShoeHouse$Seat;LShoeHouse$Hand;)V"⟩, 10) := ⟨⟨by decide +kernel, by decide +kernel⟩, List.mem_of_getElem? (i := 207) (by decide +kernel), List.mem_of_getElem? (i := 896) (by decide +kernel), List.mem_of_getElem? (i := 897) (by decide +kernel)⟩
theorem lw_p15 : lw_okq (⟨"ShoeHouse$CardTable", "gainOf", "(LShoeHouse$Seat;LShoeHouse$Hand;)I"⟩, 10) := ⟨⟨by decide +kernel, by decide +kernel⟩, List.mem_of_getElem? (i := 207) (by decide +kernel), List.mem_of_getElem? (i := 900) (by decide +kernel), List.mem_of_getElem? (i := 901) (by decide +kernel)⟩
def lw_privs_1 : List (MethodName × Nat) := [(⟨"ShoeHouse$Machine", "stopsWith", "(II)I"⟩, 9), (⟨"ShoeHouse$Machine", "symbolAt", "(II)I"⟩, 9), (⟨"ShoeHouse$Machine", "timesOf", "(I)I"⟩, 9), (⟨"ShoeHouse", "areAllChipsHere", "()Z"⟩, 11), (⟨"ShoeHouse", "chipsOfGuests", "()I"⟩, 11), (⟨"ShoeHouse", "stakesOf", "(LShoeHouse$Guest;)I"⟩, 11), (⟨"ShoeHouse", "isNothingOfBarred", "()Z"⟩, 11), (⟨"ShoeHouse", "areChancesSound", "()Z"⟩, 11), (⟨"java/lang/Throwable", "fillInStackTrace", "(I)Ljava/lang/Throwable;"⟩, 6), (⟨"ShoeHouse", "guestAt", "(I)LShoeHouse$Guest;"⟩, 11), (⟨"ShoeHouse$Shoe", "see", "(I)V"⟩, 8), (⟨"ShoeHouse$CardTable", "drawForDealer", "()V"⟩, 10), (⟨"ShoeHouse$CardTable", "drawsAgain", "()Z"⟩, 10), (⟨"ShoeHouse$Shoe", "takeCard", "()I"⟩, 8), (⟨"ShoeHouse$CardTable", "settle", "(LShoeHouse$Seat;LShoeHouse$Hand;)V"⟩, 10), (⟨"ShoeHouse$CardTable", "gainOf", "(LShoeHouse$Seat;LShoeHouse$Hand;)I"⟩, 10)]
theorem lw_r1 : ∀ q ∈ lw_privs_1, lw_okq q := List.forall_mem_cons.mpr ⟨lw_p0, List.forall_mem_cons.mpr ⟨lw_p1, List.forall_mem_cons.mpr ⟨lw_p2, List.forall_mem_cons.mpr ⟨lw_p3, List.forall_mem_cons.mpr ⟨lw_p4, List.forall_mem_cons.mpr ⟨lw_p5, List.forall_mem_cons.mpr ⟨lw_p6, List.forall_mem_cons.mpr ⟨lw_p7, List.forall_mem_cons.mpr ⟨lw_p8, List.forall_mem_cons.mpr ⟨lw_p9, List.forall_mem_cons.mpr ⟨lw_p10, List.forall_mem_cons.mpr ⟨lw_p11, List.forall_mem_cons.mpr ⟨lw_p12, List.forall_mem_cons.mpr ⟨lw_p13, List.forall_mem_cons.mpr ⟨lw_p14, List.forall_mem_cons.mpr ⟨lw_p15, fun _ h => absurd h List.not_mem_nil⟩⟩⟩⟩⟩⟩⟩⟩⟩⟩⟩⟩⟩⟩⟩⟩
theorem lw_p16 : lw_okq (⟨"ShoeHouse$CardTable", "payForNatural", "(I)I"⟩, 10) := ⟨⟨by decide +kernel, by decide +kernel⟩, List.mem_of_getElem? (i := 207) (by decide +kernel), List.mem_of_getElem? (i := 906) (by decide +kernel), List.mem_of_getElem? (i := 907) (by decide +kernel)⟩
theorem lw_p17 : lw_okq (⟨"ShoeHouse", "trayAt", "(I)LShoeHouse$Tray;"⟩, 11) := ⟨⟨by decide +kernel, by decide +kernel⟩, List.mem_of_getElem? (i := 32) (by decide +kernel), List.mem_of_getElem? (i := 960) (by decide +kernel), List.mem_of_getElem? (i := 961) (by decide +kernel)⟩
theorem lw_p18 : lw_okq (⟨"ShoeHouse", "needNoRound", "()V"⟩, 11) := ⟨⟨by decide +kernel, by decide +kernel⟩, List.mem_of_getElem? (i := 32) (by decide +kernel), List.mem_of_getElem? (i := 994) (by decide +kernel), List.mem_of_getElem? (i := 995) (by decide +kernel)⟩
theorem lw_p19 : lw_okq (⟨"ShoeHouse$Shoe", "layMixed", "(I)V"⟩, 8) := ⟨⟨by decide +kernel, by decide +kernel⟩, List.mem_of_getElem? (i := 57) (by decide +kernel), List.mem_of_getElem? (i := 1038) (by decide +kernel), List.mem_of_getElem? (i := 1039) (by decide +kernel)⟩
theorem lw_p20 : lw_okq (⟨"ShoeHouse", "seatAt", "(I)LShoeHouse$Seat;"⟩, 11) := ⟨⟨by decide +kernel, by decide +kernel⟩, List.mem_of_getElem? (i := 32) (by decide +kernel), List.mem_of_getElem? (i := 1062) (by decide +kernel), List.mem_of_getElem? (i := 1063) (by decide +kernel)⟩
theorem lw_p21 : lw_okq (⟨"ShoeHouse", "needStake", "(LShoeHouse$Guest;I)V"⟩, 11) := ⟨⟨by decide +kernel, by decide +kernel⟩, List.mem_of_getElem? (i := 32) (by decide +kernel), List.mem_of_getElem? (i := 1072) (by decide +kernel), List.mem_of_getElem? (i := 1073) (by decide +kernel)⟩
theorem lw_p22 : lw_okq (⟨"ShoeHouse$CardTable", "dealToSeats", "()V"⟩, 10) := ⟨⟨by decide +kernel, by decide +kernel⟩, List.mem_of_getElem? (i := 207) (by decide +kernel), List.mem_of_getElem? (i := 1125) (by decide +kernel), List.mem_of_getElem? (i := 1126) (by decide +kernel)⟩
theorem lw_p23 : lw_okq (⟨"ShoeHouse", "handInTurn", "(I)LShoeHouse$Hand;"⟩, 11) := ⟨⟨by decide +kernel, by decide +kernel⟩, List.mem_of_getElem? (i := 32) (by decide +kernel), List.mem_of_getElem? (i := 1141) (by decide +kernel), List.mem_of_getElem? (i := 1142) (by decide +kernel)⟩
theorem lw_p24 : lw_okq (⟨"ShoeHouse", "needRound", "()V"⟩, 11) := ⟨⟨by decide +kernel, by decide +kernel⟩, List.mem_of_getElem? (i := 32) (by decide +kernel), List.mem_of_getElem? (i := 1145) (by decide +kernel), List.mem_of_getElem? (i := 1146) (by decide +kernel)⟩
theorem lw_p25 : lw_okq (⟨"ShoeHouse", "needCards", "(I)V"⟩, 11) := ⟨⟨by decide +kernel, by decide +kernel⟩, List.mem_of_getElem? (i := 32) (by decide +kernel), List.mem_of_getElem? (i := 1153) (by decide +kernel), List.mem_of_getElem? (i := 1154) (by decide +kernel)⟩
theorem lw_p26 : lw_okq (⟨"ShoeHouse", "playerAt", "(LShoeHouse$Seat;I)LShoeHouse$Guest;"⟩, 11) := ⟨⟨by decide +kernel, by decide +kernel⟩, List.mem_of_getElem? (i := 32) (by decide +kernel), List.mem_of_getElem? (i := 1177) (by decide +kernel), List.mem_of_getElem? (i := 1178) (by decide +kernel)⟩
theorem lw_p27 : lw_okq (⟨"ShoeHouse", "needUnseen", "()V"⟩, 11) := ⟨⟨by decide +kernel, by decide +kernel⟩, List.mem_of_getElem? (i := 32) (by decide +kernel), List.mem_of_getElem? (i := 1286) (by decide +kernel), List.mem_of_getElem? (i := 1287) (by decide +kernel)⟩
theorem lw_p28 : lw_okq (⟨"ShoeHouse", "needNoSpin", "()V"⟩, 11) := ⟨⟨by decide +kernel, by decide +kernel⟩, List.mem_of_getElem? (i := 32) (by decide +kernel), List.mem_of_getElem? (i := 1390) (by decide +kernel), List.mem_of_getElem? (i := 1391) (by decide +kernel)⟩
theorem lw_p29 : lw_okq (⟨"ShoeHouse", "needSpin", "()V"⟩, 11) := ⟨⟨by decide +kernel, by decide +kernel⟩, List.mem_of_getElem? (i := 32) (by decide +kernel), List.mem_of_getElem? (i := 1440) (by decide +kernel), List.mem_of_getElem? (i := 1441) (by decide +kernel)⟩
theorem lw_p30 : lw_okq (⟨"ShoeHouse$Lottery", "rightNumbers", "(I)I"⟩, 5) := ⟨⟨by decide +kernel, by decide +kernel⟩, List.mem_of_getElem? (i := 105) (by decide +kernel), List.mem_of_getElem? (i := 1510) (by decide +kernel), List.mem_of_getElem? (i := 1511) (by decide +kernel)⟩
theorem lw_p31 : lw_okq (⟨"ShoeHouse$Lottery", "giveTier", "(III)I"⟩, 5) := ⟨⟨by decide +kernel, by decide +kernel⟩, List.mem_of_getElem? (i := 105) (by decide +kernel), List.mem_of_getElem? (i := 1526) (by decide +kernel), List.mem_of_getElem? (i := 1527) (by decide +kernel)⟩
def lw_privs_2 : List (MethodName × Nat) := [(⟨"ShoeHouse$CardTable", "payForNatural", "(I)I"⟩, 10), (⟨"ShoeHouse", "trayAt", "(I)LShoeHouse$Tray;"⟩, 11), (⟨"ShoeHouse", "needNoRound", "()V"⟩, 11), (⟨"ShoeHouse$Shoe", "layMixed", "(I)V"⟩, 8), (⟨"ShoeHouse", "seatAt", "(I)LShoeHouse$Seat;"⟩, 11), (⟨"ShoeHouse", "needStake", "(LShoeHouse$Guest;I)V"⟩, 11), (⟨"ShoeHouse$CardTable", "dealToSeats", "()V"⟩, 10), (⟨"ShoeHouse", "handInTurn", "(I)LShoeHouse$Hand;"⟩, 11), (⟨"ShoeHouse", "needRound", "()V"⟩, 11), (⟨"ShoeHouse", "needCards", "(I)V"⟩, 11), (⟨"ShoeHouse", "playerAt", "(LShoeHouse$Seat;I)LShoeHouse$Guest;"⟩, 11), (⟨"ShoeHouse", "needUnseen", "()V"⟩, 11), (⟨"ShoeHouse", "needNoSpin", "()V"⟩, 11), (⟨"ShoeHouse", "needSpin", "()V"⟩, 11), (⟨"ShoeHouse$Lottery", "rightNumbers", "(I)I"⟩, 5), (⟨"ShoeHouse$Lottery", "giveTier", "(III)I"⟩, 5)]
theorem lw_r2 : ∀ q ∈ lw_privs_2, lw_okq q := List.forall_mem_cons.mpr ⟨lw_p16, List.forall_mem_cons.mpr ⟨lw_p17, List.forall_mem_cons.mpr ⟨lw_p18, List.forall_mem_cons.mpr ⟨lw_p19, List.forall_mem_cons.mpr ⟨lw_p20, List.forall_mem_cons.mpr ⟨lw_p21, List.forall_mem_cons.mpr ⟨lw_p22, List.forall_mem_cons.mpr ⟨lw_p23, List.forall_mem_cons.mpr ⟨lw_p24, List.forall_mem_cons.mpr ⟨lw_p25, List.forall_mem_cons.mpr ⟨lw_p26, List.forall_mem_cons.mpr ⟨lw_p27, List.forall_mem_cons.mpr ⟨lw_p28, List.forall_mem_cons.mpr ⟨lw_p29, List.forall_mem_cons.mpr ⟨lw_p30, List.forall_mem_cons.mpr ⟨lw_p31, fun _ h => absurd h List.not_mem_nil⟩⟩⟩⟩⟩⟩⟩⟩⟩⟩⟩⟩⟩⟩⟩⟩
theorem lw_p32 : lw_okq (⟨"ShoeHouse", "needGuests", "()V"⟩, 11) := ⟨⟨by decide +kernel, by decide +kernel⟩, List.mem_of_getElem? (i := 32) (by decide +kernel), List.mem_of_getElem? (i := 1616) (by decide +kernel), List.mem_of_getElem? (i := 1617) (by decide +kernel)⟩
theorem lw_p33 : lw_okq (⟨"ShoeHouseModel", "isThrown", "(ZI)Z"⟩, 50) := ⟨⟨by decide +kernel, by decide +kernel⟩, List.mem_of_getElem? (i := 1628) (by decide +kernel), List.mem_of_getElem? (i := 1803) (by decide +kernel), List.mem_of_getElem? (i := 1804) (by decide +kernel)⟩
theorem lw_p34 : lw_okq (⟨"ShoeHouseModel", "isNobody", "(I)Z"⟩, 50) := ⟨⟨by decide +kernel, by decide +kernel⟩, List.mem_of_getElem? (i := 1628) (by decide +kernel), List.mem_of_getElem? (i := 1811) (by decide +kernel), List.mem_of_getElem? (i := 1812) (by decide +kernel)⟩
theorem lw_p35 : lw_okq (⟨"ShoeHouseModel", "turnNow", "()I"⟩, 50) := ⟨⟨by decide +kernel, by decide +kernel⟩, List.mem_of_getElem? (i := 1628) (by decide +kernel), List.mem_of_getElem? (i := 1831) (by decide +kernel), List.mem_of_getElem? (i := 1832) (by decide +kernel)⟩
theorem lw_p36 : lw_okq (⟨"ShoeHouseModel", "finish", "()V"⟩, 50) := ⟨⟨by decide +kernel, by decide +kernel⟩, List.mem_of_getElem? (i := 1628) (by decide +kernel), List.mem_of_getElem? (i := 1835) (by decide +kernel), List.mem_of_getElem? (i := 1836) (by decide +kernel)⟩
theorem lw_p37 : lw_okq (⟨"ShoeHouseModel", "isNaturalAt", "(I)Z"⟩, 50) := ⟨⟨by decide +kernel, by decide +kernel⟩, List.mem_of_getElem? (i := 1628) (by decide +kernel), List.mem_of_getElem? (i := 1839) (by decide +kernel), List.mem_of_getElem? (i := 1840) (by decide +kernel)⟩
theorem lw_p38 : lw_okq (⟨"ShoeHouseModel", "valueAt", "(II)I"⟩, 50) := ⟨⟨by decide +kernel, by decide +kernel⟩, List.mem_of_getElem? (i := 1628) (by decide +kernel), List.mem_of_getElem? (i := 1843) (by decide +kernel), List.mem_of_getElem? (i := 1844) (by decide +kernel)⟩
theorem lw_p39 : lw_okq (⟨"ShoeHouseModel", "isEnd", "(IZ)Z"⟩, 50) := ⟨⟨by decide +kernel, by decide +kernel⟩, List.mem_of_getElem? (i := 1628) (by decide +kernel), List.mem_of_getElem? (i := 1853) (by decide +kernel), List.mem_of_getElem? (i := 1854) (by decide +kernel)⟩
theorem lw_p40 : lw_okq (⟨"ShoeHouseModel", "next", "()I"⟩, 50) := ⟨⟨by decide +kernel, by decide +kernel⟩, List.mem_of_getElem? (i := 1628) (by decide +kernel), List.mem_of_getElem? (i := 1857) (by decide +kernel), List.mem_of_getElem? (i := 1858) (by decide +kernel)⟩
theorem lw_p41 : lw_okq (⟨"ShoeHouseModel", "settleAll", "(Z)V"⟩, 50) := ⟨⟨by decide +kernel, by decide +kernel⟩, List.mem_of_getElem? (i := 1628) (by decide +kernel), List.mem_of_getElem? (i := 1861) (by decide +kernel), List.mem_of_getElem? (i := 1862) (by decide +kernel)⟩
theorem lw_p42 : lw_okq (⟨"ShoeHouseModel", "settle", "(IIIZ)V"⟩, 50) := ⟨⟨by decide +kernel, by decide +kernel⟩, List.mem_of_getElem? (i := 1628) (by decide +kernel), List.mem_of_getElem? (i := 1865) (by decide +kernel), List.mem_of_getElem? (i := 1866) (by decide +kernel)⟩
theorem lw_p43 : lw_okq (⟨"ShoeHouseModel", "win", "(III)V"⟩, 50) := ⟨⟨by decide +kernel, by decide +kernel⟩, List.mem_of_getElem? (i := 1628) (by decide +kernel), List.mem_of_getElem? (i := 1869) (by decide +kernel), List.mem_of_getElem? (i := 1870) (by decide +kernel)⟩
theorem lw_p44 : lw_okq (⟨"ShoeHouseModel", "pay", "(III)V"⟩, 50) := ⟨⟨by decide +kernel, by decide +kernel⟩, List.mem_of_getElem? (i := 1628) (by decide +kernel), List.mem_of_getElem? (i := 1873) (by decide +kernel), List.mem_of_getElem? (i := 1874) (by decide +kernel)⟩
theorem lw_p45 : lw_okq (⟨"ShoeHouseModel", "lose", "(II)V"⟩, 50) := ⟨⟨by decide +kernel, by decide +kernel⟩, List.mem_of_getElem? (i := 1628) (by decide +kernel), List.mem_of_getElem? (i := 1880) (by decide +kernel), List.mem_of_getElem? (i := 1881) (by decide +kernel)⟩
theorem lw_p46 : lw_okq (⟨"ShoeHouseModel", "winOf", "(I)I"⟩, 50) := ⟨⟨by decide +kernel, by decide +kernel⟩, List.mem_of_getElem? (i := 1628) (by decide +kernel), List.mem_of_getElem? (i := 1903) (by decide +kernel), List.mem_of_getElem? (i := 1904) (by decide +kernel)⟩
theorem lw_p47 : lw_okq (⟨"ShoeHouseModel", "hasStake", "(I)Z"⟩, 50) := ⟨⟨by decide +kernel, by decide +kernel⟩, List.mem_of_getElem? (i := 1628) (by decide +kernel), List.mem_of_getElem? (i := 1937) (by decide +kernel), List.mem_of_getElem? (i := 1938) (by decide +kernel)⟩
def lw_privs_3 : List (MethodName × Nat) := [(⟨"ShoeHouse", "needGuests", "()V"⟩, 11), (⟨"ShoeHouseModel", "isThrown", "(ZI)Z"⟩, 50), (⟨"ShoeHouseModel", "isNobody", "(I)Z"⟩, 50), (⟨"ShoeHouseModel", "turnNow", "()I"⟩, 50), (⟨"ShoeHouseModel", "finish", "()V"⟩, 50), (⟨"ShoeHouseModel", "isNaturalAt", "(I)Z"⟩, 50), (⟨"ShoeHouseModel", "valueAt", "(II)I"⟩, 50), (⟨"ShoeHouseModel", "isEnd", "(IZ)Z"⟩, 50), (⟨"ShoeHouseModel", "next", "()I"⟩, 50), (⟨"ShoeHouseModel", "settleAll", "(Z)V"⟩, 50), (⟨"ShoeHouseModel", "settle", "(IIIZ)V"⟩, 50), (⟨"ShoeHouseModel", "win", "(III)V"⟩, 50), (⟨"ShoeHouseModel", "pay", "(III)V"⟩, 50), (⟨"ShoeHouseModel", "lose", "(II)V"⟩, 50), (⟨"ShoeHouseModel", "winOf", "(I)I"⟩, 50), (⟨"ShoeHouseModel", "hasStake", "(I)Z"⟩, 50)]
theorem lw_r3 : ∀ q ∈ lw_privs_3, lw_okq q := List.forall_mem_cons.mpr ⟨lw_p32, List.forall_mem_cons.mpr ⟨lw_p33, List.forall_mem_cons.mpr ⟨lw_p34, List.forall_mem_cons.mpr ⟨lw_p35, List.forall_mem_cons.mpr ⟨lw_p36, List.forall_mem_cons.mpr ⟨lw_p37, List.forall_mem_cons.mpr ⟨lw_p38, List.forall_mem_cons.mpr ⟨lw_p39, List.forall_mem_cons.mpr ⟨lw_p40, List.forall_mem_cons.mpr ⟨lw_p41, List.forall_mem_cons.mpr ⟨lw_p42, List.forall_mem_cons.mpr ⟨lw_p43, List.forall_mem_cons.mpr ⟨lw_p44, List.forall_mem_cons.mpr ⟨lw_p45, List.forall_mem_cons.mpr ⟨lw_p46, List.forall_mem_cons.mpr ⟨lw_p47, fun _ h => absurd h List.not_mem_nil⟩⟩⟩⟩⟩⟩⟩⟩⟩⟩⟩⟩⟩⟩⟩⟩
theorem lw_p48 : lw_okq (⟨"ShoeHouseModel", "mayStake", "(II)Z"⟩, 50) := ⟨⟨by decide +kernel, by decide +kernel⟩, List.mem_of_getElem? (i := 1628) (by decide +kernel), List.mem_of_getElem? (i := 1941) (by decide +kernel), List.mem_of_getElem? (i := 1942) (by decide +kernel)⟩
theorem lw_p49 : lw_okq (⟨"ShoeHouseModel", "isBarredNow", "(I)Z"⟩, 50) := ⟨⟨by decide +kernel, by decide +kernel⟩, List.mem_of_getElem? (i := 1628) (by decide +kernel), List.mem_of_getElem? (i := 1945) (by decide +kernel), List.mem_of_getElem? (i := 1946) (by decide +kernel)⟩
theorem lw_p50 : lw_okq (⟨"ShoeHouseModel", "stakes", "(II)V"⟩, 50) := ⟨⟨by decide +kernel, by decide +kernel⟩, List.mem_of_getElem? (i := 1628) (by decide +kernel), List.mem_of_getElem? (i := 1949) (by decide +kernel), List.mem_of_getElem? (i := 1950) (by decide +kernel)⟩
theorem lw_p51 : lw_okq (⟨"ShoeHouseModel", "unseen", "()I"⟩, 50) := ⟨⟨by decide +kernel, by decide +kernel⟩, List.mem_of_getElem? (i := 1628) (by decide +kernel), List.mem_of_getElem? (i := 1953) (by decide +kernel), List.mem_of_getElem? (i := 1954) (by decide +kernel)⟩
theorem lw_p52 : lw_okq (⟨"ShoeHouseModel", "counted", "()I"⟩, 50) := ⟨⟨by decide +kernel, by decide +kernel⟩, List.mem_of_getElem? (i := 1628) (by decide +kernel), List.mem_of_getElem? (i := 1957) (by decide +kernel), List.mem_of_getElem? (i := 1958) (by decide +kernel)⟩
theorem lw_p53 : lw_okq (⟨"ShoeHouseModel", "leftOf", "(I)I"⟩, 50) := ⟨⟨by decide +kernel, by decide +kernel⟩, List.mem_of_getElem? (i := 1628) (by decide +kernel), List.mem_of_getElem? (i := 1961) (by decide +kernel), List.mem_of_getElem? (i := 1962) (by decide +kernel)⟩
theorem lw_p54 : lw_okq (⟨"ShoeHouseModel", "take", "(II)V"⟩, 50) := ⟨⟨by decide +kernel, by decide +kernel⟩, List.mem_of_getElem? (i := 1628) (by decide +kernel), List.mem_of_getElem? (i := 1969) (by decide +kernel), List.mem_of_getElem? (i := 1970) (by decide +kernel)⟩
theorem lw_p55 : lw_okq (⟨"ShoeHouseModel", "isNotTurn", "(I)Z"⟩, 50) := ⟨⟨by decide +kernel, by decide +kernel⟩, List.mem_of_getElem? (i := 1628) (by decide +kernel), List.mem_of_getElem? (i := 1977) (by decide +kernel), List.mem_of_getElem? (i := 1978) (by decide +kernel)⟩
theorem lw_p56 : lw_okq (⟨"ShoeHouseModel", "looks", "(II)V"⟩, 50) := ⟨⟨by decide +kernel, by decide +kernel⟩, List.mem_of_getElem? (i := 1628) (by decide +kernel), List.mem_of_getElem? (i := 1981) (by decide +kernel), List.mem_of_getElem? (i := 1982) (by decide +kernel)⟩
theorem lw_p57 : lw_okq (⟨"ShoeHouseModel", "goesOn", "()V"⟩, 50) := ⟨⟨by decide +kernel, by decide +kernel⟩, List.mem_of_getElem? (i := 1628) (by decide +kernel), List.mem_of_getElem? (i := 1985) (by decide +kernel), List.mem_of_getElem? (i := 1986) (by decide +kernel)⟩
theorem lw_p58 : lw_okq (⟨"ShoeHouseModel", "bust", "(IZ)J"⟩, 50) := ⟨⟨by decide +kernel, by decide +kernel⟩, List.mem_of_getElem? (i := 1628) (by decide +kernel), List.mem_of_getElem? (i := 2025) (by decide +kernel), List.mem_of_getElem? (i := 2026) (by decide +kernel)⟩
theorem lw_p59 : lw_okq (⟨"ShoeHouseModel", "busting", "(I)I"⟩, 50) := ⟨⟨by decide +kernel, by decide +kernel⟩, List.mem_of_getElem? (i := 1628) (by decide +kernel), List.mem_of_getElem? (i := 2029) (by decide +kernel), List.mem_of_getElem? (i := 2030) (by decide +kernel)⟩
theorem lw_p60 : lw_okq (⟨"ShoeHouseModel", "ends", "(IZII)D"⟩, 50) := ⟨⟨by decide +kernel, by decide +kernel⟩, List.mem_of_getElem? (i := 1628) (by decide +kernel), List.mem_of_getElem? (i := 2044) (by decide +kernel), List.mem_of_getElem? (i := 2045) (by decide +kernel)⟩
theorem lw_p61 : lw_okq (⟨"ShoeHouseModel", "isSpinning", "()Z"⟩, 50) := ⟨⟨by decide +kernel, by decide +kernel⟩, List.mem_of_getElem? (i := 1628) (by decide +kernel), List.mem_of_getElem? (i := 2094) (by decide +kernel), List.mem_of_getElem? (i := 2095) (by decide +kernel)⟩
theorem lw_p62 : lw_okq (⟨"ShoeHouseModel", "returned", "(Z)J"⟩, 50) := ⟨⟨by decide +kernel, by decide +kernel⟩, List.mem_of_getElem? (i := 1628) (by decide +kernel), List.mem_of_getElem? (i := 2130) (by decide +kernel), List.mem_of_getElem? (i := 2131) (by decide +kernel)⟩
theorem lw_p63 : lw_okq (⟨"ShoeHouseModel", "right", "(I)I"⟩, 50) := ⟨⟨by decide +kernel, by decide +kernel⟩, List.mem_of_getElem? (i := 1628) (by decide +kernel), List.mem_of_getElem? (i := 2151) (by decide +kernel), List.mem_of_getElem? (i := 2152) (by decide +kernel)⟩
def lw_privs_4 : List (MethodName × Nat) := [(⟨"ShoeHouseModel", "mayStake", "(II)Z"⟩, 50), (⟨"ShoeHouseModel", "isBarredNow", "(I)Z"⟩, 50), (⟨"ShoeHouseModel", "stakes", "(II)V"⟩, 50), (⟨"ShoeHouseModel", "unseen", "()I"⟩, 50), (⟨"ShoeHouseModel", "counted", "()I"⟩, 50), (⟨"ShoeHouseModel", "leftOf", "(I)I"⟩, 50), (⟨"ShoeHouseModel", "take", "(II)V"⟩, 50), (⟨"ShoeHouseModel", "isNotTurn", "(I)Z"⟩, 50), (⟨"ShoeHouseModel", "looks", "(II)V"⟩, 50), (⟨"ShoeHouseModel", "goesOn", "()V"⟩, 50), (⟨"ShoeHouseModel", "bust", "(IZ)J"⟩, 50), (⟨"ShoeHouseModel", "busting", "(I)I"⟩, 50), (⟨"ShoeHouseModel", "ends", "(IZII)D"⟩, 50), (⟨"ShoeHouseModel", "isSpinning", "()Z"⟩, 50), (⟨"ShoeHouseModel", "returned", "(Z)J"⟩, 50), (⟨"ShoeHouseModel", "right", "(I)I"⟩, 50)]
theorem lw_r4 : ∀ q ∈ lw_privs_4, lw_okq q := List.forall_mem_cons.mpr ⟨lw_p48, List.forall_mem_cons.mpr ⟨lw_p49, List.forall_mem_cons.mpr ⟨lw_p50, List.forall_mem_cons.mpr ⟨lw_p51, List.forall_mem_cons.mpr ⟨lw_p52, List.forall_mem_cons.mpr ⟨lw_p53, List.forall_mem_cons.mpr ⟨lw_p54, List.forall_mem_cons.mpr ⟨lw_p55, List.forall_mem_cons.mpr ⟨lw_p56, List.forall_mem_cons.mpr ⟨lw_p57, List.forall_mem_cons.mpr ⟨lw_p58, List.forall_mem_cons.mpr ⟨lw_p59, List.forall_mem_cons.mpr ⟨lw_p60, List.forall_mem_cons.mpr ⟨lw_p61, List.forall_mem_cons.mpr ⟨lw_p62, List.forall_mem_cons.mpr ⟨lw_p63, fun _ h => absurd h List.not_mem_nil⟩⟩⟩⟩⟩⟩⟩⟩⟩⟩⟩⟩⟩⟩⟩⟩
theorem lw_p64 : lw_okq (⟨"ShoeHouseModel", "ruin", "(IIZ)J"⟩, 50) := ⟨⟨by decide +kernel, by decide +kernel⟩, List.mem_of_getElem? (i := 1628) (by decide +kernel), List.mem_of_getElem? (i := 2203) (by decide +kernel), List.mem_of_getElem? (i := 2204) (by decide +kernel)⟩
def lw_privs_5 : List (MethodName × Nat) := [(⟨"ShoeHouseModel", "ruin", "(IIZ)J"⟩, 50)]
theorem lw_r5 : ∀ q ∈ lw_privs_5, lw_okq q := List.forall_mem_cons.mpr ⟨lw_p64, fun _ h => absurd h List.not_mem_nil⟩
def lw_privs : List (MethodName × Nat) := lw_privs_1 ++ (lw_privs_2 ++ (lw_privs_3 ++ (lw_privs_4 ++ (lw_privs_5))))
def lw_tbl : List Cond := k2_sels lw_privs ++ tables_1
theorem lw_privs_ok : ∀ q ∈ lw_privs, lw_okq q := by
  show ∀ q ∈ lw_privs_1 ++ (lw_privs_2 ++ (lw_privs_3 ++ (lw_privs_4 ++ (lw_privs_5)))), lw_okq q
  exact List.forall_mem_append.mpr ⟨lw_r1, List.forall_mem_append.mpr ⟨lw_r2, List.forall_mem_append.mpr ⟨lw_r3, List.forall_mem_append.mpr ⟨lw_r4, lw_r5⟩⟩⟩⟩
/-- the streams that the claim lets the run draw from -/
abbrev lw_cs : List Choice := [Jvm.Choice.named "NaN.bits"]
theorem lw_bits : nanBits ∈ lw_cs := by first | decide | exact List.mem_cons_self | simp [lw_cs, nanBits]
-- ===== end of PART A; then your names; then what follows =====
/-! ===== BEGIN words of one list among another's, by their places ===== -/
theorem goodIn_r {big : List Cond} (ws : List Cond) (ps : List Nat) (hp : ws = ps.filterMap (fun i => big[i]?)) (h : ws.all goodWord = true) : GoodIn big ws := by
  intro w hw
  have h1 := List.all_eq_true.mp h w hw
  rw [hp] at hw
  obtain ⟨i, -, hi⟩ := List.mem_filterMap.mp hw
  have hm : w ∈ big := by first | exact List.mem_of_getElem? hi | exact List.getElem?_mem hi
  exact ⟨hm, good_of_word h1⟩
theorem goodIn_app {big a b : List Cond} (ha : GoodIn big a) (hb : GoodIn big b) : GoodIn big (a ++ b) := fun w h => (List.mem_append.mp h).elim (ha w) (hb w)
theorem goodIn_ca {big a b : List Cond} {c : Cond} (ha : GoodIn big (c :: a)) (hb : GoodIn big b) : GoodIn big (c :: (a ++ b)) := fun w h => (List.mem_cons.mp h).elim (fun e => ha w (List.mem_cons.mpr (Or.inl e))) (fun h => (List.mem_append.mp h).elim (fun h => ha w (List.mem_cons.mpr (Or.inr h))) (hb w))
theorem goodIn_sub {big ws : List Cond} (hm : ∀ w ∈ ws, w ∈ big) (h : ws.all goodWord = true) : GoodIn big ws := fun w hw => ⟨hm w hw, good_of_word (List.all_eq_true.mp h w hw)⟩
/-! ===== END ===== -/
/-! ===== BEGIN exceptions that leave a method, and their catching by the caller (launches without stack traces) ===== -/
section VXA
/-! The laws vx_back, vx_callV, vx_callS, vx_callSW, vx_throw0, vx_throwS follow proofs of the library, with one case more: JvmDerived/Free/Laws.lean (Back.of_free), Shelf42/LK1.lean (callV, callS), Shelf/KitTraced.lean (throwNew0V, throwNewS). -/
/-- where a method has thrown q: the class by its name, the cell, what was written, the world -/
def vx_T (XC : String → State → State → Prop) (st : State) (q : Addr) (t : State) (mc ms : Nat) (free : Addr → Prop) : Prop :=
  ∃ (E : String) (ce : Cell) (L : List Loc), XC E st t ∧ t.heap[q]? = some ce ∧ ce.vm = .none ∧ st.vm.findClass E = some ce.cls ∧ st.WarmedH t.vm ∧ st.sameButNew ({ t with vm := st.vm } : State) L mc ms ∧ ∀ z ∈ L, free z.base
def vx_Q (Qc : Array Value → State → Outcome → State → Prop) (XC : String → State → State → Prop) (mc ms : Nat) (free : Addr → Prop) : Array Value → State → Outcome → State → Prop := fun a st o t =>
  (Qc a st o t ∧ ∃ L, FrameEnd st o t L mc ms ∧ ∀ q ∈ L, free q.base) ∨ ∃ q, o = .threw q ∧ vx_T XC st q t mc ms free
/-- a callee that returns or throws -/
def vx_Met (l : Launch) (y : MethodName) (ws : List Cond) (rm : Room) (Pc : Array Value → State → Prop) (Qc : Array Value → State → Outcome → State → Prop) (XC : String → State → State → Prop) (mc ms : Nat) (free : Addr → Prop) : Prop :=
  MetFree l y (headSpec ws rm) Pc (fun _ _ _ _ _ => True) (vx_Q Qc XC mc ms free)
def vx_Post (XC : String → State → State → Prop) (mc ms : Nat) (free : Addr → Prop) : Pt → Array Value → Addr → Pt → Prop := fun A a q B =>
  ∃ (g : JFrame) (mk : MethodId) (t : State) (L : List Loc) (E : String) (ce : Cell), B.U.heap = t.heap ∧ B.U.vm = t.vm ∧ XC E (A.U.calling g mk a) t ∧ t.heap[q]? = some ce ∧ ce.vm = .none ∧ A.U.vm.findClass E = some ce.cls ∧ B.locs = A.locs ++ L ∧ (∀ z ∈ L, free z.base) ∧ B.cells = A.cells + mc ∧ B.slots = A.slots + ms
def vx_Back (l : Launch) (R : Room) (p : Program) (e : Env) (below : List Frame) (s : State) (sargs : Array Value) (y : MethodName) (len W9 : Nat)
    (Pre : Pt → Array Value → Prop) (Post : Pt → Array Value → Option Value → Pt → Prop) (PostX : Pt → Array Value → Addr → Pt → Prop) : Prop :=
  ∀ (m : MethodId) (meth : Method) (c : Code) (A : Pt) (g : JFrame) (ig : Instr) (mk : MethodId) (a : Array Value),
    Stand p l e R s m sargs below meth c A.U A.locs A.cells A.slots → g.method = m → g.locals.size = c.maxLocals → decode c.code g.pc = .ok (ig, len) →
    2 * g.monitorRoom + (g.stack.map fun v => v.category).sum ≤ W9 → A.U.methodNamed? y = some mk → Pre A a →
    (∃ (v : Option Value) (B : Pt), Stand p l e R s m sargs below meth c B.U B.locs B.cells B.slots ∧ Post A a v B ∧
      Steps p.tables e below (doInvoke e (A.U.setTop g) [] mk a).1 (B.U.setTop { g with pc := g.pc + len, stack := v.toList ++ g.stack })) ∨
    (∃ (q : Addr) (B : Pt), Stand p l e R s m sargs below meth c B.U B.locs B.cells B.slots ∧ PostX A a q B ∧
      Steps p.tables e below (doInvoke e (A.U.setTop g) [] mk a).1 ((B.U.setTop g).pushFrame (.throwing q)))
section Payer
variable {l : Launch} {R : Room} {p : Program} {e : Env} {below : List Frame} {s : State} {sargs : Array Value} {y : MethodName} {len W9 : Nat}
theorem vx_back {ws : List Cond} {rm : Room} {Pc : Array Value → State → Prop} {Qc : Array Value → State → Outcome → State → Prop} {XC : String → State → State → Prop} {mc ms : Nat} {free : Addr → Prop} {bytes : ByteArray} {maxL : Nat} {ret : Option FieldType}
    (hM : vx_Met l y ws rm Pc Qc XC mc ms free) (hblind : FrameBlind Pc) (hrc : rm.cells = mc) (hrs : rm.slots = ms)
    (hframes : rm.frames + 1 ≤ R.frames) (hlocals : W9 + (maxL + 11) + rm.locals ≤ R.locals)
    (hws : ∀ w ∈ ws, ∀ a' U, s.WarmedH U.vm → w.before a' U = true) (hcode : Cond.code y bytes maxL ret ∈ ws) (hinit : ∀ a' U, s.WarmedH U.vm → (Cond.initialized y.cls).before a' U = true) :
    vx_Back l R p e below s sargs y len W9 (PreOf R mc ms Pc) (PostOf Qc mc ms free) (vx_Post XC mc ms free) := by
  intro m meth c A g ig mk a X hg hsize hdg hW hn hp
  have h1 : (headSpec ws rm).pre.before a A.U = true := atoms_intro fun w hw => hws w hw _ _ X.warmed
  have h2 : (Cond.code y bytes maxL ret).before a A.U = true := hws _ hcode _ _ X.warmed
  have h3 : (Cond.initialized y.cls).before a A.U = true := hinit _ _ X.warmed
  have h4 : A.cells + (headSpec ws rm).room.cells ≤ R.cells := by rw [show (headSpec ws rm).room.cells = mc from hrc]; exact hp.1
  have h5 : A.slots + (headSpec ws rm).room.slots ≤ R.slots := by rw [show (headSpec ws rm).room.slots = ms from hrs]; exact hp.2.1
  have hPc : Pc a (A.U.calling g mk a) := hblind _ _ _ _ hp.2.2
  obtain ⟨U, Ls, c0, s0⟩ := A
  dsimp only [Pt.U, Pt.locs, Pt.cells, Pt.slots] at h1 h2 h3 h4 h5 X hn hPc ⊢
  obtain ⟨methY, cY, hmY, hcY, -, hlY, -, -, -, -⟩ := Cond.code_spec hn h2
  obtain ⟨kY, hkY, -⟩ := className_of_methodNamed hn
  have hinitY : kY.init = .initialized := Cond.initialized_spec (findClass_of_methodNamed hn) hkY h3
  have h : At U g.method c below := by rw [hg]; exact X.here
  have hlocals9 : W9 + (maxL + 11) + (headSpec ws rm).room.locals ≤ R.locals := hlocals
  have happ : (headSpec ws rm).appliesLoose y e.platform (U.calling g mk a) = true :=
    Spec.appliesLoose_calling (g := g) h hdg hn hkY hinitY
      (X.room_calling (g := g) (R' := (headSpec ws rm).room) hsize hmY hcY hframes (by rw [hlY]; omega) h4 h5) h1
  obtain ⟨mid, hmid⟩ := h.above
  have hfr : (U.setTop g).frames = (.java g :: mid) ++ below := by rw [State.frames_setTop' g h.top, hmid]; rfl
  obtain ⟨o, s₂, hsteps, -, hend, hq⟩ := Steps.callFree hM p X.admits X.cas X.clock (acts := []) hfr happ hPc trivial
  have hq' : vx_Q Qc XC mc ms free a (U.calling g mk a) o s₂ := hq
  rw [State.frames_setTop' g h.top] at hend
  obtain ⟨g₀, hg0⟩ := Option.isSome_iff_exists.mp h.top
  obtain ⟨r, hr⟩ := State.topJava?_eq_some.mp hg0
  have hr' : (({ U with heap := s₂.heap, slotsUsed := s₂.slotsUsed } : State).setVm s₂.vm).frames = .java g₀ :: r := hr
  rcases hq' with ⟨hqc, L, hfe, hL⟩ | ⟨q, rfl, E, ce, L, hx, hce, hcv, hcl, hW₂, hsm, hL⟩
  · obtain ⟨⟨v, rfl⟩, hW₂, e2, q2, q3, q4, q5, q6⟩ := id hfe
    have e3 : s₂ = ({ (U.calling g mk a).setFrames s₂.frames with heap := s₂.heap, slotsUsed := s₂.slotsUsed } : State).setVm s₂.vm := by
      have : s₂ = ({ s₂ with vm := (U.calling g mk a).vm } : State).setVm s₂.vm := rfl
      rw [e2] at this
      exact this
    obtain ⟨c₂, i₂, len₂, hc₂, hd₂, hf₂⟩ := hend
    have hW' : U.WarmedH s₂.vm := hW₂
    have hcc : c₂ = c := by
      have h1 : s₂.code? g.method = U.code? g.method := by
        rw [State.code?_eq, State.code?_eq, hW'.alike.method?]
      exact Option.some.inj (hc₂.symm.trans (h1.trans h.code))
    subst hcc
    have hlen : len₂ = len := by rw [hdg] at hd₂; cases hd₂; rfl
    subst hlen
    have hs₂ : s₂ = (({ U with heap := s₂.heap, slotsUsed := s₂.slotsUsed } : State).setVm s₂.vm).setTop { g with pc := g.pc + len₂, stack := v.toList ++ g.stack } := by
      refine e3.trans ?_
      rw [hf₂, State.calling_eq h.top, State.setFrames_setFrames, State.setTop_of_frames _ hr', hr]
      rfl
    have hsame : U.sameButNew ({ U with heap := s₂.heap, slotsUsed := s₂.slotsUsed } : State) L mc ms := by
      refine ⟨?_, q2, q3, q4, q5, q6⟩
      obtain ⟨t, ht, -⟩ := State.frames_cons hr
      show ({ U with heap := s₂.heap, slotsUsed := s₂.slotsUsed } : State) = { U.setFrames U.frames with heap := s₂.heap, slotsUsed := s₂.slotsUsed }
      rw [State.setFrames_self ht]
    subst hg
    refine Or.inl ⟨v, ⟨(({ U with heap := s₂.heap, slotsUsed := s₂.slotsUsed } : State).setVm s₂.vm), Ls ++ L, c0 + mc, s0 + ms⟩,
      ⟨X.admits, X.cas, X.clock, X.frames, X.room, X.hears, X.method, X.code, (X.here.setHeapUsed s₂.heap s₂.slotsUsed).setVm hW'.alike, X.tail, State.WarmedH.trans X.warmed hW', X.limits, X.bytes, X.same.trans (hsame.setVm s.vm)⟩,
      ⟨g, mk, s₂, L, rfl, rfl, hqc, rfl, hL, rfl, rfl⟩, ?_⟩
    show Steps p.tables e below _ ((({ U with heap := s₂.heap, slotsUsed := s₂.slotsUsed } : State).setVm s₂.vm).setTop { g with pc := g.pc + len₂, stack := v.toList ++ g.stack })
    rw [← hs₂]
    exact hsteps
  · obtain ⟨e2, q2, q3, q4, q5, q6⟩ := id hsm
    have e3 : s₂ = ({ (U.calling g mk a).setFrames s₂.frames with heap := s₂.heap, slotsUsed := s₂.slotsUsed } : State).setVm s₂.vm := by
      have : s₂ = ({ s₂ with vm := (U.calling g mk a).vm } : State).setVm s₂.vm := rfl
      rw [e2] at this
      exact this
    have hf₂ : s₂.frames = .throwing q :: .java g :: U.frames.tail := hend
    have hW' : U.WarmedH s₂.vm := hW₂
    have hs₂ : s₂ = ((({ U with heap := s₂.heap, slotsUsed := s₂.slotsUsed } : State).setVm s₂.vm).setTop g).pushFrame (.throwing q) := by
      refine e3.trans ?_
      rw [hf₂, State.calling_eq h.top, State.setFrames_setFrames, State.pushFrame, State.frames_setTop _ hr', State.setTop_of_frames _ hr', State.setFrames_setFrames, hr]
      rfl
    have hsame : U.sameButNew ({ U with heap := s₂.heap, slotsUsed := s₂.slotsUsed } : State) L mc ms := by
      refine ⟨?_, q2, q3, q4, q5, q6⟩
      obtain ⟨t, ht, -⟩ := State.frames_cons hr
      show ({ U with heap := s₂.heap, slotsUsed := s₂.slotsUsed } : State) = { U.setFrames U.frames with heap := s₂.heap, slotsUsed := s₂.slotsUsed }
      rw [State.setFrames_self ht]
    subst hg
    refine Or.inr ⟨q, ⟨(({ U with heap := s₂.heap, slotsUsed := s₂.slotsUsed } : State).setVm s₂.vm), Ls ++ L, c0 + mc, s0 + ms⟩,
      ⟨X.admits, X.cas, X.clock, X.frames, X.room, X.hears, X.method, X.code, (X.here.setHeapUsed s₂.heap s₂.slotsUsed).setVm hW'.alike, X.tail, State.WarmedH.trans X.warmed hW', X.limits, X.bytes, X.same.trans (hsame.setVm s.vm)⟩,
      ⟨g, mk, s₂, L, E, ce, rfl, rfl, hx, hce, hcv, hcl, rfl, hL, rfl, rfl⟩, ?_⟩
    show Steps p.tables e below _ (((({ U with heap := s₂.heap, slotsUsed := s₂.slotsUsed } : State).setVm s₂.vm).setTop g).pushFrame (.throwing q))
    rw [← hs₂]
    exact hsteps
end Payer
section Calls
variable {p : Program} {l : Launch} {e : Env} {R : Room} {s : State} {m : MethodId} {args : Array Value} {below : List Frame} {meth : Method} {c : Code} {T : State} {locs : List Loc} {cells slots : Nat}
theorem vx_callV (X : Stand p l e R s m args below meth c T locs cells slots) (hexec : p.tables.exec = Jvm.exec) {own C : String} {index : Nat} {y : MethodName} {bytes : ByteArray} {maxL : Nat} {ret : Option FieldType}
    (hown : s.vm.findClass own = some m.cls) (hlink : (Cond.methodLink own index y).before args s = true) (hinst : (Cond.instanceMethod y).before args s = true) (hsel : (Cond.selects C y y).before args s = true)
    (hcode : (Cond.code y bytes maxL ret).before args s = true) (hy : y.cls ≠ "java/lang/invoke/MethodHandle" ∧ y.cls ≠ "java/lang/invoke/VarHandle")
    {W9 : Nat} {Pre : Pt → Array Value → Prop} {Post : Pt → Array Value → Option Value → Pt → Prop} {PostX : Pt → Array Value → Addr → Pt → Prop} (hK : vx_Back l R p e below s args y 3 W9 Pre Post PostX)
    {b : Addr} {cellB : Cell} (hcell : T.heap[b]? = some cellB) (hobj : cellB.vm.isStatics = false) (hcls : s.vm.findClass C = some cellB.cls)
    {g : JFrame} (hg : g.method = m) (hsize : g.locals.size = c.maxLocals) {argsL rest : List Value} (hlen : ∀ sig, parseMethodDescriptor y.desc = some sig → argsL.length = sig.parameters.length)
    (hstack : g.stack = argsL.reverse ++ .ref b :: rest) (hW : 2 * g.monitorRoom + (rest.map fun v => v.category).sum ≤ W9) (hdg : decode c.code g.pc = .ok (.invokevirtual index, 3))
    (hpre : ∀ vm₁, s.WarmedH vm₁ → Pre ⟨T.setVm vm₁, locs, cells, slots⟩ (Value.ref b :: argsL).toArray) :
    (∃ (v : Option Value) (vm₁ : Vm) (B : Pt), s.WarmedH vm₁ ∧ Stand p l e R s m args below meth c B.U B.locs B.cells B.slots ∧ Post ⟨T.setVm vm₁, locs, cells, slots⟩ (Value.ref b :: argsL).toArray v B ∧
      ∀ target, Steps p.tables e below (B.U.setTop { g with pc := g.pc + 3, stack := v.toList ++ rest }) target → Steps p.tables e below (T.setTop g) target) ∨
    (∃ (q : Addr) (vm₁ : Vm) (B : Pt), s.WarmedH vm₁ ∧ Stand p l e R s m args below meth c B.U B.locs B.cells B.slots ∧ PostX ⟨T.setVm vm₁, locs, cells, slots⟩ (Value.ref b :: argsL).toArray q B ∧
      Steps p.tables e below (T.setTop g) ((B.U.setTop { g with stack := rest }).pushFrame (.throwing q))) := by
  obtain ⟨mk, methM, hnamed, hmethM, hstM, habM⟩ := Cond.instanceMethod_spec hinst
  obtain ⟨methM', cM, hmethM', -, -, -, -, -, -, hsigM⟩ := Cond.code_spec hnamed hcode
  cases hmethM.symm.trans hmethM'
  obtain ⟨c2, r2, m2, q1, q2, q3, q4, kP, hkP, hkPi⟩ := Cond.selects_spec hsel
  cases hcls.symm.trans q1
  cases (State.methodFound?_of_named hnamed hy).symm.trans q2
  cases hnamed.symm.trans q3
  have hselP : selectMethod e.platform s.vm cellB.cls mk = .method mk := by rw [Launch.admits_selectMethod X.admits]; exact q4
  obtain ⟨vm₁, X₁, hstep₁⟩ := X.invokevirtual hexec hown hlink hnamed hmethM hstM hkP hkPi hy (a := b) (cell := cellB) hcell
    (fun z h => by rw [h] at hobj; cases hobj) hselP hmethM habM hkP hkPi (g := g) hg (argsL := argsL) (rest := rest) (hlen _ hsigM) hstack hdg
  rcases hK m meth c ⟨T.setVm vm₁, locs, cells, slots⟩ { g with stack := rest } (.invokevirtual index) mk (Value.ref b :: argsL).toArray X₁ hg hsize hdg hW (X₁.named hnamed) (hpre vm₁ X₁.warmed) with ⟨v, B, X', hpost, hsteps⟩ | ⟨q, B, X', hpost, hsteps⟩
  · exact Or.inl ⟨v, vm₁, B, X₁.warmed, X', hpost, fun target h => hstep₁ _ fun acts => by rw [doInvoke_state]; exact hsteps.trans h⟩
  · exact Or.inr ⟨q, vm₁, B, X₁.warmed, X', hpost, hstep₁ _ fun acts => by rw [doInvoke_state]; exact hsteps⟩
theorem vx_callS (X : Stand p l e R s m args below meth c T locs cells slots) (hexec : p.tables.exec = Jvm.exec) {own : String} {index : Nat} {y : MethodName} {bytes : ByteArray} {maxL : Nat} {ret : Option FieldType}
    (hown : s.vm.findClass own = some m.cls) (hlink : (Cond.methodLink own index y).before args s = true) (hstat : (Cond.static y).before args s = true) (hinit : (Cond.initialized y.cls).before args s = true)
    (hcode : (Cond.code y bytes maxL ret).before args s = true) (hy : y.cls ≠ "java/lang/invoke/MethodHandle" ∧ y.cls ≠ "java/lang/invoke/VarHandle")
    {W9 : Nat} {Pre : Pt → Array Value → Prop} {Post : Pt → Array Value → Option Value → Pt → Prop} {PostX : Pt → Array Value → Addr → Pt → Prop} (hK : vx_Back l R p e below s args y 3 W9 Pre Post PostX)
    {g : JFrame} (hg : g.method = m) (hsize : g.locals.size = c.maxLocals) {argsL rest : List Value} (hlen : ∀ sig, parseMethodDescriptor y.desc = some sig → argsL.length = sig.parameters.length)
    (hstack : g.stack = argsL.reverse ++ rest) (hW : 2 * g.monitorRoom + (rest.map fun v => v.category).sum ≤ W9) (hdg : decode c.code g.pc = .ok (.invokestatic index, 3))
    (hpre : ∀ vm₁, s.WarmedH vm₁ → Pre ⟨T.setVm vm₁, locs, cells, slots⟩ argsL.toArray) :
    (∃ (v : Option Value) (vm₁ : Vm) (B : Pt), s.WarmedH vm₁ ∧ Stand p l e R s m args below meth c B.U B.locs B.cells B.slots ∧ Post ⟨T.setVm vm₁, locs, cells, slots⟩ argsL.toArray v B ∧
      ∀ target, Steps p.tables e below (B.U.setTop { g with pc := g.pc + 3, stack := v.toList ++ rest }) target → Steps p.tables e below (T.setTop g) target) ∨
    (∃ (q : Addr) (vm₁ : Vm) (B : Pt), s.WarmedH vm₁ ∧ Stand p l e R s m args below meth c B.U B.locs B.cells B.slots ∧ PostX ⟨T.setVm vm₁, locs, cells, slots⟩ argsL.toArray q B ∧
      Steps p.tables e below (T.setTop g) ((B.U.setTop { g with stack := rest }).pushFrame (.throwing q))) := by
  obtain ⟨mk, hnamed⟩ := Cond.code_named hcode
  obtain ⟨methM, cM, hmethM, -, -, -, -, -, -, hsigM⟩ := Cond.code_spec hnamed hcode
  have hstatic : methM.isStatic = true := Cond.static_spec hnamed hmethM hstat
  obtain ⟨kP, hkP, -⟩ := className_of_methodNamed hnamed
  have hinitP : kP.init = .initialized := Cond.initialized_spec (findClass_of_methodNamed hnamed) hkP hinit
  obtain ⟨vm₁, X₁, hstep₁⟩ := X.invokestatic hexec hown hlink hnamed hmethM hstatic hkP hinitP hy (g := g) hg (argsL := argsL) (rest := rest) (hlen _ hsigM) hstack hdg
  rcases hK m meth c ⟨T.setVm vm₁, locs, cells, slots⟩ { g with stack := rest } (.invokestatic index) mk argsL.toArray X₁ hg hsize hdg hW (X₁.named hnamed) (hpre vm₁ X₁.warmed) with ⟨v, B, X', hpost, hsteps⟩ | ⟨q, B, X', hpost, hsteps⟩
  · exact Or.inl ⟨v, vm₁, B, X₁.warmed, X', hpost, fun target h => hstep₁ _ fun acts => by rw [doInvoke_state]; exact hsteps.trans h⟩
  · exact Or.inr ⟨q, vm₁, B, X₁.warmed, X', hpost, hstep₁ _ fun acts => by rw [doInvoke_state]; exact hsteps⟩
end Calls
theorem vx_cls {s : State} {T : State} {vm₁ : Vm} {E : String} {k : ClassId} (hW : s.WarmedH vm₁) (h : (T.setVm vm₁).vm.findClass E = some k) : s.vm.findClass E = some k := by
  have h1 : vm₁.findClass E = some k := h
  rw [hW.alike.findClass] at h1
  exact h1
/-- the method's frame g, with q thrown over it -/
def vx_W (p : Program) (l : Launch) (e : Env) (R : Room) (s : State) (m : MethodId) (args : Array Value) (below : List Frame) (meth : Method) (c : Code) (H : Heap) (locs : List Loc) (cells slots : Nat) (Q : State → Prop) (g : JFrame) (q : Addr) : Prop :=
  ∀ T : State, T.heap = H → Stand p l e R s m args below meth c T locs cells slots → ∃ t, Steps p.tables e below ((T.setTop g).pushFrame (.throwing q)) t ∧ Q t
def vx_Run (p : Program) (l : Launch) (e : Env) (R : Room) (s : State) (m : MethodId) (args : Array Value) (below : List Frame) (meth : Method) (c : Code) (H : Heap) (locs : List Loc) (cells slots mc ms : Nat) (g : JFrame) (rest : List Value) (Qa : State → Outcome → State → Prop) (XC : String → State → State → Prop) (free : Addr → Prop) : Prop :=
  ∀ T : State, T.heap = H → Stand p l e R s m args below meth c T locs cells slots →
    (∃ (v : Option Value) (st₀ t T' : State) (L : List Loc), st₀.heap = H ∧ Stand p l e R s m args below meth c T' (locs ++ L) (cells + mc) (slots + ms) ∧ (∀ q ∈ L, free q.base) ∧ T'.heap = t.heap ∧ T'.vm = t.vm ∧ Qa st₀ (.returned v) t ∧
      Goes p e below T g T' { g with pc := g.pc + 3, stack := v.toList ++ rest }) ∨
    (∃ (q : Addr) (st₀ t T' : State) (L : List Loc) (E : String) (ce : Cell), st₀.heap = H ∧ Stand p l e R s m args below meth c T' (locs ++ L) (cells + mc) (slots + ms) ∧ (∀ z ∈ L, free z.base) ∧ T'.heap = t.heap ∧ T'.vm = t.vm ∧ XC E st₀ t ∧ t.heap[q]? = some ce ∧ ce.vm = .none ∧ s.vm.findClass E = some ce.cls ∧
      Steps p.tables e below (T.setTop g) ((T'.setTop { g with stack := rest }).pushFrame (.throwing q)))
def vx_X {S : Type} (px : S → Prop) (B : String → S → State → Prop) (A : Nat → Prop) : String → State → State → Prop := fun E st t => ∃ u : S, px u ∧ B E u t ∧ va_F A st t
section Runs
variable {p : Program} {l : Launch} {e : Env} {R : Room} {s : State} {m : MethodId} {args : Array Value} {below : List Frame} {meth : Method} {c : Code} {H : Heap} {locs : List Loc} {cells slots : Nat}
variable {y : MethodName} {bytes cc : ByteArray} {maxL nL mc ms n index : Nat} {ret : Option FieldType} {ws : List Cond} {rm : Room} {Pc : Array Value → State → Prop} {Qc : Array Value → State → Outcome → State → Prop} {XC : String → State → State → Prop} {free : Addr → Prop} {Ts : List Cond} {own C : String} {b : Addr} {As rest : List Value} {g : JFrame}
theorem vx_callBack (cb : CallB R s args own index y bytes maxL ret ws rm mc ms n) (hM : vx_Met l y ws rm Pc Qc XC mc ms free) (hbl : FrameBlind Pc) : vx_Back l R p e below s args y 3 8 (PreOf R mc ms Pc) (PostOf Qc mc ms free) (vx_Post XC mc ms free) := by
  obtain ⟨hrc, hrs, hfr, hlo, hws, hcw, -, hini, -⟩ := cb
  exact vx_back (bytes := bytes) (maxL := maxL) (ret := ret) hM hbl hrc hrs hfr hlo hws hcw (fun a' U hW => word_at hW (Or.inl (by first | rfl | simp [Cond.onTables, Cond.keeps, Cond.steady])) hini)
theorem vx_runV (S : CallFix p m c cc nL s args Ts own) (hM : vx_Met l y ws rm Pc Qc XC mc ms free) (cw : CallW R s args own C index y bytes maxL ret ws rm mc ms n) (hp : PreV s H C b Pc As)
    (hg : g.method = m) (hn : As.length = n) (hsize : g.locals.size = nL) (hstack : g.stack = As.reverse ++ .ref b :: rest) (hW : 2 * g.monitorRoom + (rest.map fun v => v.category).sum ≤ 8) (hdg : decode cc g.pc = .ok (.invokevirtual index, 3)) (hf : cells + mc ≤ R.cells ∧ slots + ms ≤ R.slots) :
    vx_Run p l e R s m args below meth c H locs cells slots mc ms g rest (Qc (Value.ref b :: As).toArray) XC free := by
  have hK : vx_Back l R p e below s args y 3 8 (PreOf R mc ms Pc) (PostOf Qc mc ms free) (vx_Post XC mc ms free) := vx_callBack cw.1 hM hp.1
  obtain ⟨⟨-, -, -, -, -, -, hcode, -, hy, hlen, hl⟩, hin, hse⟩ := cw
  obtain ⟨hx, hb, hml, ho, -⟩ := S
  obtain ⟨-, ⟨cellB, hcB, hoB, hclB⟩, hPc⟩ := hp
  intro T hT X
  rcases vx_callV X hx (C := C) (bytes := bytes) (maxL := maxL) (ret := ret) ho hl hin hse hcode hy hK (by rw [hT]; exact hcB) hoB hclB hg (hsize.trans hml.symm) (argsL := As) (rest := rest) (fun sig h => hn.trans (hlen sig h)) hstack hW (by rw [hb]; exact hdg)
    (fun vm₁ hW₁ => ⟨hf.1, hf.2, hPc (T.setVm vm₁) hT hW₁⟩) with ⟨v, vm₁, ⟨U', l2, c2, s2⟩, hW₁, X', ⟨g', mk, t, L, e1, e2, hq, h1, hL, h2, h3⟩, st⟩ | ⟨q, vm₁, ⟨U', l2, c2, s2⟩, hW₁, X', ⟨g', mk, t, L, E, ce, e1, e2, hq, hce, hcv, hcl, h1, hL, h2, h3⟩, st⟩
  · dsimp only [Pt.U, Pt.locs, Pt.cells, Pt.slots] at X' e1 e2 h1 h2 h3 st
    subst h1; subst h2; subst h3
    exact Or.inl ⟨v, (T.setVm vm₁).calling g' mk (Value.ref b :: As).toArray, t, U', L, hT, X', hL, e1, e2, hq, st⟩
  · dsimp only [Pt.U, Pt.locs, Pt.cells, Pt.slots] at X' e1 e2 h1 h2 h3 st hcl
    subst h1; subst h2; subst h3
    exact Or.inr ⟨q, (T.setVm vm₁).calling g' mk (Value.ref b :: As).toArray, t, U', L, E, ce, hT, X', hL, e1, e2, hq, hce, hcv, vx_cls hW₁ hcl, st⟩
theorem vx_runS (S : CallFix p m c cc nL s args Ts own) (hM : vx_Met l y ws rm Pc Qc XC mc ms free) (cw : CallB R s args own index y bytes maxL ret ws rm mc ms n ∧ (Cond.static y).before args s = true) (hp : PreS s H Pc As)
    (hg : g.method = m) (hn : As.length = n) (hsize : g.locals.size = nL) (hstack : g.stack = As.reverse ++ rest) (hW : 2 * g.monitorRoom + (rest.map fun v => v.category).sum ≤ 8) (hdg : decode cc g.pc = .ok (.invokestatic index, 3)) (hf : cells + mc ≤ R.cells ∧ slots + ms ≤ R.slots) :
    vx_Run p l e R s m args below meth c H locs cells slots mc ms g rest (Qc As.toArray) XC free := by
  have hK : vx_Back l R p e below s args y 3 8 (PreOf R mc ms Pc) (PostOf Qc mc ms free) (vx_Post XC mc ms free) := vx_callBack cw.1 hM hp.1
  obtain ⟨⟨-, -, -, -, -, -, hcode, hini, hy, hlen, hl⟩, hstt⟩ := cw
  obtain ⟨hx, hb, hml, ho, -⟩ := S
  intro T hT X
  rcases vx_callS X hx (bytes := bytes) (maxL := maxL) (ret := ret) ho hl hstt hini hcode hy hK hg (hsize.trans hml.symm) (argsL := As) (rest := rest) (fun sig h => hn.trans (hlen sig h)) hstack hW (by rw [hb]; exact hdg)
    (fun vm₁ hW₁ => ⟨hf.1, hf.2, hp.2 (T.setVm vm₁) hT hW₁⟩) with ⟨v, vm₁, ⟨U', l2, c2, s2⟩, hW₁, X', ⟨g', mk, t, L, e1, e2, hq, h1, hL, h2, h3⟩, st⟩ | ⟨q, vm₁, ⟨U', l2, c2, s2⟩, hW₁, X', ⟨g', mk, t, L, E, ce, e1, e2, hq, hce, hcv, hcl, h1, hL, h2, h3⟩, st⟩
  · dsimp only [Pt.U, Pt.locs, Pt.cells, Pt.slots] at X' e1 e2 h1 h2 h3 st
    subst h1; subst h2; subst h3
    exact Or.inl ⟨v, (T.setVm vm₁).calling g' mk As.toArray, t, U', L, hT, X', hL, e1, e2, hq, st⟩
  · dsimp only [Pt.U, Pt.locs, Pt.cells, Pt.slots] at X' e1 e2 h1 h2 h3 st hcl
    subst h1; subst h2; subst h3
    exact Or.inr ⟨q, (T.setVm vm₁).calling g' mk As.toArray, t, U', L, E, ce, hT, X', hL, e1, e2, hq, hce, hcv, vx_cls hW₁ hcl, st⟩
end Runs
section Rows
variable {p : Program} {l : Launch} {e : Env} {R : Room} {s : State} {m : MethodId} {args : Array Value} {below : List Frame} {meth : Method} {c : Code} {H : Heap} {locs : List Loc} {cells slots : Nat} {Q : State → Prop}
variable {mc ms : Nat} {free : Addr → Prop} {A0 A1 : Nat → Prop} {H0 : Heap} {a : Array Value} {pc : Nat} {ls : Array Slot} {st0 rest : List Value}
theorem vx_keep {st₀ t T' : State} {L : List Loc} (h0 : st₀.heap = H) (e1 : T'.heap = t.heap) (hS : va_S A0 H0 H locs) (hA : ∀ q, q < H.size → A1 q → A0 q) (hf : ∀ q, free q → A0 q) (hL : ∀ q ∈ L, free q.base) (hF : va_F A1 st₀ t) :
    H.size ≤ T'.heap.size ∧ (∀ q : Nat, q < H.size → ¬ A1 q → T'.heap[q]? = H[q]?) ∧ va_S A0 H0 T'.heap (locs ++ L) := by
  obtain ⟨hz, hk⟩ := hF
  rw [h0] at hz hk
  exact ⟨by rw [e1]; exact hz, fun q h1 h2 => by rw [e1]; exact hk q h1 h2,
    ⟨Nat.le_trans hS.1 (by rw [e1]; exact hz), fun q h1 h2 => by rw [e1, hk q (Nat.lt_of_lt_of_le h1 hS.1) (fun z => h2 (hA q (Nat.lt_of_lt_of_le h1 hS.1) z))]; exact hS.2.1 q h1 h2, fun q hq => by
      rcases List.mem_append.mp hq with h | h
      · exact hS.2.2 q h
      · exact hf _ (hL q h)⟩⟩
theorem vx_calli {S SX : Type} {post : Int32 → S → Prop} {px : SX → Prop} {B : S → State → Prop} {BX : String → SX → State → Prop} {AX : Nat → Prop} (hr : vx_Run p l e R s m args below meth c H locs cells slots mc ms (F0 m pc ls st0) rest (va_Qi post B A1 a) (vx_X px BX AX) free) (hS : va_S A0 H0 H locs) (hA : ∀ q, q < H.size → A1 q → A0 q) (hf : ∀ q, free q → A0 q) (hAX : ∀ q, q < H.size → AX q → A0 q)
    (kx : ∀ (E : String) (ce : Cell) (q9 : Addr) (u : SX) (t : State) (H1 : Heap) (locs1 : List Loc), t.heap = H1 → s.vm.Alike t.vm → px u → BX E u t → H.size ≤ H1.size → (∀ q : Nat, q < H.size → ¬ AX q → H1[q]? = H[q]?) → va_S A0 H0 H1 locs1 → H1[q9]? = some ce → ce.vm = .none → s.vm.findClass E = some ce.cls → vx_W p l e R s m args below meth c H1 locs1 (cells + mc) (slots + ms) Q (F0 m pc ls rest) q9)
    (kk : ∀ (r : Int32) (u : S) (t : State) (H1 : Heap) (locs1 : List Loc), t.heap = H1 → s.vm.Alike t.vm → post r u → B u t → H.size ≤ H1.size → (∀ q : Nat, q < H.size → ¬ A1 q → H1[q]? = H[q]?) → va_S A0 H0 H1 locs1 → W p l e R s m args below meth c H1 locs1 (cells + mc) (slots + ms) Q (F0 m (pc + 3) ls (.int r :: rest))) : W p l e R s m args below meth c H locs cells slots Q (F0 m pc ls st0) := by
  intro T hT X
  rcases hr T hT X with ⟨v, st₀, t, T', L, h0, X', hL, e1, e2, ⟨⟨r, u, hv, hp, hb⟩, hF⟩, st⟩ | ⟨q, st₀, t, T', L, E, ce, h0, X', hL, e1, e2, ⟨u, hp, hb, hF⟩, hce, hcv, hcl, st⟩
  · cases hv
    obtain ⟨k1, k2, k3⟩ := vx_keep h0 e1 hS hA hf hL hF
    obtain ⟨t2, a1, b1⟩ := kk r u t T'.heap (locs ++ L) e1.symm (by rw [← e2]; exact X'.warmed.alike) hp hb k1 k2 k3 T' rfl X'
    exact ⟨t2, st t2 a1, b1⟩
  · obtain ⟨k1, k2, k3⟩ := vx_keep h0 e1 hS hAX hf hL hF
    obtain ⟨t2, a1, b1⟩ := kx E ce q u t T'.heap (locs ++ L) e1.symm (by rw [← e2]; exact X'.warmed.alike) hp hb k1 k2 k3 (by rw [e1]; exact hce) hcv hcl T' rfl X'
    exact ⟨t2, st.trans a1, b1⟩
theorem vx_calll {S SX : Type} {post : Int64 → S → Prop} {px : SX → Prop} {B : S → State → Prop} {BX : String → SX → State → Prop} {AX : Nat → Prop} (hr : vx_Run p l e R s m args below meth c H locs cells slots mc ms (F0 m pc ls st0) rest (va_Ql post B A1 a) (vx_X px BX AX) free) (hS : va_S A0 H0 H locs) (hA : ∀ q, q < H.size → A1 q → A0 q) (hf : ∀ q, free q → A0 q) (hAX : ∀ q, q < H.size → AX q → A0 q)
    (kx : ∀ (E : String) (ce : Cell) (q9 : Addr) (u : SX) (t : State) (H1 : Heap) (locs1 : List Loc), t.heap = H1 → s.vm.Alike t.vm → px u → BX E u t → H.size ≤ H1.size → (∀ q : Nat, q < H.size → ¬ AX q → H1[q]? = H[q]?) → va_S A0 H0 H1 locs1 → H1[q9]? = some ce → ce.vm = .none → s.vm.findClass E = some ce.cls → vx_W p l e R s m args below meth c H1 locs1 (cells + mc) (slots + ms) Q (F0 m pc ls rest) q9)
    (kk : ∀ (r : Int64) (u : S) (t : State) (H1 : Heap) (locs1 : List Loc), t.heap = H1 → s.vm.Alike t.vm → post r u → B u t → H.size ≤ H1.size → (∀ q : Nat, q < H.size → ¬ A1 q → H1[q]? = H[q]?) → va_S A0 H0 H1 locs1 → W p l e R s m args below meth c H1 locs1 (cells + mc) (slots + ms) Q (F0 m (pc + 3) ls (.long r :: rest))) : W p l e R s m args below meth c H locs cells slots Q (F0 m pc ls st0) := by
  intro T hT X
  rcases hr T hT X with ⟨v, st₀, t, T', L, h0, X', hL, e1, e2, ⟨⟨r, u, hv, hp, hb⟩, hF⟩, st⟩ | ⟨q, st₀, t, T', L, E, ce, h0, X', hL, e1, e2, ⟨u, hp, hb, hF⟩, hce, hcv, hcl, st⟩
  · cases hv
    obtain ⟨k1, k2, k3⟩ := vx_keep h0 e1 hS hA hf hL hF
    obtain ⟨t2, a1, b1⟩ := kk r u t T'.heap (locs ++ L) e1.symm (by rw [← e2]; exact X'.warmed.alike) hp hb k1 k2 k3 T' rfl X'
    exact ⟨t2, st t2 a1, b1⟩
  · obtain ⟨k1, k2, k3⟩ := vx_keep h0 e1 hS hAX hf hL hF
    obtain ⟨t2, a1, b1⟩ := kx E ce q u t T'.heap (locs ++ L) e1.symm (by rw [← e2]; exact X'.warmed.alike) hp hb k1 k2 k3 (by rw [e1]; exact hce) hcv hcl T' rfl X'
    exact ⟨t2, st.trans a1, b1⟩
theorem vx_callf {S SX : Type} {post : UInt32 → S → Prop} {px : SX → Prop} {B : S → State → Prop} {BX : String → SX → State → Prop} {AX : Nat → Prop} (hr : vx_Run p l e R s m args below meth c H locs cells slots mc ms (F0 m pc ls st0) rest (va_Qf post B A1 a) (vx_X px BX AX) free) (hS : va_S A0 H0 H locs) (hA : ∀ q, q < H.size → A1 q → A0 q) (hf : ∀ q, free q → A0 q) (hAX : ∀ q, q < H.size → AX q → A0 q)
    (kx : ∀ (E : String) (ce : Cell) (q9 : Addr) (u : SX) (t : State) (H1 : Heap) (locs1 : List Loc), t.heap = H1 → s.vm.Alike t.vm → px u → BX E u t → H.size ≤ H1.size → (∀ q : Nat, q < H.size → ¬ AX q → H1[q]? = H[q]?) → va_S A0 H0 H1 locs1 → H1[q9]? = some ce → ce.vm = .none → s.vm.findClass E = some ce.cls → vx_W p l e R s m args below meth c H1 locs1 (cells + mc) (slots + ms) Q (F0 m pc ls rest) q9)
    (kk : ∀ (r : UInt32) (u : S) (t : State) (H1 : Heap) (locs1 : List Loc), t.heap = H1 → s.vm.Alike t.vm → post r u → B u t → H.size ≤ H1.size → (∀ q : Nat, q < H.size → ¬ A1 q → H1[q]? = H[q]?) → va_S A0 H0 H1 locs1 → W p l e R s m args below meth c H1 locs1 (cells + mc) (slots + ms) Q (F0 m (pc + 3) ls (.float r :: rest))) : W p l e R s m args below meth c H locs cells slots Q (F0 m pc ls st0) := by
  intro T hT X
  rcases hr T hT X with ⟨v, st₀, t, T', L, h0, X', hL, e1, e2, ⟨⟨r, u, hv, hp, hb⟩, hF⟩, st⟩ | ⟨q, st₀, t, T', L, E, ce, h0, X', hL, e1, e2, ⟨u, hp, hb, hF⟩, hce, hcv, hcl, st⟩
  · cases hv
    obtain ⟨k1, k2, k3⟩ := vx_keep h0 e1 hS hA hf hL hF
    obtain ⟨t2, a1, b1⟩ := kk r u t T'.heap (locs ++ L) e1.symm (by rw [← e2]; exact X'.warmed.alike) hp hb k1 k2 k3 T' rfl X'
    exact ⟨t2, st t2 a1, b1⟩
  · obtain ⟨k1, k2, k3⟩ := vx_keep h0 e1 hS hAX hf hL hF
    obtain ⟨t2, a1, b1⟩ := kx E ce q u t T'.heap (locs ++ L) e1.symm (by rw [← e2]; exact X'.warmed.alike) hp hb k1 k2 k3 (by rw [e1]; exact hce) hcv hcl T' rfl X'
    exact ⟨t2, st.trans a1, b1⟩
theorem vx_calld {S SX : Type} {post : UInt64 → S → Prop} {px : SX → Prop} {B : S → State → Prop} {BX : String → SX → State → Prop} {AX : Nat → Prop} (hr : vx_Run p l e R s m args below meth c H locs cells slots mc ms (F0 m pc ls st0) rest (va_Qd post B A1 a) (vx_X px BX AX) free) (hS : va_S A0 H0 H locs) (hA : ∀ q, q < H.size → A1 q → A0 q) (hf : ∀ q, free q → A0 q) (hAX : ∀ q, q < H.size → AX q → A0 q)
    (kx : ∀ (E : String) (ce : Cell) (q9 : Addr) (u : SX) (t : State) (H1 : Heap) (locs1 : List Loc), t.heap = H1 → s.vm.Alike t.vm → px u → BX E u t → H.size ≤ H1.size → (∀ q : Nat, q < H.size → ¬ AX q → H1[q]? = H[q]?) → va_S A0 H0 H1 locs1 → H1[q9]? = some ce → ce.vm = .none → s.vm.findClass E = some ce.cls → vx_W p l e R s m args below meth c H1 locs1 (cells + mc) (slots + ms) Q (F0 m pc ls rest) q9)
    (kk : ∀ (r : UInt64) (u : S) (t : State) (H1 : Heap) (locs1 : List Loc), t.heap = H1 → s.vm.Alike t.vm → post r u → B u t → H.size ≤ H1.size → (∀ q : Nat, q < H.size → ¬ A1 q → H1[q]? = H[q]?) → va_S A0 H0 H1 locs1 → W p l e R s m args below meth c H1 locs1 (cells + mc) (slots + ms) Q (F0 m (pc + 3) ls (.double r :: rest))) : W p l e R s m args below meth c H locs cells slots Q (F0 m pc ls st0) := by
  intro T hT X
  rcases hr T hT X with ⟨v, st₀, t, T', L, h0, X', hL, e1, e2, ⟨⟨r, u, hv, hp, hb⟩, hF⟩, st⟩ | ⟨q, st₀, t, T', L, E, ce, h0, X', hL, e1, e2, ⟨u, hp, hb, hF⟩, hce, hcv, hcl, st⟩
  · cases hv
    obtain ⟨k1, k2, k3⟩ := vx_keep h0 e1 hS hA hf hL hF
    obtain ⟨t2, a1, b1⟩ := kk r u t T'.heap (locs ++ L) e1.symm (by rw [← e2]; exact X'.warmed.alike) hp hb k1 k2 k3 T' rfl X'
    exact ⟨t2, st t2 a1, b1⟩
  · obtain ⟨k1, k2, k3⟩ := vx_keep h0 e1 hS hAX hf hL hF
    obtain ⟨t2, a1, b1⟩ := kx E ce q u t T'.heap (locs ++ L) e1.symm (by rw [← e2]; exact X'.warmed.alike) hp hb k1 k2 k3 (by rw [e1]; exact hce) hcv hcl T' rfl X'
    exact ⟨t2, st.trans a1, b1⟩
theorem vx_callv {S SX : Type} {post : S → Prop} {px : SX → Prop} {B : S → State → Prop} {BX : String → SX → State → Prop} {AX : Nat → Prop} (hr : vx_Run p l e R s m args below meth c H locs cells slots mc ms (F0 m pc ls st0) rest (va_Qv post B A1 a) (vx_X px BX AX) free) (hS : va_S A0 H0 H locs) (hA : ∀ q, q < H.size → A1 q → A0 q) (hf : ∀ q, free q → A0 q) (hAX : ∀ q, q < H.size → AX q → A0 q)
    (kx : ∀ (E : String) (ce : Cell) (q9 : Addr) (u : SX) (t : State) (H1 : Heap) (locs1 : List Loc), t.heap = H1 → s.vm.Alike t.vm → px u → BX E u t → H.size ≤ H1.size → (∀ q : Nat, q < H.size → ¬ AX q → H1[q]? = H[q]?) → va_S A0 H0 H1 locs1 → H1[q9]? = some ce → ce.vm = .none → s.vm.findClass E = some ce.cls → vx_W p l e R s m args below meth c H1 locs1 (cells + mc) (slots + ms) Q (F0 m pc ls rest) q9)
    (kk : ∀ (u : S) (t : State) (H1 : Heap) (locs1 : List Loc), t.heap = H1 → s.vm.Alike t.vm → post u → B u t → H.size ≤ H1.size → (∀ q : Nat, q < H.size → ¬ A1 q → H1[q]? = H[q]?) → va_S A0 H0 H1 locs1 → W p l e R s m args below meth c H1 locs1 (cells + mc) (slots + ms) Q (F0 m (pc + 3) ls (rest))) : W p l e R s m args below meth c H locs cells slots Q (F0 m pc ls st0) := by
  intro T hT X
  rcases hr T hT X with ⟨v, st₀, t, T', L, h0, X', hL, e1, e2, ⟨⟨u, hv, hp, hb⟩, hF⟩, st⟩ | ⟨q, st₀, t, T', L, E, ce, h0, X', hL, e1, e2, ⟨u, hp, hb, hF⟩, hce, hcv, hcl, st⟩
  · cases hv
    obtain ⟨k1, k2, k3⟩ := vx_keep h0 e1 hS hA hf hL hF
    obtain ⟨t2, a1, b1⟩ := kk u t T'.heap (locs ++ L) e1.symm (by rw [← e2]; exact X'.warmed.alike) hp hb k1 k2 k3 T' rfl X'
    exact ⟨t2, st t2 a1, b1⟩
  · obtain ⟨k1, k2, k3⟩ := vx_keep h0 e1 hS hAX hf hL hF
    obtain ⟨t2, a1, b1⟩ := kx E ce q u t T'.heap (locs ++ L) e1.symm (by rw [← e2]; exact X'.warmed.alike) hp hb k1 k2 k3 (by rw [e1]; exact hce) hcv hcl T' rfl X'
    exact ⟨t2, st.trans a1, b1⟩
/-- caught by the row x of this method's table; the rows ahead don't take it -/
theorem vx_catch {own name : String} {E : String} {ce : Cell} {q : Addr} (hown : s.vm.findClass own = some m.cls) (pre : List ExceptionTableEntry) (x : ExceptionTableEntry) (suf : List ExceptionTableEntry) (hsplit : c.exceptionTable.toList = pre ++ x :: suf)
    (hpass : ∀ z ∈ pre, covers z pc = false ∨ (z.catchType ≠ 0 ∧ ∃ nm : String, (Cond.classLink own z.catchType nm).before args s = true ∧ va_Nc E nm s)) (hx : covers x pc = true) (h0 : x.catchType ≠ 0)
    (hlink : (Cond.classLink own x.catchType name).before args s = true) (hcast : (Cond.castable E name).before args s = true) (hcell : H[q]? = some ce) (hv : ce.vm = .none) (hcl : s.vm.findClass E = some ce.cls)
    (kk : W p l e R s m args below meth c H locs cells slots Q (F0 m x.handlerPc ls [.ref q])) : vx_W p l e R s m args below meth c H locs cells slots Q (F0 m pc ls rest) q := by
  intro T hT X
  have hpl : e.platform.magicAccessors = ({} : Platform).magicAccessors := by rw [X.admits.platform]
  obtain ⟨c3, c4, hc3, hc4, hasg⟩ := Cond.castable_spec hcast
  cases Option.some.inj (hc3.symm.trans hcl)
  obtain ⟨c5, hc5, hcl5⟩ := Cond.classLink_spec hown hlink e.platform hpl
  cases Option.some.inj (hc4.symm.trans hc5)
  obtain ⟨vm', X', st⟩ := X.thenCaughtThrough q (g := F0 m pc ls rest) rfl (Steps.refl _) (by rw [hT]; exact hcell) (by rw [hv]; rfl) (by obtain ⟨k9, h9, -⟩ := Vm.findClass_spec hcl; exact ⟨k9, h9⟩) pre x suf hsplit
    (fun z hz => by
      rcases hpass z hz with h | ⟨hz0, nm, hl1, hn1⟩
      · exact Or.inl h
      · obtain ⟨c6, hc6, hcl6⟩ := Cond.classLink_spec hown hl1 e.platform hpl
        obtain ⟨a8, b8, h1, h2, h3⟩ := hn1
        cases Option.some.inj (h1.symm.trans hcl)
        cases Option.some.inj (h2.symm.trans hc6)
        exact Or.inr ⟨hz0, _, hcl6, h3⟩) hx (Or.inr ⟨h0, c4, hcl5, hasg⟩)
  obtain ⟨t, a1, b1⟩ := kk (T.setVm vm') hT X'
  exact ⟨t, st.trans a1, b1⟩
end Rows
section Ends
variable {p : Program} {l : Launch} {e : Env} {R : Room} {s : State} {m : MethodId} {args : Array Value} {below : List Frame} {meth : Method} {c : Code} {H : Heap} {locs : List Loc} {cells slots : Nat} {Q : State → Prop}
variable {mc ms : Nat} {free : Addr → Prop} {A0 A1 : Nat → Prop} {H0 : Heap} {a : Array Value} {ls : Array Slot} {st0 rest : List Value}
variable {Qc : Array Value → State → Outcome → State → Prop} {XC : String → State → State → Prop}
/-- what a body that may throw owes at its end -/
def vx_MQ (below : List Frame) (Qc : Array Value → State → Outcome → State → Prop) (XC : String → State → State → Prop) (a : Array Value) (s : State) (mc ms : Nat) (free : Addr → Prop) : State → Prop := fun t =>
  ∃ o, t.status = .running ∧ Ended t below o ∧ vx_Q Qc XC mc ms free a s o t
theorem vx_ret {g : JFrame} {mc ms : Nat} (k : W p l e R s m args below meth c H locs cells slots (MQ below Qc args s mc ms free) g) : W p l e R s m args below meth c H locs cells slots (vx_MQ below Qc XC args s mc ms free) g := by
  intro T hT X
  obtain ⟨t, a1, o, b1, b2, b3, b4⟩ := k T hT X
  exact ⟨t, a1, o, b1, b2, Or.inl ⟨b3, b4⟩⟩
/-- not caught here: it goes on to the caller -/
theorem vx_widen {g : JFrame} {q : Addr} {k n : Nat} (h1 : cells ≤ k) (h2 : slots ≤ n) (kk : vx_W p l e R s m args below meth c H locs k n Q g q) : vx_W p l e R s m args below meth c H locs cells slots Q g q := fun T hT X => kk T hT (stand_widen X h1 h2)
theorem vx_out {pc : Nat} {E : String} {ce : Cell} {q : Addr} {mc ms : Nat} (hout : ∀ x ∈ c.exceptionTable.toList, covers x pc = false) (hlocks : meth.locks = false) (hcell : H[q]? = some ce) (hv : ce.vm = .none) (hcl : s.vm.findClass E = some ce.cls)
    (hx : ∀ t : State, t.heap = H → s.vm.Alike t.vm → XC E s t) (hf : ∀ z ∈ locs, free z.base) (hc : cells ≤ mc) (hs : slots ≤ ms) :
    vx_W p l e R s m args below meth c H locs cells slots (vx_MQ below Qc XC args s mc ms free) (F0 m pc ls rest) q := by
  intro T hT X
  obtain ⟨st1, hrun, hend, hW, hsm⟩ := X.leaveThrown q (g := F0 m pc ls rest) rfl rfl rfl hout hlocks
  have hcell9 : (T.setFrames (.throwing q :: below)).heap[q]? = some ce := by
    show T.heap[q]? = some ce
    rw [hT]; exact hcell
  exact ⟨_, st1, .threw q, hrun, hend, Or.inr ⟨q, rfl, E, ce, locs, hx _ hT hW.alike, hcell9, hv, hcl, hW, hsm.mono hc hs, hf⟩⟩
theorem vx_frame {U : State} {k n : Nat} (h : s.sameButNew ({ U with vm := s.vm } : State) locs k n) : s.heap.size ≤ U.heap.size ∧ ∀ q : Nat, q < s.heap.size → (∀ z ∈ locs, z.base ≠ q) → U.heap[q]? = s.heap[q]? := by
  obtain ⟨-, h2, -, -, -, h6⟩ := h
  refine ⟨h2, fun q hq hz => ?_⟩
  obtain ⟨c9, e1, e2, e3, e4⟩ := h6 q _ (Array.getElem?_eq_getElem hq)
  have hs : c9.slots = (s.heap[q]).slots := Array.ext_getElem? fun i => e4 i fun hm => hz _ hm rfl
  have h9 : c9 = s.heap[q] := by
    rw [hs] at e2
    exact e2
  have e5 : U.heap[q]? = some c9 := e1
  rw [e5, h9, Array.getElem?_eq_getElem hq]
/-- the words of a throw but the four that speak of the heap -/
def vx_no (w : Cond) : Bool := decide (w ≠ .isRef (.static Bundle.tN "UNASSIGNED_STACK" Bundle.steD)) && decide (w ≠ .isRef (.static Bundle.tN "SUPPRESSED_SENTINEL" Bundle.listD)) && decide (w ≠ .laysStatic Bundle.tN "UNASSIGNED_STACK" Bundle.steD) && decide (w ≠ .laysStatic Bundle.tN "SUPPRESSED_SENTINEL" Bundle.listD)
def vx_at0 (own : String) (ic : Nat) (X : String) (names : List String) : List Cond := (Bundle.ownAtoms0 own ic X names).filter vx_no
def vx_atS (own : String) (ic : Nat) (X : String) (names : List String) : List Cond := (Bundle.ownAtoms own ic X names).filter vx_no
/-- a word that the tables alone decide, or a good one -/
def vx_ot (w : Cond) : Bool := w.onTables || goodWord w
theorem vx_ot_at {args a' : Array Value} {s U : State} {w : Cond} (hW : s.WarmedH U.vm) (hvm : s.vm = U.vm) (hg : vx_ot w = true) (h : w.before args s = true) : w.before a' U = true := by
  simp only [vx_ot, Bool.or_eq_true] at hg
  rcases hg with hg | hg
  · exact va_tabs hg hvm h
  · exact word_at hW (good_of_word hg) h
/-- a list's words: the good ones out of the method's own list, the others by premises of their own -/
theorem vx_hat {args : Array Value} {s : State} {L B : List Cond} (h1 : ∀ w ∈ L.filter goodWord, w.before args s = true) (h2 : ∀ w ∈ L.filter (fun w => !goodWord w), w ∈ B) (h3 : ∀ w ∈ B, w.before args s = true) : ∀ w ∈ L, w.before args s = true := by
  intro w hw
  by_cases g : goodWord w = true
  · exact h1 w (List.mem_filter.mpr ⟨hw, g⟩)
  · refine h3 w (h2 w (List.mem_filter.mpr ⟨hw, ?_⟩))
    show (!goodWord w) = true
    cases hgw : goodWord w
    · rfl
    · exact absurd hgw g
theorem vx_c {args : Array Value} {s : State} {w : Cond} {B : List Cond} (h : w.before args s = true) (t : ∀ w ∈ B, w.before args s = true) : ∀ w' ∈ w :: B, w'.before args s = true := fun w' h' => (List.mem_cons.mp h').elim (fun e => by rw [e]; exact h) (t w')
theorem vx_n {args : Array Value} {s : State} : ∀ w ∈ ([] : List Cond), w.before args s = true := fun _ h => nomatch h
theorem vx_own {args : Array Value} {s : State} {L : List Cond} (h1 : ∀ w ∈ L.filter vx_no, w.before args s = true)
    (hU : (Cond.isRef (.static Bundle.tN "UNASSIGNED_STACK" Bundle.steD)).before args s = true) (hN : (Cond.isRef (.static Bundle.tN "SUPPRESSED_SENTINEL" Bundle.listD)).before args s = true)
    (lU : (Cond.laysStatic Bundle.tN "UNASSIGNED_STACK" Bundle.steD).before args s = true) (lN : (Cond.laysStatic Bundle.tN "SUPPRESSED_SENTINEL" Bundle.listD).before args s = true) : ∀ w ∈ L, w.before args s = true := by
  intro w hw
  by_cases e1 : w = .isRef (.static Bundle.tN "UNASSIGNED_STACK" Bundle.steD)
  · rw [e1]; exact hU
  · by_cases e2 : w = .isRef (.static Bundle.tN "SUPPRESSED_SENTINEL" Bundle.listD)
    · rw [e2]; exact hN
    · by_cases e3 : w = .laysStatic Bundle.tN "UNASSIGNED_STACK" Bundle.steD
      · rw [e3]; exact lU
      · by_cases e4 : w = .laysStatic Bundle.tN "SUPPRESSED_SENTINEL" Bundle.listD
        · rw [e4]; exact lN
        · exact h1 w (List.mem_filter.mpr ⟨hw, by unfold vx_no; rw [decide_eq_true e1, decide_eq_true e2, decide_eq_true e3, decide_eq_true e4]; rfl⟩)
/-- where a static field lies, its class's statics cell in H -/
def vx_L (C n d : String) (A : Nat → Prop) (U : State) (H : Heap) : Prop := ∃ (c : ClassId) (k : Class) (i : Nat) (f : Field) (a : Nat) (cell : Cell), U.vm.findClass C = some c ∧ U.fieldFound? C n d = some (c, k, i, f) ∧ f.isStatic = true ∧ k.statics = some a ∧ H[a]? = some cell ∧ cell.vm.isStatics = true ∧ cell.cls = c ∧ f.slot < cell.slots.size ∧ k.staticTypes[f.slot]? = some f.type ∧ ¬ A a
theorem vx_L.moved {C n d : String} {A : Nat → Prop} {u U : State} {H : Heap} (hvm : u.vm.Alike U.vm) (h : vx_L C n d A u H) : vx_L C n d A U H := by
  obtain ⟨c, k, i, f, a, cell, h1, h2, h3, h4, h5, h6, h7, h8, h9, h10⟩ := h
  obtain ⟨k', hi', he⟩ := State.fieldFound?_setVm hvm h2
  exact ⟨c, k', i, f, a, cell, by rw [hvm.findClass]; exact h1, hi', h3, by rw [he]; exact h4, h5, h6, h7, h8, by rw [he]; exact h9, h10⟩
theorem vx_L.kept {C n d : String} {A : Nat → Prop} {U : State} {H H1 : Heap} (h : vx_L C n d A U H) (hq : ∀ a : Nat, a < H.size → ¬ A a → H1[a]? = H[a]?) : vx_L C n d A U H1 := by
  obtain ⟨c, k, i, f, a, cell, h1, h2, h3, h4, h5, h6, h7, h8, h9, h10⟩ := h
  exact ⟨c, k, i, f, a, cell, h1, h2, h3, h4, by rw [hq a (Array.getElem?_eq_some_iff.mp h5).1 h10]; exact h5, h6, h7, h8, h9, h10⟩
theorem vx_L.narrow {C n d : String} {A B : Nat → Prop} {U : State} {H : Heap} (h : vx_L C n d A U H) (hAB : ∀ q, B q → A q) : vx_L C n d B U H := by
  obtain ⟨c, k, i, f, a, cell, h1, h2, h3, h4, h5, h6, h7, h8, h9, h10⟩ := h
  exact ⟨c, k, i, f, a, cell, h1, h2, h3, h4, h5, h6, h7, h8, h9, fun z => h10 (hAB _ z)⟩
theorem vx_L.word {C n d : String} {A : Nat → Prop} {s : State} {args : Array Value} (h : vx_L C n d A s s.heap) : (Cond.laysStatic C n d).before args s = true := by
  obtain ⟨c, k, i, f, a, cell, h1, h2, h3, h4, h5, h6, h7, h8, h9, -⟩ := h
  show (Cond.laysStatic C n d).holds args s none s [] = true
  exact Cond.laysStatic_of h1 h2 h3 h4 h5 h6 h7 h8 h9
/-- .. and what it holds: null or some reference -/
def vx_Zq (C n d : String) (A : Nat → Prop) (U : State) (H : Heap) : Prop := va_Zq C n d A U H ∧ vx_L C n d A U H
theorem vx_Zq.moved {C n d : String} {A : Nat → Prop} {u U : State} {H : Heap} (hvm : u.vm.Alike U.vm) (h : vx_Zq C n d A u H) : vx_Zq C n d A U H := ⟨va_Zq.moved hvm h.1, vx_L.moved hvm h.2⟩
theorem vx_Zq.kept {C n d : String} {A : Nat → Prop} {U : State} {H H1 : Heap} (h : vx_Zq C n d A U H) (hq : ∀ a : Nat, a < H.size → ¬ A a → H1[a]? = H[a]?) : vx_Zq C n d A U H1 := ⟨va_Zq.kept h.1 hq, vx_L.kept h.2 hq⟩
theorem vx_Zq.narrow {C n d : String} {A B : Nat → Prop} {U : State} {H : Heap} (h : vx_Zq C n d A U H) (hAB : ∀ q, B q → A q) : vx_Zq C n d B U H := ⟨va_Zq.narrow h.1 hAB, vx_L.narrow h.2 hAB⟩
theorem vx_Zqof {args : Array Value} {s : State} {C n d : String} {A : Nat → Prop} (hl : (Cond.laysStatic C n d).before args s = true) (hini : (Cond.initialized C).before args s = true) (h : (Cond.isRef (.static C n d)).before args s = true) (hA : ∀ a : Nat, a < s.heap.size → ¬ A a) : vx_Zq C n d A s s.heap := by
  refine ⟨va_Zqof hl hini h hA, ?_⟩
  obtain ⟨c, k, i, f, a, cell, h1, h2, h3, h4, h5, h6, h7, h8, h9⟩ := Cond.laysStatic_spec hl
  exact ⟨c, k, i, f, a, cell, h1, h2, h3, h4, h5, h6, h7, h8, h9, hA a (Array.getElem?_eq_some_iff.mp h5).1⟩
theorem vx_isRef {C n d : String} {v : Value} {A : Nat → Prop} {s : State} {args : Array Value} (h : va_Z C n d v A s s.heap) (hv : v.isRef = true) : (Cond.isRef (.static C n d)).before args s = true := by
  obtain ⟨cf, kf, fi, f, a, cell, h1, h2, h3, h4, h5, h6, h7, -⟩ := h
  have he : (Term.static C n d).eval args s none [] s = some v := by
    simp [Term.eval, State.fieldNamed?, h1, h2, h4, h5, h6, h7]
  simp only [Cond.before, Cond.holds, Cond.value, he]
  cases v <;> simp_all [Value.isRef]
theorem vx_isRefq {C n d : String} {A : Nat → Prop} {s : State} {args : Array Value} (h : va_Zq C n d A s s.heap) : (Cond.isRef (.static C n d)).before args s = true := by
  rcases h with h | ⟨t, h⟩
  · exact vx_isRef h rfl
  · exact vx_isRef h rfl
/-- the same frame, seen from here: as if the method were called anew in this heap -/
theorem vx_rebase {T : State} (X : Stand p l e R s m args below meth c T locs cells slots) {R' : Room} (hf : R'.frames ≤ R.frames) (hl : R'.locals ≤ R.locals) (hc : cells + R'.cells ≤ R.cells) (hs : slots + R'.slots ≤ R.slots) :
    Stand p l e R' ((T.setVm s.vm).setFrames (.invoking m args :: below)) m args below meth c T [] 0 0 := by
  have htop : (T.setVm s.vm).topJava?.isSome := X.here.top
  have hF : ((T.setVm s.vm).setFrames (.invoking m args :: below)).frames = .invoking m args :: below := State.frames_setFrames _ (State.cur_lt_of_top htop)
  obtain ⟨g₀, hg0⟩ := Option.isSome_iff_exists.mp htop
  obtain ⟨r, hr⟩ := State.topJava?_eq_some.mp hg0
  have hl9 : e.platform.stackLimits (T.setVm s.vm).me = e.platform.stackLimits s.me := X.limits
  have hb9 : (T.setVm s.vm).me.stackBytes = s.me.stackBytes := X.bytes
  refine ⟨X.admits, X.cas, X.clock, hF, ?_, X.hears, X.method, X.code, X.here, X.tail, X.warmed, ?_, ?_, ?_⟩
  · have h := X.room
    have hU : ((T.setVm s.vm).setFrames (.invoking m args :: below)).localsInUse = s.localsInUse := by
      rw [State.localsInUse_invoking hF (meth := meth) (c := c) X.method X.code, State.localsInUse_invoking X.frames X.method X.code]
    simp only [State.hasRoom, Bool.and_eq_true, decide_eq_true_eq] at h ⊢
    obtain ⟨⟨⟨⟨h1, h2, h3, h4, h5, h6⟩, h7⟩, h8⟩, h9⟩ := h
    rw [X.frames, List.length_cons] at h2 h3
    have q1 := X.heapSize
    have q2 := X.used
    simp only [hF, hU, List.length_cons, State.stackLimits_setFrames, State.stackBytes_setFrames, hl9, hb9]
    refine ⟨⟨⟨⟨by omega, by omega, by omega, by omega, by omega, h6⟩, ?_⟩, ?_⟩, X.book⟩
    · show T.heap.size + R'.cells ≤ e.platform.maxCells
      omega
    · show T.slotsUsed + R'.slots ≤ e.platform.maxSlots
      omega
  · rw [State.stackLimits_setFrames]; rfl
  · rw [State.stackBytes_setFrames]; rfl
  · refine ⟨?_, Nat.le_refl _, Nat.le_refl _, ?_, ?_, fun a c9 h9 => ⟨c9, h9, rfl, rfl, fun _ _ => rfl⟩⟩
    · obtain ⟨t, ht, -⟩ := State.frames_cons hr
      show T.setVm s.vm = { ((T.setVm s.vm).setFrames (.invoking m args :: below)).setFrames (T.setVm s.vm).frames with heap := T.heap, slotsUsed := T.slotsUsed }
      rw [State.setFrames_setFrames, State.setFrames_self ht]
      rfl
    · show T.slotsUsed = T.slotsUsed + ((T.heap.toList.drop T.heap.size).map (·.slots.size)).sum
      rw [List.drop_eq_nil_of_le (Nat.le_of_eq Array.length_toList)]
      rfl
    · show ((T.heap.toList.drop T.heap.size).map (·.slots.size)).sum ≤ 0
      rw [List.drop_eq_nil_of_le (Nat.le_of_eq Array.length_toList)]
      exact Nat.le_refl _
/-- 'throw new E()': new; dup; invokespecial; athrow -/
theorem vx_throw0 {cc : ByteArray} {pc : Nat} (hexec : p.tables.exec = Jvm.exec) (hb : c.code = cc) (hl : l.stackTraces = false) {own cls : String} {names : List String} {ik ic mc ms : Nat} {A : Nat → Prop}
    (hown : s.vm.findClass own = some m.cls) (hcls : Bundle.fit cls = true) (hnames : ∀ n ∈ names, Bundle.fit n = true)
    (hk : (Cond.classLink own ik cls).before args s = true) (hini : (Cond.initialized cls).before args s = true) (hat : ∀ w ∈ vx_at0 own ic cls names, w.before args s = true)
    (hgood : ∀ w ∈ Cond.classLink own ik cls :: Cond.initialized cls :: vx_at0 own ic cls names, vx_ot w = true)
    (hU : vx_Zq Bundle.tN "UNASSIGNED_STACK" Bundle.steD A s s.heap) (hN : vx_Zq Bundle.tN "SUPPRESSED_SENTINEL" Bundle.listD A s s.heap) (hS : va_S A s.heap H locs) (hsize : ls.size = c.maxLocals)
    (d0 : decode cc pc = .ok (.new ik, 3)) (d3 : decode cc (pc + 3) = .ok (.dup, 1)) (d4 : decode cc (pc + 4) = .ok (.invokespecial ic, 3)) (d7 : decode cc (pc + 7) = .ok (.athrow, 1))
    (hout : ∀ x ∈ c.exceptionTable.toList, covers x (pc + 7) = false)
    (hRframes : names.length + 3 < R.frames) (hRlocals : (rest.map fun v => v.category).sum + (13 * (names.length + 1) + 42) ≤ R.locals) (hRcells : cells + 1 ≤ R.cells) (hRslots : slots + 6 ≤ R.slots) (hlocks : meth.locks = false)
    (hx : ∀ t : State, s.vm.Alike t.vm → H.size ≤ t.heap.size → (∀ q : Nat, q < H.size → t.heap[q]? = H[q]?) → XC cls s t)
    (hf : ∀ z ∈ locs, free z.base) (hc : cells + 1 ≤ mc) (hs : slots + 6 ≤ ms) :
    W p l e R s m args below meth c H locs cells slots (vx_MQ below Qc XC args s mc ms free) (F0 m pc ls rest) := by
  intro T hT X
  have htr : e.platform.stackTraces = false := (show e.platform.stackTraces = l.stackTraces by rw [X.admits.platform]).trans hl
  have Y := vx_rebase X (R' := { frames := R.frames, locals := R.locals, cells := 1, slots := 6 }) (Nat.le_refl _) (Nat.le_refl _) hRcells hRslots
  obtain ⟨s', hA⟩ : ∃ z, z = (T.setVm s.vm).setFrames (.invoking m args :: below) := ⟨_, rfl⟩
  rw [← hA] at Y
  have hvm : s'.vm = s.vm := by rw [hA]; rfl
  have hhp : s'.heap = H := by rw [hA]; exact hT
  have hW0 : s.WarmedH s'.vm := by rw [hvm]; exact State.WarmedH.refl s
  have hat' : ∀ w ∈ vx_at0 own ic cls names, w.before args s' = true := fun w hw => vx_ot_at hW0 hvm.symm (hgood w (List.mem_cons_of_mem _ (List.mem_cons_of_mem _ hw))) (hat w hw)
  have hk' : (Cond.classLink own ik cls).before args s' = true := vx_ot_at hW0 hvm.symm (hgood _ List.mem_cons_self) hk
  have hini' : (Cond.initialized cls).before args s' = true := vx_ot_at hW0 hvm.symm (hgood _ (List.mem_cons_of_mem _ List.mem_cons_self)) hini
  have hU' : vx_Zq Bundle.tN "UNASSIGNED_STACK" Bundle.steD A s' s'.heap := by rw [hhp]; exact vx_Zq.moved hW0.alike (hU.kept hS.2.1)
  have hN' : vx_Zq Bundle.tN "SUPPRESSED_SENTINEL" Bundle.listD A s' s'.heap := by rw [hhp]; exact vx_Zq.moved hW0.alike (hN.kept hS.2.1)
  have h : ∀ w ∈ Bundle.ownAtoms0 own ic cls names, w.before args s' = true := vx_own hat' (vx_isRefq hU'.1) (vx_isRefq hN'.1) hU'.2.word hN'.2.word
  have hown' : s'.vm.findClass own = some m.cls := by rw [hvm]; exact hown
  have hins : (Cond.instantiable cls 6).before args s' = true := h _ (by simp [Bundle.ownAtoms0])
  obtain ⟨vm₁, cX, kX, hfX, hkX, -, -, X₁, st1⟩ := Y.newCold hexec (own := own) (C := cls) (index := ik) (n := 6) hown' hk' hins hini'
    (g := F0 m pc ls rest) rfl (by rw [hb]; exact d0) (Nat.le_refl _) (Nat.le_refl _)
  generalize hT1 : (T.setVm vm₁).pushCell { cls := cX, slots := kX.instanceTypes.map defaultValue, vm := .none } = T1 at X₁ st1
  have hcat : (Value.ref T.heap.size).category = 1 := rfl
  have hcellA : T1.heap[T.heap.size]? = some (freshCell cX kX) := by rw [← hT1]; exact State.heap_pushCell_size _ _
  have d3' : decode c.code (pc + 3) = .ok (.dup, 1) := by rw [hb]; exact d3
  obtain ⟨U, hsteps, hrun, hend, hW, hsame, ce, hce, hO⟩ := X₁.ctorThrow0 hexec htr (own := own) (cls := cls) (names := names) (ic := ic) hown' hcls hnames h (fun x hx => nomatch hx) hfX hkX hcellA (by rw [hhp, hT]; exact Nat.le_refl _)
    (g := { method := m, pc := pc + 4, locals := ls, stack := .ref T.heap.size :: .ref T.heap.size :: rest, locked := none }) rfl hsize rfl rfl (rest := rest) rfl
    (by rw [hb]; exact d4) (by rw [hb]; exact d7) hout hRframes (by simp only [List.map_cons, List.sum_cons, hcat]; omega) hlocks
  obtain ⟨f1, f2⟩ := vx_frame hsame
  rw [hhp] at f1 f2
  have hWs : s.WarmedH U.vm := State.WarmedH.trans hW0 hW
  have hcl : s.vm.findClass cls = some ce.cls := by
    have h9 := hO.cls
    rw [hvm] at h9
    exact h9
  have hall : s.sameButNew ({ U with vm := s.vm } : State) locs mc ms := by
    subst hA
    obtain ⟨e1, e2⟩ := hsame
    rw [State.setFrames_setFrames] at e1
    have h2 : (T.setVm s.vm).sameButNew ({ U with vm := s.vm } : State) [] (0 + 1) (0 + 6) := ⟨e1, e2⟩
    have h3 := X.same.trans h2
    rw [List.append_nil] at h3
    exact h3.mono hc hs
  refine ⟨U, ?_, .threw T.heap.size, hrun, hend, Or.inr ⟨T.heap.size, rfl, cls, ce, locs, hx U hWs.alike f1 (fun q hq => f2 q hq (fun z hz => nomatch hz)), hce, hO.vm, hcl, hWs, hall, hf⟩⟩
  refine st1 _ ?_
  show Steps p.tables e below (T1.setTop { method := m, pc := pc + 3, locals := ls, stack := .ref T.heap.size :: rest, locked := none }) _
  jvm_step X₁.here [X₁.here.top, hexec, d3', Value.category]
  exact hsteps
/-- 'throw new E("text")': new; dup; ldc; invokespecial; athrow -/
theorem vx_throwS {cc : ByteArray} {pc : Nat} (hexec : p.tables.exec = Jvm.exec) (hb : c.code = cc) (hl : l.stackTraces = false) {own cls text : String} {names : List String} {ik is ic mc ms sa : Nat} {A : Nat → Prop}
    (hown : s.vm.findClass own = some m.cls) (hcls : Bundle.fit cls = true) (hnames : ∀ n ∈ names, Bundle.fit n = true)
    (hk : (Cond.classLink own ik cls).before args s = true) (hini : (Cond.initialized cls).before args s = true) (hstr : vk_R own is text sa s) (hat : ∀ w ∈ vx_atS own ic cls names, w.before args s = true)
    (hgood : ∀ w ∈ Cond.classLink own ik cls :: Cond.initialized cls :: vx_atS own ic cls names, vx_ot w = true)
    (hU : vx_Zq Bundle.tN "UNASSIGNED_STACK" Bundle.steD A s s.heap) (hN : vx_Zq Bundle.tN "SUPPRESSED_SENTINEL" Bundle.listD A s s.heap) (hS : va_S A s.heap H locs) (hsize : ls.size = c.maxLocals)
    (d0 : decode cc pc = .ok (.new ik, 3)) (d3 : decode cc (pc + 3) = .ok (.dup, 1)) (d4 : decode cc (pc + 4) = .ok (.ldc is, 2)) (d6 : decode cc (pc + 6) = .ok (.invokespecial ic, 3)) (d9 : decode cc (pc + 9) = .ok (.athrow, 1))
    (hout : ∀ x ∈ c.exceptionTable.toList, covers x (pc + 9) = false)
    (hRframes : names.length + 3 < R.frames) (hRlocals : (rest.map fun v => v.category).sum + (13 * (names.length + 1) + 43) ≤ R.locals) (hRcells : cells + 1 ≤ R.cells) (hRslots : slots + 6 ≤ R.slots) (hlocks : meth.locks = false)
    (hx : ∀ t : State, s.vm.Alike t.vm → H.size ≤ t.heap.size → (∀ q : Nat, q < H.size → t.heap[q]? = H[q]?) → XC cls s t)
    (hf : ∀ z ∈ locs, free z.base) (hc : cells + 1 ≤ mc) (hs : slots + 6 ≤ ms) :
    W p l e R s m args below meth c H locs cells slots (vx_MQ below Qc XC args s mc ms free) (F0 m pc ls rest) := by
  intro T hT X
  have htr : e.platform.stackTraces = false := (show e.platform.stackTraces = l.stackTraces by rw [X.admits.platform]).trans hl
  have Y := vx_rebase X (R' := { frames := R.frames, locals := R.locals, cells := 1, slots := 6 }) (Nat.le_refl _) (Nat.le_refl _) hRcells hRslots
  obtain ⟨s', hA⟩ : ∃ z, z = (T.setVm s.vm).setFrames (.invoking m args :: below) := ⟨_, rfl⟩
  rw [← hA] at Y
  have hvm : s'.vm = s.vm := by rw [hA]; rfl
  have hhp : s'.heap = H := by rw [hA]; exact hT
  have hW0 : s.WarmedH s'.vm := by rw [hvm]; exact State.WarmedH.refl s
  have hat' : ∀ w ∈ vx_atS own ic cls names, w.before args s' = true := fun w hw => vx_ot_at hW0 hvm.symm (hgood w (List.mem_cons_of_mem _ (List.mem_cons_of_mem _ hw))) (hat w hw)
  have hk' : (Cond.classLink own ik cls).before args s' = true := vx_ot_at hW0 hvm.symm (hgood _ List.mem_cons_self) hk
  have hini' : (Cond.initialized cls).before args s' = true := vx_ot_at hW0 hvm.symm (hgood _ (List.mem_cons_of_mem _ List.mem_cons_self)) hini
  have hU' : vx_Zq Bundle.tN "UNASSIGNED_STACK" Bundle.steD A s' s'.heap := by rw [hhp]; exact vx_Zq.moved hW0.alike (hU.kept hS.2.1)
  have hN' : vx_Zq Bundle.tN "SUPPRESSED_SENTINEL" Bundle.listD A s' s'.heap := by rw [hhp]; exact vx_Zq.moved hW0.alike (hN.kept hS.2.1)
  have h : ∀ w ∈ Bundle.ownAtoms own ic cls names, w.before args s' = true := vx_own hat' (vx_isRefq hU'.1) (vx_isRefq hN'.1) hU'.2.word hN'.2.word
  have hown' : s'.vm.findClass own = some m.cls := by rw [hvm]; exact hown
  have hins : (Cond.instantiable cls 6).before args s' = true := h _ (by simp [Bundle.ownAtoms])
  obtain ⟨vm₁, cX, kX, hfX, hkX, -, -, X₁, st1⟩ := Y.newCold hexec (own := own) (C := cls) (index := ik) (n := 6) hown' hk' hins hini'
    (g := F0 m pc ls rest) rfl (by rw [hb]; exact d0) (Nat.le_refl _) (Nat.le_refl _)
  generalize hT1 : (T.setVm vm₁).pushCell { cls := cX, slots := kX.instanceTypes.map defaultValue, vm := .none } = T1 at X₁ st1
  have hcat : (Value.ref T.heap.size).category = 1 := rfl
  have hcellA : T1.heap[T.heap.size]? = some (freshCell cX kX) := by rw [← hT1]; exact State.heap_pushCell_size _ _
  have d3' : decode c.code (pc + 3) = .ok (.dup, 1) := by rw [hb]; exact d3
  have d4' : decode c.code (pc + 4) = .ok (.ldc is, 2) := by rw [hb]; exact d4
  have hstr' : vk_R own is text sa s' := vk_R.warm hW0 hstr
  obtain ⟨U, hsteps, hrun, hend, hW, hsame, ce, hce, hO⟩ := X₁.ctorThrowS hexec htr (own := own) (cls := cls) (names := names) (ic := ic) hown' hcls hnames h (fun x hx => nomatch hx) hfX hkX hcellA (by rw [hhp, hT]; exact Nat.le_refl _) (msg := .ref sa) rfl
    (g := { method := m, pc := pc + 6, locals := ls, stack := .ref sa :: .ref T.heap.size :: .ref T.heap.size :: rest, locked := none }) rfl hsize rfl rfl (rest := rest) rfl
    (by rw [hb]; exact d6) (by rw [hb]; exact d9) hout hRframes (by simp only [List.map_cons, List.sum_cons, hcat]; omega) hlocks
  obtain ⟨f1, f2⟩ := vx_frame hsame
  rw [hhp] at f1 f2
  have hWs : s.WarmedH U.vm := State.WarmedH.trans hW0 hW
  have hcl : s.vm.findClass cls = some ce.cls := by
    have h9 := hO.cls
    rw [hvm] at h9
    exact h9
  have hall : s.sameButNew ({ U with vm := s.vm } : State) locs mc ms := by
    subst hA
    obtain ⟨e1, e2⟩ := hsame
    rw [State.setFrames_setFrames] at e1
    have h2 : (T.setVm s.vm).sameButNew ({ U with vm := s.vm } : State) [] (0 + 1) (0 + 6) := ⟨e1, e2⟩
    have h3 := X.same.trans h2
    rw [List.append_nil] at h3
    exact h3.mono hc hs
  refine ⟨U, ?_, .threw T.heap.size, hrun, hend, Or.inr ⟨T.heap.size, rfl, cls, ce, locs, hx U hWs.alike f1 (fun q hq => f2 q hq (fun z hz => nomatch hz)), hce, hO.vm, hcl, hWs, hall, hf⟩⟩
  refine st1 _ ?_
  show Steps p.tables e below (T1.setTop { method := m, pc := pc + 3, locals := ls, stack := .ref T.heap.size :: rest, locked := none }) _
  jvm_step X₁.here [X₁.here.top, hexec, d3', Value.category]
  exact X₁.ldcString hexec (own := own) (text := text) (index := is) (a := sa) hown' hstr'.1 hstr'.2
    (g := { method := m, pc := pc + 4, locals := ls, stack := .ref T.heap.size :: .ref T.heap.size :: rest, locked := none }) rfl d4' _ hsteps
/-- 'throw new E("text")', the text by a wide index -/
theorem vx_throwSW {cc : ByteArray} {pc : Nat} (hexec : p.tables.exec = Jvm.exec) (hb : c.code = cc) (hl : l.stackTraces = false) {own cls text : String} {names : List String} {ik is ic mc ms sa : Nat} {A : Nat → Prop}
    (hown : s.vm.findClass own = some m.cls) (hcls : Bundle.fit cls = true) (hnames : ∀ n ∈ names, Bundle.fit n = true)
    (hk : (Cond.classLink own ik cls).before args s = true) (hini : (Cond.initialized cls).before args s = true) (hstr : vk_R own is text sa s) (hat : ∀ w ∈ vx_atS own ic cls names, w.before args s = true)
    (hgood : ∀ w ∈ Cond.classLink own ik cls :: Cond.initialized cls :: vx_atS own ic cls names, vx_ot w = true)
    (hU : vx_Zq Bundle.tN "UNASSIGNED_STACK" Bundle.steD A s s.heap) (hN : vx_Zq Bundle.tN "SUPPRESSED_SENTINEL" Bundle.listD A s s.heap) (hS : va_S A s.heap H locs) (hsize : ls.size = c.maxLocals)
    (d0 : decode cc pc = .ok (.new ik, 3)) (d3 : decode cc (pc + 3) = .ok (.dup, 1)) (d4 : decode cc (pc + 4) = .ok (.ldc_w is, 3)) (d7 : decode cc (pc + 7) = .ok (.invokespecial ic, 3)) (d10 : decode cc (pc + 10) = .ok (.athrow, 1))
    (hout : ∀ x ∈ c.exceptionTable.toList, covers x (pc + 10) = false)
    (hRframes : names.length + 3 < R.frames) (hRlocals : (rest.map fun v => v.category).sum + (13 * (names.length + 1) + 43) ≤ R.locals) (hRcells : cells + 1 ≤ R.cells) (hRslots : slots + 6 ≤ R.slots) (hlocks : meth.locks = false)
    (hx : ∀ t : State, s.vm.Alike t.vm → H.size ≤ t.heap.size → (∀ q : Nat, q < H.size → t.heap[q]? = H[q]?) → XC cls s t)
    (hf : ∀ z ∈ locs, free z.base) (hc : cells + 1 ≤ mc) (hs : slots + 6 ≤ ms) :
    W p l e R s m args below meth c H locs cells slots (vx_MQ below Qc XC args s mc ms free) (F0 m pc ls rest) := by
  intro T hT X
  have htr : e.platform.stackTraces = false := (show e.platform.stackTraces = l.stackTraces by rw [X.admits.platform]).trans hl
  have Y := vx_rebase X (R' := { frames := R.frames, locals := R.locals, cells := 1, slots := 6 }) (Nat.le_refl _) (Nat.le_refl _) hRcells hRslots
  obtain ⟨s', hA⟩ : ∃ z, z = (T.setVm s.vm).setFrames (.invoking m args :: below) := ⟨_, rfl⟩
  rw [← hA] at Y
  have hvm : s'.vm = s.vm := by rw [hA]; rfl
  have hhp : s'.heap = H := by rw [hA]; exact hT
  have hW0 : s.WarmedH s'.vm := by rw [hvm]; exact State.WarmedH.refl s
  have hat' : ∀ w ∈ vx_atS own ic cls names, w.before args s' = true := fun w hw => vx_ot_at hW0 hvm.symm (hgood w (List.mem_cons_of_mem _ (List.mem_cons_of_mem _ hw))) (hat w hw)
  have hk' : (Cond.classLink own ik cls).before args s' = true := vx_ot_at hW0 hvm.symm (hgood _ List.mem_cons_self) hk
  have hini' : (Cond.initialized cls).before args s' = true := vx_ot_at hW0 hvm.symm (hgood _ (List.mem_cons_of_mem _ List.mem_cons_self)) hini
  have hU' : vx_Zq Bundle.tN "UNASSIGNED_STACK" Bundle.steD A s' s'.heap := by rw [hhp]; exact vx_Zq.moved hW0.alike (hU.kept hS.2.1)
  have hN' : vx_Zq Bundle.tN "SUPPRESSED_SENTINEL" Bundle.listD A s' s'.heap := by rw [hhp]; exact vx_Zq.moved hW0.alike (hN.kept hS.2.1)
  have h : ∀ w ∈ Bundle.ownAtoms own ic cls names, w.before args s' = true := vx_own hat' (vx_isRefq hU'.1) (vx_isRefq hN'.1) hU'.2.word hN'.2.word
  have hown' : s'.vm.findClass own = some m.cls := by rw [hvm]; exact hown
  have hins : (Cond.instantiable cls 6).before args s' = true := h _ (by simp [Bundle.ownAtoms])
  obtain ⟨vm₁, cX, kX, hfX, hkX, -, -, X₁, st1⟩ := Y.newCold hexec (own := own) (C := cls) (index := ik) (n := 6) hown' hk' hins hini'
    (g := F0 m pc ls rest) rfl (by rw [hb]; exact d0) (Nat.le_refl _) (Nat.le_refl _)
  generalize hT1 : (T.setVm vm₁).pushCell { cls := cX, slots := kX.instanceTypes.map defaultValue, vm := .none } = T1 at X₁ st1
  have hcat : (Value.ref T.heap.size).category = 1 := rfl
  have hcellA : T1.heap[T.heap.size]? = some (freshCell cX kX) := by rw [← hT1]; exact State.heap_pushCell_size _ _
  have d3' : decode c.code (pc + 3) = .ok (.dup, 1) := by rw [hb]; exact d3
  have d4' : decode c.code (pc + 4) = .ok (.ldc_w is, 3) := by rw [hb]; exact d4
  have hstr' : vk_R own is text sa s' := vk_R.warm hW0 hstr
  obtain ⟨U, hsteps, hrun, hend, hW, hsame, ce, hce, hO⟩ := X₁.ctorThrowS hexec htr (own := own) (cls := cls) (names := names) (ic := ic) hown' hcls hnames h (fun x hx => nomatch hx) hfX hkX hcellA (by rw [hhp, hT]; exact Nat.le_refl _) (msg := .ref sa) rfl
    (g := { method := m, pc := pc + 7, locals := ls, stack := .ref sa :: .ref T.heap.size :: .ref T.heap.size :: rest, locked := none }) rfl hsize rfl rfl (rest := rest) rfl
    (by rw [hb]; exact d7) (by rw [hb]; exact d10) hout hRframes (by simp only [List.map_cons, List.sum_cons, hcat]; omega) hlocks
  obtain ⟨f1, f2⟩ := vx_frame hsame
  rw [hhp] at f1 f2
  have hWs : s.WarmedH U.vm := State.WarmedH.trans hW0 hW
  have hcl : s.vm.findClass cls = some ce.cls := by
    have h9 := hO.cls
    rw [hvm] at h9
    exact h9
  have hall : s.sameButNew ({ U with vm := s.vm } : State) locs mc ms := by
    subst hA
    obtain ⟨e1, e2⟩ := hsame
    rw [State.setFrames_setFrames] at e1
    have h2 : (T.setVm s.vm).sameButNew ({ U with vm := s.vm } : State) [] (0 + 1) (0 + 6) := ⟨e1, e2⟩
    have h3 := X.same.trans h2
    rw [List.append_nil] at h3
    exact h3.mono hc hs
  refine ⟨U, ?_, .threw T.heap.size, hrun, hend, Or.inr ⟨T.heap.size, rfl, cls, ce, locs, hx U hWs.alike f1 (fun q hq => f2 q hq (fun z hz => nomatch hz)), hce, hO.vm, hcl, hWs, hall, hf⟩⟩
  refine st1 _ ?_
  show Steps p.tables e below (T1.setTop { method := m, pc := pc + 3, locals := ls, stack := .ref T.heap.size :: rest, locked := none }) _
  jvm_step X₁.here [X₁.here.top, hexec, d3', Value.category]
  exact X₁.ldcStringW hexec (own := own) (text := text) (index := is) (a := sa) hown' hstr'.1 hstr'.2
    (g := { method := m, pc := pc + 4, locals := ls, stack := .ref T.heap.size :: .ref T.heap.size :: rest, locked := none }) rfl d4' _ hsteps
end Ends
section Bodies
variable {l : Launch}
theorem vx_ofW {y : MethodName} {ws ws' : List Cond} {rm : Room} {Pc : Array Value → State → Prop} {Qc : Array Value → State → Outcome → State → Prop} {XC : String → State → State → Prop} {mc ms : Nat} {free : Addr → Prop} {cc : ByteArray} {maxL : Nat} {ret : Option FieldType}
    (hy : plainName y.cls = true) (hw : ws = Cond.code y cc maxL ret :: ws')
    (body : ∀ p e s m args below meth c s₁, BodyLoose p l y (headSpec ws rm) cc maxL ret e s m args below meth c s₁ → c.maxLocals = maxL → (∀ x ∈ c.exceptionTable.toList, False) → Pc args s →
      W p l e (headSpec ws rm).room s m args below meth c s.heap [] 0 0 (vx_MQ below Qc XC args s mc ms free) (entryFrame m args maxL)) : vx_Met l y ws rm Pc Qc XC mc ms free := by
  refine MetFree.of_bodyS (code := cc) (maxLocals := maxL) (ret := ret) hy ?_ ?_
  · intro args s m h hn
    obtain ⟨meth, c, h1, h2, h3, h4, h5, h6, -, -⟩ := Cond.code_spec hn (atoms_spec (ws := ws) h _ (by rw [hw]; exact List.mem_cons_self))
    exact ⟨meth, c, h1, h2, h3, h4, h5, h6⟩
  · intro p e s m args below meth c s₁ B hml hP _
    have hh0 : s₁.heap = s.heap := by rw [B.state]; rfl
    have ht : ∀ x ∈ c.exceptionTable.toList, False := by
      obtain ⟨meth9, c9, h1, h2, -, -, -, -, h7, -⟩ := Cond.code_spec B.named (atoms_spec (ws := ws) B.pre _ (by rw [hw]; exact List.mem_cons_self))
      cases Option.some.inj (h1.symm.trans B.method)
      cases Option.some.inj (h2.symm.trans (Stand.of_body B).code)
      intro x hx
      rw [Array.isEmpty_iff.mp h7] at hx
      cases hx
    obtain ⟨t, a1, o, b1, b2, b3⟩ := body p e s m args below meth c s₁ B hml ht hP s₁ hh0 (Stand.of_body B)
    exact ⟨t, o, a1, b1, b2, b3⟩
/-- the table of a body with handlers -/
theorem vx_table {p : Program} {x y : MethodName} {S : Spec} {cc bytes : ByteArray} {maxL maxL' : Nat} {ret ret' : Option FieldType} {e : Env} {s s₁ : State} {m : MethodId} {args : Array Value} {below : List Frame} {meth : Method} {c : Code} {hh : List (Nat × Nat × Nat × Nat)}
    (B : BodyLoose p l y S cc maxL ret e s m args below meth c s₁) (h : (Cond.codeWith y bytes maxL' ret' hh).before args s = true) : c.exceptionTable.toList = tableOf hh := by
  obtain ⟨m9, meth9, c9, hn9, h1, h2, -, -, h6, -⟩ := Cond.codeWith_spec h
  cases Option.some.inj (hn9.symm.trans B.named)
  cases Option.some.inj (h1.symm.trans B.method)
  cases Option.some.inj (h2.symm.trans (Stand.of_body B).code)
  rw [← h6, table_eq]
end Bodies
end VXA
/-! ===== END ===== -/
/-! ===== BEGIN a static call of a method with an exception table ===== -/
section VXS
variable {p : Program} {l : Launch} {e : Env} {R : Room} {s : State} {m : MethodId} {args : Array Value} {below : List Frame} {meth : Method} {c : Code} {T : State} {H : Heap} {locs : List Loc} {cells slots : Nat}
abbrev vx_CSW (R : Room) (s : State) (args : Array Value) (own : String) (index : Nat) (y : MethodName) (bytes : ByteArray) (maxL : Nat) (ret : Option FieldType) (hh : List (Nat × Nat × Nat × Nat)) (ws : List Cond) (rm : Room) (mc ms n : Nat) : Prop :=
  (rm.cells = mc ∧ rm.slots = ms ∧ rm.frames + 1 ≤ R.frames ∧ 8 + (maxL + 11) + rm.locals ≤ R.locals ∧ (∀ w ∈ ws, ∀ (a' : Array Value) (U : State), s.WarmedH U.vm → w.before a' U = true) ∧ Cond.codeWith y bytes maxL ret hh ∈ ws) ∧
  (Cond.codeWith y bytes maxL ret hh).before args s = true ∧ (Cond.initialized y.cls).before args s = true ∧ (y.cls ≠ "java/lang/invoke/MethodHandle" ∧ y.cls ≠ "java/lang/invoke/VarHandle") ∧
  (∀ sig, parseMethodDescriptor y.desc = some sig → n = sig.parameters.length) ∧ (Cond.methodLink own index y).before args s = true ∧ (Cond.static y).before args s = true
theorem vx_cwSW {own : String} {index maxL mc ms : Nat} {y : MethodName} {bytes : ByteArray} {ret : Option FieldType} {hh : List (Nat × Nat × Nat × Nat)} {Ts ws ws' : List Cond} {rm : Room} (n : Nat) (ht : ∀ w ∈ Ts, w.before args s = true) (hT : GoodIn Ts (va_wsS own index y ws)) (hw : ws = Cond.codeWith y bytes maxL ret hh :: ws') (hrc : rm.cells = mc) (hrs : rm.slots = ms)
    (hd : y.cls ≠ "java/lang/invoke/MethodHandle" ∧ y.cls ≠ "java/lang/invoke/VarHandle" ∧ (parseMethodDescriptor y.desc).map (fun d => d.parameters.length) = some n) (hR : rm.frames + 1 ≤ R.frames ∧ 8 + (maxL + 11) + rm.locals ≤ R.locals) :
    vx_CSW R s args own index y bytes maxL ret hh ws rm mc ms n := by
  have ok : ∀ w ∈ va_wsS own index y ws, w.before args s = true := fun w h => ht w (hT w h).1
  have hG : GoodIn Ts ws := fun w h => hT w (by unfold va_wsS; exact List.mem_append_right _ h)
  have hc : Cond.codeWith y bytes maxL ret hh ∈ ws := by rw [hw]; exact List.mem_cons_self
  refine ⟨⟨hrc, hrs, hR.1, hR.2, pay_in ht hG, hc⟩, ht _ (hG _ hc).1, ok _ (by simp [va_wsS]), ⟨hd.1, hd.2.1⟩, fun sig h => ?_, ok _ (by simp [va_wsS]), ok _ (by simp [va_wsS])⟩
  have h2 := hd.2.2
  rw [h] at h2
  exact (Option.some.inj h2).symm
theorem vx_callSW (X : Stand p l e R s m args below meth c T locs cells slots) (hexec : p.tables.exec = Jvm.exec) {own : String} {index : Nat} {y : MethodName} {bytes : ByteArray} {maxL : Nat} {ret : Option FieldType} {hh : List (Nat × Nat × Nat × Nat)}
    (hown : s.vm.findClass own = some m.cls) (hlink : (Cond.methodLink own index y).before args s = true) (hstat : (Cond.static y).before args s = true) (hinit : (Cond.initialized y.cls).before args s = true)
    (hcode : (Cond.codeWith y bytes maxL ret hh).before args s = true) (hy : y.cls ≠ "java/lang/invoke/MethodHandle" ∧ y.cls ≠ "java/lang/invoke/VarHandle")
    {W9 : Nat} {Pre : Pt → Array Value → Prop} {Post : Pt → Array Value → Option Value → Pt → Prop} (hK : Back l R p e below s args y 3 W9 Pre Post)
    {g : JFrame} (hg : g.method = m) (hsize : g.locals.size = c.maxLocals) {argsL rest : List Value} (hlen : ∀ sig, parseMethodDescriptor y.desc = some sig → argsL.length = sig.parameters.length)
    (hstack : g.stack = argsL.reverse ++ rest) (hW : 2 * g.monitorRoom + (rest.map fun v => v.category).sum ≤ W9) (hdg : decode c.code g.pc = .ok (.invokestatic index, 3))
    (hpre : ∀ vm₁, s.WarmedH vm₁ → Pre ⟨T.setVm vm₁, locs, cells, slots⟩ argsL.toArray) :
    ∃ (v : Option Value) (vm₁ : Vm) (B : Pt), s.WarmedH vm₁ ∧ Stand p l e R s m args below meth c B.U B.locs B.cells B.slots ∧ Post ⟨T.setVm vm₁, locs, cells, slots⟩ argsL.toArray v B ∧
      ∀ target, Steps p.tables e below (B.U.setTop { g with pc := g.pc + 3, stack := v.toList ++ rest }) target → Steps p.tables e below (T.setTop g) target := by
  obtain ⟨mk, methM, cM, hnamed, hmethM, -, -, -, -, -, -, hsigM⟩ := Cond.codeWith_spec hcode
  have hstatic : methM.isStatic = true := Cond.static_spec hnamed hmethM hstat
  obtain ⟨kP, hkP, -⟩ := className_of_methodNamed hnamed
  have hinitP : kP.init = .initialized := Cond.initialized_spec (findClass_of_methodNamed hnamed) hkP hinit
  obtain ⟨vm₁, X₁, hstep₁⟩ := X.invokestatic hexec hown hlink hnamed hmethM hstatic hkP hinitP hy (g := g) hg (argsL := argsL) (rest := rest) (hlen _ hsigM) hstack hdg
  obtain ⟨v, B, X', hpost, hsteps⟩ := hK m meth c ⟨T.setVm vm₁, locs, cells, slots⟩ { g with stack := rest } (.invokestatic index) mk argsL.toArray X₁ hg hsize hdg hW (X₁.named hnamed) (hpre vm₁ X₁.warmed)
  exact ⟨v, vm₁, B, X₁.warmed, X', hpost, fun target h => hstep₁ _ fun acts => by rw [doInvoke_state]; exact hsteps.trans h⟩
theorem vx_runSW {y : MethodName} {bytes cc : ByteArray} {maxL nL mc ms n index : Nat} {ret : Option FieldType} {hh : List (Nat × Nat × Nat × Nat)} {ws : List Cond} {rm : Room} {Pc : Array Value → State → Prop} {Qc : Array Value → State → Outcome → State → Prop} {free : Addr → Prop} {Ts : List Cond} {own : String} {As rest : List Value} {g : JFrame}
    (S : CallFix p m c cc nL s args Ts own) (hM : Met l y ws rm Pc Qc mc ms free) (cw : vx_CSW R s args own index y bytes maxL ret hh ws rm mc ms n) (hp : PreS s H Pc As)
    (hg : g.method = m) (hn : As.length = n) (hsize : g.locals.size = nL) (hstack : g.stack = As.reverse ++ rest) (hW : 2 * g.monitorRoom + (rest.map fun v => v.category).sum ≤ 8) (hdg : decode cc g.pc = .ok (.invokestatic index, 3)) (hf : cells + mc ≤ R.cells ∧ slots + ms ≤ R.slots) :
    va_Run p l e R s m args below meth c H locs cells slots mc ms g rest (Qc As.toArray) (free) := by
  obtain ⟨⟨hrc, hrs, hfr, hlo, hws, hcw⟩, hcode, hini, hy, hlen, hl, hstt⟩ := cw
  have hK : Back l R p e below s args y 3 8 (PreOf R mc ms Pc) (PostOf Qc mc ms free) := va_backW (hh := hh) (bytes := bytes) (maxL := maxL) (ret := ret) hM hp.1 hrc hrs hfr hlo hws hcw (fun a' U hW => word_at hW (Or.inl (by first | rfl | simp [Cond.onTables, Cond.keeps, Cond.steady])) hini)
  obtain ⟨hx, hb, hml, ho, -⟩ := S
  intro T hT X
  obtain ⟨v, vm₁, ⟨U', l2, c2, s2⟩, hW₁, X', ⟨g', mk, t, L, e1, e2, hq, h1, hL, h2, h3⟩, st⟩ := vx_callSW X hx (hh := hh) (bytes := bytes) (maxL := maxL) (ret := ret) ho hl hstt hini hcode hy hK hg (hsize.trans hml.symm) (argsL := As) (rest := rest) (fun sig h => hn.trans (hlen sig h)) hstack hW (by rw [hb]; exact hdg)
    (fun vm₁ hW₁ => ⟨hf.1, hf.2, hp.2 (T.setVm vm₁) hT hW₁⟩)
  dsimp only [Pt.U, Pt.locs, Pt.cells, Pt.slots] at X' e1 e2 h1 h2 h3 st
  subst h1; subst h2; subst h3
  exact ⟨v, (T.setVm vm₁).calling g' mk As.toArray, t, U', L, hT, X', hL, e1, e2, hq, st⟩
/-- not caught here, past rows that name other classes: it goes on to the caller -/
theorem vx_outP {p : Program} {l : Launch} {e : Env} {R : Room} {s : State} {m : MethodId} {args : Array Value} {below : List Frame} {meth : Method} {c : Code} {H : Heap} {locs : List Loc} {cells slots : Nat} {free : Addr → Prop} {ls : Array Slot} {rest : List Value} {Qc : Array Value → State → Outcome → State → Prop} {XC : String → State → State → Prop}
    {pc : Nat} {own E : String} {ce : Cell} {q : Addr} {mc ms : Nat} (hown : s.vm.findClass own = some m.cls) (hlocks : meth.locks = false)
    (hpass : ∀ z ∈ c.exceptionTable.toList, covers z pc = false ∨ (z.catchType ≠ 0 ∧ ∃ nm : String, (Cond.classLink own z.catchType nm).before args s = true ∧ va_Nc E nm s)) (hcell : H[q]? = some ce) (hv : ce.vm = .none) (hcl : s.vm.findClass E = some ce.cls)
    (hx : ∀ t : State, t.heap = H → s.vm.Alike t.vm → XC E s t) (hf : ∀ z ∈ locs, free z.base) (hc : cells ≤ mc) (hs : slots ≤ ms) :
    vx_W p l e R s m args below meth c H locs cells slots (vx_MQ below Qc XC args s mc ms free) (F0 m pc ls rest) q := by
  intro T hT X
  have hpl : e.platform.magicAccessors = ({} : Platform).magicAccessors := by rw [X.admits.platform]
  obtain ⟨vm', hW', X', st⟩ := X.outThrough hlocks q (g := F0 m pc ls rest) rfl rfl rfl (cell := ce) (by rw [hT]; exact hcell) (by rw [hv]; rfl)
    (by obtain ⟨k9, h9, -⟩ := Vm.findClass_spec hcl; exact ⟨k9, h9⟩) (fun z hz => by
      rcases hpass z hz with h | ⟨hz0, nm, hl1, hn1⟩
      · exact Or.inl h
      · obtain ⟨c6, hc6, hcl6⟩ := Cond.classLink_spec hown hl1 e.platform hpl
        obtain ⟨a8, b8, h1, h2, h3⟩ := hn1
        cases Option.some.inj (h1.symm.trans hcl)
        cases Option.some.inj (h2.symm.trans hc6)
        exact Or.inr ⟨hz0, _, hcl6, h3⟩)
  obtain ⟨g₀, hfr⟩ := X'.frames_eq
  have hcell9 : ((T.setVm vm').setFrames (.throwing q :: below)).heap[q]? = some ce := by
    show T.heap[q]? = some ce
    rw [hT]; exact hcell
  have hend : Ended ((T.setVm vm').setFrames (.throwing q :: below)) below (.threw q) := State.frames_setFrames _ (State.cur_lt_of_frames hfr)
  refine ⟨(T.setVm vm').setFrames (.throwing q :: below), ?_, .threw q, X'.here.running, hend, Or.inr ⟨q, rfl, E, ce, locs, hx _ hT (X'.ends _).1.alike, hcell9, hv, hcl, (X'.ends _).1, (X'.ends _).2.mono hc hs, hf⟩⟩
  rw [X.pushThrowing_eq]
  exact st
/-- a thing of a world lies in the heap -/
theorem vx_lt {D : va_G} {cl : List vw_C} {ws : va_W} {H1 : Heap} (h : va_P D cl ws H1) {k : Nat} {q : Nat × va_E} (hk : ws[k]? = some q) : q.1 < H1.size := (h k q hk).lt
end VXS
/-! ===== END ===== -/
/-! ===== BEGIN methods with a table of their own: called by a name, returning or throwing ===== -/
section VXH
/-! vx_backW, vx_callVX, vx_callSX, vx_callVW, vx_runVW, vx_runVX, vx_runSX, vx_ofWH follow the same proofs as their sisters above (Free/Laws.lean, Shelf42/LK1.lean); vx_outP calls Shelf42/NT130.lean (outThrough). -/
section
variable {l : Launch} {R : Room} {p : Program} {e : Env} {below : List Frame} {s : State} {sargs : Array Value} {y : MethodName} {len W9 : Nat}
theorem vx_backW {ws : List Cond} {rm : Room} {Pc : Array Value → State → Prop} {Qc : Array Value → State → Outcome → State → Prop} {XC : String → State → State → Prop} {mc ms : Nat} {free : Addr → Prop} {bytes : ByteArray} {maxL : Nat} {ret : Option FieldType} {hh : List (Nat × Nat × Nat × Nat)}
    (hM : vx_Met l y ws rm Pc Qc XC mc ms free) (hblind : FrameBlind Pc) (hrc : rm.cells = mc) (hrs : rm.slots = ms)
    (hframes : rm.frames + 1 ≤ R.frames) (hlocals : W9 + (maxL + 11) + rm.locals ≤ R.locals)
    (hws : ∀ w ∈ ws, ∀ a' U, s.WarmedH U.vm → w.before a' U = true) (hcode : Cond.codeWith y bytes maxL ret hh ∈ ws) (hinit : ∀ a' U, s.WarmedH U.vm → (Cond.initialized y.cls).before a' U = true) :
    vx_Back l R p e below s sargs y len W9 (PreOf R mc ms Pc) (PostOf Qc mc ms free) (vx_Post XC mc ms free) := by
  intro m meth c A g ig mk a X hg hsize hdg hW hn hp
  have h1 : (headSpec ws rm).pre.before a A.U = true := atoms_intro fun w hw => hws w hw _ _ X.warmed
  have h2 : (Cond.codeWith y bytes maxL ret hh).before a A.U = true := hws _ hcode _ _ X.warmed
  have h3 : (Cond.initialized y.cls).before a A.U = true := hinit _ _ X.warmed
  have h4 : A.cells + (headSpec ws rm).room.cells ≤ R.cells := by rw [show (headSpec ws rm).room.cells = mc from hrc]; exact hp.1
  have h5 : A.slots + (headSpec ws rm).room.slots ≤ R.slots := by rw [show (headSpec ws rm).room.slots = ms from hrs]; exact hp.2.1
  have hPc : Pc a (A.U.calling g mk a) := hblind _ _ _ _ hp.2.2
  obtain ⟨U, Ls, c0, s0⟩ := A
  dsimp only [Pt.U, Pt.locs, Pt.cells, Pt.slots] at h1 h2 h3 h4 h5 X hn hPc ⊢
  obtain ⟨m9, methY, cY, hn9, hmY, hcY, -, hlY, -⟩ := Cond.codeWith_spec h2
  cases Option.some.inj (hn9.symm.trans hn)
  obtain ⟨kY, hkY, -⟩ := className_of_methodNamed hn
  have hinitY : kY.init = .initialized := Cond.initialized_spec (findClass_of_methodNamed hn) hkY h3
  have h : At U g.method c below := by rw [hg]; exact X.here
  have hlocals9 : W9 + (maxL + 11) + (headSpec ws rm).room.locals ≤ R.locals := hlocals
  have happ : (headSpec ws rm).appliesLoose y e.platform (U.calling g mk a) = true :=
    Spec.appliesLoose_calling (g := g) h hdg hn hkY hinitY
      (X.room_calling (g := g) (R' := (headSpec ws rm).room) hsize hmY hcY hframes (by rw [hlY]; omega) h4 h5) h1
  obtain ⟨mid, hmid⟩ := h.above
  have hfr : (U.setTop g).frames = (.java g :: mid) ++ below := by rw [State.frames_setTop' g h.top, hmid]; rfl
  obtain ⟨o, s₂, hsteps, -, hend, hq⟩ := Steps.callFree hM p X.admits X.cas X.clock (acts := []) hfr happ hPc trivial
  have hq' : vx_Q Qc XC mc ms free a (U.calling g mk a) o s₂ := hq
  rw [State.frames_setTop' g h.top] at hend
  obtain ⟨g₀, hg0⟩ := Option.isSome_iff_exists.mp h.top
  obtain ⟨r, hr⟩ := State.topJava?_eq_some.mp hg0
  have hr' : (({ U with heap := s₂.heap, slotsUsed := s₂.slotsUsed } : State).setVm s₂.vm).frames = .java g₀ :: r := hr
  rcases hq' with ⟨hqc, L, hfe, hL⟩ | ⟨q, rfl, E, ce, L, hx, hce, hcv, hcl, hW₂, hsm, hL⟩
  · obtain ⟨⟨v, rfl⟩, hW₂, e2, q2, q3, q4, q5, q6⟩ := id hfe
    have e3 : s₂ = ({ (U.calling g mk a).setFrames s₂.frames with heap := s₂.heap, slotsUsed := s₂.slotsUsed } : State).setVm s₂.vm := by
      have : s₂ = ({ s₂ with vm := (U.calling g mk a).vm } : State).setVm s₂.vm := rfl
      rw [e2] at this
      exact this
    obtain ⟨c₂, i₂, len₂, hc₂, hd₂, hf₂⟩ := hend
    have hW' : U.WarmedH s₂.vm := hW₂
    have hcc : c₂ = c := by
      have h1 : s₂.code? g.method = U.code? g.method := by
        rw [State.code?_eq, State.code?_eq, hW'.alike.method?]
      exact Option.some.inj (hc₂.symm.trans (h1.trans h.code))
    subst hcc
    have hlen : len₂ = len := by rw [hdg] at hd₂; cases hd₂; rfl
    subst hlen
    have hs₂ : s₂ = (({ U with heap := s₂.heap, slotsUsed := s₂.slotsUsed } : State).setVm s₂.vm).setTop { g with pc := g.pc + len₂, stack := v.toList ++ g.stack } := by
      refine e3.trans ?_
      rw [hf₂, State.calling_eq h.top, State.setFrames_setFrames, State.setTop_of_frames _ hr', hr]
      rfl
    have hsame : U.sameButNew ({ U with heap := s₂.heap, slotsUsed := s₂.slotsUsed } : State) L mc ms := by
      refine ⟨?_, q2, q3, q4, q5, q6⟩
      obtain ⟨t, ht, -⟩ := State.frames_cons hr
      show ({ U with heap := s₂.heap, slotsUsed := s₂.slotsUsed } : State) = { U.setFrames U.frames with heap := s₂.heap, slotsUsed := s₂.slotsUsed }
      rw [State.setFrames_self ht]
    subst hg
    refine Or.inl ⟨v, ⟨(({ U with heap := s₂.heap, slotsUsed := s₂.slotsUsed } : State).setVm s₂.vm), Ls ++ L, c0 + mc, s0 + ms⟩,
      ⟨X.admits, X.cas, X.clock, X.frames, X.room, X.hears, X.method, X.code, (X.here.setHeapUsed s₂.heap s₂.slotsUsed).setVm hW'.alike, X.tail, State.WarmedH.trans X.warmed hW', X.limits, X.bytes, X.same.trans (hsame.setVm s.vm)⟩,
      ⟨g, mk, s₂, L, rfl, rfl, hqc, rfl, hL, rfl, rfl⟩, ?_⟩
    show Steps p.tables e below _ ((({ U with heap := s₂.heap, slotsUsed := s₂.slotsUsed } : State).setVm s₂.vm).setTop { g with pc := g.pc + len₂, stack := v.toList ++ g.stack })
    rw [← hs₂]
    exact hsteps
  · obtain ⟨e2, q2, q3, q4, q5, q6⟩ := id hsm
    have e3 : s₂ = ({ (U.calling g mk a).setFrames s₂.frames with heap := s₂.heap, slotsUsed := s₂.slotsUsed } : State).setVm s₂.vm := by
      have : s₂ = ({ s₂ with vm := (U.calling g mk a).vm } : State).setVm s₂.vm := rfl
      rw [e2] at this
      exact this
    have hf₂ : s₂.frames = .throwing q :: .java g :: U.frames.tail := hend
    have hW' : U.WarmedH s₂.vm := hW₂
    have hs₂ : s₂ = ((({ U with heap := s₂.heap, slotsUsed := s₂.slotsUsed } : State).setVm s₂.vm).setTop g).pushFrame (.throwing q) := by
      refine e3.trans ?_
      rw [hf₂, State.calling_eq h.top, State.setFrames_setFrames, State.pushFrame, State.frames_setTop _ hr', State.setTop_of_frames _ hr', State.setFrames_setFrames, hr]
      rfl
    have hsame : U.sameButNew ({ U with heap := s₂.heap, slotsUsed := s₂.slotsUsed } : State) L mc ms := by
      refine ⟨?_, q2, q3, q4, q5, q6⟩
      obtain ⟨t, ht, -⟩ := State.frames_cons hr
      show ({ U with heap := s₂.heap, slotsUsed := s₂.slotsUsed } : State) = { U.setFrames U.frames with heap := s₂.heap, slotsUsed := s₂.slotsUsed }
      rw [State.setFrames_self ht]
    subst hg
    refine Or.inr ⟨q, ⟨(({ U with heap := s₂.heap, slotsUsed := s₂.slotsUsed } : State).setVm s₂.vm), Ls ++ L, c0 + mc, s0 + ms⟩,
      ⟨X.admits, X.cas, X.clock, X.frames, X.room, X.hears, X.method, X.code, (X.here.setHeapUsed s₂.heap s₂.slotsUsed).setVm hW'.alike, X.tail, State.WarmedH.trans X.warmed hW', X.limits, X.bytes, X.same.trans (hsame.setVm s.vm)⟩,
      ⟨g, mk, s₂, L, E, ce, rfl, rfl, hx, hce, hcv, hcl, rfl, hL, rfl, rfl⟩, ?_⟩
    show Steps p.tables e below _ (((({ U with heap := s₂.heap, slotsUsed := s₂.slotsUsed } : State).setVm s₂.vm).setTop g).pushFrame (.throwing q))
    rw [← hs₂]
    exact hsteps
end
variable {p : Program} {l : Launch} {e : Env} {R : Room} {s : State} {m : MethodId} {args : Array Value} {below : List Frame} {meth : Method} {c : Code} {T : State} {H : Heap} {locs : List Loc} {cells slots : Nat}
theorem vx_callVX (X : Stand p l e R s m args below meth c T locs cells slots) (hexec : p.tables.exec = Jvm.exec) {own C : String} {index : Nat} {y : MethodName} {bytes : ByteArray} {maxL : Nat} {ret : Option FieldType} {hh : List (Nat × Nat × Nat × Nat)}
    (hown : s.vm.findClass own = some m.cls) (hlink : (Cond.methodLink own index y).before args s = true) (hinst : (Cond.instanceMethod y).before args s = true) (hsel : (Cond.selects C y y).before args s = true)
    (hcode : (Cond.codeWith y bytes maxL ret hh).before args s = true) (hy : y.cls ≠ "java/lang/invoke/MethodHandle" ∧ y.cls ≠ "java/lang/invoke/VarHandle")
    {W9 : Nat} {Pre : Pt → Array Value → Prop} {Post : Pt → Array Value → Option Value → Pt → Prop} {PostX : Pt → Array Value → Addr → Pt → Prop} (hK : vx_Back l R p e below s args y 3 W9 Pre Post PostX)
    {b : Addr} {cellB : Cell} (hcell : T.heap[b]? = some cellB) (hobj : cellB.vm.isStatics = false) (hcls : s.vm.findClass C = some cellB.cls)
    {g : JFrame} (hg : g.method = m) (hsize : g.locals.size = c.maxLocals) {argsL rest : List Value} (hlen : ∀ sig, parseMethodDescriptor y.desc = some sig → argsL.length = sig.parameters.length)
    (hstack : g.stack = argsL.reverse ++ .ref b :: rest) (hW : 2 * g.monitorRoom + (rest.map fun v => v.category).sum ≤ W9) (hdg : decode c.code g.pc = .ok (.invokevirtual index, 3))
    (hpre : ∀ vm₁, s.WarmedH vm₁ → Pre ⟨T.setVm vm₁, locs, cells, slots⟩ (Value.ref b :: argsL).toArray) :
    (∃ (v : Option Value) (vm₁ : Vm) (B : Pt), s.WarmedH vm₁ ∧ Stand p l e R s m args below meth c B.U B.locs B.cells B.slots ∧ Post ⟨T.setVm vm₁, locs, cells, slots⟩ (Value.ref b :: argsL).toArray v B ∧
      ∀ target, Steps p.tables e below (B.U.setTop { g with pc := g.pc + 3, stack := v.toList ++ rest }) target → Steps p.tables e below (T.setTop g) target) ∨
    (∃ (q : Addr) (vm₁ : Vm) (B : Pt), s.WarmedH vm₁ ∧ Stand p l e R s m args below meth c B.U B.locs B.cells B.slots ∧ PostX ⟨T.setVm vm₁, locs, cells, slots⟩ (Value.ref b :: argsL).toArray q B ∧
      Steps p.tables e below (T.setTop g) ((B.U.setTop { g with stack := rest }).pushFrame (.throwing q))) := by
  obtain ⟨mk, methM, hnamed, hmethM, hstM, habM⟩ := Cond.instanceMethod_spec hinst
  obtain ⟨m8, methM', cM, hn8, hmethM', -, -, -, -, -, -, hsigM⟩ := Cond.codeWith_spec hcode
  cases Option.some.inj (hn8.symm.trans hnamed)
  cases hmethM.symm.trans hmethM'
  obtain ⟨c2, r2, m2, q1, q2, q3, q4, kP, hkP, hkPi⟩ := Cond.selects_spec hsel
  cases hcls.symm.trans q1
  cases (State.methodFound?_of_named hnamed hy).symm.trans q2
  cases hnamed.symm.trans q3
  have hselP : selectMethod e.platform s.vm cellB.cls mk = .method mk := by rw [Launch.admits_selectMethod X.admits]; exact q4
  obtain ⟨vm₁, X₁, hstep₁⟩ := X.invokevirtual hexec hown hlink hnamed hmethM hstM hkP hkPi hy (a := b) (cell := cellB) hcell
    (fun z h => by rw [h] at hobj; cases hobj) hselP hmethM habM hkP hkPi (g := g) hg (argsL := argsL) (rest := rest) (hlen _ hsigM) hstack hdg
  rcases hK m meth c ⟨T.setVm vm₁, locs, cells, slots⟩ { g with stack := rest } (.invokevirtual index) mk (Value.ref b :: argsL).toArray X₁ hg hsize hdg hW (X₁.named hnamed) (hpre vm₁ X₁.warmed) with ⟨v, B, X', hpost, hsteps⟩ | ⟨q, B, X', hpost, hsteps⟩
  · exact Or.inl ⟨v, vm₁, B, X₁.warmed, X', hpost, fun target h => hstep₁ _ fun acts => by rw [doInvoke_state]; exact hsteps.trans h⟩
  · exact Or.inr ⟨q, vm₁, B, X₁.warmed, X', hpost, hstep₁ _ fun acts => by rw [doInvoke_state]; exact hsteps⟩
theorem vx_callSX (X : Stand p l e R s m args below meth c T locs cells slots) (hexec : p.tables.exec = Jvm.exec) {own : String} {index : Nat} {y : MethodName} {bytes : ByteArray} {maxL : Nat} {ret : Option FieldType} {hh : List (Nat × Nat × Nat × Nat)}
    (hown : s.vm.findClass own = some m.cls) (hlink : (Cond.methodLink own index y).before args s = true) (hstat : (Cond.static y).before args s = true) (hinit : (Cond.initialized y.cls).before args s = true)
    (hcode : (Cond.codeWith y bytes maxL ret hh).before args s = true) (hy : y.cls ≠ "java/lang/invoke/MethodHandle" ∧ y.cls ≠ "java/lang/invoke/VarHandle")
    {W9 : Nat} {Pre : Pt → Array Value → Prop} {Post : Pt → Array Value → Option Value → Pt → Prop} {PostX : Pt → Array Value → Addr → Pt → Prop} (hK : vx_Back l R p e below s args y 3 W9 Pre Post PostX)
    {g : JFrame} (hg : g.method = m) (hsize : g.locals.size = c.maxLocals) {argsL rest : List Value} (hlen : ∀ sig, parseMethodDescriptor y.desc = some sig → argsL.length = sig.parameters.length)
    (hstack : g.stack = argsL.reverse ++ rest) (hW : 2 * g.monitorRoom + (rest.map fun v => v.category).sum ≤ W9) (hdg : decode c.code g.pc = .ok (.invokestatic index, 3))
    (hpre : ∀ vm₁, s.WarmedH vm₁ → Pre ⟨T.setVm vm₁, locs, cells, slots⟩ argsL.toArray) :
    (∃ (v : Option Value) (vm₁ : Vm) (B : Pt), s.WarmedH vm₁ ∧ Stand p l e R s m args below meth c B.U B.locs B.cells B.slots ∧ Post ⟨T.setVm vm₁, locs, cells, slots⟩ argsL.toArray v B ∧
      ∀ target, Steps p.tables e below (B.U.setTop { g with pc := g.pc + 3, stack := v.toList ++ rest }) target → Steps p.tables e below (T.setTop g) target) ∨
    (∃ (q : Addr) (vm₁ : Vm) (B : Pt), s.WarmedH vm₁ ∧ Stand p l e R s m args below meth c B.U B.locs B.cells B.slots ∧ PostX ⟨T.setVm vm₁, locs, cells, slots⟩ argsL.toArray q B ∧
      Steps p.tables e below (T.setTop g) ((B.U.setTop { g with stack := rest }).pushFrame (.throwing q))) := by
  obtain ⟨mk, methM, cM, hnamed, hmethM, -, -, -, -, -, -, hsigM⟩ := Cond.codeWith_spec hcode
  have hstatic : methM.isStatic = true := Cond.static_spec hnamed hmethM hstat
  obtain ⟨kP, hkP, -⟩ := className_of_methodNamed hnamed
  have hinitP : kP.init = .initialized := Cond.initialized_spec (findClass_of_methodNamed hnamed) hkP hinit
  obtain ⟨vm₁, X₁, hstep₁⟩ := X.invokestatic hexec hown hlink hnamed hmethM hstatic hkP hinitP hy (g := g) hg (argsL := argsL) (rest := rest) (hlen _ hsigM) hstack hdg
  rcases hK m meth c ⟨T.setVm vm₁, locs, cells, slots⟩ { g with stack := rest } (.invokestatic index) mk argsL.toArray X₁ hg hsize hdg hW (X₁.named hnamed) (hpre vm₁ X₁.warmed) with ⟨v, B, X', hpost, hsteps⟩ | ⟨q, B, X', hpost, hsteps⟩
  · exact Or.inl ⟨v, vm₁, B, X₁.warmed, X', hpost, fun target h => hstep₁ _ fun acts => by rw [doInvoke_state]; exact hsteps.trans h⟩
  · exact Or.inr ⟨q, vm₁, B, X₁.warmed, X', hpost, hstep₁ _ fun acts => by rw [doInvoke_state]; exact hsteps⟩
theorem vx_callVW (X : Stand p l e R s m args below meth c T locs cells slots) (hexec : p.tables.exec = Jvm.exec) {own C : String} {index : Nat} {y : MethodName} {bytes : ByteArray} {maxL : Nat} {ret : Option FieldType} {hh : List (Nat × Nat × Nat × Nat)}
    (hown : s.vm.findClass own = some m.cls) (hlink : (Cond.methodLink own index y).before args s = true) (hinst : (Cond.instanceMethod y).before args s = true) (hsel : (Cond.selects C y y).before args s = true)
    (hcode : (Cond.codeWith y bytes maxL ret hh).before args s = true) (hy : y.cls ≠ "java/lang/invoke/MethodHandle" ∧ y.cls ≠ "java/lang/invoke/VarHandle")
    {W9 : Nat} {Pre : Pt → Array Value → Prop} {Post : Pt → Array Value → Option Value → Pt → Prop} (hK : Back l R p e below s args y 3 W9 Pre Post)
    {b : Addr} {cellB : Cell} (hcell : T.heap[b]? = some cellB) (hobj : cellB.vm.isStatics = false) (hcls : s.vm.findClass C = some cellB.cls)
    {g : JFrame} (hg : g.method = m) (hsize : g.locals.size = c.maxLocals) {argsL rest : List Value} (hlen : ∀ sig, parseMethodDescriptor y.desc = some sig → argsL.length = sig.parameters.length)
    (hstack : g.stack = argsL.reverse ++ .ref b :: rest) (hW : 2 * g.monitorRoom + (rest.map fun v => v.category).sum ≤ W9) (hdg : decode c.code g.pc = .ok (.invokevirtual index, 3))
    (hpre : ∀ vm₁, s.WarmedH vm₁ → Pre ⟨T.setVm vm₁, locs, cells, slots⟩ (Value.ref b :: argsL).toArray) :
    ∃ (v : Option Value) (vm₁ : Vm) (B : Pt), s.WarmedH vm₁ ∧ Stand p l e R s m args below meth c B.U B.locs B.cells B.slots ∧ Post ⟨T.setVm vm₁, locs, cells, slots⟩ (Value.ref b :: argsL).toArray v B ∧
      ∀ target, Steps p.tables e below (B.U.setTop { g with pc := g.pc + 3, stack := v.toList ++ rest }) target → Steps p.tables e below (T.setTop g) target := by
  obtain ⟨mk, methM, hnamed, hmethM, hstM, habM⟩ := Cond.instanceMethod_spec hinst
  obtain ⟨m8, methM', cM, hn8, hmethM', -, -, -, -, -, -, hsigM⟩ := Cond.codeWith_spec hcode
  cases Option.some.inj (hn8.symm.trans hnamed)
  cases hmethM.symm.trans hmethM'
  obtain ⟨c2, r2, m2, q1, q2, q3, q4, kP, hkP, hkPi⟩ := Cond.selects_spec hsel
  cases hcls.symm.trans q1
  cases (State.methodFound?_of_named hnamed hy).symm.trans q2
  cases hnamed.symm.trans q3
  have hselP : selectMethod e.platform s.vm cellB.cls mk = .method mk := by rw [Launch.admits_selectMethod X.admits]; exact q4
  obtain ⟨vm₁, X₁, hstep₁⟩ := X.invokevirtual hexec hown hlink hnamed hmethM hstM hkP hkPi hy (a := b) (cell := cellB) hcell
    (fun z h => by rw [h] at hobj; cases hobj) hselP hmethM habM hkP hkPi (g := g) hg (argsL := argsL) (rest := rest) (hlen _ hsigM) hstack hdg
  obtain ⟨v, B, X', hpost, hsteps⟩ := hK m meth c ⟨T.setVm vm₁, locs, cells, slots⟩ { g with stack := rest } (.invokevirtual index) mk (Value.ref b :: argsL).toArray X₁ hg hsize hdg hW (X₁.named hnamed) (hpre vm₁ X₁.warmed)
  exact ⟨v, vm₁, B, X₁.warmed, X', hpost, fun target h => hstep₁ _ fun acts => by rw [doInvoke_state]; exact hsteps.trans h⟩
abbrev vx_CVW (R : Room) (s : State) (args : Array Value) (own C : String) (index : Nat) (y : MethodName) (bytes : ByteArray) (maxL : Nat) (ret : Option FieldType) (hh : List (Nat × Nat × Nat × Nat)) (ws : List Cond) (rm : Room) (mc ms n : Nat) : Prop :=
  (rm.cells = mc ∧ rm.slots = ms ∧ rm.frames + 1 ≤ R.frames ∧ 8 + (maxL + 11) + rm.locals ≤ R.locals ∧ (∀ w ∈ ws, ∀ (a' : Array Value) (U : State), s.WarmedH U.vm → w.before a' U = true) ∧ Cond.codeWith y bytes maxL ret hh ∈ ws) ∧
  (Cond.codeWith y bytes maxL ret hh).before args s = true ∧ (Cond.initialized y.cls).before args s = true ∧ (y.cls ≠ "java/lang/invoke/MethodHandle" ∧ y.cls ≠ "java/lang/invoke/VarHandle") ∧
  (∀ sig, parseMethodDescriptor y.desc = some sig → n = sig.parameters.length) ∧ (Cond.methodLink own index y).before args s = true ∧ (Cond.instanceMethod y).before args s = true ∧ (Cond.selects C y y).before args s = true
theorem vx_cwVW {own C : String} {index maxL mc ms : Nat} {y : MethodName} {bytes : ByteArray} {ret : Option FieldType} {hh : List (Nat × Nat × Nat × Nat)} {Ts ws ws' : List Cond} {rm : Room} (n : Nat) (ht : ∀ w ∈ Ts, w.before args s = true) (hT : GoodIn Ts (wsV own index C y ws)) (hw : ws = Cond.codeWith y bytes maxL ret hh :: ws') (hrc : rm.cells = mc) (hrs : rm.slots = ms)
    (hd : y.cls = C ∧ y.cls ≠ "java/lang/invoke/MethodHandle" ∧ y.cls ≠ "java/lang/invoke/VarHandle" ∧ (parseMethodDescriptor y.desc).map (fun d => d.parameters.length) = some n) (hR : rm.frames + 1 ≤ R.frames ∧ 8 + (maxL + 11) + rm.locals ≤ R.locals) :
    vx_CVW R s args own C index y bytes maxL ret hh ws rm mc ms n := by
  obtain ⟨hC, hd⟩ := hd
  subst hC
  have ok : ∀ w ∈ wsV own index y.cls y ws, w.before args s = true := fun w h => ht w (hT w h).1
  have hG : GoodIn Ts ws := fun w h => hT w (by unfold wsV; exact List.mem_append_right _ h)
  have hc : Cond.codeWith y bytes maxL ret hh ∈ ws := by rw [hw]; exact List.mem_cons_self
  refine ⟨⟨hrc, hrs, hR.1, hR.2, pay_in ht hG, hc⟩, ht _ (hG _ hc).1, ok _ (by simp [wsV]), ⟨hd.1, hd.2.1⟩, fun sig h => ?_, ok _ (by simp [wsV]), ok _ (by simp [wsV]), ok _ (by simp [wsV])⟩
  have h2 := hd.2.2
  rw [h] at h2
  exact (Option.some.inj h2).symm
theorem vx_runVW {y : MethodName} {bytes cc : ByteArray} {maxL nL mc ms n index : Nat} {ret : Option FieldType} {hh : List (Nat × Nat × Nat × Nat)} {ws : List Cond} {rm : Room} {Pc : Array Value → State → Prop} {Qc : Array Value → State → Outcome → State → Prop} {free : Addr → Prop} {Ts : List Cond} {own C : String} {b : Addr} {As rest : List Value} {g : JFrame}
    (S : CallFix p m c cc nL s args Ts own) (hM : Met l y ws rm Pc Qc mc ms free) (cw : vx_CVW R s args own C index y bytes maxL ret hh ws rm mc ms n) (hp : PreV s H C b Pc As)
    (hg : g.method = m) (hn : As.length = n) (hsize : g.locals.size = nL) (hstack : g.stack = As.reverse ++ .ref b :: rest) (hW : 2 * g.monitorRoom + (rest.map fun v => v.category).sum ≤ 8) (hdg : decode cc g.pc = .ok (.invokevirtual index, 3)) (hf : cells + mc ≤ R.cells ∧ slots + ms ≤ R.slots) :
    va_Run p l e R s m args below meth c H locs cells slots mc ms g rest (Qc (Value.ref b :: As).toArray) free := by
  obtain ⟨⟨hrc, hrs, hfr, hlo, hws, hcw⟩, hcode, hini, hy, hlen, hl, hin, hse⟩ := cw
  have hK : Back l R p e below s args y 3 8 (PreOf R mc ms Pc) (PostOf Qc mc ms free) := va_backW (hh := hh) (bytes := bytes) (maxL := maxL) (ret := ret) hM hp.1 hrc hrs hfr hlo hws hcw (fun a' U hW => word_at hW (Or.inl (by first | rfl | simp [Cond.onTables, Cond.keeps, Cond.steady])) hini)
  obtain ⟨hx, hb, hml, ho, -⟩ := S
  obtain ⟨-, ⟨cellB, hcB, hoB, hclB⟩, hPc⟩ := hp
  intro T hT X
  obtain ⟨v, vm₁, ⟨U', l2, c2, s2⟩, hW₁, X', ⟨g', mk, t, L, e1, e2, hq, h1, hL, h2, h3⟩, st⟩ := vx_callVW X hx (C := C) (hh := hh) (bytes := bytes) (maxL := maxL) (ret := ret) ho hl hin hse hcode hy hK (by rw [hT]; exact hcB) hoB hclB hg (hsize.trans hml.symm) (argsL := As) (rest := rest) (fun sig h => hn.trans (hlen sig h)) hstack hW (by rw [hb]; exact hdg)
    (fun vm₁ hW₁ => ⟨hf.1, hf.2, hPc (T.setVm vm₁) hT hW₁⟩)
  dsimp only [Pt.U, Pt.locs, Pt.cells, Pt.slots] at X' e1 e2 h1 h2 h3 st
  subst h1; subst h2; subst h3
  exact ⟨v, (T.setVm vm₁).calling g' mk (Value.ref b :: As).toArray, t, U', L, hT, X', hL, e1, e2, hq, st⟩
section
variable {y : MethodName} {bytes cc : ByteArray} {maxL nL mc ms n index : Nat} {ret : Option FieldType} {ws : List Cond} {rm : Room} {Pc : Array Value → State → Prop} {Qc : Array Value → State → Outcome → State → Prop} {XC : String → State → State → Prop} {free : Addr → Prop} {Ts : List Cond} {own C : String} {b : Addr} {As rest : List Value} {g : JFrame}
theorem vx_runVX {hh : List (Nat × Nat × Nat × Nat)} (S : CallFix p m c cc nL s args Ts own) (hM : vx_Met l y ws rm Pc Qc XC mc ms free) (cw : vx_CVW R s args own C index y bytes maxL ret hh ws rm mc ms n) (hp : PreV s H C b Pc As)
    (hg : g.method = m) (hn : As.length = n) (hsize : g.locals.size = nL) (hstack : g.stack = As.reverse ++ .ref b :: rest) (hW : 2 * g.monitorRoom + (rest.map fun v => v.category).sum ≤ 8) (hdg : decode cc g.pc = .ok (.invokevirtual index, 3)) (hf : cells + mc ≤ R.cells ∧ slots + ms ≤ R.slots) :
    vx_Run p l e R s m args below meth c H locs cells slots mc ms g rest (Qc (Value.ref b :: As).toArray) XC free := by
  obtain ⟨⟨hrc, hrs, hfr, hlo, hws, hcw⟩, hcode, hini, hy, hlen, hl, hin, hse⟩ := cw
  have hK : vx_Back l R p e below s args y 3 8 (PreOf R mc ms Pc) (PostOf Qc mc ms free) (vx_Post XC mc ms free) := vx_backW (hh := hh) (bytes := bytes) (maxL := maxL) (ret := ret) hM hp.1 hrc hrs hfr hlo hws hcw (fun a' U hW => word_at hW (Or.inl (by first | rfl | simp [Cond.onTables, Cond.keeps, Cond.steady])) hini)
  obtain ⟨hx, hb, hml, ho, -⟩ := S
  obtain ⟨-, ⟨cellB, hcB, hoB, hclB⟩, hPc⟩ := hp
  intro T hT X
  rcases vx_callVX X hx (C := C) (hh := hh) (bytes := bytes) (maxL := maxL) (ret := ret) ho hl hin hse hcode hy hK (by rw [hT]; exact hcB) hoB hclB hg (hsize.trans hml.symm) (argsL := As) (rest := rest) (fun sig h => hn.trans (hlen sig h)) hstack hW (by rw [hb]; exact hdg)
    (fun vm₁ hW₁ => ⟨hf.1, hf.2, hPc (T.setVm vm₁) hT hW₁⟩) with ⟨v, vm₁, ⟨U', l2, c2, s2⟩, hW₁, X', ⟨g', mk, t, L, e1, e2, hq, h1, hL, h2, h3⟩, st⟩ | ⟨q, vm₁, ⟨U', l2, c2, s2⟩, hW₁, X', ⟨g', mk, t, L, E, ce, e1, e2, hq, hce, hcv, hcl, h1, hL, h2, h3⟩, st⟩
  · dsimp only [Pt.U, Pt.locs, Pt.cells, Pt.slots] at X' e1 e2 h1 h2 h3 st
    subst h1; subst h2; subst h3
    exact Or.inl ⟨v, (T.setVm vm₁).calling g' mk (Value.ref b :: As).toArray, t, U', L, hT, X', hL, e1, e2, hq, st⟩
  · dsimp only [Pt.U, Pt.locs, Pt.cells, Pt.slots] at X' e1 e2 h1 h2 h3 st hcl
    subst h1; subst h2; subst h3
    exact Or.inr ⟨q, (T.setVm vm₁).calling g' mk (Value.ref b :: As).toArray, t, U', L, E, ce, hT, X', hL, e1, e2, hq, hce, hcv, vx_cls hW₁ hcl, st⟩
theorem vx_runSX {hh : List (Nat × Nat × Nat × Nat)} (S : CallFix p m c cc nL s args Ts own) (hM : vx_Met l y ws rm Pc Qc XC mc ms free) (cw : vx_CSW R s args own index y bytes maxL ret hh ws rm mc ms n) (hp : PreS s H Pc As)
    (hg : g.method = m) (hn : As.length = n) (hsize : g.locals.size = nL) (hstack : g.stack = As.reverse ++ rest) (hW : 2 * g.monitorRoom + (rest.map fun v => v.category).sum ≤ 8) (hdg : decode cc g.pc = .ok (.invokestatic index, 3)) (hf : cells + mc ≤ R.cells ∧ slots + ms ≤ R.slots) :
    vx_Run p l e R s m args below meth c H locs cells slots mc ms g rest (Qc As.toArray) XC free := by
  obtain ⟨⟨hrc, hrs, hfr, hlo, hws, hcw⟩, hcode, hini, hy, hlen, hl, hstt⟩ := cw
  have hK : vx_Back l R p e below s args y 3 8 (PreOf R mc ms Pc) (PostOf Qc mc ms free) (vx_Post XC mc ms free) := vx_backW (hh := hh) (bytes := bytes) (maxL := maxL) (ret := ret) hM hp.1 hrc hrs hfr hlo hws hcw (fun a' U hW => word_at hW (Or.inl (by first | rfl | simp [Cond.onTables, Cond.keeps, Cond.steady])) hini)
  obtain ⟨hx, hb, hml, ho, -⟩ := S
  intro T hT X
  rcases vx_callSX X hx (hh := hh) (bytes := bytes) (maxL := maxL) (ret := ret) ho hl hstt hini hcode hy hK hg (hsize.trans hml.symm) (argsL := As) (rest := rest) (fun sig h => hn.trans (hlen sig h)) hstack hW (by rw [hb]; exact hdg)
    (fun vm₁ hW₁ => ⟨hf.1, hf.2, hp.2 (T.setVm vm₁) hT hW₁⟩) with ⟨v, vm₁, ⟨U', l2, c2, s2⟩, hW₁, X', ⟨g', mk, t, L, e1, e2, hq, h1, hL, h2, h3⟩, st⟩ | ⟨q, vm₁, ⟨U', l2, c2, s2⟩, hW₁, X', ⟨g', mk, t, L, E, ce, e1, e2, hq, hce, hcv, hcl, h1, hL, h2, h3⟩, st⟩
  · dsimp only [Pt.U, Pt.locs, Pt.cells, Pt.slots] at X' e1 e2 h1 h2 h3 st
    subst h1; subst h2; subst h3
    exact Or.inl ⟨v, (T.setVm vm₁).calling g' mk As.toArray, t, U', L, hT, X', hL, e1, e2, hq, st⟩
  · dsimp only [Pt.U, Pt.locs, Pt.cells, Pt.slots] at X' e1 e2 h1 h2 h3 st hcl
    subst h1; subst h2; subst h3
    exact Or.inr ⟨q, (T.setVm vm₁).calling g' mk As.toArray, t, U', L, E, ce, hT, X', hL, e1, e2, hq, hce, hcv, vx_cls hW₁ hcl, st⟩
end
end VXH
theorem vx_ofWH {l : Launch} {y : MethodName} {ws ws' : List Cond} {rm : Room} {Pc : Array Value → State → Prop} {Qc : Array Value → State → Outcome → State → Prop} {XC : String → State → State → Prop} {mc ms : Nat} {free : Addr → Prop} {cc : ByteArray} {maxL : Nat} {ret : Option FieldType} {hh : List (Nat × Nat × Nat × Nat)}
    (hy : plainName y.cls = true) (hw : ws = Cond.codeWith y cc maxL ret hh :: ws')
    (body : ∀ p e s m args below meth c s₁, BodyLoose p l y (headSpec ws rm) cc maxL ret e s m args below meth c s₁ → c.maxLocals = maxL → Pc args s →
      W p l e (headSpec ws rm).room s m args below meth c s.heap [] 0 0 (vx_MQ below Qc XC args s mc ms free) (entryFrame m args maxL)) : vx_Met l y ws rm Pc Qc XC mc ms free := by
  refine MetFree.of_bodyS (code := cc) (maxLocals := maxL) (ret := ret) hy ?_ ?_
  · intro args s m h hn
    obtain ⟨m9, meth, c, hn9, h1, h2, h3, h4, -, h5, h6, -⟩ := Cond.codeWith_spec (atoms_spec (ws := ws) h _ (by rw [hw]; exact List.mem_cons_self))
    cases hn.symm.trans hn9
    exact ⟨meth, c, h1, h2, h3, h4, h5, h6⟩
  · intro p e s m args below meth c s₁ B hml hP _
    have hh0 : s₁.heap = s.heap := by rw [B.state]; rfl
    obtain ⟨t, a1, o, b1, b2, b3⟩ := body p e s m args below meth c s₁ B hml hP s₁ hh0 (Stand.of_body B)
    exact ⟨t, o, a1, b1, b2, b3⟩
/-! ===== END ===== -/

/-! ===== BEGIN a constructor that throws (launches without stack traces) ===== -/
section VXIA
variable {p : Program} {l : Launch} {e : Env} {R : Room} {s : State} {m : MethodId} {args : Array Value} {below : List Frame} {meth : Method} {c : Code} {T : State} {locs : List Loc} {cells slots : Nat}
theorem vx_callI (X : Stand p l e R s m args below meth c T locs cells slots) (hexec : p.tables.exec = Jvm.exec) {own : String} {index : Nat} {y : MethodName} {bytes : ByteArray} {maxL : Nat}
    (hown : s.vm.findClass own = some m.cls) (hy1 : y.name = "<init>") (hlink : (Cond.methodLink own index y).before args s = true) (hinst : (Cond.instanceMethod y).before args s = true)
    (hcode : (Cond.code y bytes maxL none).before args s = true) (hy : y.cls ≠ "java/lang/invoke/MethodHandle" ∧ y.cls ≠ "java/lang/invoke/VarHandle")
    {W9 : Nat} {Pre : Pt → Array Value → Prop} {Post : Pt → Array Value → Option Value → Pt → Prop} {PostX : Pt → Array Value → Addr → Pt → Prop} (hK : vx_Back l R p e below s args y 3 W9 Pre Post PostX)
    {g : JFrame} (hg : g.method = m) (hsize : g.locals.size = c.maxLocals) {a : Addr} {argsL rest : List Value} (hlen : ∀ sig, parseMethodDescriptor y.desc = some sig → argsL.length = sig.parameters.length)
    (hstack : g.stack = argsL.reverse ++ .ref a :: rest) (hW : 2 * g.monitorRoom + (rest.map fun v => v.category).sum ≤ W9) (hdg : decode c.code g.pc = .ok (.invokespecial index, 3))
    (hpre : ∀ vm₁, s.WarmedH vm₁ → Pre ⟨T.setVm vm₁, locs, cells, slots⟩ (Value.ref a :: argsL).toArray) :
    (∃ (v : Option Value) (vm₁ : Vm) (B : Pt), s.WarmedH vm₁ ∧ Stand p l e R s m args below meth c B.U B.locs B.cells B.slots ∧ Post ⟨T.setVm vm₁, locs, cells, slots⟩ (Value.ref a :: argsL).toArray v B ∧
      ∀ target, Steps p.tables e below (B.U.setTop { g with pc := g.pc + 3, stack := v.toList ++ rest }) target → Steps p.tables e below (T.setTop g) target) ∨
    (∃ (q : Addr) (vm₁ : Vm) (B : Pt), s.WarmedH vm₁ ∧ Stand p l e R s m args below meth c B.U B.locs B.cells B.slots ∧ PostX ⟨T.setVm vm₁, locs, cells, slots⟩ (Value.ref a :: argsL).toArray q B ∧
      Steps p.tables e below (T.setTop g) ((B.U.setTop { g with stack := rest }).pushFrame (.throwing q))) := by
  subst hg
  have hpl : e.platform.magicAccessors = ({} : Platform).magicAccessors := by rw [X.admits.platform]
  obtain ⟨mk, methM, cM, kP, vm₁, hnamed, hmethM, hcodeM, -, hlocalsM, -, hkP, -, hW₁, hstep₁⟩ := Steps.initColdArgs (e := e) X.here hexec X.warmed hpl hown hy1 hy hlink hinst hcode (f := g) rfl hlen hstack hdg
  have X₁ := X.noted hW₁
  rcases hK g.method meth c ⟨T.setVm vm₁, locs, cells, slots⟩ { g with stack := rest } (.invokespecial index) mk (Value.ref a :: argsL).toArray X₁ rfl hsize hdg hW (X₁.named hnamed) (hpre vm₁ X₁.warmed) with ⟨v, B, X', hpost, hsteps⟩ | ⟨q, B, X', hpost, hsteps⟩
  · exact Or.inl ⟨v, vm₁, B, X₁.warmed, X', hpost, fun target h => hstep₁ _ fun acts => by rw [doInvoke_state]; exact hsteps.trans h⟩
  · exact Or.inr ⟨q, vm₁, B, X₁.warmed, X', hpost, hstep₁ _ fun acts => by rw [doInvoke_state]; exact hsteps⟩
end VXIA
section VXIB
variable {p : Program} {l : Launch} {e : Env} {R : Room} {s : State} {m : MethodId} {args : Array Value} {below : List Frame} {meth : Method} {c : Code} {H : Heap} {locs : List Loc} {cells slots : Nat}
variable {y : MethodName} {bytes cc : ByteArray} {maxL nL mc ms n index : Nat} {ret : Option FieldType} {ws : List Cond} {rm : Room} {Pc : Array Value → State → Prop} {Qc : Array Value → State → Outcome → State → Prop} {XC : String → State → State → Prop} {free : Addr → Prop} {Ts : List Cond} {own C : String} {b : Addr} {As rest : List Value} {g : JFrame}
theorem vx_runI (S : CallFix p m c cc nL s args Ts own) (hM : vx_Met l y ws rm Pc Qc XC mc ms free) (cw : CallB R s args own index y bytes maxL none ws rm mc ms n ∧ y.name = "<init>" ∧ (Cond.instanceMethod y).before args s = true) (hp : PreS s H Pc (.ref b :: As))
    (hg : g.method = m) (hn : As.length = n) (hsize : g.locals.size = nL) (hstack : g.stack = As.reverse ++ .ref b :: rest) (hW : 2 * g.monitorRoom + (rest.map fun v => v.category).sum ≤ 8) (hdg : decode cc g.pc = .ok (.invokespecial index, 3)) (hf : cells + mc ≤ R.cells ∧ slots + ms ≤ R.slots) :
    vx_Run p l e R s m args below meth c H locs cells slots mc ms g rest (Qc (Value.ref b :: As).toArray) XC free := by
  have hK : vx_Back l R p e below s args y 3 8 (PreOf R mc ms Pc) (PostOf Qc mc ms free) (vx_Post XC mc ms free) := vx_callBack cw.1 hM hp.1
  obtain ⟨⟨-, -, -, -, -, -, hcode, -, hy, hlen, hl⟩, hy1, hin⟩ := cw
  obtain ⟨hx, hb, hml, ho, -⟩ := S
  have hPc := hp.2
  intro T hT X
  rcases vx_callI X hx (bytes := bytes) (maxL := maxL) ho hy1 hl hin hcode hy hK hg (hsize.trans hml.symm) (a := b) (argsL := As) (rest := rest) (fun sig h => hn.trans (hlen sig h)) hstack hW (by rw [hb]; exact hdg)
    (fun vm₁ hW₁ => ⟨hf.1, hf.2, hPc (T.setVm vm₁) hT hW₁⟩) with ⟨v, vm₁, ⟨U', l2, c2, s2⟩, hW₁, X', ⟨g', mk, t, L, e1, e2, hq, h1, hL, h2, h3⟩, st⟩ | ⟨q, vm₁, ⟨U', l2, c2, s2⟩, hW₁, X', ⟨g', mk, t, L, E, ce, e1, e2, hq, hce, hcv, hcl, h1, hL, h2, h3⟩, st⟩
  · dsimp only [Pt.U, Pt.locs, Pt.cells, Pt.slots] at X' e1 e2 h1 h2 h3 st
    subst h1; subst h2; subst h3
    exact Or.inl ⟨v, (T.setVm vm₁).calling g' mk (Value.ref b :: As).toArray, t, U', L, hT, X', hL, e1, e2, hq, st⟩
  · dsimp only [Pt.U, Pt.locs, Pt.cells, Pt.slots] at X' e1 e2 h1 h2 h3 st hcl
    subst h1; subst h2; subst h3
    exact Or.inr ⟨q, (T.setVm vm₁).calling g' mk (Value.ref b :: As).toArray, t, U', L, E, ce, hT, X', hL, e1, e2, hq, hce, hcv, vx_cls hW₁ hcl, st⟩
end VXIB
/-! ===== END ===== -/
/-! ===== BEGIN a private constructor of a nest mate that throws ===== -/
section VXIC
variable {p : Program} {l : Launch} {e : Env} {R : Room} {s : State} {m : MethodId} {args : Array Value} {below : List Frame} {meth : Method} {c : Code} {T : State} {locs : List Loc} {cells slots : Nat}
theorem vx_callIN (X : Stand p l e R s m args below meth c T locs cells slots) (hexec : p.tables.exec = Jvm.exec) {own : String} {index : Nat} {host : String} {y : MethodName} {bytes : ByteArray} {maxL : Nat}
    (hown : s.vm.findClass own = some m.cls) (hy1 : y.name = "<init>") (hlink : (Cond.methodLinkNest own index y host).before args s = true) (hinst : (Cond.instanceMethod y).before args s = true)
    (hcode : (Cond.code y bytes maxL none).before args s = true) (hy : y.cls ≠ "java/lang/invoke/MethodHandle" ∧ y.cls ≠ "java/lang/invoke/VarHandle")
    {W9 : Nat} {Pre : Pt → Array Value → Prop} {Post : Pt → Array Value → Option Value → Pt → Prop} {PostX : Pt → Array Value → Addr → Pt → Prop} (hK : vx_Back l R p e below s args y 3 W9 Pre Post PostX)
    {g : JFrame} (hg : g.method = m) (hsize : g.locals.size = c.maxLocals) {a : Addr} {argsL rest : List Value} (hlen : ∀ sig, parseMethodDescriptor y.desc = some sig → argsL.length = sig.parameters.length)
    (hstack : g.stack = argsL.reverse ++ .ref a :: rest) (hW : 2 * g.monitorRoom + (rest.map fun v => v.category).sum ≤ W9) (hdg : decode c.code g.pc = .ok (.invokespecial index, 3))
    (hpre : ∀ vm₁, s.WarmedH vm₁ → Pre ⟨T.setVm vm₁, locs, cells, slots⟩ (Value.ref a :: argsL).toArray) :
    (∃ (v : Option Value) (vm₁ : Vm) (B : Pt), s.WarmedH vm₁ ∧ Stand p l e R s m args below meth c B.U B.locs B.cells B.slots ∧ Post ⟨T.setVm vm₁, locs, cells, slots⟩ (Value.ref a :: argsL).toArray v B ∧
      ∀ target, Steps p.tables e below (B.U.setTop { g with pc := g.pc + 3, stack := v.toList ++ rest }) target → Steps p.tables e below (T.setTop g) target) ∨
    (∃ (q : Addr) (vm₁ : Vm) (B : Pt), s.WarmedH vm₁ ∧ Stand p l e R s m args below meth c B.U B.locs B.cells B.slots ∧ PostX ⟨T.setVm vm₁, locs, cells, slots⟩ (Value.ref a :: argsL).toArray q B ∧
      Steps p.tables e below (T.setTop g) ((B.U.setTop { g with stack := rest }).pushFrame (.throwing q))) := by
  subst hg
  have hpl : e.platform.magicAccessors = ({} : Platform).magicAccessors := by rw [X.admits.platform]
  obtain ⟨mk, methM, cM, kP, vm₁, hnamed, hmethM, hcodeM, -, hlocalsM, -, hkP, -, hW₁, hstep₁⟩ := Steps.initColdArgsNest (e := e) X.here hexec X.warmed hpl hown hy1 hy hlink hinst hcode (f := g) rfl hlen hstack hdg
  have X₁ := X.noted hW₁
  rcases hK g.method meth c ⟨T.setVm vm₁, locs, cells, slots⟩ { g with stack := rest } (.invokespecial index) mk (Value.ref a :: argsL).toArray X₁ rfl hsize hdg hW (X₁.named hnamed) (hpre vm₁ X₁.warmed) with ⟨v, B, X', hpost, hsteps⟩ | ⟨q, B, X', hpost, hsteps⟩
  · exact Or.inl ⟨v, vm₁, B, X₁.warmed, X', hpost, fun target h => hstep₁ _ fun acts => by rw [doInvoke_state]; exact hsteps.trans h⟩
  · exact Or.inr ⟨q, vm₁, B, X₁.warmed, X', hpost, hstep₁ _ fun acts => by rw [doInvoke_state]; exact hsteps⟩
end VXIC
section VXID
variable {p : Program} {l : Launch} {e : Env} {R : Room} {s : State} {m : MethodId} {args : Array Value} {below : List Frame} {meth : Method} {c : Code} {H : Heap} {locs : List Loc} {cells slots : Nat}
theorem vx_runIN {y : MethodName} {bytes cc : ByteArray} {maxL nL mc ms n index : Nat} {ws : List Cond} {rm : Room} {Pc : Array Value → State → Prop} {Qc : Array Value → State → Outcome → State → Prop} {XC : String → State → State → Prop} {free : Addr → Prop} {Ts : List Cond} {own host : String} {b : Addr} {As rest : List Value} {g : JFrame}
    (S : CallFix p m c cc nL s args Ts own) (hM : vx_Met l y ws rm Pc Qc XC mc ms free) (cw : va_CN R s args own index y host bytes maxL none ws rm mc ms n ∧ y.name = "<init>" ∧ (Cond.instanceMethod y).before args s = true) (hp : PreS s H Pc (.ref b :: As))
    (hg : g.method = m) (hn : As.length = n) (hsize : g.locals.size = nL) (hstack : g.stack = As.reverse ++ .ref b :: rest) (hW : 2 * g.monitorRoom + (rest.map fun v => v.category).sum ≤ 8) (hdg : decode cc g.pc = .ok (.invokespecial index, 3)) (hf : cells + mc ≤ R.cells ∧ slots + ms ≤ R.slots) :
    vx_Run p l e R s m args below meth c H locs cells slots mc ms g rest (Qc (Value.ref b :: As).toArray) XC free := by
  obtain ⟨⟨⟨hrc, hrs, hfr, hlo, hws, hcw⟩, hcode, hini, hy, hlen, hl⟩, hx1, hx2⟩ := cw
  have hK : vx_Back l R p e below s args y 3 8 (PreOf R mc ms Pc) (PostOf Qc mc ms free) (vx_Post XC mc ms free) := vx_back (bytes := bytes) (maxL := maxL) (ret := none) hM hp.1 hrc hrs hfr hlo hws hcw (fun a' U hW => word_at hW (Or.inl (by first | rfl | simp [Cond.onTables, Cond.keeps, Cond.steady])) hini)
  obtain ⟨hx, hb, hml, ho, -⟩ := S
  have hPc := hp.2
  intro T hT X
  rcases vx_callIN X hx (bytes := bytes) (maxL := maxL) ho hx1 hl hx2 hcode hy hK hg (hsize.trans hml.symm) (a := b) (argsL := As) (rest := rest) (fun sig h => hn.trans (hlen sig h)) hstack hW (by rw [hb]; exact hdg)
    (fun vm₁ hW₁ => ⟨hf.1, hf.2, hPc (T.setVm vm₁) hT hW₁⟩) with ⟨v, vm₁, ⟨U', l2, c2, s2⟩, hW₁, X', ⟨g', mk, t, L, e1, e2, hq, h1, hL, h2, h3⟩, st⟩ | ⟨q, vm₁, ⟨U', l2, c2, s2⟩, hW₁, X', ⟨g', mk, t, L, E, ce, e1, e2, hq, hce, hcv, hcl, h1, hL, h2, h3⟩, st⟩
  · dsimp only [Pt.U, Pt.locs, Pt.cells, Pt.slots] at X' e1 e2 h1 h2 h3 st
    subst h1; subst h2; subst h3
    exact Or.inl ⟨v, (T.setVm vm₁).calling g' mk (Value.ref b :: As).toArray, t, U', L, hT, X', hL, e1, e2, hq, st⟩
  · dsimp only [Pt.U, Pt.locs, Pt.cells, Pt.slots] at X' e1 e2 h1 h2 h3 st hcl
    subst h1; subst h2; subst h3
    exact Or.inr ⟨q, (T.setVm vm₁).calling g' mk (Value.ref b :: As).toArray, t, U', L, E, ce, hT, X', hL, e1, e2, hq, hce, hcv, vx_cls hW₁ hcl, st⟩
end VXID
/-! ===== END ===== -/
section
variable {l : Launch}
theorem vx_ofWF {y : MethodName} {ws ws' : List Cond} {rm : Room} {Pc : Array Value → State → Prop} {Qc : Array Value → State → Outcome → State → Prop} {XC : String → State → State → Prop} {mc ms : Nat} {free : Addr → Prop} {cc : ByteArray} {maxL : Nat} {ret : Option FieldType}
    (hy : plainFor y = true) (hw : ws = Cond.code y cc maxL ret :: ws')
    (body : ∀ p e s m args below meth c s₁, BodyLoose p l y (headSpec ws rm) cc maxL ret e s m args below meth c s₁ → c.maxLocals = maxL → (∀ x ∈ c.exceptionTable.toList, False) → Pc args s →
      W p l e (headSpec ws rm).room s m args below meth c s.heap [] 0 0 (vx_MQ below Qc XC args s mc ms free) (entryFrame m args maxL)) : vx_Met l y ws rm Pc Qc XC mc ms free := by
  refine MetFree.of_bodySF (code := cc) (maxLocals := maxL) (ret := ret) hy ?_ ?_
  · intro args s m h hn
    obtain ⟨meth, c, h1, h2, h3, h4, h5, h6, -, -⟩ := Cond.code_spec hn (atoms_spec (ws := ws) h _ (by rw [hw]; exact List.mem_cons_self))
    exact ⟨meth, c, h1, h2, h3, h4, h5, h6⟩
  · intro p e s m args below meth c s₁ B hml hP _
    have hh0 : s₁.heap = s.heap := by rw [B.state]; rfl
    have ht : ∀ x ∈ c.exceptionTable.toList, False := by
      obtain ⟨meth9, c9, h1, h2, -, -, -, -, h7, -⟩ := Cond.code_spec B.named (atoms_spec (ws := ws) B.pre _ (by rw [hw]; exact List.mem_cons_self))
      cases Option.some.inj (h1.symm.trans B.method)
      cases Option.some.inj (h2.symm.trans (Stand.of_body B).code)
      intro x hx
      rw [Array.isEmpty_iff.mp h7] at hx
      cases hx
    obtain ⟨t, a1, o, b1, b2, b3⟩ := body p e s m args below meth c s₁ B hml ht hP s₁ hh0 (Stand.of_body B)
    exact ⟨t, o, a1, b1, b2, b3⟩
end
/-! ===== an exception whose own constructor has another entry: as the kit's vx_ctorMadeS, vx_makeS, with the first link by itself ===== -/
def zWt (own : String) (ic : Nat) (X : String) : List Cond := (Bundle.ownAtoms own ic X []).drop (Bundle.throwableAtoms ++ Bundle.throwableSAtoms ++ Bundle.chainSAtoms X []).length
def zxL (own : String) (ic : Nat) (X Y : String) (r : List String) (idx : Nat) (bts : ByteArray) : List Cond := (Bundle.throwableAtoms ++ Bundle.throwableSAtoms) ++ ((Bundle.passSAtoms X Y idx bts ++ Bundle.chainSAtoms Y r) ++ zWt own ic X)
section VXN
variable {p : Program} {l : Launch} {e : Env} {R : Room} {s : State} {m₀ : MethodId} {args : Array Value} {below : List Frame} {meth : Method} {c : Code} {W : State} {locs : List Loc} {cells slots : Nat}
set_option maxHeartbeats 1000000 in
theorem vx_ctorMadeN (X : Stand p l e R s m₀ args below meth c W locs cells slots) (hexec : p.tables.exec = Jvm.exec) (htr : e.platform.stackTraces = false) {own cls : String} {Y9 : String} {r9 : List String} {ic idx9 : Nat} {bts9 : ByteArray}
    (hown : s.vm.findClass own = some m₀.cls) (hcls : Bundle.fit cls = true) (hY9 : Bundle.fit Y9 = true) (hnames : ∀ n ∈ r9, Bundle.fit n = true) (b0 : decode bts9 0 = .ok (.aload_n 0, 1)) (b1 : decode bts9 1 = .ok (.aload_n 1, 1)) (b2 : decode bts9 2 = .ok (.invokespecial idx9, 3)) (b5 : decode bts9 5 = .ok (.return_, 1))
    (h : ∀ a ∈ zxL own ic cls Y9 r9 idx9 bts9, a.before args s = true)
    (hlocs : ∀ x ∈ locs, ∀ cell, s.heap[x.base]? = some cell → cell.vm.isStatics = false)
    {a : Addr} {cX : ClassId} {kX : Class} (hfoundX : s.vm.findClass cls = some cX) (hkX : s.vm.classes[cX]? = some kX) (hcell : W.heap[a]? = some (freshCell cX kX)) (hnew : s.heap.size ≤ a)
    {msg : Value} (hmsg : msg.isRef = true)
    {g : JFrame} (hg : g.method = m₀) (hsize : g.locals.size = c.maxLocals) {rest : List Value} (hstack : g.stack = msg :: .ref a :: .ref a :: rest)
    (hd6 : decode c.code g.pc = .ok (.invokespecial ic, 3))
    (hRframes : (Y9 :: r9).length + 3 < R.frames) (hRlocals : 2 * g.monitorRoom + ((Value.ref a :: rest).map fun v => v.category).sum + (13 * ((Y9 :: r9).length + 1) + 42) ≤ R.locals) :
    ∃ (V : State) (ce : Cell) (L : List Loc), Stand p l e R s m₀ args below meth c (V.setCell a ce) (locs ++ L) cells slots ∧ (∀ y ∈ L, y.base = a) ∧ a < V.heap.size ∧ ce.cls = cX ∧ ce.vm = .none ∧
      ∀ target, Steps p.tables e below ((V.setCell a ce).setTop { g with stack := .ref a :: rest, pc := g.pc + 3 }) target → Steps p.tables e below (W.setTop g) target := by
  have howns : e.platform.frameOwnsMonitors = true := by rw [X.admits.platform]
  have hfin : e.platform.finalization = false := by rw [X.admits.platform]
  have hpl : e.platform.magicAccessors = ({} : Platform).magicAccessors := by rw [X.admits.platform]
  have hA9 : ∀ x, x ∈ Bundle.throwableAtoms → x.before args s = true := fun x hx => h x (List.mem_append_left _ (List.mem_append_left _ hx))
  have hS9 : ∀ x, x ∈ Bundle.throwableSAtoms → x.before args s = true := fun x hx => h x (List.mem_append_left _ (List.mem_append_right _ hx))
  have hP9 : ∀ x, x ∈ Bundle.passSAtoms cls Y9 idx9 bts9 → x.before args s = true := fun x hx => h x (List.mem_append_right _ (List.mem_append_left _ (List.mem_append_left _ hx)))
  have hC9 : ∀ x, x ∈ Bundle.chainSAtoms Y9 r9 → x.before args s = true := fun x hx => h x (List.mem_append_right _ (List.mem_append_left _ (List.mem_append_right _ hx)))
  have a' : ∀ x, x ∈ zWt own ic cls → x.holds args s none s [] = true := fun x hx => h x (List.mem_append_right _ (List.mem_append_right _ hx))
  obtain ⟨T, Z0, L, -, Y⟩ := ThrowableC.of_atoms (args := args) howns hfin hpl hA9
  obtain ⟨Z, M, LZ, LM, hnZ⟩ := Init0T.ofS_atoms (args := args) hpl L Y hS9
  obtain ⟨P0, L0, hm0, hs0⟩ := PassC.ofS_atoms (args := args) (s := s) hpl (X := cls) (Y := Y9) (Bundle.fit_spec hcls).1 (Bundle.fit_spec hY9).2 b0 b1 b2 b5 hP9
  obtain ⟨P9, Ps9, hlen9, L9, hL9, hm9, hsup9, hpass9⟩ := Bundle.chainS (args := args) hpl hnZ r9 Y9 hY9 hnames hC9
  have L1 := L0
  have hL : ∀ P, P ∈ (P9 :: Ps9) → P.LinksS e.platform s := by
    intro Q hQ
    rcases List.mem_cons.mp hQ with rfl | hQ
    · exact L9
    · exact hL9 Q hQ
  have hP1m := hm0
  have hlink1 : P0.sup = firstOf (Z.m T.toThrowableT) ((P9 :: Ps9).map (·.toPassT)) := Option.some.inj (hs0.symm.trans hm9)
  have hlink : PassesOn (Z.m T.toThrowableT) ((P9 :: Ps9).map (·.toPassT)) := ⟨hsup9, hpass9⟩
  have hfound : s.vm.findClass cls = some P0.m.cls := findClass_of_methodNamed hP1m
  cases Option.some.inj (hfoundX.symm.trans hfound)
  obtain ⟨c1, kX', hc1, hk, hord, -, -, hn6⟩ := Cond.instantiable_spec (a' (.instantiable cls 6) (by unfold zWt Bundle.ownAtoms; rw [List.drop_left]; simp))
  cases Option.some.inj (hc1.symm.trans hfound)
  cases Option.some.inj (hkX.symm.trans hk)
  have hsel0 : selectMethod e.platform s.vm P0.m.cls T.fill0 = .method T.fill0 := by
    obtain ⟨c2, r2, m2, q1, q2, q3, q4, -⟩ := Cond.selects_spec (a' (.selects cls Bundle.tFill0 Bundle.tFill0) (by unfold zWt Bundle.ownAtoms; rw [List.drop_left]; simp))
    cases Option.some.inj (q1.symm.trans hfound)
    cases Option.some.inj (q2.symm.trans (State.methodFound?_of_named Y.fill0 (by decide)))
    cases Option.some.inj (q3.symm.trans Y.fill0)
    rw [Launch.admits_selectMethod X.admits]; exact q4
  have hselF : selectMethod e.platform s.vm P0.m.cls T.fill = .method T.fill := by
    obtain ⟨c2, r2, m2, q1, q2, q3, q4, -⟩ := Cond.selects_spec (a' (.selects cls Bundle.tFill Bundle.tFill) (by unfold zWt Bundle.ownAtoms; rw [List.drop_left]; simp))
    cases Option.some.inj (q1.symm.trans hfound)
    cases Option.some.inj (q2.symm.trans (State.methodFound?_of_named Y.fill (by decide)))
    cases Option.some.inj (q3.symm.trans Y.fill)
    rw [Launch.admits_selectMethod X.admits]; exact q4
  obtain ⟨cellS0, hcS0, hiss⟩ := Y.statics
  obtain ⟨u0, hu0⟩ := Cond.staticRefV Y.unassigned L.unassignedStatic L.statics hcS0 hiss (a' (.isRef (.static Bundle.tN "UNASSIGNED_STACK" Bundle.steD)) (by unfold zWt Bundle.ownAtoms; rw [List.drop_left]; simp))
  obtain ⟨sen, hsen⟩ := Cond.staticRefV Y.sentinel L.sentinelStatic L.statics hcS0 hiss (a' (.isRef (.static Bundle.tN "SUPPRESSED_SENTINEL" Bundle.listD)) (by unfold zWt Bundle.ownAtoms; rw [List.drop_left]; simp))
  obtain ⟨ci198, i198, fB, hk198, hg198, ha198, hsB, -, hnB, htB, hffB⟩ := Cond.ownField (t := .object "java/lang/Object") Y.found L.cls (by decide +kernel) (a' (.fieldLink Bundle.tN 198 Bundle.tN "backtrace" "Ljava/lang/Object;") (by unfold zWt Bundle.ownAtoms; rw [List.drop_left]; simp)) (a' (.lays Bundle.tN Bundle.tN "backtrace" "Ljava/lang/Object;") (by unfold zWt Bundle.ownAtoms; rw [List.drop_left]; simp)) e.platform hpl
  obtain ⟨cellS, hcS', heS, -, hkeep⟩ := X.same.2.2.2.2.2 T.aS cellS0 hcS0
  have hcellS : W.heap[T.aS]? = some cellS := hcS'
  have hout' : ∀ i, (⟨T.aS, i⟩ : Loc) ∉ locs := fun i hmem => by
    have := hlocs _ hmem cellS0 hcS0
    rw [hiss] at this; cases this
  have hknownS : cellS.vm ≠ .unknown := by
    rw [heS]; intro hu
    rw [show cellS0.vm = .unknown from hu] at hiss
    cases hiss
  have hneS : T.aS ≠ a := Nat.ne_of_lt (Nat.lt_of_lt_of_le (Array.getElem?_eq_some_iff.mp hcS0).1 hnew)
  obtain ⟨iM, hffM⟩ := Y.msg
  obtain ⟨tyC, dC, hdC, hdnC⟩ := Cond.laysAt hfound hk Y.cause (a' (.lays cls Bundle.tN "cause" "Ljava/lang/Throwable;") (by unfold zWt Bundle.ownAtoms; rw [List.drop_left]; simp))
  obtain ⟨tyS, dS, hdS, hdnS⟩ := Cond.laysAt hfound hk Y.stack (a' (.lays cls Bundle.tN "stackTrace" Bundle.steD) (by unfold zWt Bundle.ownAtoms; rw [List.drop_left]; simp))
  obtain ⟨tyP, dP, hdP, hdnP⟩ := Cond.laysAt hfound hk Y.supp (a' (.lays cls Bundle.tN "suppressedExceptions" Bundle.listD) (by unfold zWt Bundle.ownAtoms; rw [List.drop_left]; simp))
  obtain ⟨tyM, dM, hdM, hdnM⟩ := Cond.laysAt hfound hk hffM (a' (.lays cls Bundle.tN "detailMessage" "Ljava/lang/String;") (by unfold zWt Bundle.ownAtoms; rw [List.drop_left]; simp))
  obtain ⟨tyB, dB, hdB, hdnB⟩ := Cond.laysAt hfound hk hffB (a' (.lays cls Bundle.tN "backtrace" "Ljava/lang/Object;") (by unfold zWt Bundle.ownAtoms; rw [List.drop_left]; simp))
  have bC := Cond.laysApart hdB hdC hdnB hdnC (by rw [hnB, Y.causeName]; decide)
  have bS := Cond.laysApart hdB hdS hdnB hdnS (by rw [hnB, Y.stackName]; decide)
  have bP := Cond.laysApart hdB hdP hdnB hdnP (by rw [hnB, Y.suppName]; decide)
  have hskip : SkipFacts T e.platform s (fun u => u) u0 ((preparedCellV T.toThrowableT (freshCell P0.m.cls kX) a u0 sen).withEntry W.cur) :=
    ⟨{ ci198 := ci198, i198 := i198, fBack := fB }, ⟨hk198, hg198, ha198, hsB⟩, by
      have := fresh_default (c := P0.m.cls) tyB
      rw [htB] at this
      simpa [preparedCellV, Cell.setSlot, Cell.withEntry, Array.getElem?_setIfInBounds, bC, bS, bP, bC.symm, bS.symm, bP.symm, defaultValue] using this, fun _ _ => rfl⟩
  obtain ⟨tm, methC, cdC, kC, vm₁, hnC, -, -, -, -, -, -, -, hW₁, st1⟩ := Steps.initColdS (tb := p.tables) (e := e) (below := below) (s := s) (U := W) X.here hexec X.warmed hpl hown (t := Bundle.initS cls) rfl rfl (Bundle.fit_spec hcls).2
    (a' (.methodLink own ic (Bundle.initS cls)) (by unfold zWt Bundle.ownAtoms; rw [List.drop_left]; simp)) (hP9 (.instanceMethod (Bundle.initS cls)) (by simp [Bundle.passSAtoms])) (bytes := bts9) (maxL := 2) (hP9 (.code (Bundle.initS cls) bts9 2 none) (by simp [Bundle.passSAtoms]))
    (f := g) hg (a := a) (msg := msg) (rest := .ref a :: rest) hstack hd6
  cases Option.some.inj (hnC.symm.trans hP1m)
  have X₁ := X.noted hW₁
  obtain ⟨vm₂, X₂, st2⟩ := X₁.ctorMessageOffV hexec (g := { g with stack := .ref a :: rest }) hg hsize T L Z LZ M LM (P0 :: (P9 :: Ps9))
    (fun P hP => by rcases List.mem_cons.mp hP with rfl | hP; exact L1; exact hL P hP) ⟨hlink1, hlink⟩ (u0 := u0) (sen := sen) (self := a) hmsg (cell := freshCell P0.m.cls kX) (cellS := cellS)
    hcell (fun _ => by simp) (by simp) rfl rfl hsel0 hselF hcellS hneS hknownS (by rw [hkeep _ (hout' _)]; exact hu0) (by rw [hkeep _ (hout' _)]; exact hsen)
    (Takes.of_laid hk hord tyC (by rw [Y.causeType]; rfl)) (Takes.of_laid hk hord tyS (by rw [Y.stackType]; exact fits_refV_array _ u0)) (Takes.of_laid hk hord tyP (by rw [Y.suppType]; exact fits_refV_object _ sen))
    (Takes.of_laid hk hord tyM (by rw [Y.msgType]; exact fits_refV_object _ ⟨msg, hmsg⟩)) Y.objLocals hskip htr [] hd6
    (by simp only [List.length_cons, hlen9]; omega) (by simp only [List.length_cons, hlen9]; exact hRlocals)
  have hlt : a < ((W.setVm vm₁).setVm vm₂).heap.size := (Array.getElem?_eq_some_iff.mp hcell).1
  refine ⟨(W.setVm vm₁).setVm vm₂, _, _, X₂, fun y hy => ?_, hlt, rfl, rfl, fun target hwalk => st1 _ (fun acts => ?_)⟩
  · simp only [List.mem_cons, List.not_mem_nil, or_false] at hy
    rcases hy with rfl | rfl | rfl | rfl | rfl <;> rfl
  · rw [doInvoke_state]
    exact st2 _ hwalk
end VXN
section VXN2
variable {p : Program} {l : Launch} {e : Env} {R : Room} {s : State} {m : MethodId} {args : Array Value} {below : List Frame} {meth : Method} {c : Code} {H : Heap} {locs : List Loc} {cells slots : Nat} {Q : State → Prop}
variable {ls : Array Slot} {rest : List Value}
theorem vx_back9 {T S : State} {R' : Room} {k n : Nat} (X : Stand p l e R s m args below meth c T locs cells slots) (Y : Stand p l e R' ((T.setVm s.vm).setFrames (.invoking m args :: below)) m args below meth c T [] 0 0) (Z : Stand p l e R' ((T.setVm s.vm).setFrames (.invoking m args :: below)) m args below meth c S [] k n) :
    Stand p l e R s m args below meth c S locs (cells + k) (slots + n) := by
  have hW0 : s.WarmedH ((T.setVm s.vm).setFrames (.invoking m args :: below)).vm := State.WarmedH.refl s
  refine { admits := X.admits, cas := X.cas, clock := X.clock, frames := X.frames, room := X.room, hears := X.hears, method := X.method, code := X.code, here := Z.here, tail := Z.tail, warmed := State.WarmedH.trans hW0 Z.warmed, limits := Z.limits.trans (Y.limits.symm.trans X.limits), bytes := Z.bytes.trans (Y.bytes.symm.trans X.bytes), same := ?_ }
  obtain ⟨e1, e2⟩ := Z.same
  rw [State.setFrames_setFrames] at e1
  have h2 : (T.setVm s.vm).sameButNew (S.setVm s.vm) [] k n := ⟨e1, e2⟩
  have h3 := X.same.trans h2
  rw [List.append_nil] at h3
  exact h3
set_option maxHeartbeats 1000000 in
theorem vx_makeN9 {cc : ByteArray} {pc : Nat} (hexec : p.tables.exec = Jvm.exec) (hb : c.code = cc) (hl : l.stackTraces = false) {own cls text : String} {Y9 : String} {r9 : List String} {ik is ic sa idx9 : Nat} {bts9 : ByteArray} {A : Nat → Prop}
    (hown : s.vm.findClass own = some m.cls) (hcls : Bundle.fit cls = true) (hY9 : Bundle.fit Y9 = true) (hnames : ∀ n ∈ r9, Bundle.fit n = true) (b0 : decode bts9 0 = .ok (.aload_n 0, 1)) (b1 : decode bts9 1 = .ok (.aload_n 1, 1)) (b2 : decode bts9 2 = .ok (.invokespecial idx9, 3)) (b5 : decode bts9 5 = .ok (.return_, 1))
    (hk : (Cond.classLink own ik cls).before args s = true) (hini : (Cond.initialized cls).before args s = true) (hstr : vk_R own is text sa s) (hat : ∀ w ∈ (zxL own ic cls Y9 r9 idx9 bts9).filter vx_no, w.before args s = true)
    (hgood : ∀ w ∈ Cond.classLink own ik cls :: Cond.initialized cls :: (zxL own ic cls Y9 r9 idx9 bts9).filter vx_no, vx_ot w = true)
    (hU : vx_Zq Bundle.tN "UNASSIGNED_STACK" Bundle.steD A s s.heap) (hN : vx_Zq Bundle.tN "SUPPRESSED_SENTINEL" Bundle.listD A s s.heap) (hS : va_S A s.heap H locs) (hsize : ls.size = c.maxLocals)
    (d0 : decode cc pc = .ok (.new ik, 3)) (d3 : decode cc (pc + 3) = .ok (.dup, 1)) (d4 : decode cc (pc + 4) = .ok (.ldc_w is, 3)) (d6 : decode cc (pc + 7) = .ok (.invokespecial ic, 3))
    (hRframes : (Y9 :: r9).length + 3 < R.frames) (hRlocals : (rest.map fun v => v.category).sum + (13 * ((Y9 :: r9).length + 1) + 43) ≤ R.locals) (hRcells : cells + 1 ≤ R.cells) (hRslots : slots + 6 ≤ R.slots)
    (kk : ∀ (H1 : Heap) (ce : Cell), H1.size = H.size + 1 → (∀ q, q < H.size → H1[q]? = H[q]?) → H1[H.size]? = some ce → ce.vm = .none → s.vm.findClass cls = some ce.cls → W p l e R s m args below meth c H1 locs (cells + 1) (slots + 6) Q (F0 m (pc + 10) ls (.ref H.size :: rest))) :
    W p l e R s m args below meth c H locs cells slots Q (F0 m pc ls rest) := by
  intro T hT X
  subst hT
  have htr : e.platform.stackTraces = false := (show e.platform.stackTraces = l.stackTraces by rw [X.admits.platform]).trans hl
  have Y := vx_rebase X (R' := { frames := R.frames, locals := R.locals, cells := 1, slots := 6 }) (Nat.le_refl _) (Nat.le_refl _) hRcells hRslots
  obtain ⟨s', hA'⟩ : ∃ z, z = (T.setVm s.vm).setFrames (.invoking m args :: below) := ⟨_, rfl⟩
  rw [← hA'] at Y
  have hvm : s'.vm = s.vm := by rw [hA']; rfl
  have hhp : s'.heap = T.heap := by rw [hA']; rfl
  have hW0 : s.WarmedH s'.vm := by rw [hvm]; exact State.WarmedH.refl s
  have hat' : ∀ w ∈ (zxL own ic cls Y9 r9 idx9 bts9).filter vx_no, w.before args s' = true := fun w hw => vx_ot_at hW0 hvm.symm (hgood w (List.mem_cons_of_mem _ (List.mem_cons_of_mem _ hw))) (hat w hw)
  have hk' : (Cond.classLink own ik cls).before args s' = true := vx_ot_at hW0 hvm.symm (hgood _ List.mem_cons_self) hk
  have hini' : (Cond.initialized cls).before args s' = true := vx_ot_at hW0 hvm.symm (hgood _ (List.mem_cons_of_mem _ List.mem_cons_self)) hini
  have hU' : vx_Zq Bundle.tN "UNASSIGNED_STACK" Bundle.steD A s' s'.heap := by rw [hhp]; exact vx_Zq.moved hW0.alike (hU.kept hS.2.1)
  have hN' : vx_Zq Bundle.tN "SUPPRESSED_SENTINEL" Bundle.listD A s' s'.heap := by rw [hhp]; exact vx_Zq.moved hW0.alike (hN.kept hS.2.1)
  have h : ∀ w ∈ zxL own ic cls Y9 r9 idx9 bts9, w.before args s' = true := vx_own hat' (vx_isRefq hU'.1) (vx_isRefq hN'.1) hU'.2.word hN'.2.word
  have hown' : s'.vm.findClass own = some m.cls := by rw [hvm]; exact hown
  have hins : (Cond.instantiable cls 6).before args s' = true := h _ (List.mem_append_right _ (List.mem_append_right _ (by unfold zWt Bundle.ownAtoms; rw [List.drop_left]; simp)))
  obtain ⟨vm₁, cX, kX, hfX, hkX, -, -, X₁, st1⟩ := Y.newCold hexec (own := own) (C := cls) (index := ik) (n := 6) hown' hk' hins hini'
    (g := F0 m pc ls rest) rfl (by rw [hb]; exact d0) (Nat.le_refl _) (Nat.le_refl _)
  generalize hT1 : (T.setVm vm₁).pushCell { cls := cX, slots := kX.instanceTypes.map defaultValue, vm := .none } = T1 at X₁ st1
  have hcat : (Value.ref T.heap.size).category = 1 := rfl
  have hcellA : T1.heap[T.heap.size]? = some (freshCell cX kX) := by rw [← hT1]; exact State.heap_pushCell_size _ _
  have d3' : decode c.code (pc + 3) = .ok (.dup, 1) := by rw [hb]; exact d3
  have d4' : decode c.code (pc + 4) = .ok (.ldc_w is, 3) := by rw [hb]; exact d4
  have hstr' : vk_R own is text sa s' := vk_R.warm hW0 hstr
  obtain ⟨V, ce, L, Z, hL, hlt, hcl9, hvm9, st⟩ := vx_ctorMadeN X₁ hexec htr (own := own) (cls := cls)  (ic := ic) hown' hcls hY9 hnames b0 b1 b2 b5 h (fun x hx => nomatch hx) hfX hkX hcellA (by rw [hhp]; exact Nat.le_refl _) (msg := .ref sa) rfl
    (g := { method := m, pc := pc + 7, locals := ls, stack := .ref sa :: .ref T.heap.size :: .ref T.heap.size :: rest, locked := none }) rfl hsize (rest := rest) rfl
    (by rw [hb]; exact d6) hRframes (by simp only [List.map_cons, List.sum_cons, hcat]; omega)
  have Z0 := Stand.forget (locs := []) Z (fun y hy => by rw [hL y hy, hhp]; exact Nat.le_refl _)
  obtain ⟨f1, f2⟩ := vx_frame Z0.same
  rw [hhp] at f1 f2
  have hh : (V.setCell T.heap.size ce).heap[T.heap.size]? = some ce := heapAt_setCell_self (s := V) ce hlt
  have f9 : (V.setCell T.heap.size ce).heap.size = T.heap.size + 1 := by
    have g1 : (V.setCell T.heap.size ce).heap.size ≤ s'.heap.size + 1 := Z0.same.2.2.1
    have g2 := (Array.getElem?_eq_some_iff.mp hh).1
    rw [hhp] at g1
    omega
  have hcid : s.vm.findClass cls = some ce.cls := by
    rw [hcl9, ← hvm]
    exact hfX
  subst hA'
  have X5 := vx_back9 X Y Z0
  have X6 : Stand p l e R s m args below meth c (V.setCell T.heap.size ce) locs (cells + 1) (slots + 6) := { X5 with same := X5.same.mono (by omega) (by omega) }
  obtain ⟨t, a1, b1⟩ := kk (V.setCell T.heap.size ce).heap ce f9 (fun q hq => f2 q hq (fun z hz => nomatch hz)) hh hvm9 hcid _ rfl X6
  refine ⟨t, st1 _ ?_, b1⟩
  show Steps p.tables e below (T1.setTop { method := m, pc := pc + 3, locals := ls, stack := .ref T.heap.size :: rest, locked := none }) _
  jvm_step X₁.here [X₁.here.top, hexec, d3', Value.category]
  exact X₁.ldcStringW hexec (own := own) (text := text) (index := is) (a := sa) hown' hstr'.1 hstr'.2
    (g := { method := m, pc := pc + 4, locals := ls, stack := .ref T.heap.size :: .ref T.heap.size :: rest, locked := none }) rfl d4' _ (st _ a1)
theorem vx_athrow {cc : ByteArray} {pc : Nat} (hexec : p.tables.exec = Jvm.exec) (hb : c.code = cc) {q : Addr} (hdg : decode cc pc = .ok (.athrow, 1)) (k : vx_W p l e R s m args below meth c H locs cells slots Q (F0 m pc ls rest) q) : W p l e R s m args below meth c H locs cells slots Q (F0 m pc ls (.ref q :: rest)) := by
  intro T hT X
  obtain ⟨t, st, hq⟩ := k T hT X
  refine ⟨t, ?_, hq⟩
  have hdg' : decode c.code pc = .ok (.athrow, 1) := by rw [hb]; exact hdg
  jvm_step X.here [X.here.top, hexec, hdg', athrow.wp_sem]
  exact st
end VXN2
/-- words that stay true as the machine warms up -/
def zg_nest : Cond → Bool
  | .fieldLinkNest .. => true
  | .methodLinkNest .. => true
  | _ => false
def zg_arr : Cond → Bool
  | .arrayOver _ => true
  | _ => false
def zg_good (w : Cond) : Bool := goodWord w || ((w.onTables && (w.keepsFace || zg_nest w)) || zg_arr w)
theorem zg_aov {ty : FieldType} {args a' : Array Value} {s U : State} (hvm : s.vm.Alike U.vm) (h : (Cond.arrayOver ty).before args s = true) : (Cond.arrayOver ty).before a' U = true := by
  have hf : ∀ nm : String, U.vm.findClass nm = s.vm.findClass nm := fun nm => by rw [hvm.findClass]
  have h1 : ∀ comp : ClassId, (U.vm.classes.findIdx? fun (x : Class) => match x.kind with | .array component _ => component == comp | _ => false) = (s.vm.classes.findIdx? fun (x : Class) => match x.kind with | .array component _ => component == comp | _ => false) := fun comp =>
    (va_idx_bare U.vm comp).symm.trans ((congrArg (fun (vm : Vm) => (vm.classes.findIdx? fun (x : Class) => match x.kind with | .array component _ => component == comp | _ => false)) hvm.bare_eq).trans (va_idx_bare s.vm comp))
  have h2 : ∀ (vm : Vm) (c : Nat) (g : Kind → Bool), (vm.classes[c]?).map (fun (k : Class) => g k.kind) = (vm.bare.classes[c]?).map (fun (k : Class) => g k.kind) := fun vm c g => by
    simp only [Vm.bare, Array.getElem?_map, Option.map_map]
    rfl
  have h3 : ∀ (c : Nat) (g : Kind → Bool), (U.vm.classes[c]?).map (fun (k : Class) => g k.kind) = (s.vm.classes[c]?).map (fun (k : Class) => g k.kind) := fun c g => by
    rw [h2 U.vm, h2 s.vm, hvm.bare_eq]
  have hbd : ∀ {α β : Type} {o o' : Option α} {f f' : α → Option β}, o = o' → f = f' → o.bind f = o'.bind f' := fun h h' => by rw [h, h']
  unfold Cond.before Cond.holds at h ⊢
  have e : (Cond.arrayOver ty).value a' U none U [] = (Cond.arrayOver ty).value args s none s [] := by
    simp only [Cond.value, hf]
    refine congrArg _ (funext fun comp => ?_)
    refine hbd (h1 comp) (funext fun c => ?_)
    exact h3 c (fun kk => match kk with | .array _ ty9 => decide (ty9 = ty) && decide (s.vm.findClass ("[" ++ ty.toString) = some c) | _ => false)
  rw [e]
  exact h
theorem zg_warm {w : Cond} (hg : zg_good w = true) {args a' : Array Value} {s U : State} (hW : s.WarmedH U.vm) (h : w.before args s = true) : w.before a' U = true := by
  simp only [zg_good, Bool.or_eq_true, Bool.and_eq_true] at hg
  rcases hg with hg | ⟨ht, hg⟩ | hg
  · exact word_at hW (good_of_word hg) h
  · have key : w.before args (s.setVm U.vm) = true → w.before a' U = true := fun h1 => va_tabs (u := s.setVm U.vm) ht rfl h1
    rcases hg with hg | hg
    · exact key (Cond.before_shiftedFace (State.Shifted.of_warmed hW) _ hg h)
    · cases w <;> first | (simp [zg_nest] at hg; done) | exact key (Cond.fieldLinkNest_warmed hW h) | exact key (Cond.methodLinkNest_warmed hW h)
  · cases w <;> first | (simp [zg_arr] at hg; done) | exact zg_aov hW.alike h
def lw_g : List Cond := lw_tbl.filter zg_good
theorem lw_g_of {w : Cond} (h : w ∈ lw_tbl) (hg : zg_good w = true) : w ∈ lw_g := List.mem_filter.mpr ⟨h, hg⟩
theorem lw_g_in {w : Cond} (h : w ∈ lw_g) : w ∈ lw_tbl := (List.mem_filter.mp h).1
theorem lw_g_ok {w : Cond} (h : w ∈ lw_g) : zg_good w = true := (List.mem_filter.mp h).2
end
section
def RX0 : String := "ShoeHouse$CardTable"
def TX0 : u_T := fun k => match k with
  | 0 => ("ShoeHouse$CardTable", "shoe", "LShoeHouse$Shoe;", true)
  | 1 => ("ShoeHouse$CardTable", "tray", "LShoeHouse$Tray;", true)
  | 2 => ("ShoeHouse$CardTable", "seats", "[LShoeHouse$Seat;", true)
  | 3 => ("ShoeHouse$CardTable", "dealer", "LShoeHouse$Hand;", true)
  | 4 => ("ShoeHouse$CardTable", "isOn", "Z", false)
  | 5 => ("ShoeHouse$CardTable", "doublesSplits", "Z", false)
  | 6 => ("ShoeHouse$CardTable", "surrenders", "Z", false)
  | 7 => ("ShoeHouse$CardTable", "drawsAtSoft", "Z", false)
  | 8 => ("ShoeHouse$CardTable", "paysLess", "Z", false)
  | _ => ("ShoeHouse$CardTable", "brokenTenths", "I", false)
def tyX0 : Nat → FieldType := fun k => match k with
  | 0 => .object "ShoeHouse$Shoe"
  | 1 => .object "ShoeHouse$Tray"
  | 2 => .array (.object "ShoeHouse$Seat")
  | 3 => .object "ShoeHouse$Hand"
  | 4 => .boolean
  | 5 => .boolean
  | 6 => .boolean
  | 7 => .boolean
  | 8 => .boolean
  | _ => .int
theorem nmX0 : ∀ a, a < 10 → ∀ b, b < 10 → a ≠ b → (TX0 a).2.1 ≠ (TX0 b).2.1 := by decide +kernel
theorem tyX0_ok : ∀ k, k < 10 → parseFieldDescriptor (TX0 k).2.2.1 = some (tyX0 k) := by decide +kernel
abbrev cX0_init : ByteArray := prog_2_method_1_code
def yX0_init : MethodName := ⟨RX0, "<init>", "(LShoeHouse$Shoe;LShoeHouse$Tray;)V"⟩
abbrev cX0_tellRule : ByteArray := prog_2_method_2_code
def yX0_tellRule : MethodName := ⟨RX0, "tellRule", "(CZ)Z"⟩
abbrev cX0_hasStakes : ByteArray := prog_2_method_3_code
def yX0_hasStakes : MethodName := ⟨RX0, "hasStakes", "()Z"⟩
abbrev cX0_stakesOf : ByteArray := prog_2_method_4_code
def yX0_stakesOf : MethodName := ⟨RX0, "stakesOf", "(LShoeHouse$Guest;)I"⟩
abbrev cX0_takeAway : ByteArray := prog_2_method_5_code
def yX0_takeAway : MethodName := ⟨RX0, "takeAway", "(LShoeHouse$Guest;)I"⟩
abbrev cX0_forgetCards : ByteArray := prog_2_method_6_code
def yX0_forgetCards : MethodName := ⟨RX0, "forgetCards", "()V"⟩
abbrev cX0_seatInTurn : ByteArray := prog_2_method_7_code
def yX0_seatInTurn : MethodName := ⟨RX0, "seatInTurn", "()I"⟩
abbrev cX0_dealRound : ByteArray := prog_2_method_8_code
def yX0_dealRound : MethodName := ⟨RX0, "dealRound", "()I"⟩
abbrev cX0_dealToSeats : ByteArray := prog_2_method_9_code
def yX0_dealToSeats : MethodName := ⟨RX0, "dealToSeats", "()V"⟩
abbrev cX0_giveCard : ByteArray := prog_2_method_10_code
def yX0_giveCard : MethodName := ⟨RX0, "giveCard", "(LShoeHouse$Hand;)I"⟩
abbrev cX0_giveUp : ByteArray := prog_2_method_11_code
def yX0_giveUp : MethodName := ⟨RX0, "giveUp", "(LShoeHouse$Seat;LShoeHouse$Hand;)I"⟩
abbrev cX0_finishIfNobodyPlays : ByteArray := prog_2_method_12_code
def yX0_finishIfNobodyPlays : MethodName := ⟨RX0, "finishIfNobodyPlays", "()V"⟩
abbrev cX0_drawForDealer : ByteArray := prog_2_method_13_code
def yX0_drawForDealer : MethodName := ⟨RX0, "drawForDealer", "()V"⟩
abbrev cX0_drawsAgain : ByteArray := prog_2_method_14_code
def yX0_drawsAgain : MethodName := ⟨RX0, "drawsAgain", "()Z"⟩
abbrev cX0_settle : ByteArray := prog_2_method_15_code
def yX0_settle : MethodName := ⟨RX0, "settle", "(LShoeHouse$Seat;LShoeHouse$Hand;)V"⟩
abbrev cX0_gainOf : ByteArray := prog_2_method_16_code
def yX0_gainOf : MethodName := ⟨RX0, "gainOf", "(LShoeHouse$Seat;LShoeHouse$Hand;)I"⟩
abbrev cX0_payForNatural : ByteArray := prog_2_method_17_code
def yX0_payForNatural : MethodName := ⟨RX0, "payForNatural", "(I)I"⟩
def RX1 : String := "ShoeHouse$DealerOdds"
def TX1 : u_T := fun k => match k with
  | 0 => ("ShoeHouse$DealerOdds", "left", "[I", true)
  | 1 => ("ShoeHouse$DealerOdds", "end", "I", false)
  | _ => ("ShoeHouse$DealerOdds", "drawsAtSoft", "Z", false)
def tyX1 : Nat → FieldType := fun k => match k with
  | 0 => .array .int
  | 1 => .int
  | _ => .boolean
theorem nmX1 : ∀ a, a < 3 → ∀ b, b < 3 → a ≠ b → (TX1 a).2.1 ≠ (TX1 b).2.1 := by decide +kernel
theorem tyX1_ok : ∀ k, k < 3 → parseFieldDescriptor (TX1 k).2.2.1 = some (tyX1 k) := by decide +kernel
abbrev cX1_init : ByteArray := prog_3_method_1_code
def yX1_init : MethodName := ⟨RX1, "<init>", "()V"⟩
abbrev cX1_chanceOf : ByteArray := prog_3_method_2_code
def yX1_chanceOf : MethodName := ⟨RX1, "chanceOf", "(ILShoeHouse$CardTable;)D"⟩
abbrev cX1_chanceFrom : ByteArray := prog_3_method_3_code
def yX1_chanceFrom : MethodName := ⟨RX1, "chanceFrom", "(LShoeHouse$DealerOdds;IZII)D"⟩
def RX2 : String := "ShoeHouse$Guest"
def TX2 : u_T := fun k => match k with
  | 0 => ("ShoeHouse$Guest", "prizes", "[I", true)
  | 1 => ("ShoeHouse$Guest", "money", "I", false)
  | 2 => ("ShoeHouse$Guest", "chips", "I", false)
  | 3 => ("ShoeHouse$Guest", "limit", "I", false)
  | 4 => ("ShoeHouse$Guest", "limitTomorrow", "I", false)
  | 5 => ("ShoeHouse$Guest", "staked", "I", false)
  | 6 => ("ShoeHouse$Guest", "barredUntil", "I", false)
  | 7 => ("ShoeHouse$Guest", "brought", "I", false)
  | 8 => ("ShoeHouse$Guest", "reports", "I", false)
  | 9 => ("ShoeHouse$Guest", "highBets", "I", false)
  | 10 => ("ShoeHouse$Guest", "highChips", "I", false)
  | 11 => ("ShoeHouse$Guest", "otherBets", "I", false)
  | _ => ("ShoeHouse$Guest", "otherChips", "I", false)
def tyX2 : Nat → FieldType := fun k => match k with
  | 0 => .array .int
  | 1 => .int
  | 2 => .int
  | 3 => .int
  | 4 => .int
  | 5 => .int
  | 6 => .int
  | 7 => .int
  | 8 => .int
  | 9 => .int
  | 10 => .int
  | 11 => .int
  | _ => .int
theorem nmX2 : ∀ a, a < 13 → ∀ b, b < 13 → a ≠ b → (TX2 a).2.1 ≠ (TX2 b).2.1 := by decide +kernel
theorem tyX2_ok : ∀ k, k < 13 → parseFieldDescriptor (TX2 k).2.2.1 = some (tyX2 k) := by decide +kernel
abbrev cX2_init : ByteArray := prog_4_method_1_code
def yX2_init : MethodName := ⟨RX2, "<init>", "()V"⟩
abbrev cX2_isBarredOn : ByteArray := prog_4_method_2_code
def yX2_isBarredOn : MethodName := ⟨RX2, "isBarredOn", "(I)Z"⟩
abbrev cX2_mayStake : ByteArray := prog_4_method_3_code
def yX2_mayStake : MethodName := ⟨RX2, "mayStake", "(II)Z"⟩
abbrev cX2_putStake : ByteArray := prog_4_method_4_code
def yX2_putStake : MethodName := ⟨RX2, "putStake", "(I)V"⟩
abbrev cX2_bringMoney : ByteArray := prog_4_method_5_code
def yX2_bringMoney : MethodName := ⟨RX2, "bringMoney", "(I)V"⟩
abbrev cX2_tellLimit : ByteArray := prog_4_method_6_code
def yX2_tellLimit : MethodName := ⟨RX2, "tellLimit", "(I)V"⟩
abbrev cX2_beginDay : ByteArray := prog_4_method_7_code
def yX2_beginDay : MethodName := ⟨RX2, "beginDay", "()V"⟩
abbrev cX2_noteBet : ByteArray := prog_4_method_8_code
def yX2_noteBet : MethodName := ⟨RX2, "noteBet", "(IZ)V"⟩
abbrev cX2_isBettingByCount : ByteArray := prog_4_method_9_code
def yX2_isBettingByCount : MethodName := ⟨RX2, "isBettingByCount", "()Z"⟩
abbrev cX2_addPrize : ByteArray := prog_4_method_10_code
def yX2_addPrize : MethodName := ⟨RX2, "addPrize", "(II)V"⟩
abbrev cX2_dropPrizesOf : ByteArray := prog_4_method_11_code
def yX2_dropPrizesOf : MethodName := ⟨RX2, "dropPrizesOf", "(I)I"⟩
abbrev cX2_allPrizes : ByteArray := prog_4_method_12_code
def yX2_allPrizes : MethodName := ⟨RX2, "allPrizes", "()I"⟩
abbrev cX2_dropAllPrizes : ByteArray := prog_4_method_13_code
def yX2_dropAllPrizes : MethodName := ⟨RX2, "dropAllPrizes", "()V"⟩
def RX3 : String := "ShoeHouse$Hand"
def TX3 : u_T := fun k => match k with
  | 0 => ("ShoeHouse$Hand", "cards", "[I", true)
  | 1 => ("ShoeHouse$Hand", "size", "I", false)
  | 2 => ("ShoeHouse$Hand", "sum", "I", false)
  | 3 => ("ShoeHouse$Hand", "hasAce", "Z", false)
  | 4 => ("ShoeHouse$Hand", "stake", "I", false)
  | 5 => ("ShoeHouse$Hand", "isPlaying", "Z", false)
  | _ => ("ShoeHouse$Hand", "isSettled", "Z", false)
def tyX3 : Nat → FieldType := fun k => match k with
  | 0 => .array .int
  | 1 => .int
  | 2 => .int
  | 3 => .boolean
  | 4 => .int
  | 5 => .boolean
  | _ => .boolean
theorem nmX3 : ∀ a, a < 7 → ∀ b, b < 7 → a ≠ b → (TX3 a).2.1 ≠ (TX3 b).2.1 := by decide +kernel
theorem tyX3_ok : ∀ k, k < 7 → parseFieldDescriptor (TX3 k).2.2.1 = some (tyX3 k) := by decide +kernel
abbrev cX3_init : ByteArray := prog_5_method_1_code
def yX3_init : MethodName := ⟨RX3, "<init>", "()V"⟩
abbrev cX3_add : ByteArray := prog_5_method_2_code
def yX3_add : MethodName := ⟨RX3, "add", "(I)V"⟩
abbrev cX3_forgetCards : ByteArray := prog_5_method_3_code
def yX3_forgetCards : MethodName := ⟨RX3, "forgetCards", "()V"⟩
abbrev cX3_rankAt : ByteArray := prog_5_method_4_code
def yX3_rankAt : MethodName := ⟨RX3, "rankAt", "(I)I"⟩
abbrev cX3_value : ByteArray := prog_5_method_5_code
def yX3_value : MethodName := ⟨RX3, "value", "()I"⟩
abbrev cX3_isSoft : ByteArray := prog_5_method_6_code
def yX3_isSoft : MethodName := ⟨RX3, "isSoft", "()Z"⟩
abbrev cX3_isPair : ByteArray := prog_5_method_7_code
def yX3_isPair : MethodName := ⟨RX3, "isPair", "()Z"⟩
abbrev cX3_isNatural : ByteArray := prog_5_method_8_code
def yX3_isNatural : MethodName := ⟨RX3, "isNatural", "()Z"⟩
abbrev cX3_settle : ByteArray := prog_5_method_9_code
def yX3_settle : MethodName := ⟨RX3, "settle", "()I"⟩
abbrev cX3_takeBack : ByteArray := prog_5_method_10_code
def yX3_takeBack : MethodName := ⟨RX3, "takeBack", "(Z)I"⟩
def RX4 : String := "ShoeHouse$Lottery"
def TX4 : u_T := fun k => match k with
  | 0 => ("ShoeHouse$Lottery", "buyers", "[LShoeHouse$Guest;", true)
  | 1 => ("ShoeHouse$Lottery", "sets", "[I", true)
  | 2 => ("ShoeHouse$Lottery", "sold", "I", false)
  | 3 => ("ShoeHouse$Lottery", "drawn", "I", false)
  | _ => ("ShoeHouse$Lottery", "pool", "I", false)
def tyX4 : Nat → FieldType := fun k => match k with
  | 0 => .array (.object "ShoeHouse$Guest")
  | 1 => .array .int
  | 2 => .int
  | 3 => .int
  | _ => .int
theorem nmX4 : ∀ a, a < 5 → ∀ b, b < 5 → a ≠ b → (TX4 a).2.1 ≠ (TX4 b).2.1 := by decide +kernel
theorem tyX4_ok : ∀ k, k < 5 → parseFieldDescriptor (TX4 k).2.2.1 = some (tyX4 k) := by decide +kernel
abbrev cX4_init : ByteArray := prog_6_method_1_code
def yX4_init : MethodName := ⟨RX4, "<init>", "()V"⟩
abbrev cX4_setOf : ByteArray := prog_6_method_2_code
def yX4_setOf : MethodName := ⟨RX4, "setOf", "(I)I"⟩
abbrev cX4_isSoldOut : ByteArray := prog_6_method_3_code
def yX4_isSoldOut : MethodName := ⟨RX4, "isSoldOut", "()Z"⟩
abbrev cX4_isDrawn : ByteArray := prog_6_method_4_code
def yX4_isDrawn : MethodName := ⟨RX4, "isDrawn", "()Z"⟩
abbrev cX4_sell : ByteArray := prog_6_method_5_code
def yX4_sell : MethodName := ⟨RX4, "sell", "(LShoeHouse$Guest;I)V"⟩
abbrev cX4_rightNumbers : ByteArray := prog_6_method_6_code
def yX4_rightNumbers : MethodName := ⟨RX4, "rightNumbers", "(I)I"⟩
abbrev cX4_ticketsWithRight : ByteArray := prog_6_method_7_code
def yX4_ticketsWithRight : MethodName := ⟨RX4, "ticketsWithRight", "(I)I"⟩
abbrev cX4_giveOut : ByteArray := prog_6_method_8_code
def yX4_giveOut : MethodName := ⟨RX4, "giveOut", "(I)I"⟩
abbrev cX4_giveTier : ByteArray := prog_6_method_9_code
def yX4_giveTier : MethodName := ⟨RX4, "giveTier", "(III)I"⟩
abbrev cX4_takeAway : ByteArray := prog_6_method_10_code
def yX4_takeAway : MethodName := ⟨RX4, "takeAway", "(LShoeHouse$Guest;)V"⟩
def RX5 : String := "ShoeHouse$Machine"
def TX5 : u_T := fun k => match k with
  | 0 => ("ShoeHouse$Machine", "tray", "LShoeHouse$Tray;", true)
  | 1 => ("ShoeHouse$Machine", "symbols", "[I", true)
  | 2 => ("ShoeHouse$Machine", "times", "[I", true)
  | 3 => ("ShoeHouse$Machine", "pot", "I", false)
  | 4 => ("ShoeHouse$Machine", "bound", "I", false)
  | 5 => ("ShoeHouse$Machine", "player", "LShoeHouse$Guest;", false)
  | 6 => ("ShoeHouse$Machine", "stake", "I", false)
  | 7 => ("ShoeHouse$Machine", "isTilted", "Z", false)
  | _ => ("ShoeHouse$Machine", "hasPot", "Z", false)
def tyX5 : Nat → FieldType := fun k => match k with
  | 0 => .object "ShoeHouse$Tray"
  | 1 => .array .int
  | 2 => .array .int
  | 3 => .int
  | 4 => .int
  | 5 => .object "ShoeHouse$Guest"
  | 6 => .int
  | 7 => .boolean
  | _ => .boolean
theorem nmX5 : ∀ a, a < 9 → ∀ b, b < 9 → a ≠ b → (TX5 a).2.1 ≠ (TX5 b).2.1 := by decide +kernel
theorem tyX5_ok : ∀ k, k < 9 → parseFieldDescriptor (TX5 k).2.2.1 = some (tyX5 k) := by decide +kernel
abbrev cX5_init : ByteArray := prog_7_method_1_code
def yX5_init : MethodName := ⟨RX5, "<init>", "(LShoeHouse$Tray;)V"⟩
abbrev cX5_areSymbols : ByteArray := prog_7_method_2_code
def yX5_areSymbols : MethodName := ⟨RX5, "areSymbols", "(I)Z"⟩
abbrev cX5_areStops : ByteArray := prog_7_method_3_code
def yX5_areStops : MethodName := ⟨RX5, "areStops", "(I)Z"⟩
abbrev cX5_areDigits : ByteArray := prog_7_method_4_code
def yX5_areDigits : MethodName := ⟨RX5, "areDigits", "(III)Z"⟩
abbrev cX5_isSpinning : ByteArray := prog_7_method_5_code
def yX5_isSpinning : MethodName := ⟨RX5, "isSpinning", "()Z"⟩
abbrev cX5_stakeOf : ByteArray := prog_7_method_6_code
def yX5_stakeOf : MethodName := ⟨RX5, "stakeOf", "(LShoeHouse$Guest;)I"⟩
abbrev cX5_symbolAt : ByteArray := prog_7_method_7_code
def yX5_symbolAt : MethodName := ⟨RX5, "symbolAt", "(II)I"⟩
abbrev cX5_timesOf : ByteArray := prog_7_method_8_code
def yX5_timesOf : MethodName := ⟨RX5, "timesOf", "(I)I"⟩
abbrev cX5_tellSymbols : ByteArray := prog_7_method_9_code
def yX5_tellSymbols : MethodName := ⟨RX5, "tellSymbols", "(II)I"⟩
abbrev cX5_tellTimes : ByteArray := prog_7_method_10_code
def yX5_tellTimes : MethodName := ⟨RX5, "tellTimes", "(II)I"⟩
abbrev cX5_begin : ByteArray := prog_7_method_11_code
def yX5_begin : MethodName := ⟨RX5, "begin", "(LShoeHouse$Guest;I)V"⟩
abbrev cX5_settleAt : ByteArray := prog_7_method_12_code
def yX5_settleAt : MethodName := ⟨RX5, "settleAt", "(I)I"⟩
abbrev cX5_takeAway : ByteArray := prog_7_method_13_code
def yX5_takeAway : MethodName := ⟨RX5, "takeAway", "(LShoeHouse$Guest;)I"⟩
abbrev cX5_paidByAllStops : ByteArray := prog_7_method_14_code
def yX5_paidByAllStops : MethodName := ⟨RX5, "paidByAllStops", "()I"⟩
abbrev cX5_stopsWith : ByteArray := prog_7_method_15_code
def yX5_stopsWith : MethodName := ⟨RX5, "stopsWith", "(II)I"⟩
def RX6 : String := "ShoeHouse$Seat"
def TX6 : u_T := fun k => match k with
  | 0 => ("ShoeHouse$Seat", "first", "LShoeHouse$Hand;", true)
  | 1 => ("ShoeHouse$Seat", "second", "LShoeHouse$Hand;", true)
  | 2 => ("ShoeHouse$Seat", "guest", "LShoeHouse$Guest;", false)
  | _ => ("ShoeHouse$Seat", "isSplit", "Z", false)
def tyX6 : Nat → FieldType := fun k => match k with
  | 0 => .object "ShoeHouse$Hand"
  | 1 => .object "ShoeHouse$Hand"
  | 2 => .object "ShoeHouse$Guest"
  | _ => .boolean
theorem nmX6 : ∀ a, a < 4 → ∀ b, b < 4 → a ≠ b → (TX6 a).2.1 ≠ (TX6 b).2.1 := by decide +kernel
theorem tyX6_ok : ∀ k, k < 4 → parseFieldDescriptor (TX6 k).2.2.1 = some (tyX6 k) := by decide +kernel
abbrev cX6_init : ByteArray := prog_8_method_1_code
def yX6_init : MethodName := ⟨RX6, "<init>", "()V"⟩
abbrev cX6_hasStake : ByteArray := prog_8_method_2_code
def yX6_hasStake : MethodName := ⟨RX6, "hasStake", "()Z"⟩
abbrev cX6_stakes : ByteArray := prog_8_method_3_code
def yX6_stakes : MethodName := ⟨RX6, "stakes", "()I"⟩
abbrev cX6_take : ByteArray := prog_8_method_4_code
def yX6_take : MethodName := ⟨RX6, "take", "(LShoeHouse$Guest;I)V"⟩
abbrev cX6_handAt : ByteArray := prog_8_method_5_code
def yX6_handAt : MethodName := ⟨RX6, "handAt", "(I)LShoeHouse$Hand;"⟩
abbrev cX6_handThatPlays : ByteArray := prog_8_method_6_code
def yX6_handThatPlays : MethodName := ⟨RX6, "handThatPlays", "()LShoeHouse$Hand;"⟩
abbrev cX6_part : ByteArray := prog_8_method_7_code
def yX6_part : MethodName := ⟨RX6, "part", "()V"⟩
abbrev cX6_isNatural : ByteArray := prog_8_method_8_code
def yX6_isNatural : MethodName := ⟨RX6, "isNatural", "()Z"⟩
abbrev cX6_needsDealer : ByteArray := prog_8_method_9_code
def yX6_needsDealer : MethodName := ⟨RX6, "needsDealer", "()Z"⟩
abbrev cX6_forgetCards : ByteArray := prog_8_method_10_code
def yX6_forgetCards : MethodName := ⟨RX6, "forgetCards", "()V"⟩
abbrev cX6_forgetStakes : ByteArray := prog_8_method_11_code
def yX6_forgetStakes : MethodName := ⟨RX6, "forgetStakes", "()V"⟩
abbrev cX6_takeAway : ByteArray := prog_8_method_12_code
def yX6_takeAway : MethodName := ⟨RX6, "takeAway", "(Z)I"⟩
def RX7 : String := "ShoeHouse$Shoe"
def TX7 : u_T := fun k => match k with
  | 0 => ("ShoeHouse$Shoe", "cards", "[I", true)
  | 1 => ("ShoeHouse$Shoe", "mixed", "[I", true)
  | 2 => ("ShoeHouse$Shoe", "seen", "[I", true)
  | 3 => ("ShoeHouse$Shoe", "weights", "[I", true)
  | 4 => ("ShoeHouse$Shoe", "front", "I", false)
  | 5 => ("ShoeHouse$Shoe", "end", "I", false)
  | 6 => ("ShoeHouse$Shoe", "decks", "I", false)
  | _ => ("ShoeHouse$Shoe", "hidden", "I", false)
def tyX7 : Nat → FieldType := fun k => match k with
  | 0 => .array .int
  | 1 => .array .int
  | 2 => .array .int
  | 3 => .array .int
  | 4 => .int
  | 5 => .int
  | 6 => .int
  | _ => .int
theorem nmX7 : ∀ a, a < 8 → ∀ b, b < 8 → a ≠ b → (TX7 a).2.1 ≠ (TX7 b).2.1 := by decide +kernel
theorem tyX7_ok : ∀ k, k < 8 → parseFieldDescriptor (TX7 k).2.2.1 = some (tyX7 k) := by decide +kernel
abbrev cX7_init : ByteArray := prog_9_method_1_code
def yX7_init : MethodName := ⟨RX7, "<init>", "()V"⟩
abbrev cX7_cardsInDeck : ByteArray := prog_9_method_2_code
def yX7_cardsInDeck : MethodName := ⟨RX7, "cardsInDeck", "(I)I"⟩
abbrev cX7_size : ByteArray := prog_9_method_3_code
def yX7_size : MethodName := ⟨RX7, "size", "()I"⟩
abbrev cX7_rankAt : ByteArray := prog_9_method_4_code
def yX7_rankAt : MethodName := ⟨RX7, "rankAt", "(I)I"⟩
abbrev cX7_layDecks : ByteArray := prog_9_method_5_code
def yX7_layDecks : MethodName := ⟨RX7, "layDecks", "(I)V"⟩
abbrev cX7_bringBehind : ByteArray := prog_9_method_6_code
def yX7_bringBehind : MethodName := ⟨RX7, "bringBehind", "(I)V"⟩
abbrev cX7_mixHalves : ByteArray := prog_9_method_7_code
def yX7_mixHalves : MethodName := ⟨RX7, "mixHalves", "(Z)V"⟩
abbrev cX7_layMixed : ByteArray := prog_9_method_8_code
def yX7_layMixed : MethodName := ⟨RX7, "layMixed", "(I)V"⟩
abbrev cX7_takeCard : ByteArray := prog_9_method_9_code
def yX7_takeCard : MethodName := ⟨RX7, "takeCard", "()I"⟩
abbrev cX7_see : ByteArray := prog_9_method_10_code
def yX7_see : MethodName := ⟨RX7, "see", "(I)V"⟩
abbrev cX7_takeSeen : ByteArray := prog_9_method_11_code
def yX7_takeSeen : MethodName := ⟨RX7, "takeSeen", "()I"⟩
abbrev cX7_takeHidden : ByteArray := prog_9_method_12_code
def yX7_takeHidden : MethodName := ⟨RX7, "takeHidden", "()I"⟩
abbrev cX7_showHidden : ByteArray := prog_9_method_13_code
def yX7_showHidden : MethodName := ⟨RX7, "showHidden", "()V"⟩
abbrev cX7_unseenOf : ByteArray := prog_9_method_14_code
def yX7_unseenOf : MethodName := ⟨RX7, "unseenOf", "(I)I"⟩
abbrev cX7_unseenAbove : ByteArray := prog_9_method_15_code
def yX7_unseenAbove : MethodName := ⟨RX7, "unseenAbove", "(I)I"⟩
abbrev cX7_unseen : ByteArray := prog_9_method_16_code
def yX7_unseen : MethodName := ⟨RX7, "unseen", "()I"⟩
abbrev cX7_tellWeight : ByteArray := prog_9_method_17_code
def yX7_tellWeight : MethodName := ⟨RX7, "tellWeight", "(II)I"⟩
abbrev cX7_countSeen : ByteArray := prog_9_method_18_code
def yX7_countSeen : MethodName := ⟨RX7, "countSeen", "()I"⟩
abbrev cX7_countByDeck : ByteArray := prog_9_method_19_code
def yX7_countByDeck : MethodName := ⟨RX7, "countByDeck", "()I"⟩
abbrev cX7_isWhole : ByteArray := prog_9_method_20_code
def yX7_isWhole : MethodName := ⟨RX7, "isWhole", "()Z"⟩
def RX8 : String := "ShoeHouse$Tray"
def TX8 : u_T := fun k => match k with
  | 0 => ("ShoeHouse$Tray", "vault", "LShoeHouse$Vault;", true)
  | 1 => ("ShoeHouse$Tray", "chips", "I", false)
  | 2 => ("ShoeHouse$Tray", "chipsAtBegin", "I", false)
  | 3 => ("ShoeHouse$Tray", "fills", "I", false)
  | _ => ("ShoeHouse$Tray", "credits", "I", false)
def tyX8 : Nat → FieldType := fun k => match k with
  | 0 => .object "ShoeHouse$Vault"
  | 1 => .int
  | 2 => .int
  | 3 => .int
  | _ => .int
theorem nmX8 : ∀ a, a < 5 → ∀ b, b < 5 → a ≠ b → (TX8 a).2.1 ≠ (TX8 b).2.1 := by decide +kernel
theorem tyX8_ok : ∀ k, k < 5 → parseFieldDescriptor (TX8 k).2.2.1 = some (tyX8 k) := by decide +kernel
abbrev cX8_init : ByteArray := prog_10_method_1_code
def yX8_init : MethodName := ⟨RX8, "<init>", "(LShoeHouse$Vault;)V"⟩
abbrev cX8_takeFromVault : ByteArray := prog_10_method_2_code
def yX8_takeFromVault : MethodName := ⟨RX8, "takeFromVault", "(I)V"⟩
abbrev cX8_bringToVault : ByteArray := prog_10_method_3_code
def yX8_bringToVault : MethodName := ⟨RX8, "bringToVault", "(I)V"⟩
abbrev cX8_collect : ByteArray := prog_10_method_4_code
def yX8_collect : MethodName := ⟨RX8, "collect", "(I)V"⟩
abbrev cX8_payOut : ByteArray := prog_10_method_5_code
def yX8_payOut : MethodName := ⟨RX8, "payOut", "(I)V"⟩
abbrev cX8_winOfShift : ByteArray := prog_10_method_6_code
def yX8_winOfShift : MethodName := ⟨RX8, "winOfShift", "()I"⟩
abbrev cX8_beginShift : ByteArray := prog_10_method_7_code
def yX8_beginShift : MethodName := ⟨RX8, "beginShift", "()V"⟩
def RX9 : String := "ShoeHouse$Vault"
def TX9 : u_T := fun k => match k with
  | _ => ("ShoeHouse$Vault", "chips", "I", false)
def tyX9 : Nat → FieldType := fun k => match k with
  | _ => .int
theorem nmX9 : ∀ a, a < 1 → ∀ b, b < 1 → a ≠ b → (TX9 a).2.1 ≠ (TX9 b).2.1 := by decide +kernel
theorem tyX9_ok : ∀ k, k < 1 → parseFieldDescriptor (TX9 k).2.2.1 = some (tyX9 k) := by decide +kernel
abbrev cX9_init : ByteArray := prog_11_method_1_code
def yX9_init : MethodName := ⟨RX9, "<init>", "()V"⟩
def RX10 : String := "ShoeHouse$Wheel"
def TX10 : u_T := fun k => match k with
  | 0 => ("ShoeHouse$Wheel", "tray", "LShoeHouse$Tray;", true)
  | 1 => ("ShoeHouse$Wheel", "players", "[LShoeHouse$Guest;", true)
  | 2 => ("ShoeHouse$Wheel", "kinds", "[C", true)
  | 3 => ("ShoeHouse$Wheel", "numbers", "[I", true)
  | 4 => ("ShoeHouse$Wheel", "stakes", "[I", true)
  | _ => ("ShoeHouse$Wheel", "size", "I", false)
def tyX10 : Nat → FieldType := fun k => match k with
  | 0 => .object "ShoeHouse$Tray"
  | 1 => .array (.object "ShoeHouse$Guest")
  | 2 => .array .char
  | 3 => .array .int
  | 4 => .array .int
  | _ => .int
theorem nmX10 : ∀ a, a < 6 → ∀ b, b < 6 → a ≠ b → (TX10 a).2.1 ≠ (TX10 b).2.1 := by decide +kernel
theorem tyX10_ok : ∀ k, k < 6 → parseFieldDescriptor (TX10 k).2.2.1 = some (tyX10 k) := by decide +kernel
abbrev cX10_init : ByteArray := prog_12_method_1_code
def yX10_init : MethodName := ⟨RX10, "<init>", "(LShoeHouse$Tray;)V"⟩
abbrev cX10_isWager : ByteArray := prog_12_method_2_code
def yX10_isWager : MethodName := ⟨RX10, "isWager", "(CI)Z"⟩
abbrev cX10_isRed : ByteArray := prog_12_method_3_code
def yX10_isRed : MethodName := ⟨RX10, "isRed", "(I)Z"⟩
abbrev cX10_timesPaid : ByteArray := prog_12_method_4_code
def yX10_timesPaid : MethodName := ⟨RX10, "timesPaid", "(CII)I"⟩
abbrev cX10_isFull : ByteArray := prog_12_method_5_code
def yX10_isFull : MethodName := ⟨RX10, "isFull", "()Z"⟩
abbrev cX10_add : ByteArray := prog_12_method_6_code
def yX10_add : MethodName := ⟨RX10, "add", "(LShoeHouse$Guest;CII)V"⟩
abbrev cX10_settleAll : ByteArray := prog_12_method_7_code
def yX10_settleAll : MethodName := ⟨RX10, "settleAll", "(I)I"⟩
abbrev cX10_stakesOf : ByteArray := prog_12_method_8_code
def yX10_stakesOf : MethodName := ⟨RX10, "stakesOf", "(LShoeHouse$Guest;)I"⟩
abbrev cX10_takeAway : ByteArray := prog_12_method_9_code
def yX10_takeAway : MethodName := ⟨RX10, "takeAway", "(LShoeHouse$Guest;)I"⟩
def RX11 : String := "ShoeHouse"
def TX11 : u_T := fun k => match k with
  | 0 => ("ShoeHouse", "guests", "[LShoeHouse$Guest;", true)
  | 1 => ("ShoeHouse", "trays", "[LShoeHouse$Tray;", true)
  | 2 => ("ShoeHouse", "vault", "LShoeHouse$Vault;", true)
  | 3 => ("ShoeHouse", "shoe", "LShoeHouse$Shoe;", true)
  | 4 => ("ShoeHouse", "table", "LShoeHouse$CardTable;", true)
  | 5 => ("ShoeHouse", "odds", "LShoeHouse$DealerOdds;", true)
  | 6 => ("ShoeHouse", "wheel", "LShoeHouse$Wheel;", true)
  | 7 => ("ShoeHouse", "machine", "LShoeHouse$Machine;", true)
  | 8 => ("ShoeHouse", "lottery", "LShoeHouse$Lottery;", true)
  | 9 => ("ShoeHouse", "guestCount", "I", false)
  | _ => ("ShoeHouse", "today", "I", false)
def tyX11 : Nat → FieldType := fun k => match k with
  | 0 => .array (.object "ShoeHouse$Guest")
  | 1 => .array (.object "ShoeHouse$Tray")
  | 2 => .object "ShoeHouse$Vault"
  | 3 => .object "ShoeHouse$Shoe"
  | 4 => .object "ShoeHouse$CardTable"
  | 5 => .object "ShoeHouse$DealerOdds"
  | 6 => .object "ShoeHouse$Wheel"
  | 7 => .object "ShoeHouse$Machine"
  | 8 => .object "ShoeHouse$Lottery"
  | 9 => .int
  | _ => .int
theorem nmX11 : ∀ a, a < 11 → ∀ b, b < 11 → a ≠ b → (TX11 a).2.1 ≠ (TX11 b).2.1 := by decide +kernel
theorem tyX11_ok : ∀ k, k < 11 → parseFieldDescriptor (TX11 k).2.2.1 = some (tyX11 k) := by decide +kernel
abbrev cX11_init : ByteArray := prog_1_method_1_code
def yX11_init : MethodName := ⟨RX11, "<init>", "()V"⟩
abbrev cX11_guest : ByteArray := prog_1_method_2_code
def yX11_guest : MethodName := ⟨RX11, "guest", "(I)I"⟩
abbrev cX11_buyIn : ByteArray := prog_1_method_3_code
def yX11_buyIn : MethodName := ⟨RX11, "buyIn", "(II)I"⟩
abbrev cX11_cashOut : ByteArray := prog_1_method_4_code
def yX11_cashOut : MethodName := ⟨RX11, "cashOut", "(II)I"⟩
abbrev cX11_limit : ByteArray := prog_1_method_5_code
def yX11_limit : MethodName := ⟨RX11, "limit", "(II)I"⟩
abbrev cX11_bar : ByteArray := prog_1_method_6_code
def yX11_bar : MethodName := ⟨RX11, "bar", "(II)I"⟩
abbrev cX11_pass : ByteArray := prog_1_method_7_code
def yX11_pass : MethodName := ⟨RX11, "pass", "(I)I"⟩
abbrev cX11_fill : ByteArray := prog_1_method_8_code
def yX11_fill : MethodName := ⟨RX11, "fill", "(II)I"⟩
abbrev cX11_credit : ByteArray := prog_1_method_9_code
def yX11_credit : MethodName := ⟨RX11, "credit", "(II)I"⟩
abbrev cX11_shift : ByteArray := prog_1_method_10_code
def yX11_shift : MethodName := ⟨RX11, "shift", "()I"⟩
abbrev cX11_win : ByteArray := prog_1_method_11_code
def yX11_win : MethodName := ⟨RX11, "win", "(I)I"⟩
abbrev cX11_rule : ByteArray := prog_1_method_12_code
def yX11_rule : MethodName := ⟨RX11, "rule", "(CZ)Z"⟩
abbrev cX11_lay : ByteArray := prog_1_method_13_code
def yX11_lay : MethodName := ⟨RX11, "lay", "(I)I"⟩
abbrev cX11_cut : ByteArray := prog_1_method_14_code
def yX11_cut : MethodName := ⟨RX11, "cut", "(I)I"⟩
abbrev cX11_riffle : ByteArray := prog_1_method_15_code
def yX11_riffle : MethodName := ⟨RX11, "riffle", "(Z)I"⟩
abbrev cX11_bet : ByteArray := prog_1_method_16_code
def yX11_bet : MethodName := ⟨RX11, "bet", "(III)I"⟩
abbrev cX11_deal : ByteArray := prog_1_method_17_code
def yX11_deal : MethodName := ⟨RX11, "deal", "()I"⟩
abbrev cX11_hit : ByteArray := prog_1_method_18_code
def yX11_hit : MethodName := ⟨RX11, "hit", "(I)I"⟩
abbrev cX11_stand : ByteArray := prog_1_method_19_code
def yX11_stand : MethodName := ⟨RX11, "stand", "(I)I"⟩
abbrev cX11_twice : ByteArray := prog_1_method_20_code
def yX11_twice : MethodName := ⟨RX11, "twice", "(I)I"⟩
abbrev cX11_split : ByteArray := prog_1_method_21_code
def yX11_split : MethodName := ⟨RX11, "split", "(I)I"⟩
abbrev cX11_surrender : ByteArray := prog_1_method_22_code
def yX11_surrender : MethodName := ⟨RX11, "surrender", "(I)I"⟩
abbrev cX11_cardAt : ByteArray := prog_1_method_23_code
def yX11_cardAt : MethodName := ⟨RX11, "cardAt", "(III)I"⟩
abbrev cX11_dealerAt : ByteArray := prog_1_method_24_code
def yX11_dealerAt : MethodName := ⟨RX11, "dealerAt", "(I)I"⟩
abbrev cX11_turn : ByteArray := prog_1_method_25_code
def yX11_turn : MethodName := ⟨RX11, "turn", "()I"⟩
abbrev cX11_left : ByteArray := prog_1_method_26_code
def yX11_left : MethodName := ⟨RX11, "left", "(I)I"⟩
abbrev cX11_bustOver : ByteArray := prog_1_method_27_code
def yX11_bustOver : MethodName := ⟨RX11, "bustOver", "(I)J"⟩
abbrev cX11_bustUnder : ByteArray := prog_1_method_28_code
def yX11_bustUnder : MethodName := ⟨RX11, "bustUnder", "(I)J"⟩
abbrev cX11_dealerEnds : ByteArray := prog_1_method_29_code
def yX11_dealerEnds : MethodName := ⟨RX11, "dealerEnds", "(I)D"⟩
abbrev cX11_weigh : ByteArray := prog_1_method_30_code
def yX11_weigh : MethodName := ⟨RX11, "weigh", "(II)I"⟩
abbrev cX11_count : ByteArray := prog_1_method_31_code
def yX11_count : MethodName := ⟨RX11, "count", "()I"⟩
abbrev cX11_trueCount : ByteArray := prog_1_method_32_code
def yX11_trueCount : MethodName := ⟨RX11, "trueCount", "()I"⟩
abbrev cX11_isSuspected : ByteArray := prog_1_method_33_code
def yX11_isSuspected : MethodName := ⟨RX11, "isSuspected", "(I)Z"⟩
abbrev cX11_broken : ByteArray := prog_1_method_34_code
def yX11_broken : MethodName := ⟨RX11, "broken", "()I"⟩
abbrev cX11_wager : ByteArray := prog_1_method_35_code
def yX11_wager : MethodName := ⟨RX11, "wager", "(ICII)I"⟩
abbrev cX11_spin : ByteArray := prog_1_method_36_code
def yX11_spin : MethodName := ⟨RX11, "spin", "(I)I"⟩
abbrev cX11_stops : ByteArray := prog_1_method_37_code
def yX11_stops : MethodName := ⟨RX11, "stops", "(II)I"⟩
abbrev cX11_pays : ByteArray := prog_1_method_38_code
def yX11_pays : MethodName := ⟨RX11, "pays", "(II)I"⟩
abbrev cX11_bound : ByteArray := prog_1_method_39_code
def yX11_bound : MethodName := ⟨RX11, "bound", "(I)I"⟩
abbrev cX11_pull : ByteArray := prog_1_method_40_code
def yX11_pull : MethodName := ⟨RX11, "pull", "(II)I"⟩
abbrev cX11_stop : ByteArray := prog_1_method_41_code
def yX11_stop : MethodName := ⟨RX11, "stop", "(I)I"⟩
abbrev cX11_tilt : ByteArray := prog_1_method_42_code
def yX11_tilt : MethodName := ⟨RX11, "tilt", "()I"⟩
abbrev cX11_recover : ByteArray := prog_1_method_43_code
def yX11_recover : MethodName := ⟨RX11, "recover", "()I"⟩
abbrev cX11_pot : ByteArray := prog_1_method_44_code
def yX11_pot : MethodName := ⟨RX11, "pot", "()I"⟩
abbrev cX11_returnOver : ByteArray := prog_1_method_45_code
def yX11_returnOver : MethodName := ⟨RX11, "returnOver", "()J"⟩
abbrev cX11_returnUnder : ByteArray := prog_1_method_46_code
def yX11_returnUnder : MethodName := ⟨RX11, "returnUnder", "()J"⟩
abbrev cX11_ticket : ByteArray := prog_1_method_47_code
def yX11_ticket : MethodName := ⟨RX11, "ticket", "(II)I"⟩
abbrev cX11_draw : ByteArray := prog_1_method_48_code
def yX11_draw : MethodName := ⟨RX11, "draw", "(I)I"⟩
abbrev cX11_confirm : ByteArray := prog_1_method_49_code
def yX11_confirm : MethodName := ⟨RX11, "confirm", "()I"⟩
abbrev cX11_claim : ByteArray := prog_1_method_50_code
def yX11_claim : MethodName := ⟨RX11, "claim", "(I)I"⟩
abbrev cX11_pool : ByteArray := prog_1_method_51_code
def yX11_pool : MethodName := ⟨RX11, "pool", "()I"⟩
abbrev cX11_day : ByteArray := prog_1_method_52_code
def yX11_day : MethodName := ⟨RX11, "day", "()I"⟩
abbrev cX11_money : ByteArray := prog_1_method_53_code
def yX11_money : MethodName := ⟨RX11, "money", "(I)I"⟩
abbrev cX11_chips : ByteArray := prog_1_method_54_code
def yX11_chips : MethodName := ⟨RX11, "chips", "(I)I"⟩
abbrev cX11_isBarred : ByteArray := prog_1_method_55_code
def yX11_isBarred : MethodName := ⟨RX11, "isBarred", "(I)Z"⟩
abbrev cX11_staked : ByteArray := prog_1_method_56_code
def yX11_staked : MethodName := ⟨RX11, "staked", "(I)I"⟩
abbrev cX11_reports : ByteArray := prog_1_method_57_code
def yX11_reports : MethodName := ⟨RX11, "reports", "(I)I"⟩
abbrev cX11_tray : ByteArray := prog_1_method_58_code
def yX11_tray : MethodName := ⟨RX11, "tray", "(I)I"⟩
abbrev cX11_vault : ByteArray := prog_1_method_59_code
def yX11_vault : MethodName := ⟨RX11, "vault", "()I"⟩
abbrev cX11_ruinOver : ByteArray := prog_1_method_60_code
def yX11_ruinOver : MethodName := ⟨RX11, "ruinOver", "(II)J"⟩
abbrev cX11_ruinUnder : ByteArray := prog_1_method_61_code
def yX11_ruinUnder : MethodName := ⟨RX11, "ruinUnder", "(II)J"⟩
abbrev cX11_checksum : ByteArray := prog_1_method_62_code
def yX11_checksum : MethodName := ⟨RX11, "checksum", "()J"⟩
abbrev cX11_vaultBits : ByteArray := prog_1_method_63_code
def yX11_vaultBits : MethodName := ⟨RX11, "vaultBits", "()I"⟩
abbrev cX11_barredShare : ByteArray := prog_1_method_64_code
def yX11_barredShare : MethodName := ⟨RX11, "barredShare", "()F"⟩
abbrev cX11_meanChips : ByteArray := prog_1_method_65_code
def yX11_meanChips : MethodName := ⟨RX11, "meanChips", "()D"⟩
abbrev cX11_isSound : ByteArray := prog_1_method_66_code
def yX11_isSound : MethodName := ⟨RX11, "isSound", "()Z"⟩
abbrev cX11_guestAt : ByteArray := prog_1_method_67_code
def yX11_guestAt : MethodName := ⟨RX11, "guestAt", "(I)LShoeHouse$Guest;"⟩
abbrev cX11_trayAt : ByteArray := prog_1_method_68_code
def yX11_trayAt : MethodName := ⟨RX11, "trayAt", "(I)LShoeHouse$Tray;"⟩
abbrev cX11_seatAt : ByteArray := prog_1_method_69_code
def yX11_seatAt : MethodName := ⟨RX11, "seatAt", "(I)LShoeHouse$Seat;"⟩
abbrev cX11_handInTurn : ByteArray := prog_1_method_70_code
def yX11_handInTurn : MethodName := ⟨RX11, "handInTurn", "(I)LShoeHouse$Hand;"⟩
abbrev cX11_playerAt : ByteArray := prog_1_method_71_code
def yX11_playerAt : MethodName := ⟨RX11, "playerAt", "(LShoeHouse$Seat;I)LShoeHouse$Guest;"⟩
abbrev cX11_needStake : ByteArray := prog_1_method_72_code
def yX11_needStake : MethodName := ⟨RX11, "needStake", "(LShoeHouse$Guest;I)V"⟩
abbrev cX11_needCards : ByteArray := prog_1_method_73_code
def yX11_needCards : MethodName := ⟨RX11, "needCards", "(I)V"⟩
abbrev cX11_needUnseen : ByteArray := prog_1_method_74_code
def yX11_needUnseen : MethodName := ⟨RX11, "needUnseen", "()V"⟩
abbrev cX11_needRound : ByteArray := prog_1_method_75_code
def yX11_needRound : MethodName := ⟨RX11, "needRound", "()V"⟩
abbrev cX11_needNoRound : ByteArray := prog_1_method_76_code
def yX11_needNoRound : MethodName := ⟨RX11, "needNoRound", "()V"⟩
abbrev cX11_needSpin : ByteArray := prog_1_method_77_code
def yX11_needSpin : MethodName := ⟨RX11, "needSpin", "()V"⟩
abbrev cX11_needNoSpin : ByteArray := prog_1_method_78_code
def yX11_needNoSpin : MethodName := ⟨RX11, "needNoSpin", "()V"⟩
abbrev cX11_needGuests : ByteArray := prog_1_method_79_code
def yX11_needGuests : MethodName := ⟨RX11, "needGuests", "()V"⟩
abbrev cX11_needThreeNumbers : ByteArray := prog_1_method_80_code
def yX11_needThreeNumbers : MethodName := ⟨RX11, "needThreeNumbers", "(I)V"⟩
abbrev cX11_needRuin : ByteArray := prog_1_method_81_code
def yX11_needRuin : MethodName := ⟨RX11, "needRuin", "(II)V"⟩
abbrev cX11_needRange : ByteArray := prog_1_method_82_code
def yX11_needRange : MethodName := ⟨RX11, "needRange", "(III)V"⟩
abbrev cX11_chipsOfGuests : ByteArray := prog_1_method_83_code
def yX11_chipsOfGuests : MethodName := ⟨RX11, "chipsOfGuests", "()I"⟩
abbrev cX11_areAllChipsHere : ByteArray := prog_1_method_84_code
def yX11_areAllChipsHere : MethodName := ⟨RX11, "areAllChipsHere", "()Z"⟩
abbrev cX11_stakesOf : ByteArray := prog_1_method_85_code
def yX11_stakesOf : MethodName := ⟨RX11, "stakesOf", "(LShoeHouse$Guest;)I"⟩
abbrev cX11_isNothingOfBarred : ByteArray := prog_1_method_86_code
def yX11_isNothingOfBarred : MethodName := ⟨RX11, "isNothingOfBarred", "()Z"⟩
abbrev cX11_areChancesSound : ByteArray := prog_1_method_87_code
def yX11_areChancesSound : MethodName := ⟨RX11, "areChancesSound", "()Z"⟩
abbrev cX11_lowestOver : ByteArray := prog_1_method_88_code
def yX11_lowestOver : MethodName := ⟨RX11, "lowestOver", "(JJ)J"⟩
abbrev cX11_lowestUnder : ByteArray := prog_1_method_89_code
def yX11_lowestUnder : MethodName := ⟨RX11, "lowestUnder", "(JJ)J"⟩
abbrev cX11_sharedDivisor : ByteArray := prog_1_method_90_code
def yX11_sharedDivisor : MethodName := ⟨RX11, "sharedDivisor", "(JJ)J"⟩
abbrev cX11_power : ByteArray := prog_1_method_91_code
def yX11_power : MethodName := ⟨RX11, "power", "(II)J"⟩
abbrev cX11_ruinPart : ByteArray := prog_1_method_92_code
def yX11_ruinPart : MethodName := ⟨RX11, "ruinPart", "(II)J"⟩
abbrev cX11_bitsOf : ByteArray := prog_1_method_93_code
def yX11_bitsOf : MethodName := ⟨RX11, "bitsOf", "(F)I"⟩
def RX12 : String := "ShoeHouseModel"
def TX12 : u_T := fun k => match k with
  | 0 => ("ShoeHouseModel", "money", "[I", true)
  | 1 => ("ShoeHouseModel", "chips", "[I", true)
  | 2 => ("ShoeHouseModel", "staked", "[I", true)
  | 3 => ("ShoeHouseModel", "brought", "[I", true)
  | 4 => ("ShoeHouseModel", "reports", "[I", true)
  | 5 => ("ShoeHouseModel", "limits", "[I", true)
  | 6 => ("ShoeHouseModel", "waiting", "[I", true)
  | 7 => ("ShoeHouseModel", "barred", "[I", true)
  | 8 => ("ShoeHouseModel", "betSums", "[[I", true)
  | 9 => ("ShoeHouseModel", "betMany", "[[I", true)
  | 10 => ("ShoeHouseModel", "trays", "[I", true)
  | 11 => ("ShoeHouseModel", "begun", "[I", true)
  | 12 => ("ShoeHouseModel", "fills", "[I", true)
  | 13 => ("ShoeHouseModel", "rules", "[Z", true)
  | 14 => ("ShoeHouseModel", "shoe", "[I", true)
  | 15 => ("ShoeHouseModel", "aside", "[I", true)
  | 16 => ("ShoeHouseModel", "lefts", "[I", true)
  | 17 => ("ShoeHouseModel", "weights", "[I", true)
  | 18 => ("ShoeHouseModel", "seatGuests", "[I", true)
  | 19 => ("ShoeHouseModel", "bets", "[I", true)
  | 20 => ("ShoeHouseModel", "handMany", "[I", true)
  | 21 => ("ShoeHouseModel", "hands", "[[[I", true)
  | 22 => ("ShoeHouseModel", "cardMany", "[[I", true)
  | 23 => ("ShoeHouseModel", "stakes", "[[I", true)
  | 24 => ("ShoeHouseModel", "states", "[[I", true)
  | 25 => ("ShoeHouseModel", "dealer", "[I", true)
  | 26 => ("ShoeHouseModel", "wagers", "[[I", true)
  | 27 => ("ShoeHouseModel", "symbols", "[[I", true)
  | 28 => ("ShoeHouseModel", "pays", "[I", true)
  | 29 => ("ShoeHouseModel", "tickets", "[[I", true)
  | 30 => ("ShoeHouseModel", "prizes", "[[I", true)
  | 31 => ("ShoeHouseModel", "guests", "I", false)
  | 32 => ("ShoeHouseModel", "vault", "I", false)
  | 33 => ("ShoeHouseModel", "day", "I", false)
  | 34 => ("ShoeHouseModel", "decks", "I", false)
  | 35 => ("ShoeHouseModel", "cards", "I", false)
  | 36 => ("ShoeHouseModel", "dealerMany", "I", false)
  | 37 => ("ShoeHouseModel", "isRound", "Z", false)
  | 38 => ("ShoeHouseModel", "broken", "I", false)
  | 39 => ("ShoeHouseModel", "wagerMany", "I", false)
  | 40 => ("ShoeHouseModel", "bound", "I", false)
  | 41 => ("ShoeHouseModel", "pot", "I", false)
  | 42 => ("ShoeHouseModel", "spinner", "I", false)
  | 43 => ("ShoeHouseModel", "spinStake", "I", false)
  | 44 => ("ShoeHouseModel", "isTilted", "Z", false)
  | 45 => ("ShoeHouseModel", "hasPot", "Z", false)
  | 46 => ("ShoeHouseModel", "ticketMany", "I", false)
  | 47 => ("ShoeHouseModel", "drawn", "I", false)
  | 48 => ("ShoeHouseModel", "pool", "I", false)
  | _ => ("ShoeHouseModel", "thrown", "I", false)
def tyX12 : Nat → FieldType := fun k => match k with
  | 0 => .array .int
  | 1 => .array .int
  | 2 => .array .int
  | 3 => .array .int
  | 4 => .array .int
  | 5 => .array .int
  | 6 => .array .int
  | 7 => .array .int
  | 8 => .array (.array .int)
  | 9 => .array (.array .int)
  | 10 => .array .int
  | 11 => .array .int
  | 12 => .array .int
  | 13 => .array .boolean
  | 14 => .array .int
  | 15 => .array .int
  | 16 => .array .int
  | 17 => .array .int
  | 18 => .array .int
  | 19 => .array .int
  | 20 => .array .int
  | 21 => .array (.array (.array .int))
  | 22 => .array (.array .int)
  | 23 => .array (.array .int)
  | 24 => .array (.array .int)
  | 25 => .array .int
  | 26 => .array (.array .int)
  | 27 => .array (.array .int)
  | 28 => .array .int
  | 29 => .array (.array .int)
  | 30 => .array (.array .int)
  | 31 => .int
  | 32 => .int
  | 33 => .int
  | 34 => .int
  | 35 => .int
  | 36 => .int
  | 37 => .boolean
  | 38 => .int
  | 39 => .int
  | 40 => .int
  | 41 => .int
  | 42 => .int
  | 43 => .int
  | 44 => .boolean
  | 45 => .boolean
  | 46 => .int
  | 47 => .int
  | 48 => .int
  | _ => .int
theorem nmX12 : ∀ a, a < 50 → ∀ b, b < 50 → a ≠ b → (TX12 a).2.1 ≠ (TX12 b).2.1 := by decide +kernel
theorem tyX12_ok : ∀ k, k < 50 → parseFieldDescriptor (TX12 k).2.2.1 = some (tyX12 k) := by decide +kernel
abbrev cX12_init : ByteArray := prog_14_method_1_code
def yX12_init : MethodName := ⟨RX12, "<init>", "()V"⟩
abbrev cX12_thrown : ByteArray := prog_14_method_2_code
def yX12_thrown : MethodName := ⟨RX12, "thrown", "()I"⟩
abbrev cX12_isThrown : ByteArray := prog_14_method_3_code
def yX12_isThrown : MethodName := ⟨RX12, "isThrown", "(ZI)Z"⟩
abbrev cX12_isIn : ByteArray := prog_14_method_4_code
def yX12_isIn : MethodName := ⟨RX12, "isIn", "(III)Z"⟩
abbrev cX12_isNobody : ByteArray := prog_14_method_5_code
def yX12_isNobody : MethodName := ⟨RX12, "isNobody", "(I)Z"⟩
abbrev cX12_guest : ByteArray := prog_14_method_6_code
def yX12_guest : MethodName := ⟨RX12, "guest", "(I)I"⟩
abbrev cX12_buyIn : ByteArray := prog_14_method_7_code
def yX12_buyIn : MethodName := ⟨RX12, "buyIn", "(II)I"⟩
abbrev cX12_cashOut : ByteArray := prog_14_method_8_code
def yX12_cashOut : MethodName := ⟨RX12, "cashOut", "(II)I"⟩
abbrev cX12_limit : ByteArray := prog_14_method_9_code
def yX12_limit : MethodName := ⟨RX12, "limit", "(II)I"⟩
abbrev cX12_isBarredNow : ByteArray := prog_14_method_10_code
def yX12_isBarredNow : MethodName := ⟨RX12, "isBarredNow", "(I)Z"⟩
abbrev cX12_mayStake : ByteArray := prog_14_method_11_code
def yX12_mayStake : MethodName := ⟨RX12, "mayStake", "(II)Z"⟩
abbrev cX12_stakes : ByteArray := prog_14_method_12_code
def yX12_stakes : MethodName := ⟨RX12, "stakes", "(II)V"⟩
abbrev cX12_pay : ByteArray := prog_14_method_13_code
def yX12_pay : MethodName := ⟨RX12, "pay", "(III)V"⟩
abbrev cX12_bar : ByteArray := prog_14_method_14_code
def yX12_bar : MethodName := ⟨RX12, "bar", "(II)I"⟩
abbrev cX12_pass : ByteArray := prog_14_method_15_code
def yX12_pass : MethodName := ⟨RX12, "pass", "(I)I"⟩
abbrev cX12_isNoTable : ByteArray := prog_14_method_16_code
def yX12_isNoTable : MethodName := ⟨RX12, "isNoTable", "(I)Z"⟩
abbrev cX12_fill : ByteArray := prog_14_method_17_code
def yX12_fill : MethodName := ⟨RX12, "fill", "(II)I"⟩
abbrev cX12_credit : ByteArray := prog_14_method_18_code
def yX12_credit : MethodName := ⟨RX12, "credit", "(II)I"⟩
abbrev cX12_winOf : ByteArray := prog_14_method_19_code
def yX12_winOf : MethodName := ⟨RX12, "winOf", "(I)I"⟩
abbrev cX12_shift : ByteArray := prog_14_method_20_code
def yX12_shift : MethodName := ⟨RX12, "shift", "()I"⟩
abbrev cX12_win : ByteArray := prog_14_method_21_code
def yX12_win : MethodName := ⟨RX12, "win", "(I)I"⟩
abbrev cX12_ruleOf : ByteArray := prog_14_method_22_code
def yX12_ruleOf : MethodName := ⟨RX12, "ruleOf", "(C)I"⟩
abbrev cX12_rule : ByteArray := prog_14_method_23_code
def yX12_rule : MethodName := ⟨RX12, "rule", "(CZ)Z"⟩
abbrev cX12_each : ByteArray := prog_14_method_24_code
def yX12_each : MethodName := ⟨RX12, "each", "(I)I"⟩
abbrev cX12_lay : ByteArray := prog_14_method_25_code
def yX12_lay : MethodName := ⟨RX12, "lay", "(I)I"⟩
abbrev cX12_cut : ByteArray := prog_14_method_26_code
def yX12_cut : MethodName := ⟨RX12, "cut", "(I)I"⟩
abbrev cX12_riffle : ByteArray := prog_14_method_27_code
def yX12_riffle : MethodName := ⟨RX12, "riffle", "(Z)I"⟩
abbrev cX12_next : ByteArray := prog_14_method_28_code
def yX12_next : MethodName := ⟨RX12, "next", "()I"⟩
abbrev cX12_valueOf : ByteArray := prog_14_method_29_code
def yX12_valueOf : MethodName := ⟨RX12, "valueOf", "(I[I)I"⟩
abbrev cX12_isSoft : ByteArray := prog_14_method_30_code
def yX12_isSoft : MethodName := ⟨RX12, "isSoft", "(I[I)Z"⟩
abbrev cX12_valueAt : ByteArray := prog_14_method_31_code
def yX12_valueAt : MethodName := ⟨RX12, "valueAt", "(II)I"⟩
abbrev cX12_isNaturalAt : ByteArray := prog_14_method_32_code
def yX12_isNaturalAt : MethodName := ⟨RX12, "isNaturalAt", "(I)Z"⟩
abbrev cX12_hasStake : ByteArray := prog_14_method_33_code
def yX12_hasStake : MethodName := ⟨RX12, "hasStake", "(I)Z"⟩
abbrev cX12_bet : ByteArray := prog_14_method_34_code
def yX12_bet : MethodName := ⟨RX12, "bet", "(III)I"⟩
abbrev cX12_take : ByteArray := prog_14_method_35_code
def yX12_take : MethodName := ⟨RX12, "take", "(II)V"⟩
abbrev cX12_deal : ByteArray := prog_14_method_36_code
def yX12_deal : MethodName := ⟨RX12, "deal", "()I"⟩
abbrev cX12_turnNow : ByteArray := prog_14_method_37_code
def yX12_turnNow : MethodName := ⟨RX12, "turnNow", "()I"⟩
abbrev cX12_lose : ByteArray := prog_14_method_38_code
def yX12_lose : MethodName := ⟨RX12, "lose", "(II)V"⟩
abbrev cX12_win_ : ByteArray := prog_14_method_39_code
def yX12_win_ : MethodName := ⟨RX12, "win", "(III)V"⟩
abbrev cX12_finish : ByteArray := prog_14_method_40_code
def yX12_finish : MethodName := ⟨RX12, "finish", "()V"⟩
abbrev cX12_isEnd : ByteArray := prog_14_method_41_code
def yX12_isEnd : MethodName := ⟨RX12, "isEnd", "(IZ)Z"⟩
abbrev cX12_settleAll : ByteArray := prog_14_method_42_code
def yX12_settleAll : MethodName := ⟨RX12, "settleAll", "(Z)V"⟩
abbrev cX12_settle : ByteArray := prog_14_method_43_code
def yX12_settle : MethodName := ⟨RX12, "settle", "(IIIZ)V"⟩
abbrev cX12_isNotTurn : ByteArray := prog_14_method_44_code
def yX12_isNotTurn : MethodName := ⟨RX12, "isNotTurn", "(I)Z"⟩
abbrev cX12_goesOn : ByteArray := prog_14_method_45_code
def yX12_goesOn : MethodName := ⟨RX12, "goesOn", "()V"⟩
abbrev cX12_looks : ByteArray := prog_14_method_46_code
def yX12_looks : MethodName := ⟨RX12, "looks", "(II)V"⟩
abbrev cX12_hit : ByteArray := prog_14_method_47_code
def yX12_hit : MethodName := ⟨RX12, "hit", "(I)I"⟩
abbrev cX12_stand : ByteArray := prog_14_method_48_code
def yX12_stand : MethodName := ⟨RX12, "stand", "(I)I"⟩
abbrev cX12_twice : ByteArray := prog_14_method_49_code
def yX12_twice : MethodName := ⟨RX12, "twice", "(I)I"⟩
abbrev cX12_split : ByteArray := prog_14_method_50_code
def yX12_split : MethodName := ⟨RX12, "split", "(I)I"⟩
abbrev cX12_surrender : ByteArray := prog_14_method_51_code
def yX12_surrender : MethodName := ⟨RX12, "surrender", "(I)I"⟩
abbrev cX12_cardAt : ByteArray := prog_14_method_52_code
def yX12_cardAt : MethodName := ⟨RX12, "cardAt", "(III)I"⟩
abbrev cX12_dealerAt : ByteArray := prog_14_method_53_code
def yX12_dealerAt : MethodName := ⟨RX12, "dealerAt", "(I)I"⟩
abbrev cX12_turn : ByteArray := prog_14_method_54_code
def yX12_turn : MethodName := ⟨RX12, "turn", "()I"⟩
abbrev cX12_leftOf : ByteArray := prog_14_method_55_code
def yX12_leftOf : MethodName := ⟨RX12, "leftOf", "(I)I"⟩
abbrev cX12_unseen : ByteArray := prog_14_method_56_code
def yX12_unseen : MethodName := ⟨RX12, "unseen", "()I"⟩
abbrev cX12_left : ByteArray := prog_14_method_57_code
def yX12_left : MethodName := ⟨RX12, "left", "(I)I"⟩
abbrev cX12_common : ByteArray := prog_14_method_58_code
def yX12_common : MethodName := ⟨RX12, "common", "(JJ)J"⟩
abbrev cX12_busting : ByteArray := prog_14_method_59_code
def yX12_busting : MethodName := ⟨RX12, "busting", "(I)I"⟩
abbrev cX12_bust : ByteArray := prog_14_method_60_code
def yX12_bust : MethodName := ⟨RX12, "bust", "(IZ)J"⟩
abbrev cX12_bustOver : ByteArray := prog_14_method_61_code
def yX12_bustOver : MethodName := ⟨RX12, "bustOver", "(I)J"⟩
abbrev cX12_bustUnder : ByteArray := prog_14_method_62_code
def yX12_bustUnder : MethodName := ⟨RX12, "bustUnder", "(I)J"⟩
abbrev cX12_ends : ByteArray := prog_14_method_63_code
def yX12_ends : MethodName := ⟨RX12, "ends", "(IZII)D"⟩
abbrev cX12_dealerEnds : ByteArray := prog_14_method_64_code
def yX12_dealerEnds : MethodName := ⟨RX12, "dealerEnds", "(I)D"⟩
abbrev cX12_weigh : ByteArray := prog_14_method_65_code
def yX12_weigh : MethodName := ⟨RX12, "weigh", "(II)I"⟩
abbrev cX12_counted : ByteArray := prog_14_method_66_code
def yX12_counted : MethodName := ⟨RX12, "counted", "()I"⟩
abbrev cX12_count : ByteArray := prog_14_method_67_code
def yX12_count : MethodName := ⟨RX12, "count", "()I"⟩
abbrev cX12_trueCount : ByteArray := prog_14_method_68_code
def yX12_trueCount : MethodName := ⟨RX12, "trueCount", "()I"⟩
abbrev cX12_isSuspected : ByteArray := prog_14_method_69_code
def yX12_isSuspected : MethodName := ⟨RX12, "isSuspected", "(I)Z"⟩
abbrev cX12_broken : ByteArray := prog_14_method_70_code
def yX12_broken : MethodName := ⟨RX12, "broken", "()I"⟩
abbrev cX12_wager : ByteArray := prog_14_method_71_code
def yX12_wager : MethodName := ⟨RX12, "wager", "(ICII)I"⟩
abbrev cX12_isRed : ByteArray := prog_14_method_72_code
def yX12_isRed : MethodName := ⟨RX12, "isRed", "(I)Z"⟩
abbrev cX12_times : ByteArray := prog_14_method_73_code
def yX12_times : MethodName := ⟨RX12, "times", "(III)I"⟩
abbrev cX12_spin : ByteArray := prog_14_method_74_code
def yX12_spin : MethodName := ⟨RX12, "spin", "(I)I"⟩
abbrev cX12_isSpinning : ByteArray := prog_14_method_75_code
def yX12_isSpinning : MethodName := ⟨RX12, "isSpinning", "()Z"⟩
abbrev cX12_digit : ByteArray := prog_14_method_76_code
def yX12_digit : MethodName := ⟨RX12, "digit", "(II)I"⟩
abbrev cX12_areDigits : ByteArray := prog_14_method_77_code
def yX12_areDigits : MethodName := ⟨RX12, "areDigits", "(III)Z"⟩
abbrev cX12_stops : ByteArray := prog_14_method_78_code
def yX12_stops : MethodName := ⟨RX12, "stops", "(II)I"⟩
abbrev cX12_pays : ByteArray := prog_14_method_79_code
def yX12_pays : MethodName := ⟨RX12, "pays", "(II)I"⟩
abbrev cX12_bound : ByteArray := prog_14_method_80_code
def yX12_bound : MethodName := ⟨RX12, "bound", "(I)I"⟩
abbrev cX12_pull : ByteArray := prog_14_method_81_code
def yX12_pull : MethodName := ⟨RX12, "pull", "(II)I"⟩
abbrev cX12_stop : ByteArray := prog_14_method_82_code
def yX12_stop : MethodName := ⟨RX12, "stop", "(I)I"⟩
abbrev cX12_tilt : ByteArray := prog_14_method_83_code
def yX12_tilt : MethodName := ⟨RX12, "tilt", "()I"⟩
abbrev cX12_recover : ByteArray := prog_14_method_84_code
def yX12_recover : MethodName := ⟨RX12, "recover", "()I"⟩
abbrev cX12_pot : ByteArray := prog_14_method_85_code
def yX12_pot : MethodName := ⟨RX12, "pot", "()I"⟩
abbrev cX12_returned : ByteArray := prog_14_method_86_code
def yX12_returned : MethodName := ⟨RX12, "returned", "(Z)J"⟩
abbrev cX12_returnOver : ByteArray := prog_14_method_87_code
def yX12_returnOver : MethodName := ⟨RX12, "returnOver", "()J"⟩
abbrev cX12_returnUnder : ByteArray := prog_14_method_88_code
def yX12_returnUnder : MethodName := ⟨RX12, "returnUnder", "()J"⟩
abbrev cX12_setOf : ByteArray := prog_14_method_89_code
def yX12_setOf : MethodName := ⟨RX12, "setOf", "(I)I"⟩
abbrev cX12_ticket : ByteArray := prog_14_method_90_code
def yX12_ticket : MethodName := ⟨RX12, "ticket", "(II)I"⟩
abbrev cX12_right : ByteArray := prog_14_method_91_code
def yX12_right : MethodName := ⟨RX12, "right", "(I)I"⟩
abbrev cX12_draw : ByteArray := prog_14_method_92_code
def yX12_draw : MethodName := ⟨RX12, "draw", "(I)I"⟩
abbrev cX12_confirm : ByteArray := prog_14_method_93_code
def yX12_confirm : MethodName := ⟨RX12, "confirm", "()I"⟩
abbrev cX12_claim : ByteArray := prog_14_method_94_code
def yX12_claim : MethodName := ⟨RX12, "claim", "(I)I"⟩
abbrev cX12_pool : ByteArray := prog_14_method_95_code
def yX12_pool : MethodName := ⟨RX12, "pool", "()I"⟩
abbrev cX12_day : ByteArray := prog_14_method_96_code
def yX12_day : MethodName := ⟨RX12, "day", "()I"⟩
abbrev cX12_money : ByteArray := prog_14_method_97_code
def yX12_money : MethodName := ⟨RX12, "money", "(I)I"⟩
abbrev cX12_chips : ByteArray := prog_14_method_98_code
def yX12_chips : MethodName := ⟨RX12, "chips", "(I)I"⟩
abbrev cX12_isBarred : ByteArray := prog_14_method_99_code
def yX12_isBarred : MethodName := ⟨RX12, "isBarred", "(I)Z"⟩
abbrev cX12_staked : ByteArray := prog_14_method_100_code
def yX12_staked : MethodName := ⟨RX12, "staked", "(I)I"⟩
abbrev cX12_reports : ByteArray := prog_14_method_101_code
def yX12_reports : MethodName := ⟨RX12, "reports", "(I)I"⟩
abbrev cX12_tray : ByteArray := prog_14_method_102_code
def yX12_tray : MethodName := ⟨RX12, "tray", "(I)I"⟩
abbrev cX12_vault : ByteArray := prog_14_method_103_code
def yX12_vault : MethodName := ⟨RX12, "vault", "()I"⟩
abbrev cX12_power : ByteArray := prog_14_method_104_code
def yX12_power : MethodName := ⟨RX12, "power", "(JI)J"⟩
abbrev cX12_ruin : ByteArray := prog_14_method_105_code
def yX12_ruin : MethodName := ⟨RX12, "ruin", "(IIZ)J"⟩
abbrev cX12_ruinOver : ByteArray := prog_14_method_106_code
def yX12_ruinOver : MethodName := ⟨RX12, "ruinOver", "(II)J"⟩
abbrev cX12_ruinUnder : ByteArray := prog_14_method_107_code
def yX12_ruinUnder : MethodName := ⟨RX12, "ruinUnder", "(II)J"⟩
abbrev cX12_checksum : ByteArray := prog_14_method_108_code
def yX12_checksum : MethodName := ⟨RX12, "checksum", "()J"⟩
abbrev cX12_vaultBits : ByteArray := prog_14_method_109_code
def yX12_vaultBits : MethodName := ⟨RX12, "vaultBits", "()I"⟩
abbrev cX12_barredShare : ByteArray := prog_14_method_110_code
def yX12_barredShare : MethodName := ⟨RX12, "barredShare", "()F"⟩
abbrev cX12_meanChips : ByteArray := prog_14_method_111_code
def yX12_meanChips : MethodName := ⟨RX12, "meanChips", "()D"⟩
abbrev cX12_isSound : ByteArray := prog_14_method_112_code
def yX12_isSound : MethodName := ⟨RX12, "isSound", "()Z"⟩
def RJx145de : String := "java/io/Serializable"
def RJx00060 : String := "java/lang/ArrayIndexOutOfBoundsException"
abbrev cJx00060_init_a7421 : ByteArray := prog_17_method_2_code
def yJx00060_init_a7421 : MethodName := ⟨RJx00060, "<init>", "(Ljava/lang/String;)V"⟩
def RJxb160c : String := "java/lang/Comparable"
def RJxf58ca : String := "java/lang/Float"
abbrev cJxf58ca_isNaN_12338 : ByteArray := prog_20_method_6_code
def yJxf58ca_isNaN_12338 : MethodName := ⟨RJxf58ca, "isNaN", "(F)Z"⟩
abbrev cJxf58ca_floatToIntBits_5c35a : ByteArray := prog_20_method_24_code
def yJxf58ca_floatToIntBits_5c35a : MethodName := ⟨RJxf58ca, "floatToIntBits", "(F)I"⟩
def RJ6 : String := "java/lang/Integer"
abbrev cJ6_bitCount_0f7a4 : ByteArray := prog_24_method_49_code
def yJ6_bitCount_0f7a4 : MethodName := ⟨RJ6, "bitCount", "(I)I"⟩
def RJ9 : String := "java/lang/Math"
abbrev cJ9_floorMod_7cf53 : ByteArray := prog_25_method_50_code
def yJ9_floorMod_7cf53 : MethodName := ⟨RJ9, "floorMod", "(II)I"⟩
abbrev cJ9_max_7cf53 : ByteArray := prog_25_method_65_code
def yJ9_max_7cf53 : MethodName := ⟨RJ9, "max", "(II)I"⟩
abbrev cJ9_min_7cf53 : ByteArray := prog_25_method_69_code
def yJ9_min_7cf53 : MethodName := ⟨RJ9, "min", "(II)I"⟩
def RJxd2413 : String := "java/lang/Number"
def RJ0 : String := "java/lang/String"
def RJ10 : String := "java/lang/System"
def RJxfd54e : String := "java/lang/constant/Constable"
def RJx3cf43 : String := "java/lang/constant/ConstantDesc"
def RJ7 : String := "java/util/Arrays"
abbrev cJ7_fill_53178 : ByteArray := prog_34_method_103_code
def yJ7_fill_53178 : MethodName := ⟨RJ7, "fill", "([II)V"⟩
def RL : String := "ShoeHouseLaw"
abbrev cL_guest : ByteArray := method_3_code
def yL_guest : MethodName := ⟨RL, "guest", "(LShoeHouse;I[J)I"⟩
abbrev cL_buyIn : ByteArray := method_4_code
def yL_buyIn : MethodName := ⟨RL, "buyIn", "(LShoeHouse;II[J)I"⟩
abbrev cL_cashOut : ByteArray := method_5_code
def yL_cashOut : MethodName := ⟨RL, "cashOut", "(LShoeHouse;II[J)I"⟩
abbrev cL_limit : ByteArray := method_6_code
def yL_limit : MethodName := ⟨RL, "limit", "(LShoeHouse;II[J)I"⟩
abbrev cL_bar : ByteArray := method_7_code
def yL_bar : MethodName := ⟨RL, "bar", "(LShoeHouse;II[J)I"⟩
abbrev cL_pass : ByteArray := method_8_code
def yL_pass : MethodName := ⟨RL, "pass", "(LShoeHouse;I[J)I"⟩
abbrev cL_fill : ByteArray := method_9_code
def yL_fill : MethodName := ⟨RL, "fill", "(LShoeHouse;II[J)I"⟩
abbrev cL_credit : ByteArray := method_10_code
def yL_credit : MethodName := ⟨RL, "credit", "(LShoeHouse;II[J)I"⟩
abbrev cL_win : ByteArray := method_11_code
def yL_win : MethodName := ⟨RL, "win", "(LShoeHouse;I[J)I"⟩
abbrev cL_rule : ByteArray := method_12_code
def yL_rule : MethodName := ⟨RL, "rule", "(LShoeHouse;CZ[J)I"⟩
abbrev cL_lay : ByteArray := method_13_code
def yL_lay : MethodName := ⟨RL, "lay", "(LShoeHouse;I[J)I"⟩
abbrev cL_cut : ByteArray := method_14_code
def yL_cut : MethodName := ⟨RL, "cut", "(LShoeHouse;I[J)I"⟩
abbrev cL_riffle : ByteArray := method_15_code
def yL_riffle : MethodName := ⟨RL, "riffle", "(LShoeHouse;Z[J)I"⟩
abbrev cL_bet : ByteArray := method_16_code
def yL_bet : MethodName := ⟨RL, "bet", "(LShoeHouse;III[J)I"⟩
abbrev cL_deal : ByteArray := method_17_code
def yL_deal : MethodName := ⟨RL, "deal", "(LShoeHouse;[J)I"⟩
abbrev cL_hit : ByteArray := method_18_code
def yL_hit : MethodName := ⟨RL, "hit", "(LShoeHouse;I[J)I"⟩
abbrev cL_stand : ByteArray := method_19_code
def yL_stand : MethodName := ⟨RL, "stand", "(LShoeHouse;I[J)I"⟩
abbrev cL_twice : ByteArray := method_20_code
def yL_twice : MethodName := ⟨RL, "twice", "(LShoeHouse;I[J)I"⟩
abbrev cL_split : ByteArray := method_21_code
def yL_split : MethodName := ⟨RL, "split", "(LShoeHouse;I[J)I"⟩
abbrev cL_surrender : ByteArray := method_22_code
def yL_surrender : MethodName := ⟨RL, "surrender", "(LShoeHouse;I[J)I"⟩
abbrev cL_cardAt : ByteArray := method_23_code
def yL_cardAt : MethodName := ⟨RL, "cardAt", "(LShoeHouse;III[J)I"⟩
abbrev cL_dealerAt : ByteArray := method_24_code
def yL_dealerAt : MethodName := ⟨RL, "dealerAt", "(LShoeHouse;I[J)I"⟩
abbrev cL_turn : ByteArray := method_25_code
def yL_turn : MethodName := ⟨RL, "turn", "(LShoeHouse;[J)I"⟩
abbrev cL_left : ByteArray := method_26_code
def yL_left : MethodName := ⟨RL, "left", "(LShoeHouse;I[J)I"⟩
abbrev cL_bustOver : ByteArray := method_27_code
def yL_bustOver : MethodName := ⟨RL, "bustOver", "(LShoeHouse;I[J)I"⟩
abbrev cL_bustUnder : ByteArray := method_28_code
def yL_bustUnder : MethodName := ⟨RL, "bustUnder", "(LShoeHouse;I[J)I"⟩
abbrev cL_dealerEnds : ByteArray := method_29_code
def yL_dealerEnds : MethodName := ⟨RL, "dealerEnds", "(LShoeHouse;I[D)I"⟩
abbrev cL_weigh : ByteArray := method_30_code
def yL_weigh : MethodName := ⟨RL, "weigh", "(LShoeHouse;II[J)I"⟩
abbrev cL_trueCount : ByteArray := method_31_code
def yL_trueCount : MethodName := ⟨RL, "trueCount", "(LShoeHouse;[J)I"⟩
abbrev cL_isSuspected : ByteArray := method_32_code
def yL_isSuspected : MethodName := ⟨RL, "isSuspected", "(LShoeHouse;I[J)I"⟩
abbrev cL_wager : ByteArray := method_33_code
def yL_wager : MethodName := ⟨RL, "wager", "(LShoeHouse;ICII[J)I"⟩
abbrev cL_spin : ByteArray := method_34_code
def yL_spin : MethodName := ⟨RL, "spin", "(LShoeHouse;I[J)I"⟩
abbrev cL_stops : ByteArray := method_35_code
def yL_stops : MethodName := ⟨RL, "stops", "(LShoeHouse;II[J)I"⟩
abbrev cL_pays : ByteArray := method_36_code
def yL_pays : MethodName := ⟨RL, "pays", "(LShoeHouse;II[J)I"⟩
abbrev cL_bound : ByteArray := method_37_code
def yL_bound : MethodName := ⟨RL, "bound", "(LShoeHouse;I[J)I"⟩
abbrev cL_pull : ByteArray := method_38_code
def yL_pull : MethodName := ⟨RL, "pull", "(LShoeHouse;II[J)I"⟩
abbrev cL_stop : ByteArray := method_39_code
def yL_stop : MethodName := ⟨RL, "stop", "(LShoeHouse;I[J)I"⟩
abbrev cL_tilt : ByteArray := method_40_code
def yL_tilt : MethodName := ⟨RL, "tilt", "(LShoeHouse;[J)I"⟩
abbrev cL_recover : ByteArray := method_41_code
def yL_recover : MethodName := ⟨RL, "recover", "(LShoeHouse;[J)I"⟩
abbrev cL_ticket : ByteArray := method_42_code
def yL_ticket : MethodName := ⟨RL, "ticket", "(LShoeHouse;II[J)I"⟩
abbrev cL_draw : ByteArray := method_43_code
def yL_draw : MethodName := ⟨RL, "draw", "(LShoeHouse;I[J)I"⟩
abbrev cL_confirm : ByteArray := method_44_code
def yL_confirm : MethodName := ⟨RL, "confirm", "(LShoeHouse;[J)I"⟩
abbrev cL_claim : ByteArray := method_45_code
def yL_claim : MethodName := ⟨RL, "claim", "(LShoeHouse;I[J)I"⟩
abbrev cL_money : ByteArray := method_46_code
def yL_money : MethodName := ⟨RL, "money", "(LShoeHouse;I[J)I"⟩
abbrev cL_chips : ByteArray := method_47_code
def yL_chips : MethodName := ⟨RL, "chips", "(LShoeHouse;I[J)I"⟩
abbrev cL_isBarred : ByteArray := method_48_code
def yL_isBarred : MethodName := ⟨RL, "isBarred", "(LShoeHouse;I[J)I"⟩
abbrev cL_staked : ByteArray := method_49_code
def yL_staked : MethodName := ⟨RL, "staked", "(LShoeHouse;I[J)I"⟩
abbrev cL_reports : ByteArray := method_50_code
def yL_reports : MethodName := ⟨RL, "reports", "(LShoeHouse;I[J)I"⟩
abbrev cL_tray : ByteArray := method_51_code
def yL_tray : MethodName := ⟨RL, "tray", "(LShoeHouse;I[J)I"⟩
abbrev cL_ruinOver : ByteArray := method_52_code
def yL_ruinOver : MethodName := ⟨RL, "ruinOver", "(LShoeHouse;II[J)I"⟩
abbrev cL_ruinUnder : ByteArray := method_53_code
def yL_ruinUnder : MethodName := ⟨RL, "ruinUnder", "(LShoeHouse;II[J)I"⟩
abbrev cL_barredShare : ByteArray := method_54_code
def yL_barredShare : MethodName := ⟨RL, "barredShare", "(LShoeHouse;[D)I"⟩
abbrev cL_meanChips : ByteArray := method_55_code
def yL_meanChips : MethodName := ⟨RL, "meanChips", "(LShoeHouse;[D)I"⟩
abbrev cL_law : ByteArray := code
def yL_law : MethodName := ⟨RL, "law", "([I)Z"⟩
/-! ===== the shape of this claim: classes, array types, texts ===== -/
abbrev zk_cl : List vw_C := [(RX0, TX0, 10), (RX1, TX1, 3), (RX2, TX2, 13), (RX3, TX3, 7), (RX4, TX4, 5), (RX5, TX5, 9), (RX6, TX6, 4), (RX7, TX7, 8), (RX8, TX8, 5), (RX9, TX9, 1), (RX10, TX10, 6), (RX11, TX11, 11), (RX12, TX12, 50)]
def zk_ty : Nat → Nat → FieldType := fun c j => match c with
  | 0 => tyX0 j
  | 1 => tyX1 j
  | 2 => tyX2 j
  | 3 => tyX3 j
  | 4 => tyX4 j
  | 5 => tyX5 j
  | 6 => tyX6 j
  | 7 => tyX7 j
  | 8 => tyX8 j
  | 9 => tyX9 j
  | 10 => tyX10 j
  | 11 => tyX11 j
  | _ => tyX12 j
abbrev zk_str : List (String × Nat × String) := [("ShoeHouse", 576, "a number is out of range"), ("ShoeHouse", 89, "there are as many guests as there can be"), ("ShoeHouse", 532, "no such guest"), ("ShoeHouse", 106, "not so much money, or not so many chips in the vault"), ("ShoeHouse", 114, "not so many chips"), ("ShoeHouse", 130, "no day to be barred until"), ("ShoeHouse", 153, "a round or a spin goes on"), ("ShoeHouse", 534, "no such table"), ("ShoeHouse", 169, "the vault has not so many chips"), ("ShoeHouse", 175, "the tray has not so many chips"), ("ShoeHouse", 187, "no such letter"), ("ShoeHouse", 566, "a round goes on"), ("ShoeHouse", 205, "not between the first and the last card"), ("ShoeHouse", 213, "the shoe has no cards"), ("ShoeHouse", 540, "no such seat"), ("ShoeHouse", 228, "the seat has a stake"), ("ShoeHouse", 555, "the guest may not stake that"), ("ShoeHouse", 250, "no stake, or too few cards"), ("ShoeHouse", 564, "no round goes on"), ("ShoeHouse", 546, "it is not the turn of this seat"), ("ShoeHouse", 557, "the shoe has not so many cards"), ("ShoeHouse", 282, "this hand is not doubled"), ("ShoeHouse", 294, "this hand is not split"), ("ShoeHouse", 309, "this hand is not surrendered"), ("ShoeHouse", 320, "no such hand"), ("ShoeHouse", 326, "no such card"), ("ShoeHouse", 332, "no such card, or it is hidden"), ("ShoeHouse", 561, "no cards are left"), ("ShoeHouse", 377, "no such wager"), ("ShoeHouse", 382, "there are as many wagers as there can be"), ("ShoeHouse", 392, "no such reel"), ("ShoeHouse", 398, "not eight symbols"), ("ShoeHouse", 570, "a spin goes on"), ("ShoeHouse", 416, "a spin goes on, or is to be recovered"), ("ShoeHouse", 424, "not three stops"), ("ShoeHouse", 568, "no spin goes on"), ("ShoeHouse", 436, "no spin is to be recovered"), ("ShoeHouse", 574, "not three unlike numbers"), ("ShoeHouse", 455, "no ticket is sold now"), ("ShoeHouse", 472, "no draw is to be confirmed"), ("ShoeHouse", 480, "no prizes"), ("ShoeHouse", 572, "there are no guests")]
abbrev zk_nc : List (String × String) := [("ShoeHouse", "java/lang/IllegalArgumentException"), ("ShoeHouse$Vault", "java/lang/IllegalArgumentException"), ("ShoeHouse$Shoe", "java/lang/IllegalArgumentException"), ("ShoeHouse$DealerOdds", "java/lang/IllegalArgumentException"), ("ShoeHouse$Lottery", "java/lang/IllegalArgumentException"), ("ShoeHouse$Guest", "java/lang/IllegalArgumentException"), ("ShoeHouse$Tray", "java/lang/IllegalArgumentException"), ("ShoeHouse$CardTable", "java/lang/IllegalArgumentException"), ("ShoeHouse$Hand", "java/lang/IllegalArgumentException"), ("ShoeHouse$Seat", "java/lang/IllegalArgumentException"), ("ShoeHouse$Wheel", "java/lang/IllegalArgumentException"), ("ShoeHouse$Machine", "java/lang/IllegalArgumentException"), ("ShoeHouseModel", "java/lang/IllegalArgumentException"), ("java/lang/IllegalStateException", "java/lang/IllegalArgumentException"), ("java/lang/ArrayIndexOutOfBoundsException", "java/lang/IllegalArgumentException"), ("java/lang/IndexOutOfBoundsException", "java/lang/IllegalArgumentException"), ("java/lang/UnsupportedOperationException", "java/lang/IllegalArgumentException"), ("java/util/NoSuchElementException", "java/lang/IllegalArgumentException"), ("java/lang/ArithmeticException", "java/lang/IllegalArgumentException"), ("ShoeHouse", "java/lang/IllegalStateException"), ("ShoeHouse$Vault", "java/lang/IllegalStateException"), ("ShoeHouse$Shoe", "java/lang/IllegalStateException"), ("ShoeHouse$DealerOdds", "java/lang/IllegalStateException"), ("ShoeHouse$Lottery", "java/lang/IllegalStateException"), ("ShoeHouse$Guest", "java/lang/IllegalStateException"), ("ShoeHouse$Tray", "java/lang/IllegalStateException"), ("ShoeHouse$CardTable", "java/lang/IllegalStateException"), ("ShoeHouse$Hand", "java/lang/IllegalStateException"), ("ShoeHouse$Seat", "java/lang/IllegalStateException"), ("ShoeHouse$Wheel", "java/lang/IllegalStateException"), ("ShoeHouse$Machine", "java/lang/IllegalStateException"), ("ShoeHouseModel", "java/lang/IllegalStateException"), ("java/lang/IllegalArgumentException", "java/lang/IllegalStateException"), ("java/lang/ArrayIndexOutOfBoundsException", "java/lang/IllegalStateException"), ("java/lang/IndexOutOfBoundsException", "java/lang/IllegalStateException"), ("java/lang/UnsupportedOperationException", "java/lang/IllegalStateException"), ("java/util/NoSuchElementException", "java/lang/IllegalStateException"), ("java/lang/ArithmeticException", "java/lang/IllegalStateException"), ("ShoeHouse", "java/lang/IndexOutOfBoundsException"), ("ShoeHouse$Vault", "java/lang/IndexOutOfBoundsException"), ("ShoeHouse$Shoe", "java/lang/IndexOutOfBoundsException"), ("ShoeHouse$DealerOdds", "java/lang/IndexOutOfBoundsException"), ("ShoeHouse$Lottery", "java/lang/IndexOutOfBoundsException"), ("ShoeHouse$Guest", "java/lang/IndexOutOfBoundsException"), ("ShoeHouse$Tray", "java/lang/IndexOutOfBoundsException"), ("ShoeHouse$CardTable", "java/lang/IndexOutOfBoundsException"), ("ShoeHouse$Hand", "java/lang/IndexOutOfBoundsException"), ("ShoeHouse$Seat", "java/lang/IndexOutOfBoundsException"), ("ShoeHouse$Wheel", "java/lang/IndexOutOfBoundsException"), ("ShoeHouse$Machine", "java/lang/IndexOutOfBoundsException"), ("ShoeHouseModel", "java/lang/IndexOutOfBoundsException"), ("java/lang/IllegalArgumentException", "java/lang/IndexOutOfBoundsException"), ("java/lang/IllegalStateException", "java/lang/IndexOutOfBoundsException"), ("java/lang/UnsupportedOperationException", "java/lang/IndexOutOfBoundsException"), ("java/util/NoSuchElementException", "java/lang/IndexOutOfBoundsException"), ("java/lang/ArithmeticException", "java/lang/IndexOutOfBoundsException"), ("ShoeHouse", "java/lang/UnsupportedOperationException"), ("ShoeHouse$Vault", "java/lang/UnsupportedOperationException"), ("ShoeHouse$Shoe", "java/lang/UnsupportedOperationException"), ("ShoeHouse$DealerOdds", "java/lang/UnsupportedOperationException"), ("ShoeHouse$Lottery", "java/lang/UnsupportedOperationException"), ("ShoeHouse$Guest", "java/lang/UnsupportedOperationException"), ("ShoeHouse$Tray", "java/lang/UnsupportedOperationException"), ("ShoeHouse$CardTable", "java/lang/UnsupportedOperationException"), ("ShoeHouse$Hand", "java/lang/UnsupportedOperationException"), ("ShoeHouse$Seat", "java/lang/UnsupportedOperationException"), ("ShoeHouse$Wheel", "java/lang/UnsupportedOperationException"), ("ShoeHouse$Machine", "java/lang/UnsupportedOperationException"), ("ShoeHouseModel", "java/lang/UnsupportedOperationException"), ("java/lang/IllegalArgumentException", "java/lang/UnsupportedOperationException"), ("java/lang/IllegalStateException", "java/lang/UnsupportedOperationException"), ("java/lang/ArrayIndexOutOfBoundsException", "java/lang/UnsupportedOperationException"), ("java/lang/IndexOutOfBoundsException", "java/lang/UnsupportedOperationException"), ("java/util/NoSuchElementException", "java/lang/UnsupportedOperationException"), ("java/lang/ArithmeticException", "java/lang/UnsupportedOperationException"), ("ShoeHouse", "java/util/NoSuchElementException"), ("ShoeHouse$Vault", "java/util/NoSuchElementException"), ("ShoeHouse$Shoe", "java/util/NoSuchElementException"), ("ShoeHouse$DealerOdds", "java/util/NoSuchElementException"), ("ShoeHouse$Lottery", "java/util/NoSuchElementException"), ("ShoeHouse$Guest", "java/util/NoSuchElementException"), ("ShoeHouse$Tray", "java/util/NoSuchElementException"), ("ShoeHouse$CardTable", "java/util/NoSuchElementException"), ("ShoeHouse$Hand", "java/util/NoSuchElementException"), ("ShoeHouse$Seat", "java/util/NoSuchElementException"), ("ShoeHouse$Wheel", "java/util/NoSuchElementException"), ("ShoeHouse$Machine", "java/util/NoSuchElementException"), ("ShoeHouseModel", "java/util/NoSuchElementException"), ("java/lang/IllegalArgumentException", "java/util/NoSuchElementException"), ("java/lang/IllegalStateException", "java/util/NoSuchElementException"), ("java/lang/ArrayIndexOutOfBoundsException", "java/util/NoSuchElementException"), ("java/lang/IndexOutOfBoundsException", "java/util/NoSuchElementException"), ("java/lang/UnsupportedOperationException", "java/util/NoSuchElementException"), ("java/lang/ArithmeticException", "java/util/NoSuchElementException"), ("ShoeHouse", "java/lang/ArithmeticException"), ("ShoeHouse$Vault", "java/lang/ArithmeticException"), ("ShoeHouse$Shoe", "java/lang/ArithmeticException"), ("ShoeHouse$DealerOdds", "java/lang/ArithmeticException"), ("ShoeHouse$Lottery", "java/lang/ArithmeticException"), ("ShoeHouse$Guest", "java/lang/ArithmeticException"), ("ShoeHouse$Tray", "java/lang/ArithmeticException"), ("ShoeHouse$CardTable", "java/lang/ArithmeticException"), ("ShoeHouse$Hand", "java/lang/ArithmeticException"), ("ShoeHouse$Seat", "java/lang/ArithmeticException"), ("ShoeHouse$Wheel", "java/lang/ArithmeticException"), ("ShoeHouse$Machine", "java/lang/ArithmeticException"), ("ShoeHouseModel", "java/lang/ArithmeticException"), ("java/lang/IllegalArgumentException", "java/lang/ArithmeticException"), ("java/lang/IllegalStateException", "java/lang/ArithmeticException"), ("java/lang/ArrayIndexOutOfBoundsException", "java/lang/ArithmeticException"), ("java/lang/IndexOutOfBoundsException", "java/lang/ArithmeticException"), ("java/lang/UnsupportedOperationException", "java/lang/ArithmeticException"), ("java/util/NoSuchElementException", "java/lang/ArithmeticException"), ("ShoeHouse", "ShoeHouse$Guest"), ("ShoeHouse$Vault", "ShoeHouse$Guest"), ("ShoeHouse$Shoe", "ShoeHouse$Guest"), ("ShoeHouse$DealerOdds", "ShoeHouse$Guest"), ("ShoeHouse$Lottery", "ShoeHouse$Guest"), ("ShoeHouse$Tray", "ShoeHouse$Guest"), ("ShoeHouse$CardTable", "ShoeHouse$Guest"), ("ShoeHouse$Hand", "ShoeHouse$Guest"), ("ShoeHouse$Seat", "ShoeHouse$Guest"), ("ShoeHouse$Wheel", "ShoeHouse$Guest"), ("ShoeHouse$Machine", "ShoeHouse$Guest"), ("ShoeHouseModel", "ShoeHouse$Guest"), ("java/lang/IllegalArgumentException", "ShoeHouse$Guest"), ("java/lang/IllegalStateException", "ShoeHouse$Guest"), ("java/lang/ArrayIndexOutOfBoundsException", "ShoeHouse$Guest"), ("java/lang/IndexOutOfBoundsException", "ShoeHouse$Guest"), ("java/lang/UnsupportedOperationException", "ShoeHouse$Guest"), ("java/util/NoSuchElementException", "ShoeHouse$Guest"), ("java/lang/ArithmeticException", "ShoeHouse$Guest"), ("java/lang/Throwable", "ShoeHouse$Guest"), ("java/lang/String", "ShoeHouse$Guest"), ("ShoeHouse", "ShoeHouse$Tray"), ("ShoeHouse$Vault", "ShoeHouse$Tray"), ("ShoeHouse$Shoe", "ShoeHouse$Tray"), ("ShoeHouse$DealerOdds", "ShoeHouse$Tray"), ("ShoeHouse$Lottery", "ShoeHouse$Tray"), ("ShoeHouse$Guest", "ShoeHouse$Tray"), ("ShoeHouse$CardTable", "ShoeHouse$Tray"), ("ShoeHouse$Hand", "ShoeHouse$Tray"), ("ShoeHouse$Seat", "ShoeHouse$Tray"), ("ShoeHouse$Wheel", "ShoeHouse$Tray"), ("ShoeHouse$Machine", "ShoeHouse$Tray"), ("ShoeHouseModel", "ShoeHouse$Tray"), ("java/lang/IllegalArgumentException", "ShoeHouse$Tray"), ("java/lang/IllegalStateException", "ShoeHouse$Tray"), ("java/lang/ArrayIndexOutOfBoundsException", "ShoeHouse$Tray"), ("java/lang/IndexOutOfBoundsException", "ShoeHouse$Tray"), ("java/lang/UnsupportedOperationException", "ShoeHouse$Tray"), ("java/util/NoSuchElementException", "ShoeHouse$Tray"), ("java/lang/ArithmeticException", "ShoeHouse$Tray"), ("java/lang/Throwable", "ShoeHouse$Tray"), ("java/lang/String", "ShoeHouse$Tray"), ("ShoeHouse", "ShoeHouse$Seat"), ("ShoeHouse$Vault", "ShoeHouse$Seat"), ("ShoeHouse$Shoe", "ShoeHouse$Seat"), ("ShoeHouse$DealerOdds", "ShoeHouse$Seat"), ("ShoeHouse$Lottery", "ShoeHouse$Seat"), ("ShoeHouse$Guest", "ShoeHouse$Seat"), ("ShoeHouse$Tray", "ShoeHouse$Seat"), ("ShoeHouse$CardTable", "ShoeHouse$Seat"), ("ShoeHouse$Hand", "ShoeHouse$Seat"), ("ShoeHouse$Wheel", "ShoeHouse$Seat"), ("ShoeHouse$Machine", "ShoeHouse$Seat"), ("ShoeHouseModel", "ShoeHouse$Seat"), ("java/lang/IllegalArgumentException", "ShoeHouse$Seat"), ("java/lang/IllegalStateException", "ShoeHouse$Seat"), ("java/lang/ArrayIndexOutOfBoundsException", "ShoeHouse$Seat"), ("java/lang/IndexOutOfBoundsException", "ShoeHouse$Seat"), ("java/lang/UnsupportedOperationException", "ShoeHouse$Seat"), ("java/util/NoSuchElementException", "ShoeHouse$Seat"), ("java/lang/ArithmeticException", "ShoeHouse$Seat"), ("java/lang/Throwable", "ShoeHouse$Seat"), ("java/lang/String", "ShoeHouse$Seat")]
abbrev zk_aty : List FieldType := [.int, .long, .double, .char, .boolean, .object "ShoeHouse$Guest", .object "ShoeHouse$Tray", .object "ShoeHouse$Seat", .array .int, .array (.array .int)]
def zTb : Nat → List Cond := fun j => match j with
  | 0 => k2_sels lw_privs
  | 1 => tables_1_1
  | 2 => tables_1_2
  | 3 => tables_1_3
  | 4 => tables_1_4
  | 5 => tables_1_5
  | 6 => tables_1_6
  | 7 => tables_1_7
  | 8 => tables_1_8
  | 9 => tables_1_9
  | 10 => tables_1_10
  | _ => []
theorem zTb_in {w : Cond} : ∀ j : Nat, w ∈ zTb j → w ∈ lw_tbl := by
  intro j h
  unfold lw_tbl tables_1
  unfold zTb at h
  split at h
  all_goals first | (simp only [List.mem_append]; simp [h]; done) | cases h
def zhas (p : Nat × Nat) (w : Cond) : Bool := decide ((zTb p.1)[p.2]? = some w) && zg_good w
theorem zhas_in {p : Nat × Nat} {w : Cond} (h : zhas p w = true) : w ∈ lw_g := by
  unfold zhas at h
  rw [Bool.and_eq_true] at h
  have h1 := of_decide_eq_true h.1
  exact lw_g_of (zTb_in _ (List.mem_of_getElem? h1)) h.2
def zhasL : List (Nat × Nat) → List Cond → Bool
  | _, [] => true
  | p :: ps, w :: ws => zhas p w && zhasL ps ws
  | [], _ :: _ => false
theorem zhasL_in : ∀ {ps : List (Nat × Nat)} {ws : List Cond}, zhasL ps ws = true → ∀ w ∈ ws, w ∈ lw_g
  | _, [], _, w, hw => nomatch hw
  | [], w0 :: ws, h, w, hw => by cases h
  | p :: ps, w0 :: ws, h, w, hw => by
    simp only [zhasL, Bool.and_eq_true] at h
    rcases List.mem_cons.mp hw with rfl | hw
    · exact zhas_in h.1
    · exact zhasL_in h.2 w hw
theorem zl_in0 : zhasL [(2, 57), (2, 59), (2, 61), (2, 63), (2, 65), (2, 67), (2, 69), (2, 71), (2, 73), (2, 75)] (u_ws RX0 TX0 10) = true := by decide +kernel
theorem zl_in1 : zhasL [(1, 97), (1, 99), (1, 101)] (u_ws RX1 TX1 3) = true := by decide +kernel
theorem zl_in2 : zhasL [(1, 157), (1, 159), (1, 161), (1, 163), (1, 165), (1, 167), (1, 169), (1, 171), (1, 173), (1, 175), (1, 177), (1, 179), (1, 181)] (u_ws RX2 TX2 13) = true := by decide +kernel
theorem zl_in3 : zhasL [(1, 236), (1, 238), (2, 0), (2, 2), (2, 4), (2, 6), (2, 8)] (u_ws RX3 TX3 7) = true := by decide +kernel
theorem zl_in4 : zhasL [(1, 119), (1, 121), (1, 123), (1, 125), (1, 127)] (u_ws RX4 TX4 5) = true := by decide +kernel
theorem zl_in5 : zhasL [(2, 129), (2, 131), (2, 133), (2, 135), (2, 137), (2, 139), (2, 141), (2, 143), (2, 145)] (u_ws RX5 TX5 9) = true := by decide +kernel
theorem zl_in6 : zhasL [(2, 29), (2, 31), (2, 33), (2, 35)] (u_ws RX6 TX6 4) = true := by decide +kernel
theorem zl_in7 : zhasL [(1, 70), (1, 72), (1, 74), (1, 76), (1, 78), (1, 80), (1, 82), (1, 84)] (u_ws RX7 TX7 8) = true := by decide +kernel
theorem zl_in8 : zhasL [(1, 195), (1, 197), (1, 199), (1, 201), (1, 203)] (u_ws RX8 TX8 5) = true := by decide +kernel
theorem zl_in9 : zhasL [(1, 53)] (u_ws RX9 TX9 1) = true := by decide +kernel
theorem zl_in10 : zhasL [(2, 92), (2, 94), (2, 96), (2, 98), (2, 100), (2, 102)] (u_ws RX10 TX10 6) = true := by decide +kernel
theorem zl_in11 : zhasL [(2, 159), (2, 161), (2, 163), (2, 165), (2, 167), (2, 169), (2, 171), (2, 173), (2, 175), (2, 177), (2, 179)] (u_ws RX11 TX11 11) = true := by decide +kernel
theorem zl_in12 : zhasL [(8, 8), (8, 10), (8, 12), (8, 14), (8, 16), (8, 18), (8, 20), (8, 22), (8, 24), (8, 26), (8, 28), (8, 30), (8, 32), (8, 34), (8, 36), (8, 38), (8, 40), (8, 42), (8, 44), (8, 46), (8, 48), (8, 50), (8, 52), (8, 54), (8, 56), (8, 58), (8, 60), (8, 62), (8, 64), (8, 66), (8, 68), (8, 70), (8, 72), (8, 74), (8, 76), (8, 78), (8, 80), (8, 82), (8, 84), (8, 86), (8, 88), (8, 90), (8, 92), (8, 94), (8, 96), (8, 98), (8, 100), (8, 102), (8, 104), (8, 106)] (u_ws RX12 TX12 50) = true := by decide +kernel
theorem zc_in : ∀ (ci : Nat) (q : vw_C), zk_cl[ci]? = some q → ∀ w ∈ u_ws q.1 q.2.1 q.2.2, w ∈ lw_g := fun ci q hq => match ci, hq with
  | 0, hq => by cases Option.some.inj hq; exact zhasL_in zl_in0
  | 1, hq => by cases Option.some.inj hq; exact zhasL_in zl_in1
  | 2, hq => by cases Option.some.inj hq; exact zhasL_in zl_in2
  | 3, hq => by cases Option.some.inj hq; exact zhasL_in zl_in3
  | 4, hq => by cases Option.some.inj hq; exact zhasL_in zl_in4
  | 5, hq => by cases Option.some.inj hq; exact zhasL_in zl_in5
  | 6, hq => by cases Option.some.inj hq; exact zhasL_in zl_in6
  | 7, hq => by cases Option.some.inj hq; exact zhasL_in zl_in7
  | 8, hq => by cases Option.some.inj hq; exact zhasL_in zl_in8
  | 9, hq => by cases Option.some.inj hq; exact zhasL_in zl_in9
  | 10, hq => by cases Option.some.inj hq; exact zhasL_in zl_in10
  | 11, hq => by cases Option.some.inj hq; exact zhasL_in zl_in11
  | 12, hq => by cases Option.some.inj hq; exact zhasL_in zl_in12
  | n + 13, hq => by simp [zk_cl] at hq
theorem zc_ty : ∀ (ci : Nat) (q : vw_C), zk_cl[ci]? = some q → ∀ k, k < q.2.2 → parseFieldDescriptor (q.2.1 k).2.2.1 = some (zk_ty ci k) := fun ci q hq => match ci, hq with
  | 0, hq => by cases Option.some.inj hq; exact tyX0_ok
  | 1, hq => by cases Option.some.inj hq; exact tyX1_ok
  | 2, hq => by cases Option.some.inj hq; exact tyX2_ok
  | 3, hq => by cases Option.some.inj hq; exact tyX3_ok
  | 4, hq => by cases Option.some.inj hq; exact tyX4_ok
  | 5, hq => by cases Option.some.inj hq; exact tyX5_ok
  | 6, hq => by cases Option.some.inj hq; exact tyX6_ok
  | 7, hq => by cases Option.some.inj hq; exact tyX7_ok
  | 8, hq => by cases Option.some.inj hq; exact tyX8_ok
  | 9, hq => by cases Option.some.inj hq; exact tyX9_ok
  | 10, hq => by cases Option.some.inj hq; exact tyX10_ok
  | 11, hq => by cases Option.some.inj hq; exact tyX11_ok
  | 12, hq => by cases Option.some.inj hq; exact tyX12_ok
  | n + 13, hq => by simp [zk_cl] at hq
theorem zc_nm : ∀ (ci : Nat) (q : vw_C), zk_cl[ci]? = some q → ∀ a, a < q.2.2 → ∀ b, b < q.2.2 → a ≠ b → (q.2.1 a).2.1 ≠ (q.2.1 b).2.1 := fun ci q hq => match ci, hq with
  | 0, hq => by cases Option.some.inj hq; exact nmX0
  | 1, hq => by cases Option.some.inj hq; exact nmX1
  | 2, hq => by cases Option.some.inj hq; exact nmX2
  | 3, hq => by cases Option.some.inj hq; exact nmX3
  | 4, hq => by cases Option.some.inj hq; exact nmX4
  | 5, hq => by cases Option.some.inj hq; exact nmX5
  | 6, hq => by cases Option.some.inj hq; exact nmX6
  | 7, hq => by cases Option.some.inj hq; exact nmX7
  | 8, hq => by cases Option.some.inj hq; exact nmX8
  | 9, hq => by cases Option.some.inj hq; exact nmX9
  | 10, hq => by cases Option.some.inj hq; exact nmX10
  | 11, hq => by cases Option.some.inj hq; exact nmX11
  | 12, hq => by cases Option.some.inj hq; exact nmX12
  | n + 13, hq => by simp [zk_cl] at hq
end
section
/-! ===== EV: a pure memory under the machine. Values, memory, world ===== -/
abbrev zv_V : Type := (Int ⊕ Int) ⊕ (Int ⊕ (UInt64 ⊕ UInt32))
abbrev zv_i (x : Int) : zv_V := .inl (.inl x)
abbrev zv_a (r : Int) : zv_V := .inl (.inr r)
abbrev zv_l (x : Int) : zv_V := .inr (.inl x)
abbrev zv_d (x : UInt64) : zv_V := .inr (.inr (.inl x))
abbrev zv_f (x : UInt32) : zv_V := .inr (.inr (.inr x))
/-- the fixed surroundings: base, script (cell, length, ints), classes, classes of arrays -/
abbrev ze_E : Type := (Nat × (Nat × (Nat × (Nat → Int32)))) × (va_G × (FieldType → ClassId))
def ze_o (E : ze_E) : Nat := E.1.1
def ze_b (E : ze_E) : Nat := E.1.2.1
def ze_L (E : ze_E) : Nat := E.1.2.2.1
def ze_x (E : ze_E) : Nat → Int32 := E.1.2.2.2
def ze_D (E : ze_E) : va_G := E.2.1
def ze_t (E : ze_E) : FieldType → ClassId := E.2.2
def ze_A (E : ze_E) : Nat → Prop := fun q => ze_o E ≤ q
def zv_ro (E : ze_E) (r : Int) : Option Nat := if r = 0 then none else if r < 0 then (if r = -1 then some (ze_b E) else some (-r - 2).toNat) else some (ze_o E + (r.toNat - 1))
def zv_c (E : ze_E) : zv_V → Value
  | .inl (.inl x) => .int (Int32.ofInt x)
  | .inl (.inr r) => va_rf (zv_ro E r)
  | .inr (.inl x) => .long (Int64.ofInt x)
  | .inr (.inr (.inl x)) => .double x
  | .inr (.inr (.inr x)) => .float x
def zv_k : zv_V → Nat
  | .inl _ => 1
  | .inr (.inl _) => 2
  | .inr (.inr (.inl _)) => 2
  | .inr (.inr (.inr _)) => 1
theorem va_rf_cat (r : Option Nat) : (va_rf r).category = 1 := by cases r <;> rfl
theorem zv_cat (E : ze_E) (v : zv_V) : (zv_c E v).category = zv_k v := by
  rcases v with (x | r) | (x | (x | x)) <;> first | rfl | exact va_rf_cat _
def zv_fv (E : ze_E) (ty : FieldType) (z : Int) : Value := match ty with
  | .object _ => va_rf (zv_ro E z)
  | .array _ => va_rf (zv_ro E z)
  | .long => .long (Int64.ofInt z)
  | .double => .double (UInt64.ofNat z.toNat)
  | .float => .float (UInt32.ofNat z.toNat)
  | _ => .int (Int32.ofInt z)
def zv_of (ty : FieldType) (z : Int) : zv_V := match ty with
  | .object _ => zv_a z
  | .array _ => zv_a z
  | .long => zv_l z
  | .double => zv_d (UInt64.ofNat z.toNat)
  | .float => zv_f (UInt32.ofNat z.toNat)
  | _ => zv_i z
theorem zv_of_c (E : ze_E) (ty : FieldType) (z : Int) : zv_c E (zv_of ty z) = zv_fv E ty z := by cases ty <;> rfl
/-- memory: by object and place -/
abbrev zm_D : Type := Int → Int → Int
def zm_u (d : zm_D) (r j v : Int) : zm_D := fun a k => if a = r ∧ k = j then v else d a k
/-- what lies at an address: an object of a class, an array of a type and length -/
abbrev zk_K : Type := Option (Nat ⊕ (FieldType × Nat))
abbrev zk_S : Type := Int → zk_K
def zw_at (E : ze_E) (d : zm_D) (H : Heap) (r : Nat) : zk_K → Prop
  | none => True
  | some (.inl ci) => ∃ q, zk_cl[ci]? = some q ∧ t_OB (ze_o E + (r - 1)) ((ze_D E).1 ci) q.2.2 ((ze_D E).2 ci) H (fun j => zv_fv E (zk_ty ci j) (d r j))
  | some (.inr (ty, N)) => H[ze_o E + (r - 1)]? = some (arrV (ze_t E ty) N (fun j => zv_fv E ty (d r j))) ∧ ty ∈ zk_aty
def zw_H (E : ze_E) (n : Nat) (sh : zk_S) (d : zm_D) (H : Heap) : Prop := H.size = ze_o E + n ∧ ∀ r : Nat, 1 ≤ r → zw_at E d H r (sh r)
/-- what the tables say, wherever the machine stands -/
def zw_T (E : ze_E) (U : State) : Prop :=
  (∀ (c : Nat) (q : vw_C), zk_cl[c]? = some q → u_Kn U q.1 q.2.1 q.2.2 ((ze_D E).1 c) ((ze_D E).2 c)) ∧
  (∀ ty ∈ zk_aty, ArrOfT U (ze_t E ty) ty ∧ va_RA U (ze_t E ty) ty) ∧
  (∀ q ∈ zk_str, ∃ sa, vk_R q.1 q.2.1 q.2.2 sa U) ∧
  (∀ q ∈ zk_nc, va_Nc q.1 q.2 U)
theorem zw_T.moved {E : ze_E} {s U : State} (hW : s.WarmedH U.vm) (h : zw_T E s) : zw_T E U :=
  ⟨fun c q hq => u_Kn_moved hW.alike (h.1 c q hq), fun ty ht => ⟨arrOfT_moved hW.alike (h.2.1 ty ht).1, (h.2.1 ty ht).2.moved hW.alike⟩,
   fun q hq => by obtain ⟨sa, hs⟩ := h.2.2.1 q hq; exact ⟨sa, vk_R.warm hW hs⟩, fun q hq => va_Nc.moved hW.alike (h.2.2.2 q hq)⟩
/-- the script, and Throwable's two statics: below the base -/
def zw_X (E : ze_E) (U : State) (H : Heap) : Prop :=
  va_X (ze_b E) (ze_L E) (ze_x E) U H ∧ ze_b E < ze_o E ∧ ze_o E ≤ H.size ∧ vx_Zq Bundle.tN "UNASSIGNED_STACK" Bundle.steD (ze_A E) U H ∧ vx_Zq Bundle.tN "SUPPRESSED_SENTINEL" Bundle.listD (ze_A E) U H
theorem zw_X.moved {E : ze_E} {s U : State} {H : Heap} (hW : s.vm.Alike U.vm) (h : zw_X E s H) : zw_X E U H :=
  ⟨h.1.moved hW, h.2.1, h.2.2.1, h.2.2.2.1.moved hW, h.2.2.2.2.moved hW⟩
theorem zw_X.kept {E : ze_E} {s : State} {H0 H : Heap} {locs : List Loc} (hS : va_S (ze_A E) H0 H locs) (h : zw_X E s H0) : zw_X E s H :=
  ⟨h.1.kept (hS.2.1 _ (Nat.lt_of_lt_of_le h.2.1 h.2.2.1) (Nat.not_le.mpr h.2.1)), h.2.1, Nat.le_trans h.2.2.1 hS.1, h.2.2.2.1.kept hS.2.1, h.2.2.2.2.kept hS.2.1⟩
/-! ===== EV: locals, methods, the judgement ===== -/
theorem zn_beq {a b : Nat} (h : ¬ a = b) : Nat.beq a b = false := by
  cases hh : Nat.beq a b with
  | false => rfl
  | true => exact absurd (Nat.eq_of_beq_eq_true hh) h
theorem zn_beqs (a : Nat) : Nat.beq a a = true := Nat.beq_refl a
abbrev zl_L : Type := List (Nat × Option zv_V)
def zl_get : zl_L → Nat → Option zv_V
  | [], _ => none
  | (k, v) :: r, i => cond (Nat.beq k i) v (zl_get r i)
def zl_has (E : ze_E) (ls : Array Slot) (nL : Nat) (L : zl_L) : Prop := ls.size = nL ∧ lv_wf ls ∧ ∀ (i : Nat) (v : zv_V), zl_get L i = some v → ls[i]? = some (.val (zv_c E v))
def zl_lv (E : ze_E) (L : zl_L) : List (Nat × Value) := (L.map (·.1)).filterMap (fun i => (zl_get L i).map (fun v => (i, zv_c E v)))
theorem zl_key : ∀ {L : zl_L} {i : Nat} {v : zv_V}, zl_get L i = some v → i ∈ L.map (·.1)
  | [], _, _, h => by simp [zl_get] at h
  | (k, w) :: r, i, v, h => by
    by_cases e : k = i
    · subst e; simp
    · have hb : Nat.beq k i = false := zn_beq e
      simp only [zl_get, hb, cond_false] at h
      exact List.mem_cons_of_mem _ (zl_key h)
theorem zl_lv_mem {E : ze_E} {L : zl_L} {i : Nat} {v : zv_V} (h : zl_get L i = some v) : (i, zv_c E v) ∈ zl_lv E L :=
  List.mem_filterMap.mpr ⟨i, zl_key h, by simp [h]⟩
theorem zl_lv_has {E : ze_E} {ls : Array Slot} {nL : Nat} {L : zl_L} (h : zl_has E ls nL L) : lv_has ls nL (zl_lv E L) := by
  refine ⟨h.1, h.2.1, fun q hq => ?_⟩
  obtain ⟨i, -, hi⟩ := List.mem_filterMap.mp hq
  cases hg : zl_get L i with
  | none => rw [hg] at hi; cases hi
  | some v =>
    rw [hg] at hi
    cases hi
    exact h.2.2 i v hg
/-- nothing of two places ends at i -/
def zl_o (L : zl_L) : Nat → Bool
  | 0 => true
  | j + 1 => match zl_get L j with
    | some w => Nat.beq (zv_k w) 1
    | none => true
theorem zl_o_spec {L : zl_L} {i j : Nat} {w : zv_V} (ho : zl_o L i = true) (hj : j + 1 = i) (hw : zl_get L j = some w) : ¬ zv_k w = 2 := by
  subst hj
  simp only [zl_o, hw] at ho
  have := Nat.eq_of_beq_eq_true ho
  omega
theorem zl_store1 {E : ze_E} {ls' : Array Slot} {nL i : Nat} {L : zl_L} {v : zv_V} (ho : zl_o L i = true)
    (h' : lv_has ls' nL ((i, zv_c E v) :: (zl_lv E L).filter (fun q => !(q.1 == i) && !(q.1 + 1 == i && q.2.category == 2)))) : zl_has E ls' nL ((i, some v) :: L) := by
  refine ⟨h'.1, h'.2.1, fun j w hw => ?_⟩
  by_cases e : i = j
  · subst e
    have hb : Nat.beq i i = true := zn_beqs i
    simp only [zl_get, hb, cond_true] at hw
    cases hw
    exact h'.2.2 _ List.mem_cons_self
  · have hb : Nat.beq i j = false := zn_beq e
    simp only [zl_get, hb, cond_false] at hw
    refine h'.2.2 (j, zv_c E w) (List.mem_cons_of_mem _ (List.mem_filter.mpr ⟨zl_lv_mem hw, ?_⟩))
    have e2 : ¬ j = i := fun q => e q.symm
    by_cases e3 : j + 1 = i
    · have := zl_o_spec ho e3 hw
      rw [← zv_cat E] at this
      simp [e2, this]
    · simp [e2, e3]
theorem zl_store2 {E : ze_E} {ls' : Array Slot} {nL i : Nat} {L : zl_L} {v : zv_V} (ho : zl_o L i = true)
    (h' : lv_has ls' nL ((i, zv_c E v) :: (zl_lv E L).filter (fun q => !(q.1 == i) && (!(q.1 == i + 1) && !(q.1 + 1 == i && q.2.category == 2))))) : zl_has E ls' nL ((i, some v) :: (i + 1, none) :: L) := by
  refine ⟨h'.1, h'.2.1, fun j w hw => ?_⟩
  by_cases e : i = j
  · subst e
    have hb : Nat.beq i i = true := zn_beqs i
    simp only [zl_get, hb, cond_true] at hw
    cases hw
    exact h'.2.2 _ List.mem_cons_self
  · have hb : Nat.beq i j = false := zn_beq e
    simp only [zl_get, hb, cond_false] at hw
    by_cases e1 : i + 1 = j
    · have hb1 : Nat.beq (i + 1) j = true := by rw [e1]; exact zn_beqs j
      simp only [hb1, cond_true] at hw
      cases hw
    · have hb1 : Nat.beq (i + 1) j = false := zn_beq e1
      simp only [hb1, cond_false] at hw
      refine h'.2.2 (j, zv_c E w) (List.mem_cons_of_mem _ (List.mem_filter.mpr ⟨zl_lv_mem hw, ?_⟩))
      have e2 : ¬ j = i := fun q => e q.symm
      have e4 : ¬ j = i + 1 := fun q => e1 q.symm
      by_cases e3 : j + 1 = i
      · have := zl_o_spec ho e3 hw
        rw [← zv_cat E] at this
        simp [e2, e4, this]
      · simp [e2, e3, e4]
/-- fewer locals -/
def zl_sub (L : zl_L) : zl_L → Prop
  | [] => True
  | (i, v) :: r => (match v with | none => True | some w => zl_get L i = some w) ∧ zl_sub L r
theorem zl_sub_get {L : zl_L} : ∀ {L' : zl_L}, zl_sub L L' → ∀ {i : Nat} {v : zv_V}, zl_get L' i = some v → zl_get L i = some v
  | [], _, i, v, h => by simp [zl_get] at h
  | (k, w) :: r, hs, i, v, h => by
    by_cases e : k = i
    · subst e
      have hb : Nat.beq k k = true := zn_beqs k
      simp only [zl_get, hb, cond_true] at h
      subst h
      exact hs.1
    · have hb : Nat.beq k i = false := zn_beq e
      simp only [zl_get, hb, cond_false] at h
      exact zl_sub_get hs.2 h
theorem zl_sub_has {E : ze_E} {ls : Array Slot} {nL : Nat} {L L' : zl_L} (h : zl_has E ls nL L) (hs : zl_sub L L') : zl_has E ls nL L' :=
  ⟨h.1, h.2.1, fun _ _ hv => h.2.2 _ _ (zl_sub_get hs hv)⟩
def zl_args : Nat → List zv_V → zl_L
  | _, [] => []
  | i, v :: vs => (i, some v) :: zl_args (if zv_k v = 2 then i + 2 else i + 1) vs
theorem zl_args_lv (E : ze_E) : ∀ (vs : List zv_V) (i j : Nat) (v : zv_V), zl_get (zl_args i vs) j = some v → (j, zv_c E v) ∈ lv_args i (vs.map (zv_c E))
  | [], _, _, _, h => by simp [zl_args, zl_get] at h
  | w :: vs, i, j, v, h => by
    by_cases e : i = j
    · subst e
      have hb : Nat.beq i i = true := zn_beqs i
      simp only [zl_args, zl_get, hb, cond_true] at h
      cases h
      exact List.mem_cons_self
    · have hb : Nat.beq i j = false := zn_beq e
      simp only [zl_args, zl_get, hb, cond_false] at h
      simp only [List.map_cons, lv_args]
      rw [zv_cat]
      exact List.mem_cons_of_mem _ (zl_args_lv E vs _ j v h)
/-- a method: name, bytes, locals, answer, table -/
abbrev zm_M : Type := MethodName × (ByteArray × (Nat × (Option FieldType × List (Nat × Nat × Nat × Nat))))
def zm_y (M : zm_M) : MethodName := M.1
def zm_c (M : zm_M) : ByteArray := M.2.1
def zm_n (M : zm_M) : Nat := M.2.2.1
def zm_r (M : zm_M) : Option FieldType := M.2.2.2.1
def zm_h (M : zm_M) : List (Nat × Nat × Nat × Nat) := M.2.2.2.2
def zm_o (M : zm_M) : String := M.1.cls
def zm_cw (M : zm_M) : Cond := match zm_h M with
  | [] => .code (zm_y M) (zm_c M) (zm_n M) (zm_r M)
  | h :: t => .codeWith (zm_y M) (zm_c M) (zm_n M) (zm_r M) (h :: t)
def zm_w (M : zm_M) : List Cond := zm_cw M :: lw_g
abbrev ev_Q : Type := (Option zv_V ⊕ String) → Nat → zk_S → zm_D → Prop
def ev_C (E : ze_E) (M : zm_M) (p : Program) (s : State) (m : MethodId) (args : Array Value) (meth : Method) (c : Code) : Prop :=
  p.tables.exec = Jvm.exec ∧ c.code = zm_c M ∧ meth.sig.returnType = zm_r M ∧ c.maxLocals = zm_n M ∧ s.vm.findClass (zm_o M) = some m.cls ∧ (∀ w ∈ lw_g, w.before args s = true) ∧ meth.locks = false ∧ c.exceptionTable.toList = tableOf (zm_h M) ∧ meth.name = (zm_y M).name ∧ zw_T E s ∧ zw_X E s s.heap
def ev_Qc (E : ze_E) (Q : ev_Q) : Array Value → State → Outcome → State → Prop := fun _ st o t =>
  (∃ (v : Option zv_V) (n : Nat) (sh : zk_S) (d : zm_D), o = .returned (v.map (zv_c E)) ∧ Q (.inl v) n sh d ∧ zw_H E n sh d t.heap) ∧ va_F (ze_A E) st t
def ev_XC (E : ze_E) (Q : ev_Q) : String → State → State → Prop := fun x st t => ∃ (n : Nat) (sh : zk_S) (d : zm_D), Q (.inr x) n sh d ∧ zw_H E n sh d t.heap ∧ va_F (ze_A E) st t
def ev_X (E : ze_E) (M : zm_M) (D n : Nat) (sh : zk_S) (d : zm_D) (kc ks : Nat) (L : zl_L) (p : Program) (R : Room) (s : State) (m : MethodId) (args : Array Value) (meth : Method) (c : Code) (H : Heap) (locs : List Loc) (cells slots mc ms : Nat) (ls : Array Slot) : Prop :=
  ev_C E M p s m args meth c ∧ zw_H E n sh d H ∧ va_S (ze_A E) s.heap H locs ∧ zl_has E ls (zm_n M) L ∧ (D ≤ R.frames ∧ 64 * D ≤ R.locals ∧ cells + kc ≤ mc ∧ slots + ks ≤ ms ∧ mc ≤ R.cells ∧ ms ≤ R.slots)
/-- from here the method comes to an end with Q -/
def ev (E : ze_E) (l : Launch) (M : zm_M) (D n : Nat) (sh : zk_S) (d : zm_D) (kc ks : Nat) (pc : Nat) (L : zl_L) (st : List zv_V) (Q : ev_Q) : Prop :=
  ∀ (p : Program) (e : Env) (R : Room) (s : State) (m : MethodId) (args : Array Value) (below : List Frame) (meth : Method) (c : Code) (H : Heap) (locs : List Loc) (cells slots mc ms : Nat) (ls : Array Slot),
    ev_X E M D n sh d kc ks L p R s m args meth c H locs cells slots mc ms ls →
    W p l e R s m args below meth c H locs cells slots (vx_MQ below (ev_Qc E Q) (ev_XC E Q) args s mc ms (ze_A E)) (F0 m pc ls (st.map (zv_c E)))
def mt_P (E : ze_E) (n : Nat) (sh : zk_S) (d : zm_D) (As : List zv_V) : Array Value → State → Prop := fun v U => v = (As.map (zv_c E)).toArray ∧ zw_H E n sh d U.heap ∧ zw_T E U ∧ zw_X E U U.heap
/-- a method's contract -/
def mt (E : ze_E) (l : Launch) (M : zm_M) (D kc ks n : Nat) (sh : zk_S) (d : zm_D) (As : List zv_V) (Q : ev_Q) : Prop :=
  vx_Met l (zm_y M) (zm_w M) ({ frames := D, cells := kc, slots := ks, locals := 64 * D } : Room) (mt_P E n sh d As) (ev_Qc E Q) (ev_XC E Q) kc ks (ze_A E)
/-! ===== EV: one instruction ===== -/
def zi (x : Int) : Prop := -2147483648 ≤ x ∧ x ≤ 2147483647
def zj (x : Int) : Prop := -9223372036854775808 ≤ x ∧ x ≤ 9223372036854775807
theorem zi_t {x : Int} (h : zi x) : (Int32.ofInt x).toInt = x := by
  have hz : ((Int32.size : Nat) : Int) = 4294967296 := rfl
  rw [Int32.toInt_ofInt]
  exact Int.bmod_eq_of_le (by have := h.1; omega) (by have := h.2; omega)
theorem zj_t {x : Int} (h : zj x) : (Int64.ofInt x).toInt = x := by
  have hz : ((Int64.size : Nat) : Int) = 18446744073709551616 := rfl
  rw [Int64.toInt_ofInt]
  exact Int.bmod_eq_of_le (by have := h.1; omega) (by have := h.2; omega)
theorem zi_lt {x y : Int} (hx : zi x) (hy : zi y) : Int32.ofInt x < Int32.ofInt y ↔ x < y := by rw [Int32.lt_iff_toInt_lt, zi_t hx, zi_t hy]
theorem zi_le {x y : Int} (hx : zi x) (hy : zi y) : Int32.ofInt x ≤ Int32.ofInt y ↔ x ≤ y := by rw [Int32.le_iff_toInt_le, zi_t hx, zi_t hy]
theorem zi_eq {x y : Int} (hx : zi x) (hy : zi y) : Int32.ofInt x = Int32.ofInt y ↔ x = y := by rw [← Int32.toInt_inj, zi_t hx, zi_t hy]
theorem zi_0 : zi 0 := by unfold zi; omega
theorem zi_ofInt (a : Int32) : Int32.ofInt a.toInt = a := Int32.ofInt_toInt a
theorem zj_ofInt (a : Int64) : Int64.ofInt a.toInt = a := Int64.ofInt_toInt a
theorem zi_l {x : Int} (h : zi x) : (Int32.ofInt x).toInt64 = Int64.ofInt x := by
  rw [← Int64.toInt_inj, Int32.toInt_toInt64, zi_t h, zj_t ⟨by have := h.1; omega, by have := h.2; omega⟩]
theorem zj_i (x : Int) : (Int64.ofInt x).toInt32 = Int32.ofInt x := by
  rw [← Int32.toInt_inj, Int64.toInt_toInt32, Int64.toInt_ofInt, Int32.toInt_ofInt]
  exact Int.bmod_bmod_of_dvd (by decide)
theorem zi_div {x y : Int} (hx : zi x) (hy : zi y) : Int32.ofInt x / Int32.ofInt y = Int32.ofInt (x.tdiv y) := by
  rw [← Int32.toInt_inj, Int32.toInt_div, zi_t hx, zi_t hy, Int32.toInt_ofInt]
theorem zi_rem {x y : Int} (hx : zi x) (hy : zi y) : Int32.ofInt x - Int32.ofInt x / Int32.ofInt y * Int32.ofInt y = Int32.ofInt (x.tmod y) := by
  rw [zi_div hx hy, ← Int32.ofInt_mul, ← Int32.ofInt_sub]
  congr 1
  rw [Int.tmod_def, Int.mul_comm]
theorem zj_div {x y : Int} (hx : zj x) (hy : zj y) : Int64.ofInt x / Int64.ofInt y = Int64.ofInt (x.tdiv y) := by
  rw [← Int64.toInt_inj, Int64.toInt_div, zj_t hx, zj_t hy, Int64.toInt_ofInt]
theorem zj_rem {x y : Int} (hx : zj x) (hy : zj y) : Int64.ofInt x - Int64.ofInt x / Int64.ofInt y * Int64.ofInt y = Int64.ofInt (x.tmod y) := by
  rw [zj_div hx hy, ← Int64.ofInt_mul, ← Int64.ofInt_sub]
  congr 1
  rw [Int.tmod_def, Int.mul_comm]
theorem zi_ne0 {y : Int} (hy : zi y) (h : y ≠ 0) : ¬ Int32.ofInt y = 0 := fun q => h ((zi_eq hy zi_0).mp q)
theorem zj_ne0 {y : Int} (hy : zj y) (h : y ≠ 0) : ¬ Int64.ofInt y = 0 := by
  intro q
  have h2 := congrArg Int64.toInt q
  rw [zj_t hy] at h2
  exact h h2
def zb_and (x y : Int) : Int := (Int32.ofInt x &&& Int32.ofInt y).toInt
def zb_or (x y : Int) : Int := (Int32.ofInt x ||| Int32.ofInt y).toInt
def zb_xor (x y : Int) : Int := (Int32.ofInt x ^^^ Int32.ofInt y).toInt
def zb_shl (x y : Int) : Int := (Int32.ofInt x <<< (Int32.ofInt y &&& 31)).toInt
def zb_shr (x y : Int) : Int := (Int32.ofInt x >>> (Int32.ofInt y &&& 31)).toInt
def zb_ushr (x y : Int) : Int := ((Int32.ofInt x).toUInt32 >>> ((Int32.ofInt y).toUInt32 &&& Int32.toUInt32 31)).toInt32.toInt
def zb_cmp (x y : Int) : Int := (lg_cmp (Int64.ofInt x) (Int64.ofInt y)).toInt
section EV3
variable {E : ze_E} {l : Launch} {M : zm_M} {D n : Nat} {sh : zk_S} {d : zm_D} {kc ks pc : Nat} {L : zl_L} {st : List zv_V} {Q : ev_Q}
theorem ev_X.loc {L' : zl_L} {p : Program} {R : Room} {s : State} {m : MethodId} {args : Array Value} {meth : Method} {c : Code} {H : Heap} {locs : List Loc} {cells slots mc ms : Nat} {ls ls' : Array Slot} (X : ev_X E M D n sh d kc ks L p R s m args meth c H locs cells slots mc ms ls) (h : zl_has E ls' (zm_n M) L') : ev_X E M D n sh d kc ks L' p R s m args meth c H locs cells slots mc ms ls' := ⟨X.1, X.2.1, X.2.2.1, h, X.2.2.2.2⟩
theorem ev_sub {L' : zl_L} (h : zl_sub L L') (kk : ev E l M D n sh d kc ks pc L' st Q) : ev E l M D n sh d kc ks pc L st Q := by
  intro p e R s m args below meth c H locs cells slots mc ms ls X
  exact kk p e R s m args below meth c H locs cells slots mc ms ls (X.loc (zl_sub_has X.2.2.2.1 h))

theorem ev_iconst {k : Int} (hd : decode (zm_c M) pc = .ok (.iconst k, 1)) (kk : ev E l M D n sh d kc ks (pc + 1) L (zv_i k :: st) Q) : ev E l M D n sh d kc ks pc L (st) Q := by
  intro p e R s m args below meth c H locs cells slots mc ms ls X
  exact lv_iconst X.1.1 X.1.2.1 hd rfl (kk p e R s m args below meth c H locs cells slots mc ms ls X)
theorem ev_bipush {k : Int} (hd : decode (zm_c M) pc = .ok (.bipush k, 2)) (hk : (Int8.ofInt k).toInt32 = Int32.ofInt k) (kk : ev E l M D n sh d kc ks (pc + 2) L (zv_i k :: st) Q) : ev E l M D n sh d kc ks pc L (st) Q := by
  intro p e R s m args below meth c H locs cells slots mc ms ls X
  exact lv_bipush X.1.1 X.1.2.1 hd hk (kk p e R s m args below meth c H locs cells slots mc ms ls X)
theorem ev_sipush {k : Int} (hd : decode (zm_c M) pc = .ok (.sipush k, 3)) (hk : (Int16.ofInt k).toInt32 = Int32.ofInt k) (kk : ev E l M D n sh d kc ks (pc + 3) L (zv_i k :: st) Q) : ev E l M D n sh d kc ks pc L (st) Q := by
  intro p e R s m args below meth c H locs cells slots mc ms ls X
  exact lv_sipush X.1.1 X.1.2.1 hd hk (kk p e R s m args below meth c H locs cells slots mc ms ls X)
theorem ev_lconst {k : Fin 2} {z : Int} (hd : decode (zm_c M) pc = .ok (.lconst k, 1)) (hk : Int64.ofNat (k : Nat) = Int64.ofInt z) (kk : ev E l M D n sh d kc ks (pc + 1) L (zv_l z :: st) Q) : ev E l M D n sh d kc ks pc L (st) Q := by
  intro p e R s m args below meth c H locs cells slots mc ms ls X
  exact lv_lconst X.1.1 X.1.2.1 hd hk (kk p e R s m args below meth c H locs cells slots mc ms ls X)
theorem ev_fconst0 (hd : decode (zm_c M) pc = .ok (.fconst 0, 1)) (kk : ev E l M D n sh d kc ks (pc + 1) L (zv_f FP.fconst0 :: st) Q) : ev E l M D n sh d kc ks pc L (st) Q := by
  intro p e R s m args below meth c H locs cells slots mc ms ls X
  exact lv_fconst0 X.1.1 X.1.2.1 hd (kk p e R s m args below meth c H locs cells slots mc ms ls X)
theorem ev_fconst1 (hd : decode (zm_c M) pc = .ok (.fconst 1, 1)) (kk : ev E l M D n sh d kc ks (pc + 1) L (zv_f FP.fconst1 :: st) Q) : ev E l M D n sh d kc ks pc L (st) Q := by
  intro p e R s m args below meth c H locs cells slots mc ms ls X
  exact lv_fconst1 X.1.1 X.1.2.1 hd (kk p e R s m args below meth c H locs cells slots mc ms ls X)
theorem ev_dconst0 (hd : decode (zm_c M) pc = .ok (.dconst 0, 1)) (kk : ev E l M D n sh d kc ks (pc + 1) L (zv_d FP.dconst0 :: st) Q) : ev E l M D n sh d kc ks pc L (st) Q := by
  intro p e R s m args below meth c H locs cells slots mc ms ls X
  exact lv_dconst0 X.1.1 X.1.2.1 hd (kk p e R s m args below meth c H locs cells slots mc ms ls X)
theorem ev_dconst1 (hd : decode (zm_c M) pc = .ok (.dconst 1, 1)) (kk : ev E l M D n sh d kc ks (pc + 1) L (zv_d FP.dconst1 :: st) Q) : ev E l M D n sh d kc ks pc L (st) Q := by
  intro p e R s m args below meth c H locs cells slots mc ms ls X
  exact lv_dconst1 X.1.1 X.1.2.1 hd (kk p e R s m args below meth c H locs cells slots mc ms ls X)
theorem ev_fconst2 (hd : decode (zm_c M) pc = .ok (.fconst 2, 1)) (kk : ev E l M D n sh d kc ks (pc + 1) L (zv_f FP.fconst2 :: st) Q) : ev E l M D n sh d kc ks pc L (st) Q := by
  intro p e R s m args below meth c H locs cells slots mc ms ls X
  exact lv_fconst2 X.1.1 X.1.2.1 hd (kk p e R s m args below meth c H locs cells slots mc ms ls X)
theorem lv_null9 {p : Program} {l : Launch} {e : Env} {R : Room} {s : State} {m : MethodId} {args : Array Value} {below : List Frame} {meth : Method} {c : Code} {H : Heap} {locs : List Loc} {cells slots : Nat} {Q : State → Prop} {cc : ByteArray} {pc : Nat} {ls : Array Slot} {rest : List Value} (hexec : p.tables.exec = Jvm.exec) (hb : c.code = cc) (hdg : decode cc pc = .ok (.aconst_null, 1)) (k : W p l e R s m args below meth c H locs cells slots Q (F0 m (pc + 1) ls (va_rf none :: rest))) : W p l e R s m args below meth c H locs cells slots Q (F0 m pc ls rest) := lv_null hexec hb hdg k
theorem ev_null (hd : decode (zm_c M) pc = .ok (.aconst_null, 1)) (kk : ev E l M D n sh d kc ks (pc + 1) L (zv_a 0 :: st) Q) : ev E l M D n sh d kc ks pc L (st) Q := by
  intro p e R s m args below meth c H locs cells slots mc ms ls X
  exact lv_null9 X.1.1 X.1.2.1 hd (kk p e R s m args below meth c H locs cells slots mc ms ls X)
theorem ev_ldc {index : Nat} {z : Int} (hd : decode (zm_c M) pc = .ok (.ldc index, 2)) (hw : Cond.constant (zm_o M) index (Int32.ofInt z) ∈ lw_g) (kk : ev E l M D n sh d kc ks (pc + 2) L (zv_i z :: st) Q) : ev E l M D n sh d kc ks pc L (st) Q := by
  intro p e R s m args below meth c H locs cells slots mc ms ls X
  exact lv_ldc X.1.1 X.1.2.1 X.1.2.2.2.2.1 (X.1.2.2.2.2.2.1 _ hw) hd (kk p e R s m args below meth c H locs cells slots mc ms ls X)
theorem ev_ldcw {index : Nat} {z : Int} (hd : decode (zm_c M) pc = .ok (.ldc_w index, 3)) (hw : Cond.constant (zm_o M) index (Int32.ofInt z) ∈ lw_g) (kk : ev E l M D n sh d kc ks (pc + 3) L (zv_i z :: st) Q) : ev E l M D n sh d kc ks pc L (st) Q := by
  intro p e R s m args below meth c H locs cells slots mc ms ls X
  exact lv_ldcw X.1.1 X.1.2.1 X.1.2.2.2.2.1 (X.1.2.2.2.2.2.1 _ hw) hd (kk p e R s m args below meth c H locs cells slots mc ms ls X)
theorem ev_ldc2 {index : Nat} {z : Int} (hd : decode (zm_c M) pc = .ok (.ldc2_w index, 3)) (hw : Cond.constantLong (zm_o M) index (Int64.ofInt z) ∈ lw_g) (kk : ev E l M D n sh d kc ks (pc + 3) L (zv_l z :: st) Q) : ev E l M D n sh d kc ks pc L (st) Q := by
  intro p e R s m args below meth c H locs cells slots mc ms ls X
  exact lv_ldc2 X.1.1 X.1.2.1 X.1.2.2.2.2.1 (X.1.2.2.2.2.2.1 _ hw) hd (kk p e R s m args below meth c H locs cells slots mc ms ls X)
theorem ev_ldcf {index : Nat} {z : UInt32} (hd : decode (zm_c M) pc = .ok (.ldc index, 2)) (hw : Cond.constantFloat (zm_o M) index z ∈ lw_g) (kk : ev E l M D n sh d kc ks (pc + 2) L (zv_f z :: st) Q) : ev E l M D n sh d kc ks pc L (st) Q := by
  intro p e R s m args below meth c H locs cells slots mc ms ls X
  exact lv_ldcf X.1.1 X.1.2.1 X.1.2.2.2.2.1 (X.1.2.2.2.2.2.1 _ hw) hd (kk p e R s m args below meth c H locs cells slots mc ms ls X)
theorem ev_ldc2d {index : Nat} {z : UInt64} (hd : decode (zm_c M) pc = .ok (.ldc2_w index, 3)) (hw : Cond.constantDouble (zm_o M) index z ∈ lw_g) (kk : ev E l M D n sh d kc ks (pc + 3) L (zv_d z :: st) Q) : ev E l M D n sh d kc ks pc L (st) Q := by
  intro p e R s m args below meth c H locs cells slots mc ms ls X
  exact lv_ldc2d X.1.1 X.1.2.1 X.1.2.2.2.2.1 (X.1.2.2.2.2.2.1 _ hw) hd (kk p e R s m args below meth c H locs cells slots mc ms ls X)
theorem ev_iload_n {k : Fin 4} {x : Int} (hd : decode (zm_c M) pc = .ok (.iload_n k, 1)) (hl : zl_get L (k : Nat) = some (zv_i x)) (kk : ev E l M D n sh d kc ks (pc + 1) L (zv_i x :: st) Q) : ev E l M D n sh d kc ks pc L (st) Q := by
  intro p e R s m args below meth c H locs cells slots mc ms ls X
  exact lv_iload_n X.1.1 X.1.2.1 hd rfl (X.2.2.2.1.2.2 _ _ hl) (kk p e R s m args below meth c H locs cells slots mc ms ls X)
theorem ev_iload {i : Nat} {x : Int} (hd : decode (zm_c M) pc = .ok (.iload i, 2)) (hl : zl_get L i = some (zv_i x)) (kk : ev E l M D n sh d kc ks (pc + 2) L (zv_i x :: st) Q) : ev E l M D n sh d kc ks pc L (st) Q := by
  intro p e R s m args below meth c H locs cells slots mc ms ls X
  exact lv_iload X.1.1 X.1.2.1 hd (X.2.2.2.1.2.2 _ _ hl) (kk p e R s m args below meth c H locs cells slots mc ms ls X)
theorem ev_lload_n {k : Fin 4} {x : Int} (hd : decode (zm_c M) pc = .ok (.lload_n k, 1)) (hl : zl_get L (k : Nat) = some (zv_l x)) (kk : ev E l M D n sh d kc ks (pc + 1) L (zv_l x :: st) Q) : ev E l M D n sh d kc ks pc L (st) Q := by
  intro p e R s m args below meth c H locs cells slots mc ms ls X
  exact lv_lload_n X.1.1 X.1.2.1 hd rfl (X.2.2.2.1.2.2 _ _ hl) (kk p e R s m args below meth c H locs cells slots mc ms ls X)
theorem ev_lload {i : Nat} {x : Int} (hd : decode (zm_c M) pc = .ok (.lload i, 2)) (hl : zl_get L i = some (zv_l x)) (kk : ev E l M D n sh d kc ks (pc + 2) L (zv_l x :: st) Q) : ev E l M D n sh d kc ks pc L (st) Q := by
  intro p e R s m args below meth c H locs cells slots mc ms ls X
  exact lv_lload X.1.1 X.1.2.1 hd (X.2.2.2.1.2.2 _ _ hl) (kk p e R s m args below meth c H locs cells slots mc ms ls X)
theorem ev_dload_n {k : Fin 4} {x : UInt64} (hd : decode (zm_c M) pc = .ok (.dload_n k, 1)) (hl : zl_get L (k : Nat) = some (zv_d x)) (kk : ev E l M D n sh d kc ks (pc + 1) L (zv_d x :: st) Q) : ev E l M D n sh d kc ks pc L (st) Q := by
  intro p e R s m args below meth c H locs cells slots mc ms ls X
  exact lv_dload_n X.1.1 X.1.2.1 hd rfl (X.2.2.2.1.2.2 _ _ hl) (kk p e R s m args below meth c H locs cells slots mc ms ls X)
theorem ev_dload {i : Nat} {x : UInt64} (hd : decode (zm_c M) pc = .ok (.dload i, 2)) (hl : zl_get L i = some (zv_d x)) (kk : ev E l M D n sh d kc ks (pc + 2) L (zv_d x :: st) Q) : ev E l M D n sh d kc ks pc L (st) Q := by
  intro p e R s m args below meth c H locs cells slots mc ms ls X
  exact lv_dload X.1.1 X.1.2.1 hd (X.2.2.2.1.2.2 _ _ hl) (kk p e R s m args below meth c H locs cells slots mc ms ls X)
theorem ev_fload_n {k : Fin 4} {x : UInt32} (hd : decode (zm_c M) pc = .ok (.fload_n k, 1)) (hl : zl_get L (k : Nat) = some (zv_f x)) (kk : ev E l M D n sh d kc ks (pc + 1) L (zv_f x :: st) Q) : ev E l M D n sh d kc ks pc L (st) Q := by
  intro p e R s m args below meth c H locs cells slots mc ms ls X
  exact lv_fload_n X.1.1 X.1.2.1 hd rfl (X.2.2.2.1.2.2 _ _ hl) (kk p e R s m args below meth c H locs cells slots mc ms ls X)
theorem ev_fload {i : Nat} {x : UInt32} (hd : decode (zm_c M) pc = .ok (.fload i, 2)) (hl : zl_get L i = some (zv_f x)) (kk : ev E l M D n sh d kc ks (pc + 2) L (zv_f x :: st) Q) : ev E l M D n sh d kc ks pc L (st) Q := by
  intro p e R s m args below meth c H locs cells slots mc ms ls X
  exact lv_fload X.1.1 X.1.2.1 hd (X.2.2.2.1.2.2 _ _ hl) (kk p e R s m args below meth c H locs cells slots mc ms ls X)
theorem ev_aload_n {k : Fin 4} {x : Int} (hd : decode (zm_c M) pc = .ok (.aload_n k, 1)) (hl : zl_get L (k : Nat) = some (zv_a x)) (kk : ev E l M D n sh d kc ks (pc + 1) L (zv_a x :: st) Q) : ev E l M D n sh d kc ks pc L st Q := by
  intro p e R s m args below meth c H locs cells slots mc ms ls X
  have h := X.2.2.2.1.2.2 _ _ hl
  have k2 := kk p e R s m args below meth c H locs cells slots mc ms ls X
  simp only [List.map_cons, zv_c] at k2 h
  cases hr : zv_ro E x with
  | none => rw [hr] at h k2; exact lv_aload_nN X.1.1 X.1.2.1 hd rfl h k2
  | some a => rw [hr] at h k2; exact lv_aload_n X.1.1 X.1.2.1 hd rfl h k2
theorem ev_aload {i : Nat} {x : Int} (hd : decode (zm_c M) pc = .ok (.aload i, 2)) (hl : zl_get L i = some (zv_a x)) (kk : ev E l M D n sh d kc ks (pc + 2) L (zv_a x :: st) Q) : ev E l M D n sh d kc ks pc L st Q := by
  intro p e R s m args below meth c H locs cells slots mc ms ls X
  have h := X.2.2.2.1.2.2 _ _ hl
  have k2 := kk p e R s m args below meth c H locs cells slots mc ms ls X
  simp only [List.map_cons, zv_c] at k2 h
  cases hr : zv_ro E x with
  | none => rw [hr] at h k2; exact lv_aloadN X.1.1 X.1.2.1 hd h k2
  | some a => rw [hr] at h k2; exact lv_aload X.1.1 X.1.2.1 hd h k2
theorem ev_istore_n {k : Fin 4} {x : Int} (hd : decode (zm_c M) pc = .ok (.istore_n k, 1)) (hn : (k : Nat) < zm_n M) (ho : zl_o L (k : Nat) = true) (kk : ev E l M D n sh d kc ks (pc + 1) (((k : Nat), some (zv_i x)) :: L) st Q) : ev E l M D n sh d kc ks pc L (zv_i x :: st) Q := by
  intro p e R s m args below meth c H locs cells slots mc ms ls X
  exact lv_istore_n X.1.1 X.1.2.1 hd rfl (zl_lv_has X.2.2.2.1) hn rfl (fun ls' h => kk p e R s m args below meth c H locs cells slots mc ms ls' (X.loc (zl_store1 (v := zv_i x) ho h)))
theorem ev_istore {i : Nat} {x : Int} (hd : decode (zm_c M) pc = .ok (.istore i, 2)) (hn : i < zm_n M) (ho : zl_o L i = true) (kk : ev E l M D n sh d kc ks (pc + 2) ((i, some (zv_i x)) :: L) st Q) : ev E l M D n sh d kc ks pc L (zv_i x :: st) Q := by
  intro p e R s m args below meth c H locs cells slots mc ms ls X
  exact lv_istore X.1.1 X.1.2.1 hd (zl_lv_has X.2.2.2.1) hn rfl (fun ls' h => kk p e R s m args below meth c H locs cells slots mc ms ls' (X.loc (zl_store1 (v := zv_i x) ho h)))
theorem ev_lstore_n {k : Fin 4} {x : Int} (hd : decode (zm_c M) pc = .ok (.lstore_n k, 1)) (hn : (k : Nat) + 1 < zm_n M) (ho : zl_o L (k : Nat) = true) (kk : ev E l M D n sh d kc ks (pc + 1) (((k : Nat), some (zv_l x)) :: ((k : Nat) + 1, none) :: L) st Q) : ev E l M D n sh d kc ks pc L (zv_l x :: st) Q := by
  intro p e R s m args below meth c H locs cells slots mc ms ls X
  exact lv_lstore_n X.1.1 X.1.2.1 hd rfl (zl_lv_has X.2.2.2.1) hn rfl (fun ls' h => kk p e R s m args below meth c H locs cells slots mc ms ls' (X.loc (zl_store2 (v := zv_l x) ho h)))
theorem ev_lstore {i : Nat} {x : Int} (hd : decode (zm_c M) pc = .ok (.lstore i, 2)) (hn : i + 1 < zm_n M) (ho : zl_o L i = true) (kk : ev E l M D n sh d kc ks (pc + 2) ((i, some (zv_l x)) :: (i + 1, none) :: L) st Q) : ev E l M D n sh d kc ks pc L (zv_l x :: st) Q := by
  intro p e R s m args below meth c H locs cells slots mc ms ls X
  exact lv_lstore X.1.1 X.1.2.1 hd (zl_lv_has X.2.2.2.1) hn rfl (fun ls' h => kk p e R s m args below meth c H locs cells slots mc ms ls' (X.loc (zl_store2 (v := zv_l x) ho h)))
theorem ev_dstore_n {k : Fin 4} {x : UInt64} (hd : decode (zm_c M) pc = .ok (.dstore_n k, 1)) (hn : (k : Nat) + 1 < zm_n M) (ho : zl_o L (k : Nat) = true) (kk : ev E l M D n sh d kc ks (pc + 1) (((k : Nat), some (zv_d x)) :: ((k : Nat) + 1, none) :: L) st Q) : ev E l M D n sh d kc ks pc L (zv_d x :: st) Q := by
  intro p e R s m args below meth c H locs cells slots mc ms ls X
  exact lv_dstore_n X.1.1 X.1.2.1 hd rfl (zl_lv_has X.2.2.2.1) hn rfl (fun ls' h => kk p e R s m args below meth c H locs cells slots mc ms ls' (X.loc (zl_store2 (v := zv_d x) ho h)))
theorem ev_dstore {i : Nat} {x : UInt64} (hd : decode (zm_c M) pc = .ok (.dstore i, 2)) (hn : i + 1 < zm_n M) (ho : zl_o L i = true) (kk : ev E l M D n sh d kc ks (pc + 2) ((i, some (zv_d x)) :: (i + 1, none) :: L) st Q) : ev E l M D n sh d kc ks pc L (zv_d x :: st) Q := by
  intro p e R s m args below meth c H locs cells slots mc ms ls X
  exact lv_dstore X.1.1 X.1.2.1 hd (zl_lv_has X.2.2.2.1) hn rfl (fun ls' h => kk p e R s m args below meth c H locs cells slots mc ms ls' (X.loc (zl_store2 (v := zv_d x) ho h)))
theorem ev_fstore_n {k : Fin 4} {x : UInt32} (hd : decode (zm_c M) pc = .ok (.fstore_n k, 1)) (hn : (k : Nat) < zm_n M) (ho : zl_o L (k : Nat) = true) (kk : ev E l M D n sh d kc ks (pc + 1) (((k : Nat), some (zv_f x)) :: L) st Q) : ev E l M D n sh d kc ks pc L (zv_f x :: st) Q := by
  intro p e R s m args below meth c H locs cells slots mc ms ls X
  exact lv_fstore_n X.1.1 X.1.2.1 hd rfl (zl_lv_has X.2.2.2.1) hn rfl (fun ls' h => kk p e R s m args below meth c H locs cells slots mc ms ls' (X.loc (zl_store1 (v := zv_f x) ho h)))
theorem ev_fstore {i : Nat} {x : UInt32} (hd : decode (zm_c M) pc = .ok (.fstore i, 2)) (hn : i < zm_n M) (ho : zl_o L i = true) (kk : ev E l M D n sh d kc ks (pc + 2) ((i, some (zv_f x)) :: L) st Q) : ev E l M D n sh d kc ks pc L (zv_f x :: st) Q := by
  intro p e R s m args below meth c H locs cells slots mc ms ls X
  exact lv_fstore X.1.1 X.1.2.1 hd (zl_lv_has X.2.2.2.1) hn rfl (fun ls' h => kk p e R s m args below meth c H locs cells slots mc ms ls' (X.loc (zl_store1 (v := zv_f x) ho h)))
theorem ev_astore_n {k : Fin 4} {x : Int} (hd : decode (zm_c M) pc = .ok (.astore_n k, 1)) (hn : (k : Nat) < zm_n M) (ho : zl_o L (k : Nat) = true) (kk : ev E l M D n sh d kc ks (pc + 1) (((k : Nat), some (zv_a x)) :: L) st Q) : ev E l M D n sh d kc ks pc L (zv_a x :: st) Q := by
  intro p e R s m args below meth c H locs cells slots mc ms ls X
  have k2 := fun ls' h => kk p e R s m args below meth c H locs cells slots mc ms ls' (X.loc (zl_store1 (v := zv_a x) ho h))
  simp only [List.map_cons, zv_c] at k2 ⊢
  cases hr : zv_ro E x with
  | none => rw [hr] at k2; exact lv_astore_nN X.1.1 X.1.2.1 hd rfl (zl_lv_has X.2.2.2.1) hn rfl k2
  | some a => rw [hr] at k2; exact lv_astore_n X.1.1 X.1.2.1 hd rfl (zl_lv_has X.2.2.2.1) hn rfl k2
theorem ev_astore {i : Nat} {x : Int} (hd : decode (zm_c M) pc = .ok (.astore i, 2)) (hn : i < zm_n M) (ho : zl_o L i = true) (kk : ev E l M D n sh d kc ks (pc + 2) ((i, some (zv_a x)) :: L) st Q) : ev E l M D n sh d kc ks pc L (zv_a x :: st) Q := by
  intro p e R s m args below meth c H locs cells slots mc ms ls X
  have k2 := fun ls' h => kk p e R s m args below meth c H locs cells slots mc ms ls' (X.loc (zl_store1 (v := zv_a x) ho h))
  simp only [List.map_cons, zv_c] at k2 ⊢
  cases hr : zv_ro E x with
  | none => rw [hr] at k2; exact lv_astoreN X.1.1 X.1.2.1 hd (zl_lv_has X.2.2.2.1) hn rfl k2
  | some a => rw [hr] at k2; exact lv_astore X.1.1 X.1.2.1 hd (zl_lv_has X.2.2.2.1) hn rfl k2
theorem ev_iinc {i : Nat} {z x : Int} (hd : decode (zm_c M) pc = .ok (.iinc i z, 3)) (hl : zl_get L i = some (zv_i x)) (hn : i < zm_n M) (ho : zl_o L i = true) (kk : ev E l M D n sh d kc ks (pc + 3) ((i, some (zv_i (x + z))) :: L) st Q) : ev E l M D n sh d kc ks pc L st Q := by
  intro p e R s m args below meth c H locs cells slots mc ms ls X
  obtain ⟨k, hk⟩ := List.getElem?_of_mem (zl_lv_mem (E := E) hl)
  exact lv_iinc (v := Int32.ofInt (x + z)) X.1.1 X.1.2.1 hd (zl_lv_has X.2.2.2.1) (k := k) hk (Int32.ofInt_add x z).symm hn rfl (fun ls' h => kk p e R s m args below meth c H locs cells slots mc ms ls' (X.loc (zl_store1 (v := zv_i (x + z)) ho h)))
theorem ev_iadd {x y : Int} (hd : decode (zm_c M) pc = .ok (.iadd, 1)) (kk : ev E l M D n sh d kc ks (pc + 1) L (zv_i (x + y) :: st) Q) : ev E l M D n sh d kc ks pc L (zv_i y :: zv_i x :: st) Q := by
  intro p e R s m args below meth c H locs cells slots mc ms ls X
  refine lv_iadd X.1.1 X.1.2.1 hd ?_
  rw [← Int32.ofInt_add]
  exact (kk p e R s m args below meth c H locs cells slots mc ms ls X)
theorem ev_isub {x y : Int} (hd : decode (zm_c M) pc = .ok (.isub, 1)) (kk : ev E l M D n sh d kc ks (pc + 1) L (zv_i (x - y) :: st) Q) : ev E l M D n sh d kc ks pc L (zv_i y :: zv_i x :: st) Q := by
  intro p e R s m args below meth c H locs cells slots mc ms ls X
  refine lv_isub X.1.1 X.1.2.1 hd ?_
  rw [← Int32.ofInt_sub]
  exact (kk p e R s m args below meth c H locs cells slots mc ms ls X)
theorem ev_imul {x y : Int} (hd : decode (zm_c M) pc = .ok (.imul, 1)) (kk : ev E l M D n sh d kc ks (pc + 1) L (zv_i (x * y) :: st) Q) : ev E l M D n sh d kc ks pc L (zv_i y :: zv_i x :: st) Q := by
  intro p e R s m args below meth c H locs cells slots mc ms ls X
  refine lv_imul X.1.1 X.1.2.1 hd ?_
  rw [← Int32.ofInt_mul]
  exact (kk p e R s m args below meth c H locs cells slots mc ms ls X)
theorem ev_ineg {x : Int} (hd : decode (zm_c M) pc = .ok (.ineg, 1)) (kk : ev E l M D n sh d kc ks (pc + 1) L (zv_i (-x) :: st) Q) : ev E l M D n sh d kc ks pc L (zv_i x :: st) Q := by
  intro p e R s m args below meth c H locs cells slots mc ms ls X
  refine lv_ineg X.1.1 X.1.2.1 hd ?_
  rw [← Int32.ofInt_neg]
  exact (kk p e R s m args below meth c H locs cells slots mc ms ls X)
theorem ev_ladd {x y : Int} (hd : decode (zm_c M) pc = .ok (.ladd, 1)) (kk : ev E l M D n sh d kc ks (pc + 1) L (zv_l (x + y) :: st) Q) : ev E l M D n sh d kc ks pc L (zv_l y :: zv_l x :: st) Q := by
  intro p e R s m args below meth c H locs cells slots mc ms ls X
  refine lv_ladd X.1.1 X.1.2.1 hd ?_
  rw [← Int64.ofInt_add]
  exact (kk p e R s m args below meth c H locs cells slots mc ms ls X)
theorem ev_lsub {x y : Int} (hd : decode (zm_c M) pc = .ok (.lsub, 1)) (kk : ev E l M D n sh d kc ks (pc + 1) L (zv_l (x - y) :: st) Q) : ev E l M D n sh d kc ks pc L (zv_l y :: zv_l x :: st) Q := by
  intro p e R s m args below meth c H locs cells slots mc ms ls X
  refine lv_lsub X.1.1 X.1.2.1 hd ?_
  rw [← Int64.ofInt_sub]
  exact (kk p e R s m args below meth c H locs cells slots mc ms ls X)
theorem ev_lmul {x y : Int} (hd : decode (zm_c M) pc = .ok (.lmul, 1)) (kk : ev E l M D n sh d kc ks (pc + 1) L (zv_l (x * y) :: st) Q) : ev E l M D n sh d kc ks pc L (zv_l y :: zv_l x :: st) Q := by
  intro p e R s m args below meth c H locs cells slots mc ms ls X
  refine lv_lmul X.1.1 X.1.2.1 hd ?_
  rw [← Int64.ofInt_mul]
  exact (kk p e R s m args below meth c H locs cells slots mc ms ls X)
theorem ev_idiv {x y : Int} (hd : decode (zm_c M) pc = .ok (.idiv, 1)) (hx : zi x) (hy : zi y) (h0 : y ≠ 0) (kk : ev E l M D n sh d kc ks (pc + 1) L (zv_i (x.tdiv y) :: st) Q) : ev E l M D n sh d kc ks pc L (zv_i y :: zv_i x :: st) Q := by
  intro p e R s m args below meth c H locs cells slots mc ms ls X
  refine lv_idiv X.1.1 X.1.2.1 hd (zi_ne0 hy h0) ?_
  rw [zi_div hx hy]
  exact (kk p e R s m args below meth c H locs cells slots mc ms ls X)
theorem ev_irem {x y : Int} (hd : decode (zm_c M) pc = .ok (.irem, 1)) (hx : zi x) (hy : zi y) (h0 : y ≠ 0) (kk : ev E l M D n sh d kc ks (pc + 1) L (zv_i (x.tmod y) :: st) Q) : ev E l M D n sh d kc ks pc L (zv_i y :: zv_i x :: st) Q := by
  intro p e R s m args below meth c H locs cells slots mc ms ls X
  refine lv_irem X.1.1 X.1.2.1 hd (zi_ne0 hy h0) ?_
  rw [zi_rem hx hy]
  exact (kk p e R s m args below meth c H locs cells slots mc ms ls X)
theorem ev_ldiv {x y : Int} (hd : decode (zm_c M) pc = .ok (.ldiv, 1)) (hx : zj x) (hy : zj y) (h0 : y ≠ 0) (kk : ev E l M D n sh d kc ks (pc + 1) L (zv_l (x.tdiv y) :: st) Q) : ev E l M D n sh d kc ks pc L (zv_l y :: zv_l x :: st) Q := by
  intro p e R s m args below meth c H locs cells slots mc ms ls X
  refine lv_ldiv X.1.1 X.1.2.1 hd (zj_ne0 hy h0) ?_
  rw [zj_div hx hy]
  exact (kk p e R s m args below meth c H locs cells slots mc ms ls X)
theorem ev_lrem {x y : Int} (hd : decode (zm_c M) pc = .ok (.lrem, 1)) (hx : zj x) (hy : zj y) (h0 : y ≠ 0) (kk : ev E l M D n sh d kc ks (pc + 1) L (zv_l (x.tmod y) :: st) Q) : ev E l M D n sh d kc ks pc L (zv_l y :: zv_l x :: st) Q := by
  intro p e R s m args below meth c H locs cells slots mc ms ls X
  refine lv_lrem X.1.1 X.1.2.1 hd (zj_ne0 hy h0) ?_
  rw [zj_rem hx hy]
  exact (kk p e R s m args below meth c H locs cells slots mc ms ls X)
theorem ev_iand {x y : Int} (hd : decode (zm_c M) pc = .ok (.iand, 1)) (kk : ev E l M D n sh d kc ks (pc + 1) L (zv_i (zb_and x y) :: st) Q) : ev E l M D n sh d kc ks pc L (zv_i y :: zv_i x :: st) Q := by
  intro p e R s m args below meth c H locs cells slots mc ms ls X
  have k2 := (kk p e R s m args below meth c H locs cells slots mc ms ls X)
  simp only [List.map_cons, zv_c, zb_and, zi_ofInt] at k2
  exact lv_iand X.1.1 X.1.2.1 hd k2
theorem ev_ior {x y : Int} (hd : decode (zm_c M) pc = .ok (.ior, 1)) (kk : ev E l M D n sh d kc ks (pc + 1) L (zv_i (zb_or x y) :: st) Q) : ev E l M D n sh d kc ks pc L (zv_i y :: zv_i x :: st) Q := by
  intro p e R s m args below meth c H locs cells slots mc ms ls X
  have k2 := (kk p e R s m args below meth c H locs cells slots mc ms ls X)
  simp only [List.map_cons, zv_c, zb_or, zi_ofInt] at k2
  exact lv_ior X.1.1 X.1.2.1 hd k2
theorem ev_ixor {x y : Int} (hd : decode (zm_c M) pc = .ok (.ixor, 1)) (kk : ev E l M D n sh d kc ks (pc + 1) L (zv_i (zb_xor x y) :: st) Q) : ev E l M D n sh d kc ks pc L (zv_i y :: zv_i x :: st) Q := by
  intro p e R s m args below meth c H locs cells slots mc ms ls X
  have k2 := (kk p e R s m args below meth c H locs cells slots mc ms ls X)
  simp only [List.map_cons, zv_c, zb_xor, zi_ofInt] at k2
  exact lv_ixor X.1.1 X.1.2.1 hd k2
theorem ev_ishl {x y : Int} (hd : decode (zm_c M) pc = .ok (.ishl, 1)) (kk : ev E l M D n sh d kc ks (pc + 1) L (zv_i (zb_shl x y) :: st) Q) : ev E l M D n sh d kc ks pc L (zv_i y :: zv_i x :: st) Q := by
  intro p e R s m args below meth c H locs cells slots mc ms ls X
  have k2 := (kk p e R s m args below meth c H locs cells slots mc ms ls X)
  simp only [List.map_cons, zv_c, zb_shl, zi_ofInt] at k2
  exact lv_ishl X.1.1 X.1.2.1 hd k2
theorem ev_ishr {x y : Int} (hd : decode (zm_c M) pc = .ok (.ishr, 1)) (kk : ev E l M D n sh d kc ks (pc + 1) L (zv_i (zb_shr x y) :: st) Q) : ev E l M D n sh d kc ks pc L (zv_i y :: zv_i x :: st) Q := by
  intro p e R s m args below meth c H locs cells slots mc ms ls X
  have k2 := (kk p e R s m args below meth c H locs cells slots mc ms ls X)
  simp only [List.map_cons, zv_c, zb_shr, zi_ofInt] at k2
  exact lv_ishr X.1.1 X.1.2.1 hd k2
theorem ev_iushr {x y : Int} (hd : decode (zm_c M) pc = .ok (.iushr, 1)) (kk : ev E l M D n sh d kc ks (pc + 1) L (zv_i (zb_ushr x y) :: st) Q) : ev E l M D n sh d kc ks pc L (zv_i y :: zv_i x :: st) Q := by
  intro p e R s m args below meth c H locs cells slots mc ms ls X
  have k2 := (kk p e R s m args below meth c H locs cells slots mc ms ls X)
  simp only [List.map_cons, zv_c, zb_ushr, zi_ofInt] at k2
  exact lv_iushr X.1.1 X.1.2.1 hd rfl k2
theorem ev_lcmp {x y : Int} (hd : decode (zm_c M) pc = .ok (.lcmp, 1)) (kk : ev E l M D n sh d kc ks (pc + 1) L (zv_i (zb_cmp x y) :: st) Q) : ev E l M D n sh d kc ks pc L (zv_l y :: zv_l x :: st) Q := by
  intro p e R s m args below meth c H locs cells slots mc ms ls X
  have k2 := (kk p e R s m args below meth c H locs cells slots mc ms ls X)
  simp only [List.map_cons, zv_c, zb_cmp, zi_ofInt] at k2
  exact W.lcmp X.1.1 X.1.2.1 hd k2
theorem ev_i2l {x : Int} (hd : decode (zm_c M) pc = .ok (.i2l, 1)) (hx : zi x) (kk : ev E l M D n sh d kc ks (pc + 1) L (zv_l x :: st) Q) : ev E l M D n sh d kc ks pc L (zv_i x :: st) Q := by
  intro p e R s m args below meth c H locs cells slots mc ms ls X
  exact lv_i2l X.1.1 X.1.2.1 hd (zi_l hx) (kk p e R s m args below meth c H locs cells slots mc ms ls X)
theorem ev_l2i {x : Int} (hd : decode (zm_c M) pc = .ok (.l2i, 1)) (kk : ev E l M D n sh d kc ks (pc + 1) L (zv_i x :: st) Q) : ev E l M D n sh d kc ks pc L (zv_l x :: st) Q := by
  intro p e R s m args below meth c H locs cells slots mc ms ls X
  exact lv_l2i X.1.1 X.1.2.1 hd (zj_i x) (kk p e R s m args below meth c H locs cells slots mc ms ls X)
theorem ev_i2c {x y : Int} (hd : decode (zm_c M) pc = .ok (.i2c, 1)) (hv : ((Int32.ofInt x).toUInt32 % 65536).toInt32 = Int32.ofInt y) (kk : ev E l M D n sh d kc ks (pc + 1) L (zv_i y :: st) Q) : ev E l M D n sh d kc ks pc L (zv_i x :: st) Q := by
  intro p e R s m args below meth c H locs cells slots mc ms ls X
  exact lv_i2c X.1.1 X.1.2.1 hd hv (kk p e R s m args below meth c H locs cells slots mc ms ls X)
theorem ev_dadd {x y : UInt64} (hd : decode (zm_c M) pc = .ok (.dadd, 1)) (hq : vf_n64 (FP.dadd x y)) (kk : ev E l M D n sh d kc ks (pc + 1) L (zv_d (FP.dadd x y) :: st) Q) : ev E l M D n sh d kc ks pc L (zv_d y :: zv_d x :: st) Q := by
  intro p e R s m args below meth c H locs cells slots mc ms ls X
  exact lv_dadd X.1.1 X.1.2.1 hd hq (kk p e R s m args below meth c H locs cells slots mc ms ls X)
theorem ev_dsub {x y : UInt64} (hd : decode (zm_c M) pc = .ok (.dsub, 1)) (hq : vf_n64 (FP.dsub x y)) (kk : ev E l M D n sh d kc ks (pc + 1) L (zv_d (FP.dsub x y) :: st) Q) : ev E l M D n sh d kc ks pc L (zv_d y :: zv_d x :: st) Q := by
  intro p e R s m args below meth c H locs cells slots mc ms ls X
  exact lv_dsub X.1.1 X.1.2.1 hd hq (kk p e R s m args below meth c H locs cells slots mc ms ls X)
theorem ev_dmul {x y : UInt64} (hd : decode (zm_c M) pc = .ok (.dmul, 1)) (hq : vf_n64 (FP.dmul x y)) (kk : ev E l M D n sh d kc ks (pc + 1) L (zv_d (FP.dmul x y) :: st) Q) : ev E l M D n sh d kc ks pc L (zv_d y :: zv_d x :: st) Q := by
  intro p e R s m args below meth c H locs cells slots mc ms ls X
  exact lv_dmul X.1.1 X.1.2.1 hd hq (kk p e R s m args below meth c H locs cells slots mc ms ls X)
theorem ev_ddiv {x y : UInt64} (hd : decode (zm_c M) pc = .ok (.ddiv, 1)) (hq : vf_n64 (FP.ddiv x y)) (kk : ev E l M D n sh d kc ks (pc + 1) L (zv_d (FP.ddiv x y) :: st) Q) : ev E l M D n sh d kc ks pc L (zv_d y :: zv_d x :: st) Q := by
  intro p e R s m args below meth c H locs cells slots mc ms ls X
  exact lv_ddiv X.1.1 X.1.2.1 hd hq (kk p e R s m args below meth c H locs cells slots mc ms ls X)
theorem ev_dneg {x : UInt64} (hd : decode (zm_c M) pc = .ok (.dneg, 1)) (kk : ev E l M D n sh d kc ks (pc + 1) L (zv_d (FP.dneg x) :: st) Q) : ev E l M D n sh d kc ks pc L (zv_d x :: st) Q := by
  intro p e R s m args below meth c H locs cells slots mc ms ls X
  exact lv_dneg X.1.1 X.1.2.1 hd (kk p e R s m args below meth c H locs cells slots mc ms ls X)
theorem ev_dcmp {x y : UInt64} {op : CmpOp} (hd : decode (zm_c M) pc = .ok (.dcmp op, 1)) (kk : ev E l M D n sh d kc ks (pc + 1) L (zv_i (Op.cmpValue (FP.dcmp x y) op).toInt :: st) Q) : ev E l M D n sh d kc ks pc L (zv_d y :: zv_d x :: st) Q := by
  intro p e R s m args below meth c H locs cells slots mc ms ls X
  have k2 := (kk p e R s m args below meth c H locs cells slots mc ms ls X)
  simp only [List.map_cons, zv_c, zi_ofInt] at k2
  exact lv_dcmp X.1.1 X.1.2.1 hd k2
theorem ev_i2d {x : Int} (hd : decode (zm_c M) pc = .ok (.i2d, 1)) (kk : ev E l M D n sh d kc ks (pc + 1) L (zv_d (FP.i2d (Int32.ofInt x)) :: st) Q) : ev E l M D n sh d kc ks pc L (zv_i x :: st) Q := by
  intro p e R s m args below meth c H locs cells slots mc ms ls X
  exact lv_i2d X.1.1 X.1.2.1 hd (kk p e R s m args below meth c H locs cells slots mc ms ls X)
theorem ev_d2i {x : UInt64} (hd : decode (zm_c M) pc = .ok (.d2i, 1)) (kk : ev E l M D n sh d kc ks (pc + 1) L (zv_i (FP.d2i x).toInt :: st) Q) : ev E l M D n sh d kc ks pc L (zv_d x :: st) Q := by
  intro p e R s m args below meth c H locs cells slots mc ms ls X
  have k2 := (kk p e R s m args below meth c H locs cells slots mc ms ls X)
  simp only [List.map_cons, zv_c, zi_ofInt] at k2
  exact lv_d2i X.1.1 X.1.2.1 hd k2
theorem ev_fadd {x y : UInt32} (hd : decode (zm_c M) pc = .ok (.fadd, 1)) (hq : vf_n32 (FP.fadd x y)) (kk : ev E l M D n sh d kc ks (pc + 1) L (zv_f (FP.fadd x y) :: st) Q) : ev E l M D n sh d kc ks pc L (zv_f y :: zv_f x :: st) Q := by
  intro p e R s m args below meth c H locs cells slots mc ms ls X
  exact lv_fadd X.1.1 X.1.2.1 hd hq (kk p e R s m args below meth c H locs cells slots mc ms ls X)
theorem ev_fsub {x y : UInt32} (hd : decode (zm_c M) pc = .ok (.fsub, 1)) (hq : vf_n32 (FP.fsub x y)) (kk : ev E l M D n sh d kc ks (pc + 1) L (zv_f (FP.fsub x y) :: st) Q) : ev E l M D n sh d kc ks pc L (zv_f y :: zv_f x :: st) Q := by
  intro p e R s m args below meth c H locs cells slots mc ms ls X
  exact lv_fsub X.1.1 X.1.2.1 hd hq (kk p e R s m args below meth c H locs cells slots mc ms ls X)
theorem ev_fmul {x y : UInt32} (hd : decode (zm_c M) pc = .ok (.fmul, 1)) (hq : vf_n32 (FP.fmul x y)) (kk : ev E l M D n sh d kc ks (pc + 1) L (zv_f (FP.fmul x y) :: st) Q) : ev E l M D n sh d kc ks pc L (zv_f y :: zv_f x :: st) Q := by
  intro p e R s m args below meth c H locs cells slots mc ms ls X
  exact lv_fmul X.1.1 X.1.2.1 hd hq (kk p e R s m args below meth c H locs cells slots mc ms ls X)
theorem ev_fdiv {x y : UInt32} (hd : decode (zm_c M) pc = .ok (.fdiv, 1)) (hq : vf_n32 (FP.fdiv x y)) (kk : ev E l M D n sh d kc ks (pc + 1) L (zv_f (FP.fdiv x y) :: st) Q) : ev E l M D n sh d kc ks pc L (zv_f y :: zv_f x :: st) Q := by
  intro p e R s m args below meth c H locs cells slots mc ms ls X
  exact lv_fdiv X.1.1 X.1.2.1 hd hq (kk p e R s m args below meth c H locs cells slots mc ms ls X)
theorem ev_fneg {x : UInt32} (hd : decode (zm_c M) pc = .ok (.fneg, 1)) (kk : ev E l M D n sh d kc ks (pc + 1) L (zv_f (FP.fneg x) :: st) Q) : ev E l M D n sh d kc ks pc L (zv_f x :: st) Q := by
  intro p e R s m args below meth c H locs cells slots mc ms ls X
  exact lv_fneg X.1.1 X.1.2.1 hd (kk p e R s m args below meth c H locs cells slots mc ms ls X)
theorem ev_fcmp {x y : UInt32} {op : CmpOp} (hd : decode (zm_c M) pc = .ok (.fcmp op, 1)) (kk : ev E l M D n sh d kc ks (pc + 1) L (zv_i (Op.cmpValue (FP.fcmp x y) op).toInt :: st) Q) : ev E l M D n sh d kc ks pc L (zv_f y :: zv_f x :: st) Q := by
  intro p e R s m args below meth c H locs cells slots mc ms ls X
  have k2 := (kk p e R s m args below meth c H locs cells slots mc ms ls X)
  simp only [List.map_cons, zv_c, zi_ofInt] at k2
  exact lv_fcmp X.1.1 X.1.2.1 hd k2
theorem ev_i2f {x : Int} (hd : decode (zm_c M) pc = .ok (.i2f, 1)) (kk : ev E l M D n sh d kc ks (pc + 1) L (zv_f (FP.i2f (Int32.ofInt x)) :: st) Q) : ev E l M D n sh d kc ks pc L (zv_i x :: st) Q := by
  intro p e R s m args below meth c H locs cells slots mc ms ls X
  exact lv_i2f X.1.1 X.1.2.1 hd (kk p e R s m args below meth c H locs cells slots mc ms ls X)
theorem ev_f2i {x : UInt32} (hd : decode (zm_c M) pc = .ok (.f2i, 1)) (kk : ev E l M D n sh d kc ks (pc + 1) L (zv_i (FP.f2i x).toInt :: st) Q) : ev E l M D n sh d kc ks pc L (zv_f x :: st) Q := by
  intro p e R s m args below meth c H locs cells slots mc ms ls X
  have k2 := (kk p e R s m args below meth c H locs cells slots mc ms ls X)
  simp only [List.map_cons, zv_c, zi_ofInt] at k2
  exact lv_f2i X.1.1 X.1.2.1 hd k2
theorem ev_f2d {x : UInt32} (hd : decode (zm_c M) pc = .ok (.f2d, 1)) (hq : vf_n64 (FP.f2d x)) (kk : ev E l M D n sh d kc ks (pc + 1) L (zv_d (FP.f2d x) :: st) Q) : ev E l M D n sh d kc ks pc L (zv_f x :: st) Q := by
  intro p e R s m args below meth c H locs cells slots mc ms ls X
  exact lv_f2d X.1.1 X.1.2.1 hd hq (kk p e R s m args below meth c H locs cells slots mc ms ls X)
theorem ev_dup {a : zv_V} (hd : decode (zm_c M) pc = .ok (.dup, 1)) (ha : zv_k a = 1) (kk : ev E l M D n sh d kc ks (pc + 1) L (a :: a :: st) Q) : ev E l M D n sh d kc ks pc L (a :: st) Q := by
  intro p e R s m args below meth c H locs cells slots mc ms ls X
  exact lv_dup X.1.1 X.1.2.1 hd ((zv_cat E a).trans ha) (kk p e R s m args below meth c H locs cells slots mc ms ls X)
theorem ev_pop {a : zv_V} (hd : decode (zm_c M) pc = .ok (.pop, 1)) (ha : zv_k a = 1) (kk : ev E l M D n sh d kc ks (pc + 1) L (st) Q) : ev E l M D n sh d kc ks pc L (a :: st) Q := by
  intro p e R s m args below meth c H locs cells slots mc ms ls X
  exact lv_pop X.1.1 X.1.2.1 hd ((zv_cat E a).trans ha) (kk p e R s m args below meth c H locs cells slots mc ms ls X)
theorem ev_dup_x1 {a b : zv_V} (hd : decode (zm_c M) pc = .ok (.dup_x1, 1)) (ha : zv_k a = 1) (hb : zv_k b = 1) (kk : ev E l M D n sh d kc ks (pc + 1) L (a :: b :: a :: st) Q) : ev E l M D n sh d kc ks pc L (a :: b :: st) Q := by
  intro p e R s m args below meth c H locs cells slots mc ms ls X
  exact lv_dup_x1 X.1.1 X.1.2.1 hd ((zv_cat E a).trans ha) ((zv_cat E b).trans hb) (kk p e R s m args below meth c H locs cells slots mc ms ls X)
theorem ev_dup2 {a b : zv_V} (hd : decode (zm_c M) pc = .ok (.dup2, 1)) (ha : zv_k a = 1) (hb : zv_k b = 1) (kk : ev E l M D n sh d kc ks (pc + 1) L (a :: b :: a :: b :: st) Q) : ev E l M D n sh d kc ks pc L (a :: b :: st) Q := by
  intro p e R s m args below meth c H locs cells slots mc ms ls X
  exact lv_dup2_11 X.1.1 X.1.2.1 hd ((zv_cat E a).trans ha) ((zv_cat E b).trans hb) (kk p e R s m args below meth c H locs cells slots mc ms ls X)
end EV3
section EV4
variable {E : ze_E} {l : Launch} {M : zm_M} {D n : Nat} {sh : zk_S} {d : zm_D} {kc ks pc : Nat} {L : zl_L} {st : List zv_V} {Q : ev_Q}
theorem ev_icmp_eq {x y off : Int} {tgt : Nat} (hd : decode (zm_c M) pc = .ok (.if_icmp .eq off, 3)) (ht : (pc : Int) + off = (tgt : Int)) (hx : zi x) (hy : zi y) (kt : x = y → ev E l M D n sh d kc ks tgt L st Q) (kf : ¬ x = y → ev E l M D n sh d kc ks (pc + 3) L st Q) : ev E l M D n sh d kc ks pc L (zv_i y :: zv_i x :: st) Q := by
  intro p e R s m args below meth c H locs cells slots mc ms ls X
  exact lv_icmp_eq X.1.1 X.1.2.1 hd ht (fun q => kt ((zi_eq hx hy).mp q) p e R s m args below meth c H locs cells slots mc ms ls X) (fun q => kf ((not_congr (zi_eq hx hy)).mp q) p e R s m args below meth c H locs cells slots mc ms ls X)
theorem ev_if_eq {x off : Int} {tgt : Nat} (hd : decode (zm_c M) pc = .ok (.ifCond .eq off, 3)) (ht : (pc : Int) + off = (tgt : Int)) (hx : zi x) (kt : x = 0 → ev E l M D n sh d kc ks tgt L st Q) (kf : ¬ x = 0 → ev E l M D n sh d kc ks (pc + 3) L st Q) : ev E l M D n sh d kc ks pc L (zv_i x :: st) Q := by
  intro p e R s m args below meth c H locs cells slots mc ms ls X
  exact lv_if_eq X.1.1 X.1.2.1 hd ht (fun q => kt ((zi_eq hx zi_0).mp q) p e R s m args below meth c H locs cells slots mc ms ls X) (fun q => kf ((not_congr (zi_eq hx zi_0)).mp q) p e R s m args below meth c H locs cells slots mc ms ls X)
theorem ev_icmp_ne {x y off : Int} {tgt : Nat} (hd : decode (zm_c M) pc = .ok (.if_icmp .ne off, 3)) (ht : (pc : Int) + off = (tgt : Int)) (hx : zi x) (hy : zi y) (kt : ¬ x = y → ev E l M D n sh d kc ks tgt L st Q) (kf : x = y → ev E l M D n sh d kc ks (pc + 3) L st Q) : ev E l M D n sh d kc ks pc L (zv_i y :: zv_i x :: st) Q := by
  intro p e R s m args below meth c H locs cells slots mc ms ls X
  exact lv_icmp_ne X.1.1 X.1.2.1 hd ht (fun q => kt ((not_congr (zi_eq hx hy)).mp q) p e R s m args below meth c H locs cells slots mc ms ls X) (fun q => kf ((zi_eq hx hy).mp q) p e R s m args below meth c H locs cells slots mc ms ls X)
theorem ev_if_ne {x off : Int} {tgt : Nat} (hd : decode (zm_c M) pc = .ok (.ifCond .ne off, 3)) (ht : (pc : Int) + off = (tgt : Int)) (hx : zi x) (kt : ¬ x = 0 → ev E l M D n sh d kc ks tgt L st Q) (kf : x = 0 → ev E l M D n sh d kc ks (pc + 3) L st Q) : ev E l M D n sh d kc ks pc L (zv_i x :: st) Q := by
  intro p e R s m args below meth c H locs cells slots mc ms ls X
  exact lv_if_ne X.1.1 X.1.2.1 hd ht (fun q => kt ((not_congr (zi_eq hx zi_0)).mp q) p e R s m args below meth c H locs cells slots mc ms ls X) (fun q => kf ((zi_eq hx zi_0).mp q) p e R s m args below meth c H locs cells slots mc ms ls X)
theorem ev_icmp_lt {x y off : Int} {tgt : Nat} (hd : decode (zm_c M) pc = .ok (.if_icmp .lt off, 3)) (ht : (pc : Int) + off = (tgt : Int)) (hx : zi x) (hy : zi y) (kt : x < y → ev E l M D n sh d kc ks tgt L st Q) (kf : ¬ x < y → ev E l M D n sh d kc ks (pc + 3) L st Q) : ev E l M D n sh d kc ks pc L (zv_i y :: zv_i x :: st) Q := by
  intro p e R s m args below meth c H locs cells slots mc ms ls X
  exact lv_icmp_lt X.1.1 X.1.2.1 hd ht (fun q => kt ((zi_lt hx hy).mp q) p e R s m args below meth c H locs cells slots mc ms ls X) (fun q => kf ((not_congr (zi_lt hx hy)).mp q) p e R s m args below meth c H locs cells slots mc ms ls X)
theorem ev_if_lt {x off : Int} {tgt : Nat} (hd : decode (zm_c M) pc = .ok (.ifCond .lt off, 3)) (ht : (pc : Int) + off = (tgt : Int)) (hx : zi x) (kt : x < 0 → ev E l M D n sh d kc ks tgt L st Q) (kf : ¬ x < 0 → ev E l M D n sh d kc ks (pc + 3) L st Q) : ev E l M D n sh d kc ks pc L (zv_i x :: st) Q := by
  intro p e R s m args below meth c H locs cells slots mc ms ls X
  exact lv_if_lt X.1.1 X.1.2.1 hd ht (fun q => kt ((zi_lt hx zi_0).mp q) p e R s m args below meth c H locs cells slots mc ms ls X) (fun q => kf ((not_congr (zi_lt hx zi_0)).mp q) p e R s m args below meth c H locs cells slots mc ms ls X)
theorem ev_icmp_ge {x y off : Int} {tgt : Nat} (hd : decode (zm_c M) pc = .ok (.if_icmp .ge off, 3)) (ht : (pc : Int) + off = (tgt : Int)) (hx : zi x) (hy : zi y) (kt : y ≤ x → ev E l M D n sh d kc ks tgt L st Q) (kf : ¬ y ≤ x → ev E l M D n sh d kc ks (pc + 3) L st Q) : ev E l M D n sh d kc ks pc L (zv_i y :: zv_i x :: st) Q := by
  intro p e R s m args below meth c H locs cells slots mc ms ls X
  exact lv_icmp_ge X.1.1 X.1.2.1 hd ht (fun q => kt ((zi_le hy hx).mp q) p e R s m args below meth c H locs cells slots mc ms ls X) (fun q => kf ((not_congr (zi_le hy hx)).mp q) p e R s m args below meth c H locs cells slots mc ms ls X)
theorem ev_if_ge {x off : Int} {tgt : Nat} (hd : decode (zm_c M) pc = .ok (.ifCond .ge off, 3)) (ht : (pc : Int) + off = (tgt : Int)) (hx : zi x) (kt : 0 ≤ x → ev E l M D n sh d kc ks tgt L st Q) (kf : ¬ 0 ≤ x → ev E l M D n sh d kc ks (pc + 3) L st Q) : ev E l M D n sh d kc ks pc L (zv_i x :: st) Q := by
  intro p e R s m args below meth c H locs cells slots mc ms ls X
  exact lv_if_ge X.1.1 X.1.2.1 hd ht (fun q => kt ((zi_le zi_0 hx).mp q) p e R s m args below meth c H locs cells slots mc ms ls X) (fun q => kf ((not_congr (zi_le zi_0 hx)).mp q) p e R s m args below meth c H locs cells slots mc ms ls X)
theorem ev_icmp_gt {x y off : Int} {tgt : Nat} (hd : decode (zm_c M) pc = .ok (.if_icmp .gt off, 3)) (ht : (pc : Int) + off = (tgt : Int)) (hx : zi x) (hy : zi y) (kt : y < x → ev E l M D n sh d kc ks tgt L st Q) (kf : ¬ y < x → ev E l M D n sh d kc ks (pc + 3) L st Q) : ev E l M D n sh d kc ks pc L (zv_i y :: zv_i x :: st) Q := by
  intro p e R s m args below meth c H locs cells slots mc ms ls X
  exact lv_icmp_gt X.1.1 X.1.2.1 hd ht (fun q => kt ((zi_lt hy hx).mp q) p e R s m args below meth c H locs cells slots mc ms ls X) (fun q => kf ((not_congr (zi_lt hy hx)).mp q) p e R s m args below meth c H locs cells slots mc ms ls X)
theorem ev_if_gt {x off : Int} {tgt : Nat} (hd : decode (zm_c M) pc = .ok (.ifCond .gt off, 3)) (ht : (pc : Int) + off = (tgt : Int)) (hx : zi x) (kt : 0 < x → ev E l M D n sh d kc ks tgt L st Q) (kf : ¬ 0 < x → ev E l M D n sh d kc ks (pc + 3) L st Q) : ev E l M D n sh d kc ks pc L (zv_i x :: st) Q := by
  intro p e R s m args below meth c H locs cells slots mc ms ls X
  exact lv_if_gt X.1.1 X.1.2.1 hd ht (fun q => kt ((zi_lt zi_0 hx).mp q) p e R s m args below meth c H locs cells slots mc ms ls X) (fun q => kf ((not_congr (zi_lt zi_0 hx)).mp q) p e R s m args below meth c H locs cells slots mc ms ls X)
theorem ev_icmp_le {x y off : Int} {tgt : Nat} (hd : decode (zm_c M) pc = .ok (.if_icmp .le off, 3)) (ht : (pc : Int) + off = (tgt : Int)) (hx : zi x) (hy : zi y) (kt : x ≤ y → ev E l M D n sh d kc ks tgt L st Q) (kf : ¬ x ≤ y → ev E l M D n sh d kc ks (pc + 3) L st Q) : ev E l M D n sh d kc ks pc L (zv_i y :: zv_i x :: st) Q := by
  intro p e R s m args below meth c H locs cells slots mc ms ls X
  exact lv_icmp_le X.1.1 X.1.2.1 hd ht (fun q => kt ((zi_le hx hy).mp q) p e R s m args below meth c H locs cells slots mc ms ls X) (fun q => kf ((not_congr (zi_le hx hy)).mp q) p e R s m args below meth c H locs cells slots mc ms ls X)
theorem ev_if_le {x off : Int} {tgt : Nat} (hd : decode (zm_c M) pc = .ok (.ifCond .le off, 3)) (ht : (pc : Int) + off = (tgt : Int)) (hx : zi x) (kt : x ≤ 0 → ev E l M D n sh d kc ks tgt L st Q) (kf : ¬ x ≤ 0 → ev E l M D n sh d kc ks (pc + 3) L st Q) : ev E l M D n sh d kc ks pc L (zv_i x :: st) Q := by
  intro p e R s m args below meth c H locs cells slots mc ms ls X
  exact lv_if_le X.1.1 X.1.2.1 hd ht (fun q => kt ((zi_le hx zi_0).mp q) p e R s m args below meth c H locs cells slots mc ms ls X) (fun q => kf ((not_congr (zi_le hx zi_0)).mp q) p e R s m args below meth c H locs cells slots mc ms ls X)
theorem ev_goto {off : Int} {tgt : Nat} (hd : decode (zm_c M) pc = .ok (.goto off, 3)) (ht : (pc : Int) + off = (tgt : Int)) (kk : ev E l M D n sh d kc ks tgt L st Q) : ev E l M D n sh d kc ks pc L st Q := by
  intro p e R s m args below meth c H locs cells slots mc ms ls X
  exact lv_goto X.1.1 X.1.2.1 hd ht (kk p e R s m args below meth c H locs cells slots mc ms ls X)
theorem ev_ifnull {r off : Int} {tgt : Nat} (hd : decode (zm_c M) pc = .ok (.ifnull off, 3)) (ht : (pc : Int) + off = (tgt : Int)) (kt : r = 0 → ev E l M D n sh d kc ks tgt L st Q) (kf : ¬ r = 0 → ev E l M D n sh d kc ks (pc + 3) L st Q) : ev E l M D n sh d kc ks pc L (zv_a r :: st) Q := by
  intro p e R s m args below meth c H locs cells slots mc ms ls X
  by_cases h : r = 0
  · have e9 : zv_ro E r = none := by unfold zv_ro; rw [if_pos h]
    simp only [List.map_cons, zv_c, e9]
    exact lv_ifnullN X.1.1 X.1.2.1 hd ht (kt h p e R s m args below meth c H locs cells slots mc ms ls X)
  · obtain ⟨a, e9⟩ : ∃ a, zv_ro E r = some a := by unfold zv_ro; rw [if_neg h]; split <;> (first | exact ⟨_, rfl⟩ | (split <;> exact ⟨_, rfl⟩))
    simp only [List.map_cons, zv_c, e9]
    exact lv_ifnull X.1.1 X.1.2.1 hd (kf h p e R s m args below meth c H locs cells slots mc ms ls X)
theorem ev_ifnonnull {r off : Int} {tgt : Nat} (hd : decode (zm_c M) pc = .ok (.ifnonnull off, 3)) (ht : (pc : Int) + off = (tgt : Int)) (kt : ¬ r = 0 → ev E l M D n sh d kc ks tgt L st Q) (kf : r = 0 → ev E l M D n sh d kc ks (pc + 3) L st Q) : ev E l M D n sh d kc ks pc L (zv_a r :: st) Q := by
  intro p e R s m args below meth c H locs cells slots mc ms ls X
  by_cases h : r = 0
  · have e9 : zv_ro E r = none := by unfold zv_ro; rw [if_pos h]
    simp only [List.map_cons, zv_c, e9]
    exact lv_ifnonnullN X.1.1 X.1.2.1 hd (kf h p e R s m args below meth c H locs cells slots mc ms ls X)
  · obtain ⟨a, e9⟩ : ∃ a, zv_ro E r = some a := by unfold zv_ro; rw [if_neg h]; split <;> (first | exact ⟨_, rfl⟩ | (split <;> exact ⟨_, rfl⟩))
    simp only [List.map_cons, zv_c, e9]
    exact lv_ifnonnull X.1.1 X.1.2.1 hd ht (kt h p e R s m args below meth c H locs cells slots mc ms ls X)
theorem zv_ro_inj {r r' : Int} (h : 0 ≤ r) (h' : 0 ≤ r') : zv_ro E r = zv_ro E r' ↔ r = r' := by
  constructor
  · intro q
    unfold zv_ro at q
    by_cases a : r = 0 <;> by_cases b : r' = 0
    · omega
    · rw [if_pos a, if_neg b, if_neg (by omega)] at q; cases q
    · rw [if_neg a, if_pos b, if_neg (by omega)] at q; cases q
    · rw [if_neg a, if_neg b, if_neg (by omega), if_neg (by omega)] at q
      have := Option.some.inj q; omega
  · intro q; rw [q]
theorem ev_acmp_eq {x y off : Int} {tgt : Nat} (hd : decode (zm_c M) pc = .ok (.if_acmp .eq off, 3)) (ht : (pc : Int) + off = (tgt : Int)) (hx : 0 ≤ x) (hy : 0 ≤ y) (kt : x = y → ev E l M D n sh d kc ks tgt L st Q) (kf : ¬ x = y → ev E l M D n sh d kc ks (pc + 3) L st Q) : ev E l M D n sh d kc ks pc L (zv_a y :: zv_a x :: st) Q := by
  intro p e R s m args below meth c H locs cells slots mc ms ls X
  exact lv_acmp_eq X.1.1 X.1.2.1 hd ht (fun q => kt ((zv_ro_inj hx hy).mp q) p e R s m args below meth c H locs cells slots mc ms ls X) (fun q => kf ((not_congr (zv_ro_inj hx hy)).mp q) p e R s m args below meth c H locs cells slots mc ms ls X)
theorem ev_acmp_ne {x y off : Int} {tgt : Nat} (hd : decode (zm_c M) pc = .ok (.if_acmp .ne off, 3)) (ht : (pc : Int) + off = (tgt : Int)) (hx : 0 ≤ x) (hy : 0 ≤ y) (kt : ¬ x = y → ev E l M D n sh d kc ks tgt L st Q) (kf : x = y → ev E l M D n sh d kc ks (pc + 3) L st Q) : ev E l M D n sh d kc ks pc L (zv_a y :: zv_a x :: st) Q := by
  intro p e R s m args below meth c H locs cells slots mc ms ls X
  exact lv_acmp_ne X.1.1 X.1.2.1 hd ht (fun q => kt ((not_congr (zv_ro_inj hx hy)).mp q) p e R s m args below meth c H locs cells slots mc ms ls X) (fun q => kf ((zv_ro_inj hx hy).mp q) p e R s m args below meth c H locs cells slots mc ms ls X)
theorem ev_tableOut {dflt lo hi x : Int} {offs : Array Int} {len tgt : Nat} (hd : decode (zm_c M) pc = .ok (.tableswitch dflt lo hi offs, len)) (hx : zi x) (h : x < lo ∨ hi < x) (ht : (pc : Int) + dflt = (tgt : Int)) (kk : ev E l M D n sh d kc ks tgt L st Q) : ev E l M D n sh d kc ks pc L (zv_i x :: st) Q := by
  intro p e R s m args below meth c H locs cells slots mc ms ls X
  exact lv_tableOut X.1.1 X.1.2.1 hd (by rw [zi_t hx]; exact h) ht (kk p e R s m args below meth c H locs cells slots mc ms ls X)
theorem ev_tableIn {dflt lo hi x off : Int} {offs : Array Int} {len tgt : Nat} (hd : decode (zm_c M) pc = .ok (.tableswitch dflt lo hi offs, len)) (hx : zi x) (h1 : ¬ x < lo) (h2 : ¬ hi < x) (ho : offs[(x - lo).toNat]? = some off) (ht : (pc : Int) + off = (tgt : Int)) (kk : ev E l M D n sh d kc ks tgt L st Q) : ev E l M D n sh d kc ks pc L (zv_i x :: st) Q := by
  intro p e R s m args below meth c H locs cells slots mc ms ls X
  exact lv_tableIn X.1.1 X.1.2.1 hd (by rw [zi_t hx]; exact h1) (by rw [zi_t hx]; exact h2) (by rw [zi_t hx]; exact ho) ht (kk p e R s m args below meth c H locs cells slots mc ms ls X)
end EV4
/-! ===== EV: fields and arrays ===== -/
theorem zv_ro_pos {E : ze_E} {r : Int} (h : 0 < r) : zv_ro E r = some (ze_o E + (r.toNat - 1)) := by
  unfold zv_ro
  rw [if_neg (by omega), if_neg (by omega)]
theorem zv_ro_0 {E : ze_E} : zv_ro E 0 = none := by unfold zv_ro; rw [if_pos rfl]
theorem zm_us {d : zm_D} {r j v : Int} : zm_u d r j v r j = v := by unfold zm_u; rw [if_pos ⟨rfl, rfl⟩]
theorem zm_ur {d : zm_D} {r j v a k : Int} (h : a ≠ r) : zm_u d r j v a k = d a k := by unfold zm_u; rw [if_neg (fun q => h q.1)]
theorem zm_uj {d : zm_D} {r j v a k : Int} (h : k ≠ j) : zm_u d r j v a k = d a k := by unfold zm_u; rw [if_neg (fun q => h q.2)]
theorem zw_at_kept {E : ze_E} {d d' : zm_D} {H H1 : Heap} {r : Nat} {k : zk_K} (h : zw_at E d H r k) (hq : H1[ze_o E + (r - 1)]? = H[ze_o E + (r - 1)]?) (hd : ∀ j, d' r j = d r j) : zw_at E d' H1 r k := by
  rcases k with _ | ci | ⟨ty, N⟩
  · trivial
  · obtain ⟨q, h1, h2⟩ := h
    refine ⟨q, h1, ?_⟩
    simp only [hd]
    exact h2.kept hq
  · obtain ⟨h1, h2⟩ := h
    refine ⟨?_, h2⟩
    simp only [hd]
    exact hq.trans h1
theorem zw_H_set {E : ze_E} {n : Nat} {sh : zk_S} {d d' : zm_D} {H H1 : Heap} {r : Int} (h : zw_H E n sh d H) (h0 : 0 < r) (hz : H1.size = H.size) (oq : ∀ q, q ≠ ze_o E + (r.toNat - 1) → H1[q]? = H[q]?)
    (hd : ∀ a k, a ≠ r → d' a k = d a k) (hn : zw_at E d' H1 r.toNat (sh r)) : zw_H E n sh d' H1 := by
  refine ⟨hz.trans h.1, fun r' hr' => ?_⟩
  by_cases e : (r' : Int) = r
  · subst e
    simpa using hn
  · exact zw_at_kept (h.2 r' hr') (oq _ (by omega)) (fun j => hd _ _ e)
theorem zw_obj {E : ze_E} {n : Nat} {sh : zk_S} {d : zm_D} {H : Heap} {r : Int} {ci : Nat} (h : zw_H E n sh d H) (hr : sh r = some (.inl ci)) (h0 : 0 < r) :
    ∃ q, zk_cl[ci]? = some q ∧ t_OB (ze_o E + (r.toNat - 1)) ((ze_D E).1 ci) q.2.2 ((ze_D E).2 ci) H (fun j => zv_fv E (zk_ty ci j) (d r j)) := by
  have h1 := h.2 r.toNat (by omega)
  have e : ((r.toNat : Nat) : Int) = r := by omega
  rw [e, hr] at h1
  simp only [zw_at, e] at h1
  exact h1
theorem zw_arr {E : ze_E} {n : Nat} {sh : zk_S} {d : zm_D} {H : Heap} {r : Int} {ty : FieldType} {N : Nat} (h : zw_H E n sh d H) (hr : sh r = some (.inr (ty, N))) (h0 : 0 < r) :
    H[ze_o E + (r.toNat - 1)]? = some (arrV (ze_t E ty) N (fun j => zv_fv E ty (d r j))) ∧ ty ∈ zk_aty := by
  have h1 := h.2 r.toNat (by omega)
  have e : ((r.toNat : Nat) : Int) = r := by omega
  rw [e, hr] at h1
  simp only [zw_at, e] at h1
  exact h1
/-- a field's entry: its class, its place, the link -/
def zf_l (M : zm_M) (idx ci j : Nat) : Prop := ∃ q : vw_C, zk_cl[ci]? = some q ∧ j < q.2.2 ∧
  (Cond.fieldLink (zm_o M) idx (q.2.1 j).1 (q.2.1 j).2.1 (q.2.1 j).2.2.1 ∈ lw_g ∨ ∃ host, Cond.fieldLinkNest (zm_o M) idx (q.2.1 j).1 (q.2.1 j).2.1 (q.2.1 j).2.2.1 host ∈ lw_g)
def zf_n (M : zm_M) (ci j : Nat) : Prop := ∃ q : vw_C, zk_cl[ci]? = some q ∧ ((q.2.1 j).2.2.2 = false ∨ ((q.2.1 j).2.2.2 = true ∧ (zm_y M).name = "<init>" ∧ (q.2.1 j).1 = zm_o M))
section EV5
variable {E : ze_E} {l : Launch} {M : zm_M} {D n : Nat} {sh : zk_S} {d : zm_D} {kc ks pc : Nat} {L : zl_L} {st : List zv_V} {Q : ev_Q}
theorem ev_get {idx ci j : Nat} {r : Int} (hd : decode (zm_c M) pc = .ok (.getfield idx, 3)) (hf : zf_l M idx ci j) (hr : sh r = some (.inl ci)) (h0 : 0 < r)
    (kk : ev E l M D n sh d kc ks (pc + 3) L (zv_of (zk_ty ci j) (d r j) :: st) Q) : ev E l M D n sh d kc ks pc L (zv_a r :: st) Q := by
  intro p e R s m args below meth c H locs cells slots mc ms ls X
  obtain ⟨q, hq, hj, hlink⟩ := hf
  obtain ⟨q', hq', cell, q1, q2, q3, q4⟩ := zw_obj X.2.1 hr h0
  cases Option.some.inj (hq.symm.trans hq')
  have hts := X.1.2.2.2.2.2.1
  have hown := X.1.2.2.2.2.1
  obtain ⟨hS, hfc, kC, hkC, hkind⟩ := X.1.2.2.2.2.2.2.2.2.2.1.1 ci _ hq
  obtain ⟨cf, kf, fi, f, hi, hsl⟩ := hS j hj
  have hst := (u_facts hfc hkC (u_lays hts (zc_in ci q hq) hj) hi).1
  have k2 := kk p e R s m args below meth c H locs cells slots mc ms ls X
  simp only [List.map_cons, zv_of_c] at k2 ⊢
  simp only [zv_c, zv_ro_pos h0]
  rcases hlink with hl | ⟨host, hl⟩
  · exact W.getf X.1.1 X.1.2.1 hown (hts _ hl) hi hst q1 (by rw [q3]; exact fun h => by cases h) (v := zv_fv E (zk_ty ci j) (d r j)) (by rw [hsl]; exact q4 j hj) rfl rfl hd k2
  · exact va_Wgetf X.1.1 X.1.2.1 hown (hts _ hl) hi hst q1 (by rw [q3]; exact fun h => by cases h) (v := zv_fv E (zk_ty ci j) (d r j)) (by rw [hsl]; exact q4 j hj) rfl rfl hd k2
theorem ev_put {idx ci j : Nat} {r x : Int} {v : zv_V} (hd : decode (zm_c M) pc = .ok (.putfield idx, 3)) (hf : zf_l M idx ci j) (hfin : zf_n M ci j) (hr : sh r = some (.inl ci)) (h0 : 0 < r) (hv : zv_c E v = zv_fv E (zk_ty ci j) x) (hn : narrow (zk_ty ci j) (zv_fv E (zk_ty ci j) x) = zv_fv E (zk_ty ci j) x) (hfit : fits (zk_ty ci j) (zv_fv E (zk_ty ci j) x) = true)
    (kk : ev E l M D n sh (zm_u d r j x) kc ks (pc + 3) L st Q) : ev E l M D n sh d kc ks pc L (v :: zv_a r :: st) Q := by
  intro p e R s m args below meth c H locs cells slots mc ms ls X
  obtain ⟨q, hq, hj, hlink⟩ := hf
  obtain ⟨q', hq', cell, q1, q2, q3, q4⟩ := zw_obj X.2.1 hr h0
  cases Option.some.inj (hq.symm.trans hq')
  have hts := X.1.2.2.2.2.2.1
  have hown := X.1.2.2.2.2.1
  obtain ⟨hS, hfc, kC, hkC, hkind⟩ := X.1.2.2.2.2.2.2.2.2.2.1.1 ci _ hq
  have hin := zc_in ci q hq
  have hap : ∀ x y, x < q.2.2 → y < q.2.2 → x ≠ y → (ze_D E).2 ci x ≠ (ze_D E).2 ci y := by
    intro x y hx hy hne
    obtain ⟨_, _, _, fa, hia, ea⟩ := hS x hx
    obtain ⟨_, _, _, fb, hib, eb⟩ := hS y hy
    rw [← ea, ← eb]
    refine u_apart (u_lays hts hin hx) (u_lays hts hin hy) hia hib ?_
    rw [(State.fieldFound?_type hia (zc_ty ci q hq x hx)).1, (State.fieldFound?_type hib (zc_ty ci q hq y hy)).1]
    exact zc_nm ci q hq x hx y hy hne
  obtain ⟨cf, kf, fi, f, hi, hsl⟩ := hS j hj
  have hst := (u_facts hfc hkC (u_lays hts hin hj) hi).1
  have hpar := zc_ty ci q hq j hj
  have hlay := hts _ (hin _ (u_in_lay hj))
  unfold u_lay at hlay
  have fin : ∀ (H' : Heap), H'[ze_o E + (r.toNat - 1)]? = some (cell.setSlot f.slot (zv_fv E (zk_ty ci j) x)) → H'.size = H.size → (∀ q, q ≠ ze_o E + (r.toNat - 1) → H'[q]? = H[q]?) →
      W p l e R s m args below meth c H' (locs ++ [⟨ze_o E + (r.toNat - 1), f.slot⟩]) cells slots (vx_MQ below (ev_Qc E Q) (ev_XC E Q) args s mc ms (ze_A E)) (F0 m (pc + 3) ls (st.map (zv_c E))) := by
    intro H' e1 e2 e3
    refine kk p e R s m args below meth c H' _ cells slots mc ms ls ⟨X.1, ?_, X.2.2.1.put e2 e3 (Nat.le_add_right _ _), X.2.2.2⟩
    refine zw_H_set X.2.1 h0 e2 e3 (fun a k ha => zm_ur ha) ?_
    rw [hr]
    have er : ((r.toNat : Nat) : Int) = r := by omega
    refine ⟨q, hq, ?_⟩
    rw [hsl] at e1
    refine ⟨_, e1, q2, q3, fun k hk => ?_⟩
    rw [t_set q4 hap hj _ k hk]
    rw [er]
    by_cases hkj : k = j
    · subst hkj
      simp [updV, zm_us]
    · have e7 : zm_u d r (j : Int) x r (k : Int) = d r (k : Int) := zm_uj (by omega)
      simp [updV, hkj, e7]
  have h6 : fits (zk_ty ci j) (zv_fv E (zk_ty ci j) x) = true := hfit
  simp only [List.map_cons, hv]
  simp only [zv_c, zv_ro_pos h0]
  obtain ⟨q', hq', hfin⟩ := hfin
  cases Option.some.inj (hq.symm.trans hq')
  rcases hfin with hfin | ⟨hfin, hini, hdecl⟩
  · rw [if_neg (by rw [hfin]; decide)] at hlay
    have h6 := u_store hfc hkC hkind hlay hi hpar hn hfit
    rcases hlink with hl | ⟨host, hl⟩
    · exact W.putK X.1.1 X.1.2.1 (f := f) ⟨hown, hts _ hl, ⟨_, _, _, hi⟩, hst⟩ (by rw [q2]; exact h6) q1 q3 (by rw [hsl]; exact k2_hasslot (q4 j hj)) rfl rfl hd fin
    · exact va_WputK X.1.1 X.1.2.1 (f := f) hown (hts _ hl) hi hst (by rw [q2]; exact h6) q1 q3 (by rw [hsl]; exact k2_hasslot (q4 j hj)) rfl rfl hd fin
  · rw [if_pos hfin] at hlay
    have hcf : m.cls = cf := by
      obtain ⟨_, _, c', _, _, _, -, -, hf', -, -, -, hown2, -⟩ := Cond.laysFinal_spec hlay
      have e1 : c' = cf := by have := hi.symm.trans hf'; simp at this; exact this.1.symm
      rw [hdecl] at hown2
      rw [← e1]; exact Option.some.inj (hown.symm.trans hown2)
    have h6 := u_fits hfc hkC hkind (Or.inr hlay) hi hpar hn hfit
    have hname : meth.name = "<init>" := X.1.2.2.2.2.2.2.2.2.1.trans hini
    rcases hlink with hl | ⟨host, hl⟩
    · exact W.putFinK X.1.1 X.1.2.1 hown (hts _ hl) hi hst hcf hname (by rw [q2]; exact h6) q1 q3 (by rw [hsl]; exact k2_hasslot (q4 j hj)) rfl rfl hd fin
    · refine va_Wputf X.1.1 X.1.2.1 hown (hts _ hl) hi hst (Or.inr ⟨hcf, hname⟩) q1 (by rw [q3]; exact fun h => by cases h) (by rw [hsl]; exact k2_hasslot (q4 j hj)) h6.1 (by rw [q3, q2]; exact h6.2) rfl rfl hd ?_
      have ha := (Array.getElem?_eq_some_iff.mp q1).1
      refine fin _ ?_ ?_ ?_
      · simp [Array.getElem?_setIfInBounds, ha]
      · simp
      · intro q hq
        simp [Array.getElem?_setIfInBounds, Ne.symm hq]
end EV5
/-! ===== EV: arrays ===== -/
theorem zi_nat {i : Int} {N : Nat} (h0 : 0 ≤ i) (h1 : i < N) (hN : N ≤ 1000000) : (Int32.ofInt i).toNatClampNeg = i.toNat := by
  have h : zi i := ⟨by omega, by omega⟩
  show (Int32.ofInt i).toInt.toNat = i.toNat
  rw [zi_t h]
theorem zi_idx {i : Int} {N : Nat} (h0 : 0 ≤ i) (h1 : i < N) (hN : N ≤ 1000000) : ¬ (Int32.ofInt i < 0 ∨ N ≤ (Int32.ofInt i).toNatClampNeg) := by
  have h : zi i := ⟨by omega, by omega⟩
  rw [zi_nat h0 h1 hN]
  rintro (q | q)
  · have := (zi_lt h zi_0).mp q
    omega
  · omega
theorem zw_arr_set {E : ze_E} {n : Nat} {sh : zk_S} {d : zm_D} {H H1 : Heap} {r i x : Int} {ty : FieldType} {N : Nat} (h : zw_H E n sh d H) (hr : sh r = some (.inr (ty, N))) (h0 : 0 < r) (hi0 : 0 ≤ i) (hi1 : i < N) (hN : N ≤ 1000000) (hz : H1.size = H.size) (oq : ∀ q, q ≠ ze_o E + (r.toNat - 1) → H1[q]? = H[q]?)
    (e1 : H1[ze_o E + (r.toNat - 1)]? = some ((arrV (ze_t E ty) N (fun j => zv_fv E ty (d r j))).setSlot (Int32.ofInt i).toNatClampNeg (zv_fv E ty x))) : zw_H E n sh (zm_u d r i x) H1 := by
  refine zw_H_set h h0 hz oq (fun a k ha => zm_ur ha) ?_
  rw [hr]
  have er : ((r.toNat : Nat) : Int) = r := by omega
  refine ⟨?_, (zw_arr h hr h0).2⟩
  rw [e1, arrV_store, zi_nat hi0 hi1 hN, er]
  congr 2
  funext j
  by_cases hj : j = i.toNat
  · subst hj
    have e2 : ((i.toNat : Nat) : Int) = i := by omega
    simp [updV, e2, zm_us]
  · have e2 : zm_u d r i x r (j : Int) = d r (j : Int) := zm_uj (by omega)
    simp [updV, hj, e2]
section EV6
variable {E : ze_E} {l : Launch} {M : zm_M} {D n : Nat} {sh : zk_S} {d : zm_D} {kc ks pc : Nat} {L : zl_L} {st : List zv_V} {Q : ev_Q}
theorem ev_iald {r i : Int} {N : Nat} (hd : decode (zm_c M) pc = .ok (.iaload, 1)) (hr : sh r = some (.inr (.int, N))) (h0 : 0 < r) (hN : N ≤ 1000000) (hi0 : 0 ≤ i) (hi1 : i < N)
    (kk : ev E l M D n sh d kc ks (pc + 1) L (zv_i (d r i) :: st) Q) : ev E l M D n sh d kc ks pc L (zv_i i :: zv_a r :: st) Q := by
  intro p e R s m args below meth c H locs cells slots mc ms ls X
  obtain ⟨q1, q2⟩ := zw_arr X.2.1 hr h0
  have hA := (X.1.2.2.2.2.2.2.2.2.2.1.2.1 _ q2).1 N (fun j => zv_fv E .int (d r j))
  have k2 := kk p e R s m args below meth c H locs cells slots mc ms ls X
  simp only [List.map_cons, zv_c] at k2 ⊢
  simp only [zv_ro_pos h0]
  have e2 : ((i.toNat : Nat) : Int) = i := by omega
  exact W.iald (v := zv_fv E .int (d r i)) X.1.1 X.1.2.1 q1 hA (fun q => by cases q) (by rw [arrV_size]; exact zi_idx hi0 hi1 hN) (by rw [zi_nat hi0 hi1 hN, arrV_read _ _ (show i.toNat < N by omega)]; show some (zv_fv E .int (d r ((i.toNat : Nat) : Int))) = _; rw [e2]) rfl rfl hd k2
theorem ev_cald {r i : Int} {N : Nat} (hd : decode (zm_c M) pc = .ok (.caload, 1)) (hr : sh r = some (.inr (.char, N))) (h0 : 0 < r) (hN : N ≤ 1000000) (hi0 : 0 ≤ i) (hi1 : i < N)
    (kk : ev E l M D n sh d kc ks (pc + 1) L (zv_i (d r i) :: st) Q) : ev E l M D n sh d kc ks pc L (zv_i i :: zv_a r :: st) Q := by
  intro p e R s m args below meth c H locs cells slots mc ms ls X
  obtain ⟨q1, q2⟩ := zw_arr X.2.1 hr h0
  have hA := (X.1.2.2.2.2.2.2.2.2.2.1.2.1 _ q2).1 N (fun j => zv_fv E .char (d r j))
  have k2 := kk p e R s m args below meth c H locs cells slots mc ms ls X
  simp only [List.map_cons, zv_c] at k2 ⊢
  simp only [zv_ro_pos h0]
  have e2 : ((i.toNat : Nat) : Int) = i := by omega
  exact W.cald (v := zv_fv E .char (d r i)) X.1.1 X.1.2.1 q1 hA (fun q => by cases q) (by rw [arrV_size]; exact zi_idx hi0 hi1 hN) (by rw [zi_nat hi0 hi1 hN, arrV_read _ _ (show i.toNat < N by omega)]; show some (zv_fv E .char (d r ((i.toNat : Nat) : Int))) = _; rw [e2]) rfl rfl hd k2
theorem ev_zald {r i : Int} {N : Nat} (hd : decode (zm_c M) pc = .ok (.baload, 1)) (hr : sh r = some (.inr (.boolean, N))) (h0 : 0 < r) (hN : N ≤ 1000000) (hi0 : 0 ≤ i) (hi1 : i < N)
    (kk : ev E l M D n sh d kc ks (pc + 1) L (zv_i (d r i) :: st) Q) : ev E l M D n sh d kc ks pc L (zv_i i :: zv_a r :: st) Q := by
  intro p e R s m args below meth c H locs cells slots mc ms ls X
  obtain ⟨q1, q2⟩ := zw_arr X.2.1 hr h0
  have hA := (X.1.2.2.2.2.2.2.2.2.2.1.2.1 _ q2).1 N (fun j => zv_fv E .boolean (d r j))
  have k2 := kk p e R s m args below meth c H locs cells slots mc ms ls X
  simp only [List.map_cons, zv_c] at k2 ⊢
  simp only [zv_ro_pos h0]
  have e2 : ((i.toNat : Nat) : Int) = i := by omega
  exact W.zald (v := zv_fv E .boolean (d r i)) X.1.1 X.1.2.1 q1 hA (fun q => by cases q) (by rw [arrV_size]; exact zi_idx hi0 hi1 hN) (by rw [zi_nat hi0 hi1 hN, arrV_read _ _ (show i.toNat < N by omega)]; show some (zv_fv E .boolean (d r ((i.toNat : Nat) : Int))) = _; rw [e2]) rfl rfl hd k2
theorem ev_lald {r i : Int} {N : Nat} (hd : decode (zm_c M) pc = .ok (.laload, 1)) (hr : sh r = some (.inr (.long, N))) (h0 : 0 < r) (hN : N ≤ 1000000) (hi0 : 0 ≤ i) (hi1 : i < N)
    (kk : ev E l M D n sh d kc ks (pc + 1) L (zv_l (d r i) :: st) Q) : ev E l M D n sh d kc ks pc L (zv_i i :: zv_a r :: st) Q := by
  intro p e R s m args below meth c H locs cells slots mc ms ls X
  obtain ⟨q1, q2⟩ := zw_arr X.2.1 hr h0
  have hA := (X.1.2.2.2.2.2.2.2.2.2.1.2.1 _ q2).1 N (fun j => zv_fv E .long (d r j))
  have k2 := kk p e R s m args below meth c H locs cells slots mc ms ls X
  simp only [List.map_cons, zv_c] at k2 ⊢
  simp only [zv_ro_pos h0]
  have e2 : ((i.toNat : Nat) : Int) = i := by omega
  exact W.lald (v := zv_fv E .long (d r i)) X.1.1 X.1.2.1 q1 hA (fun q => by cases q) (by rw [arrV_size]; exact zi_idx hi0 hi1 hN) (by rw [zi_nat hi0 hi1 hN, arrV_read _ _ (show i.toNat < N by omega)]; show some (zv_fv E .long (d r ((i.toNat : Nat) : Int))) = _; rw [e2]) rfl rfl hd k2
theorem ev_dald {r i : Int} {N : Nat} (hd : decode (zm_c M) pc = .ok (.daload, 1)) (hr : sh r = some (.inr (.double, N))) (h0 : 0 < r) (hN : N ≤ 1000000) (hi0 : 0 ≤ i) (hi1 : i < N)
    (kk : ev E l M D n sh d kc ks (pc + 1) L (zv_d (UInt64.ofNat (d r i).toNat) :: st) Q) : ev E l M D n sh d kc ks pc L (zv_i i :: zv_a r :: st) Q := by
  intro p e R s m args below meth c H locs cells slots mc ms ls X
  obtain ⟨q1, q2⟩ := zw_arr X.2.1 hr h0
  have hA := (X.1.2.2.2.2.2.2.2.2.2.1.2.1 _ q2).1 N (fun j => zv_fv E .double (d r j))
  have k2 := kk p e R s m args below meth c H locs cells slots mc ms ls X
  simp only [List.map_cons, zv_c] at k2 ⊢
  simp only [zv_ro_pos h0]
  have e2 : ((i.toNat : Nat) : Int) = i := by omega
  exact W.dald (v := zv_fv E .double (d r i)) X.1.1 X.1.2.1 q1 hA (fun q => by cases q) (by rw [arrV_size]; exact zi_idx hi0 hi1 hN) (by rw [zi_nat hi0 hi1 hN, arrV_read _ _ (show i.toNat < N by omega)]; show some (zv_fv E .double (d r ((i.toNat : Nat) : Int))) = _; rw [e2]) rfl rfl hd k2
theorem ev_aald {r i : Int} {N : Nat} {ty : FieldType} (hd : decode (zm_c M) pc = .ok (.aaload, 1)) (hr : sh r = some (.inr (ty, N))) (h0 : 0 < r) (hty : ty.isReference = true) (hN : N ≤ 1000000) (hi0 : 0 ≤ i) (hi1 : i < N)
    (kk : ev E l M D n sh d kc ks (pc + 1) L (zv_a (d r i) :: st) Q) : ev E l M D n sh d kc ks pc L (zv_i i :: zv_a r :: st) Q := by
  intro p e R s m args below meth c H locs cells slots mc ms ls X
  obtain ⟨q1, q2⟩ := zw_arr X.2.1 hr h0
  have hA := (X.1.2.2.2.2.2.2.2.2.2.1.2.1 _ q2).1 N (fun j => zv_fv E ty (d r j))
  have k2 := kk p e R s m args below meth c H locs cells slots mc ms ls X
  simp only [List.map_cons, zv_c] at k2 ⊢
  simp only [zv_ro_pos h0]
  have e2 : ((i.toNat : Nat) : Int) = i := by omega
  have e3 : zv_fv E ty (d r i) = va_rf (zv_ro E (d r i)) := by cases ty <;> first | rfl | cases hty
  exact W.aald (v := va_rf (zv_ro E (d r i))) X.1.1 X.1.2.1 q1 hA hty (fun q => by cases q) (by rw [arrV_size]; exact zi_idx hi0 hi1 hN) (by rw [zi_nat hi0 hi1 hN, arrV_read _ _ (show i.toNat < N by omega)]; show some (zv_fv E ty (d r ((i.toNat : Nat) : Int))) = _; rw [e2, e3]) rfl rfl hd k2
theorem zn_z {x : Int} (h : x = 0 ∨ x = 1) : narrow .boolean (.int (Int32.ofInt x)) = .int (Int32.ofInt x) := by rcases h with rfl | rfl <;> decide +kernel
theorem zn_c {x : Int} (h : 0 ≤ x ∧ x < 65536) : narrow .char (.int (Int32.ofInt x)) = .int (Int32.ofInt x) := by
  obtain ⟨k, rfl⟩ : ∃ k : Nat, x = k := ⟨x.toNat, by omega⟩
  exact (pk_charN (q := k) (by omega)).1
theorem ev_iast {r i : Int} {x : Int} {N : Nat} (hd : decode (zm_c M) pc = .ok (.iastore, 1)) (hr : sh r = some (.inr (.int, N))) (h0 : 0 < r) (hN : N ≤ 1000000) (hi0 : 0 ≤ i) (hi1 : i < N) 
    (kk : ev E l M D n sh (zm_u d r i x) kc ks (pc + 1) L st Q) : ev E l M D n sh d kc ks pc L (zv_i x :: zv_i i :: zv_a r :: st) Q := by
  intro p e R s m args below meth c H locs cells slots mc ms ls X
  obtain ⟨q1, q2⟩ := zw_arr X.2.1 hr h0
  have hA := (X.1.2.2.2.2.2.2.2.2.2.1.2.1 _ q2).1 N (fun j => zv_fv E .int (d r j))
  simp only [List.map_cons, zv_c]
  simp only [zv_ro_pos h0]
  refine W.iast X.1.1 X.1.2.1 q1 hA (fun q => by cases q) (by rw [arrV_size]; exact zi_idx hi0 hi1 hN) rfl rfl hd fun H1 e1 z oq => ?_
  exact kk p e R s m args below meth c H1 _ cells slots mc ms ls ⟨X.1, zw_arr_set X.2.1 hr h0 hi0 hi1 hN z oq e1, X.2.2.1.put z oq (Nat.le_add_right _ _), X.2.2.2⟩
theorem ev_last {r i : Int} {x : Int} {N : Nat} (hd : decode (zm_c M) pc = .ok (.lastore, 1)) (hr : sh r = some (.inr (.long, N))) (h0 : 0 < r) (hN : N ≤ 1000000) (hi0 : 0 ≤ i) (hi1 : i < N) 
    (kk : ev E l M D n sh (zm_u d r i x) kc ks (pc + 1) L st Q) : ev E l M D n sh d kc ks pc L (zv_l x :: zv_i i :: zv_a r :: st) Q := by
  intro p e R s m args below meth c H locs cells slots mc ms ls X
  obtain ⟨q1, q2⟩ := zw_arr X.2.1 hr h0
  have hA := (X.1.2.2.2.2.2.2.2.2.2.1.2.1 _ q2).1 N (fun j => zv_fv E .long (d r j))
  simp only [List.map_cons, zv_c]
  simp only [zv_ro_pos h0]
  refine W.last X.1.1 X.1.2.1 q1 hA (fun q => by cases q) (by rw [arrV_size]; exact zi_idx hi0 hi1 hN) rfl rfl hd fun H1 e1 z oq => ?_
  exact kk p e R s m args below meth c H1 _ cells slots mc ms ls ⟨X.1, zw_arr_set X.2.1 hr h0 hi0 hi1 hN z oq e1, X.2.2.1.put z oq (Nat.le_add_right _ _), X.2.2.2⟩
theorem ev_dast {r i : Int} {x : UInt64} {N : Nat} (hd : decode (zm_c M) pc = .ok (.dastore, 1)) (hr : sh r = some (.inr (.double, N))) (h0 : 0 < r) (hN : N ≤ 1000000) (hi0 : 0 ≤ i) (hi1 : i < N) 
    (kk : ev E l M D n sh (zm_u d r i x.toNat) kc ks (pc + 1) L st Q) : ev E l M D n sh d kc ks pc L (zv_d x :: zv_i i :: zv_a r :: st) Q := by
  intro p e R s m args below meth c H locs cells slots mc ms ls X
  obtain ⟨q1, q2⟩ := zw_arr X.2.1 hr h0
  have hA := (X.1.2.2.2.2.2.2.2.2.2.1.2.1 _ q2).1 N (fun j => zv_fv E .double (d r j))
  simp only [List.map_cons, zv_c]
  simp only [zv_ro_pos h0]
  refine W.dast X.1.1 X.1.2.1 q1 hA (fun q => by cases q) (by rw [arrV_size]; exact zi_idx hi0 hi1 hN) rfl rfl hd fun H1 e1 z oq => ?_
  exact kk p e R s m args below meth c H1 _ cells slots mc ms ls ⟨X.1, zw_arr_set X.2.1 hr h0 hi0 hi1 hN z oq (by rw [e1]; show some (Cell.setSlot _ _ _) = some (Cell.setSlot _ _ (.double (UInt64.ofNat ((x.toNat : Nat) : Int).toNat))); rw [Int.toNat_natCast, UInt64.ofNat_toNat]), X.2.2.1.put z oq (Nat.le_add_right _ _), X.2.2.2⟩
theorem ev_zast {r i : Int} {x : Int} {N : Nat} (hd : decode (zm_c M) pc = .ok (.bastore, 1)) (hr : sh r = some (.inr (.boolean, N))) (h0 : 0 < r) (hN : N ≤ 1000000) (hi0 : 0 ≤ i) (hi1 : i < N) (hx : x = 0 ∨ x = 1) 
    (kk : ev E l M D n sh (zm_u d r i x) kc ks (pc + 1) L st Q) : ev E l M D n sh d kc ks pc L (zv_i x :: zv_i i :: zv_a r :: st) Q := by
  intro p e R s m args below meth c H locs cells slots mc ms ls X
  obtain ⟨q1, q2⟩ := zw_arr X.2.1 hr h0
  have hA := (X.1.2.2.2.2.2.2.2.2.2.1.2.1 _ q2).1 N (fun j => zv_fv E .boolean (d r j))
  simp only [List.map_cons, zv_c]
  simp only [zv_ro_pos h0]
  refine W.zast X.1.1 X.1.2.1 q1 hA (fun q => by cases q) (by rw [arrV_size]; exact zi_idx hi0 hi1 hN) rfl rfl hd fun H1 e1 z oq => ?_
  rw [zn_z hx] at e1
  exact kk p e R s m args below meth c H1 _ cells slots mc ms ls ⟨X.1, zw_arr_set X.2.1 hr h0 hi0 hi1 hN z oq e1, X.2.2.1.put z oq (Nat.le_add_right _ _), X.2.2.2⟩
theorem ev_cast {r i : Int} {x : Int} {N : Nat} (hd : decode (zm_c M) pc = .ok (.castore, 1)) (hr : sh r = some (.inr (.char, N))) (h0 : 0 < r) (hN : N ≤ 1000000) (hi0 : 0 ≤ i) (hi1 : i < N) (hx : 0 ≤ x ∧ x < 65536) 
    (kk : ev E l M D n sh (zm_u d r i x) kc ks (pc + 1) L st Q) : ev E l M D n sh d kc ks pc L (zv_i x :: zv_i i :: zv_a r :: st) Q := by
  intro p e R s m args below meth c H locs cells slots mc ms ls X
  obtain ⟨q1, q2⟩ := zw_arr X.2.1 hr h0
  have hA := (X.1.2.2.2.2.2.2.2.2.2.1.2.1 _ q2).1 N (fun j => zv_fv E .char (d r j))
  simp only [List.map_cons, zv_c]
  simp only [zv_ro_pos h0]
  refine W.cast X.1.1 X.1.2.1 q1 hA (fun q => by cases q) (by rw [arrV_size]; exact zi_idx hi0 hi1 hN) rfl rfl hd fun H1 e1 z oq => ?_
  rw [zn_c hx] at e1
  exact kk p e R s m args below meth c H1 _ cells slots mc ms ls ⟨X.1, zw_arr_set X.2.1 hr h0 hi0 hi1 hN z oq e1, X.2.2.1.put z oq (Nat.le_add_right _ _), X.2.2.2⟩
theorem ev_aast {r i v : Int} {N ci : Nat} {q : vw_C} (hd : decode (zm_c M) pc = .ok (.aastore, 1)) (hr : sh r = some (.inr (.object q.1, N))) (h0 : 0 < r) (hN : N ≤ 1000000) (hi0 : 0 ≤ i) (hi1 : i < N) (hv : sh v = some (.inl ci)) (hv0 : 0 < v) (hc : zk_cl[ci]? = some q)
    (kk : ev E l M D n sh (zm_u d r i v) kc ks (pc + 1) L st Q) : ev E l M D n sh d kc ks pc L (zv_a v :: zv_i i :: zv_a r :: st) Q := by
  intro p e R s m args below meth c H locs cells slots mc ms ls X
  obtain ⟨q1, q2⟩ := zw_arr X.2.1 hr h0
  obtain ⟨q', hq', cell, g1, g2, g3, -⟩ := zw_obj X.2.1 hv hv0
  cases Option.some.inj (hc.symm.trans hq')
  have hcls := (X.1.2.2.2.2.2.2.2.2.2.1.1 ci q hc).2
  obtain ⟨kA, comp, k1, k2, k3, -⟩ := (X.1.2.2.2.2.2.2.2.2.2.1.2.1 _ q2).2
  have hcomp : comp = (ze_D E).1 ci := Option.some.inj (k3.symm.trans hcls.1)
  subst hcomp
  obtain ⟨kC, hkC, -⟩ := hcls.2
  simp only [List.map_cons, zv_c]
  simp only [zv_ro_pos h0, zv_ro_pos hv0]
  refine W.aast X.1.1 X.1.2.1 q1 (fun q h => by cases h) (fun h => by cases h) k1 k2 rfl hkC ⟨fun q9 => zi_idx hi0 hi1 hN (Or.inl q9), by rw [arrV_size]; exact Nat.not_le.mp fun q9 => zi_idx hi0 hi1 hN (Or.inr q9)⟩ g1 (fun q h => by rw [g3] at h; cases h) (by rw [g2]; exact hkC) (by rw [g2]; exact va_assign hcls) rfl rfl hd fun H1 e1 z oq => ?_
  refine kk p e R s m args below meth c H1 _ cells slots mc ms ls ⟨X.1, zw_arr_set X.2.1 hr h0 hi0 hi1 hN z oq ?_, X.2.2.1.put z oq (Nat.le_add_right _ _), X.2.2.2⟩
  rw [e1]
  show _ = some (Cell.setSlot _ _ (va_rf (zv_ro E v)))
  rw [zv_ro_pos hv0]
  rfl
theorem ev_aastN {r i : Int} {N : Nat} {C : String} (hd : decode (zm_c M) pc = .ok (.aastore, 1)) (hr : sh r = some (.inr (.object C, N))) (h0 : 0 < r) (hN : N ≤ 1000000) (hi0 : 0 ≤ i) (hi1 : i < N)
    (kk : ev E l M D n sh (zm_u d r i 0) kc ks (pc + 1) L st Q) : ev E l M D n sh d kc ks pc L (zv_a 0 :: zv_i i :: zv_a r :: st) Q := by
  intro p e R s m args below meth c H locs cells slots mc ms ls X
  obtain ⟨q1, q2⟩ := zw_arr X.2.1 hr h0
  have hA := (X.1.2.2.2.2.2.2.2.2.2.1.2.1 _ q2).1 N (fun j => zv_fv E (.object C) (d r j))
  simp only [List.map_cons, zv_c]
  simp only [zv_ro_pos h0, zv_ro_0]
  refine va_WaastN X.1.1 X.1.2.1 q1 hA (fun q => by cases q) (by rw [arrV_size]; exact zi_idx hi0 hi1 hN) rfl rfl hd fun H1 e1 z oq => ?_
  refine kk p e R s m args below meth c H1 _ cells slots mc ms ls ⟨X.1, zw_arr_set X.2.1 hr h0 hi0 hi1 hN z oq ?_, X.2.2.1.put z oq (Nat.le_add_right _ _), X.2.2.2⟩
  rw [e1]
  show _ = some (Cell.setSlot _ _ (va_rf (zv_ro E 0)))
  rw [zv_ro_0]
  rfl
theorem ev_alen {r : Int} {N : Nat} {ty : FieldType} (hd : decode (zm_c M) pc = .ok (.arraylength, 1)) (hr : sh r = some (.inr (ty, N))) (h0 : 0 < r)
    (kk : ev E l M D n sh d kc ks (pc + 1) L (zv_i (N : Int) :: st) Q) : ev E l M D n sh d kc ks pc L (zv_a r :: st) Q := by
  intro p e R s m args below meth c H locs cells slots mc ms ls X
  obtain ⟨q1, q2⟩ := zw_arr X.2.1 hr h0
  have hA := (X.1.2.2.2.2.2.2.2.2.2.1.2.1 _ q2).1 N (fun j => zv_fv E ty (d r j))
  have k2 := kk p e R s m args below meth c H locs cells slots mc ms ls X
  simp only [List.map_cons, zv_c] at k2 ⊢
  simp only [zv_ro_pos h0]
  exact W.alen (n := Int32.ofInt (N : Int)) X.1.1 X.1.2.1 q1 hA (by rw [arrV_size] <;> rfl) rfl rfl hd k2
/-- the script itself, as the object -1 -/
theorem zv_ro_m : zv_ro E (-1) = some (ze_b E) := by unfold zv_ro; rw [if_neg (by omega), if_pos (by omega), if_pos rfl]
theorem ev_slen (hd : decode (zm_c M) pc = .ok (.arraylength, 1)) (kk : ev E l M D n sh d kc ks (pc + 1) L (zv_i (ze_L E : Int) :: st) Q) : ev E l M D n sh d kc ks pc L (zv_a (-1) :: st) Q := by
  intro p e R s m args below meth c H locs cells slots mc ms ls X
  have k2 := kk p e R s m args below meth c H locs cells slots mc ms ls X
  simp only [List.map_cons, zv_c] at k2 ⊢
  simp only [zv_ro_m]
  obtain ⟨hX, hb1, hb2, -⟩ := X.1.2.2.2.2.2.2.2.2.2.2
  exact va_slen X.1.1 X.1.2.1 hX (Nat.lt_of_lt_of_le hb1 hb2) (Nat.not_le.mpr hb1) X.2.2.1 hd k2
theorem ev_sald {i : Int} (hd : decode (zm_c M) pc = .ok (.iaload, 1)) (hN : ze_L E ≤ 1000000) (hi0 : 0 ≤ i) (hi1 : i < ze_L E) (kk : ev E l M D n sh d kc ks (pc + 1) L (zv_i (ze_x E i.toNat).toInt :: st) Q) : ev E l M D n sh d kc ks pc L (zv_i i :: zv_a (-1) :: st) Q := by
  intro p e R s m args below meth c H locs cells slots mc ms ls X
  have k2 := kk p e R s m args below meth c H locs cells slots mc ms ls X
  simp only [List.map_cons, zv_c, zi_ofInt] at k2 ⊢
  simp only [zv_ro_m]
  obtain ⟨hX, hb1, hb2, -⟩ := X.1.2.2.2.2.2.2.2.2.2.2
  refine va_sld X.1.1 X.1.2.1 hX (Nat.lt_of_lt_of_le hb1 hb2) (Nat.not_le.mpr hb1) X.2.2.1 (zi_idx hi0 hi1 hN) hd ?_
  rw [zi_nat hi0 hi1 hN]
  exact k2
end EV6
/-! ===== EV: ends, throws, new things. vx_throwS9 and vx_throwSW9 are vx_throwS and vx_throwSW of kit/laws/EXCEPTIONS with the size of the heap told exactly ===== -/
section VX9
variable {p : Program} {l : Launch} {e : Env} {R : Room} {s : State} {m : MethodId} {args : Array Value} {below : List Frame} {meth : Method} {c : Code} {H : Heap} {locs : List Loc} {cells slots : Nat} {Q : State → Prop}
variable {mc ms : Nat} {free : Addr → Prop} {A0 A1 : Nat → Prop} {H0 : Heap} {a : Array Value} {ls : Array Slot} {st0 rest : List Value}
variable {Qc : Array Value → State → Outcome → State → Prop} {XC : String → State → State → Prop}
theorem vx_throwS9 {cc : ByteArray} {pc : Nat} (hexec : p.tables.exec = Jvm.exec) (hb : c.code = cc) (hl : l.stackTraces = false) {own cls text : String} {names : List String} {ik is ic mc ms sa : Nat} {A : Nat → Prop}
    (hown : s.vm.findClass own = some m.cls) (hcls : Bundle.fit cls = true) (hnames : ∀ n ∈ names, Bundle.fit n = true)
    (hk : (Cond.classLink own ik cls).before args s = true) (hini : (Cond.initialized cls).before args s = true) (hstr : vk_R own is text sa s) (hat : ∀ w ∈ vx_atS own ic cls names, w.before args s = true)
    (hgood : ∀ w ∈ Cond.classLink own ik cls :: Cond.initialized cls :: vx_atS own ic cls names, vx_ot w = true)
    (hU : vx_Zq Bundle.tN "UNASSIGNED_STACK" Bundle.steD A s s.heap) (hN : vx_Zq Bundle.tN "SUPPRESSED_SENTINEL" Bundle.listD A s s.heap) (hS : va_S A s.heap H locs) (hsize : ls.size = c.maxLocals)
    (d0 : decode cc pc = .ok (.new ik, 3)) (d3 : decode cc (pc + 3) = .ok (.dup, 1)) (d4 : decode cc (pc + 4) = .ok (.ldc is, 2)) (d6 : decode cc (pc + 6) = .ok (.invokespecial ic, 3)) (d9 : decode cc (pc + 9) = .ok (.athrow, 1))
    (hout : ∀ x ∈ c.exceptionTable.toList, covers x (pc + 9) = false)
    (hRframes : names.length + 3 < R.frames) (hRlocals : (rest.map fun v => v.category).sum + (13 * (names.length + 1) + 43) ≤ R.locals) (hRcells : cells + 1 ≤ R.cells) (hRslots : slots + 6 ≤ R.slots) (hlocks : meth.locks = false)
    (hx : ∀ t : State, s.vm.Alike t.vm → t.heap.size = H.size + 1 → (∀ q : Nat, q < H.size → t.heap[q]? = H[q]?) → XC cls s t)
    (hf : ∀ z ∈ locs, free z.base) (hc : cells + 1 ≤ mc) (hs : slots + 6 ≤ ms) :
    W p l e R s m args below meth c H locs cells slots (vx_MQ below Qc XC args s mc ms free) (F0 m pc ls rest) := by
  intro T hT X
  have htr : e.platform.stackTraces = false := (show e.platform.stackTraces = l.stackTraces by rw [X.admits.platform]).trans hl
  have Y := vx_rebase X (R' := { frames := R.frames, locals := R.locals, cells := 1, slots := 6 }) (Nat.le_refl _) (Nat.le_refl _) hRcells hRslots
  obtain ⟨s', hA⟩ : ∃ z, z = (T.setVm s.vm).setFrames (.invoking m args :: below) := ⟨_, rfl⟩
  rw [← hA] at Y
  have hvm : s'.vm = s.vm := by rw [hA]; rfl
  have hhp : s'.heap = H := by rw [hA]; exact hT
  have hW0 : s.WarmedH s'.vm := by rw [hvm]; exact State.WarmedH.refl s
  have hat' : ∀ w ∈ vx_atS own ic cls names, w.before args s' = true := fun w hw => vx_ot_at hW0 hvm.symm (hgood w (List.mem_cons_of_mem _ (List.mem_cons_of_mem _ hw))) (hat w hw)
  have hk' : (Cond.classLink own ik cls).before args s' = true := vx_ot_at hW0 hvm.symm (hgood _ List.mem_cons_self) hk
  have hini' : (Cond.initialized cls).before args s' = true := vx_ot_at hW0 hvm.symm (hgood _ (List.mem_cons_of_mem _ List.mem_cons_self)) hini
  have hU' : vx_Zq Bundle.tN "UNASSIGNED_STACK" Bundle.steD A s' s'.heap := by rw [hhp]; exact vx_Zq.moved hW0.alike (hU.kept hS.2.1)
  have hN' : vx_Zq Bundle.tN "SUPPRESSED_SENTINEL" Bundle.listD A s' s'.heap := by rw [hhp]; exact vx_Zq.moved hW0.alike (hN.kept hS.2.1)
  have h : ∀ w ∈ Bundle.ownAtoms own ic cls names, w.before args s' = true := vx_own hat' (vx_isRefq hU'.1) (vx_isRefq hN'.1) hU'.2.word hN'.2.word
  have hown' : s'.vm.findClass own = some m.cls := by rw [hvm]; exact hown
  have hins : (Cond.instantiable cls 6).before args s' = true := h _ (by simp [Bundle.ownAtoms])
  obtain ⟨vm₁, cX, kX, hfX, hkX, -, -, X₁, st1⟩ := Y.newCold hexec (own := own) (C := cls) (index := ik) (n := 6) hown' hk' hins hini'
    (g := F0 m pc ls rest) rfl (by rw [hb]; exact d0) (Nat.le_refl _) (Nat.le_refl _)
  generalize hT1 : (T.setVm vm₁).pushCell { cls := cX, slots := kX.instanceTypes.map defaultValue, vm := .none } = T1 at X₁ st1
  have hcat : (Value.ref T.heap.size).category = 1 := rfl
  have hcellA : T1.heap[T.heap.size]? = some (freshCell cX kX) := by rw [← hT1]; exact State.heap_pushCell_size _ _
  have d3' : decode c.code (pc + 3) = .ok (.dup, 1) := by rw [hb]; exact d3
  have d4' : decode c.code (pc + 4) = .ok (.ldc is, 2) := by rw [hb]; exact d4
  have hstr' : vk_R own is text sa s' := vk_R.warm hW0 hstr
  obtain ⟨U, hsteps, hrun, hend, hW, hsame, ce, hce, hO⟩ := X₁.ctorThrowS hexec htr (own := own) (cls := cls) (names := names) (ic := ic) hown' hcls hnames h (fun x hx => nomatch hx) hfX hkX hcellA (by rw [hhp, hT]; exact Nat.le_refl _) (msg := .ref sa) rfl
    (g := { method := m, pc := pc + 6, locals := ls, stack := .ref sa :: .ref T.heap.size :: .ref T.heap.size :: rest, locked := none }) rfl hsize rfl rfl (rest := rest) rfl
    (by rw [hb]; exact d6) (by rw [hb]; exact d9) hout hRframes (by simp only [List.map_cons, List.sum_cons, hcat]; omega) hlocks
  obtain ⟨f1, f2⟩ := vx_frame hsame
  rw [hhp] at f1 f2
  have f9 : U.heap.size = H.size + 1 := by
    have g1 : U.heap.size ≤ s'.heap.size + 1 := hsame.2.2.1
    have g2 := (Array.getElem?_eq_some_iff.mp hce).1
    rw [hhp] at g1
    rw [hT] at g2
    omega
  have hWs : s.WarmedH U.vm := State.WarmedH.trans hW0 hW
  have hcl : s.vm.findClass cls = some ce.cls := by
    have h9 := hO.cls
    rw [hvm] at h9
    exact h9
  have hall : s.sameButNew ({ U with vm := s.vm } : State) locs mc ms := by
    subst hA
    obtain ⟨e1, e2⟩ := hsame
    rw [State.setFrames_setFrames] at e1
    have h2 : (T.setVm s.vm).sameButNew ({ U with vm := s.vm } : State) [] (0 + 1) (0 + 6) := ⟨e1, e2⟩
    have h3 := X.same.trans h2
    rw [List.append_nil] at h3
    exact h3.mono hc hs
  refine ⟨U, ?_, .threw T.heap.size, hrun, hend, Or.inr ⟨T.heap.size, rfl, cls, ce, locs, hx U hWs.alike f9 (fun q hq => f2 q hq (fun z hz => nomatch hz)), hce, hO.vm, hcl, hWs, hall, hf⟩⟩
  refine st1 _ ?_
  show Steps p.tables e below (T1.setTop { method := m, pc := pc + 3, locals := ls, stack := .ref T.heap.size :: rest, locked := none }) _
  jvm_step X₁.here [X₁.here.top, hexec, d3', Value.category]
  exact X₁.ldcString hexec (own := own) (text := text) (index := is) (a := sa) hown' hstr'.1 hstr'.2
    (g := { method := m, pc := pc + 4, locals := ls, stack := .ref T.heap.size :: .ref T.heap.size :: rest, locked := none }) rfl d4' _ hsteps
theorem vx_throwSW9 {cc : ByteArray} {pc : Nat} (hexec : p.tables.exec = Jvm.exec) (hb : c.code = cc) (hl : l.stackTraces = false) {own cls text : String} {names : List String} {ik is ic mc ms sa : Nat} {A : Nat → Prop}
    (hown : s.vm.findClass own = some m.cls) (hcls : Bundle.fit cls = true) (hnames : ∀ n ∈ names, Bundle.fit n = true)
    (hk : (Cond.classLink own ik cls).before args s = true) (hini : (Cond.initialized cls).before args s = true) (hstr : vk_R own is text sa s) (hat : ∀ w ∈ vx_atS own ic cls names, w.before args s = true)
    (hgood : ∀ w ∈ Cond.classLink own ik cls :: Cond.initialized cls :: vx_atS own ic cls names, vx_ot w = true)
    (hU : vx_Zq Bundle.tN "UNASSIGNED_STACK" Bundle.steD A s s.heap) (hN : vx_Zq Bundle.tN "SUPPRESSED_SENTINEL" Bundle.listD A s s.heap) (hS : va_S A s.heap H locs) (hsize : ls.size = c.maxLocals)
    (d0 : decode cc pc = .ok (.new ik, 3)) (d3 : decode cc (pc + 3) = .ok (.dup, 1)) (d4 : decode cc (pc + 4) = .ok (.ldc_w is, 3)) (d7 : decode cc (pc + 7) = .ok (.invokespecial ic, 3)) (d10 : decode cc (pc + 10) = .ok (.athrow, 1))
    (hout : ∀ x ∈ c.exceptionTable.toList, covers x (pc + 10) = false)
    (hRframes : names.length + 3 < R.frames) (hRlocals : (rest.map fun v => v.category).sum + (13 * (names.length + 1) + 43) ≤ R.locals) (hRcells : cells + 1 ≤ R.cells) (hRslots : slots + 6 ≤ R.slots) (hlocks : meth.locks = false)
    (hx : ∀ t : State, s.vm.Alike t.vm → t.heap.size = H.size + 1 → (∀ q : Nat, q < H.size → t.heap[q]? = H[q]?) → XC cls s t)
    (hf : ∀ z ∈ locs, free z.base) (hc : cells + 1 ≤ mc) (hs : slots + 6 ≤ ms) :
    W p l e R s m args below meth c H locs cells slots (vx_MQ below Qc XC args s mc ms free) (F0 m pc ls rest) := by
  intro T hT X
  have htr : e.platform.stackTraces = false := (show e.platform.stackTraces = l.stackTraces by rw [X.admits.platform]).trans hl
  have Y := vx_rebase X (R' := { frames := R.frames, locals := R.locals, cells := 1, slots := 6 }) (Nat.le_refl _) (Nat.le_refl _) hRcells hRslots
  obtain ⟨s', hA⟩ : ∃ z, z = (T.setVm s.vm).setFrames (.invoking m args :: below) := ⟨_, rfl⟩
  rw [← hA] at Y
  have hvm : s'.vm = s.vm := by rw [hA]; rfl
  have hhp : s'.heap = H := by rw [hA]; exact hT
  have hW0 : s.WarmedH s'.vm := by rw [hvm]; exact State.WarmedH.refl s
  have hat' : ∀ w ∈ vx_atS own ic cls names, w.before args s' = true := fun w hw => vx_ot_at hW0 hvm.symm (hgood w (List.mem_cons_of_mem _ (List.mem_cons_of_mem _ hw))) (hat w hw)
  have hk' : (Cond.classLink own ik cls).before args s' = true := vx_ot_at hW0 hvm.symm (hgood _ List.mem_cons_self) hk
  have hini' : (Cond.initialized cls).before args s' = true := vx_ot_at hW0 hvm.symm (hgood _ (List.mem_cons_of_mem _ List.mem_cons_self)) hini
  have hU' : vx_Zq Bundle.tN "UNASSIGNED_STACK" Bundle.steD A s' s'.heap := by rw [hhp]; exact vx_Zq.moved hW0.alike (hU.kept hS.2.1)
  have hN' : vx_Zq Bundle.tN "SUPPRESSED_SENTINEL" Bundle.listD A s' s'.heap := by rw [hhp]; exact vx_Zq.moved hW0.alike (hN.kept hS.2.1)
  have h : ∀ w ∈ Bundle.ownAtoms own ic cls names, w.before args s' = true := vx_own hat' (vx_isRefq hU'.1) (vx_isRefq hN'.1) hU'.2.word hN'.2.word
  have hown' : s'.vm.findClass own = some m.cls := by rw [hvm]; exact hown
  have hins : (Cond.instantiable cls 6).before args s' = true := h _ (by simp [Bundle.ownAtoms])
  obtain ⟨vm₁, cX, kX, hfX, hkX, -, -, X₁, st1⟩ := Y.newCold hexec (own := own) (C := cls) (index := ik) (n := 6) hown' hk' hins hini'
    (g := F0 m pc ls rest) rfl (by rw [hb]; exact d0) (Nat.le_refl _) (Nat.le_refl _)
  generalize hT1 : (T.setVm vm₁).pushCell { cls := cX, slots := kX.instanceTypes.map defaultValue, vm := .none } = T1 at X₁ st1
  have hcat : (Value.ref T.heap.size).category = 1 := rfl
  have hcellA : T1.heap[T.heap.size]? = some (freshCell cX kX) := by rw [← hT1]; exact State.heap_pushCell_size _ _
  have d3' : decode c.code (pc + 3) = .ok (.dup, 1) := by rw [hb]; exact d3
  have d4' : decode c.code (pc + 4) = .ok (.ldc_w is, 3) := by rw [hb]; exact d4
  have hstr' : vk_R own is text sa s' := vk_R.warm hW0 hstr
  obtain ⟨U, hsteps, hrun, hend, hW, hsame, ce, hce, hO⟩ := X₁.ctorThrowS hexec htr (own := own) (cls := cls) (names := names) (ic := ic) hown' hcls hnames h (fun x hx => nomatch hx) hfX hkX hcellA (by rw [hhp, hT]; exact Nat.le_refl _) (msg := .ref sa) rfl
    (g := { method := m, pc := pc + 7, locals := ls, stack := .ref sa :: .ref T.heap.size :: .ref T.heap.size :: rest, locked := none }) rfl hsize rfl rfl (rest := rest) rfl
    (by rw [hb]; exact d7) (by rw [hb]; exact d10) hout hRframes (by simp only [List.map_cons, List.sum_cons, hcat]; omega) hlocks
  obtain ⟨f1, f2⟩ := vx_frame hsame
  rw [hhp] at f1 f2
  have f9 : U.heap.size = H.size + 1 := by
    have g1 : U.heap.size ≤ s'.heap.size + 1 := hsame.2.2.1
    have g2 := (Array.getElem?_eq_some_iff.mp hce).1
    rw [hhp] at g1
    rw [hT] at g2
    omega
  have hWs : s.WarmedH U.vm := State.WarmedH.trans hW0 hW
  have hcl : s.vm.findClass cls = some ce.cls := by
    have h9 := hO.cls
    rw [hvm] at h9
    exact h9
  have hall : s.sameButNew ({ U with vm := s.vm } : State) locs mc ms := by
    subst hA
    obtain ⟨e1, e2⟩ := hsame
    rw [State.setFrames_setFrames] at e1
    have h2 : (T.setVm s.vm).sameButNew ({ U with vm := s.vm } : State) [] (0 + 1) (0 + 6) := ⟨e1, e2⟩
    have h3 := X.same.trans h2
    rw [List.append_nil] at h3
    exact h3.mono hc hs
  refine ⟨U, ?_, .threw T.heap.size, hrun, hend, Or.inr ⟨T.heap.size, rfl, cls, ce, locs, hx U hWs.alike f9 (fun q hq => f2 q hq (fun z hz => nomatch hz)), hce, hO.vm, hcl, hWs, hall, hf⟩⟩
  refine st1 _ ?_
  show Steps p.tables e below (T1.setTop { method := m, pc := pc + 3, locals := ls, stack := .ref T.heap.size :: rest, locked := none }) _
  jvm_step X₁.here [X₁.here.top, hexec, d3', Value.category]
  exact X₁.ldcStringW hexec (own := own) (text := text) (index := is) (a := sa) hown' hstr'.1 hstr'.2
    (g := { method := m, pc := pc + 4, locals := ls, stack := .ref T.heap.size :: .ref T.heap.size :: rest, locked := none }) rfl d4' _ hsteps
end VX9
theorem zg_ot {w : Cond} (h : zg_good w = true) (h2 : zg_arr w = false) : vx_ot w = true := by
  simp only [zg_good, Bool.or_eq_true, Bool.and_eq_true, h2] at h
  simp only [vx_ot, Bool.or_eq_true]
  rcases h with h | h | h
  · exact Or.inr h
  · exact Or.inl h.1
  · cases h
theorem va_rf_or9 (r : Option Nat) : va_rf r = .null ∨ ∃ a, va_rf r = .ref a := by cases r with
  | none => exact Or.inl rfl
  | some a => exact Or.inr ⟨a, rfl⟩
def zk_u (sh : zk_S) (r : Int) (k : zk_K) : zk_S := fun a => if a = r then k else sh a
theorem zw_H_old {E : ze_E} {n : Nat} {sh : zk_S} {d : zm_D} {H H1 : Heap} (h : zw_H E n sh d H) (hk : ∀ q, q < H.size → H1[q]? = H[q]?) (r : Nat) (hr : 1 ≤ r) : zw_at E d H1 r (sh r) := by
  have h1 := h.2 r hr
  rcases hs : sh r with _ | ci | ⟨ty, N⟩
  · trivial
  · rw [hs] at h1
    obtain ⟨q, g1, g2⟩ := h1
    obtain ⟨cell, g3, -⟩ := id g2
    exact ⟨q, g1, g2.kept (hk _ (Array.getElem?_eq_some_iff.mp g3).1)⟩
  · rw [hs] at h1
    exact ⟨(hk _ (Array.getElem?_eq_some_iff.mp h1.1).1).trans h1.1, h1.2⟩
theorem zw_H_grow {E : ze_E} {n : Nat} {sh : zk_S} {d : zm_D} {H H1 : Heap} (h : zw_H E n sh d H) (hz : H1.size = H.size + 1) (hk : ∀ q, q < H.size → H1[q]? = H[q]?) : zw_H E (n + 1) sh d H1 :=
  ⟨by rw [hz, h.1]; omega, fun r hr => zw_H_old h hk r hr⟩
theorem zw_H_new {E : ze_E} {n : Nat} {sh : zk_S} {d : zm_D} {H H1 : Heap} {k : zk_K} (h : zw_H E n sh d H) (hz : H1.size = H.size + 1) (hk : ∀ q, q < H.size → H1[q]? = H[q]?) (hn : zw_at E d H1 (n + 1) k) : zw_H E (n + 1) (zk_u sh ((n : Int) + 1) k) d H1 := by
  refine ⟨by rw [hz, h.1]; omega, fun r hr => ?_⟩
  unfold zk_u
  by_cases e : (r : Int) = (n : Int) + 1
  · rw [if_pos e]
    have e2 : r = n + 1 := by omega
    subst e2
    exact hn
  · rw [if_neg e]
    exact zw_H_old h hk r hr
theorem zv_def (E : ze_E) (ty : FieldType) : defaultValue ty = zv_fv E ty 0 := by
  have h0 : zv_ro E 0 = none := zv_ro_0
  cases ty <;> first | rfl | (simp only [zv_fv, h0]; rfl)
section EV7
variable {E : ze_E} {l : Launch} {M : zm_M} {D n : Nat} {sh : zk_S} {d : zm_D} {kc ks pc : Nat} {L : zl_L} {st : List zv_V} {Q : ev_Q}
theorem ev_iret {x : Int} {ty : FieldType} (hd : decode (zm_c M) pc = .ok (.ireturn, 1)) (hr : zm_r M = some ty) (hn : narrow ty (.int (Int32.ofInt x)) = .int (Int32.ofInt x)) (hq : Q (.inl (some (zv_i x))) n sh d) : ev E l M D n sh d kc ks pc L ([(zv_i x)]) Q := by
  intro p e R s m args below meth c H locs cells slots mc ms ls X
  obtain ⟨-, -, h1, h2, -, -⟩ := X.2.2.2.2
  refine W.widen (k := mc) (n := ms) (by omega) (by omega) (vx_ret ?_)
  exact W.zret X.1.1 X.1.2.1 (X.1.2.2.1.trans hr) hn (fun t ht hW => ⟨⟨(some (zv_i x)), n, sh, d, rfl, hq, by rw [ht]; exact X.2.1⟩, X.2.2.1.F ht⟩) X.2.2.1.2.2 hd X.1.2.2.2.2.2.2.1
theorem ev_lret {x : Int} (hd : decode (zm_c M) pc = .ok (.lreturn, 1)) (hr : zm_r M = some .long) (hq : Q (.inl (some (zv_l x))) n sh d) : ev E l M D n sh d kc ks pc L ([(zv_l x)]) Q := by
  intro p e R s m args below meth c H locs cells slots mc ms ls X
  obtain ⟨-, -, h1, h2, -, -⟩ := X.2.2.2.2
  refine W.widen (k := mc) (n := ms) (by omega) (by omega) (vx_ret ?_)
  exact W.lret X.1.1 X.1.2.1 (X.1.2.2.1.trans hr) (fun t ht hW => ⟨⟨(some (zv_l x)), n, sh, d, rfl, hq, by rw [ht]; exact X.2.1⟩, X.2.2.1.F ht⟩) X.2.2.1.2.2 hd X.1.2.2.2.2.2.2.1
theorem ev_dret {x : UInt64} (hd : decode (zm_c M) pc = .ok (.dreturn, 1)) (hr : zm_r M = some .double) (hq : Q (.inl (some (zv_d x))) n sh d) : ev E l M D n sh d kc ks pc L ([(zv_d x)]) Q := by
  intro p e R s m args below meth c H locs cells slots mc ms ls X
  obtain ⟨-, -, h1, h2, -, -⟩ := X.2.2.2.2
  refine W.widen (k := mc) (n := ms) (by omega) (by omega) (vx_ret ?_)
  exact W.dret X.1.1 X.1.2.1 (X.1.2.2.1.trans hr) (fun t ht hW => ⟨⟨(some (zv_d x)), n, sh, d, rfl, hq, by rw [ht]; exact X.2.1⟩, X.2.2.1.F ht⟩) X.2.2.1.2.2 hd X.1.2.2.2.2.2.2.1
theorem ev_fret {x : UInt32} (hd : decode (zm_c M) pc = .ok (.freturn, 1)) (hr : zm_r M = some .float) (hq : Q (.inl (some (zv_f x))) n sh d) : ev E l M D n sh d kc ks pc L ([(zv_f x)]) Q := by
  intro p e R s m args below meth c H locs cells slots mc ms ls X
  obtain ⟨-, -, h1, h2, -, -⟩ := X.2.2.2.2
  refine W.widen (k := mc) (n := ms) (by omega) (by omega) (vx_ret ?_)
  exact W.fret X.1.1 X.1.2.1 (X.1.2.2.1.trans hr) (fun t ht hW => ⟨⟨(some (zv_f x)), n, sh, d, rfl, hq, by rw [ht]; exact X.2.1⟩, X.2.2.1.F ht⟩) X.2.2.1.2.2 hd X.1.2.2.2.2.2.2.1
theorem ev_vret (hd : decode (zm_c M) pc = .ok (.return_, 1)) (hr : zm_r M = none) (hq : Q (.inl none) n sh d) : ev E l M D n sh d kc ks pc L ([]) Q := by
  intro p e R s m args below meth c H locs cells slots mc ms ls X
  obtain ⟨-, -, h1, h2, -, -⟩ := X.2.2.2.2
  refine W.widen (k := mc) (n := ms) (by omega) (by omega) (vx_ret ?_)
  exact W.vret X.1.1 X.1.2.1 (X.1.2.2.1.trans hr) (fun t ht hW => ⟨⟨none, n, sh, d, rfl, hq, by rw [ht]; exact X.2.1⟩, X.2.2.1.F ht⟩) X.2.2.1.2.2 hd X.1.2.2.2.2.2.2.1
theorem ev_aret {x : Int} {rt : FieldType} (hd : decode (zm_c M) pc = .ok (.areturn, 1)) (hr : zm_r M = some rt) (hrt : (∃ n, rt = .object n) ∨ ∃ t, rt = .array t) (hq : Q (.inl (some (zv_a x))) n sh d) : ev E l M D n sh d kc ks pc L [zv_a x] Q := by
  intro p e R s m args below meth c H locs cells slots mc ms ls X
  obtain ⟨-, -, h1, h2, -, -⟩ := X.2.2.2.2
  refine W.widen (k := mc) (n := ms) (by omega) (by omega) (vx_ret ?_)
  exact W.aret X.1.1 X.1.2.1 (X.1.2.2.1.trans hr) hrt (va_rf_or9 (zv_ro E x)) (fun t ht hW => ⟨⟨some (zv_a x), n, sh, d, rfl, hq, by rw [ht]; exact X.2.1⟩, X.2.2.1.F ht⟩) X.2.2.1.2.2 hd X.1.2.2.2.2.2.2.1
/-- what 'throw new X("text")' rests on -/
def zt_ok (M : zm_M) (ik is ic : Nat) (text cls : String) (names : List String) : Prop :=
  Bundle.fit cls = true ∧ (∀ n ∈ names, Bundle.fit n = true) ∧ Cond.classLink (zm_o M) ik cls ∈ lw_g ∧ Cond.initialized cls ∈ lw_g ∧ (zm_o M, is, text) ∈ zk_str ∧ ∀ w ∈ vx_atS (zm_o M) ic cls names, w ∈ lw_g ∧ zg_arr w = false
theorem ev_throwS {ik is ic : Nat} {text cls : String} {names : List String} (d0 : decode (zm_c M) pc = .ok (.new ik, 3)) (d3 : decode (zm_c M) (pc + 3) = .ok (.dup, 1)) (d4 : decode (zm_c M) (pc + 4) = .ok (.ldc is, 2)) (d6 : decode (zm_c M) (pc + 6) = .ok (.invokespecial ic, 3)) (d9 : decode (zm_c M) (pc + 9) = .ok (.athrow, 1))
    (hz : zt_ok M ik is ic text cls names) (hl : l.stackTraces = false) (hh : zm_h M = []) (hD : names.length + 6 ≤ D) (hst : st.length ≤ 8) (hkc : 1 ≤ kc) (hks : 6 ≤ ks) (hq : Q (.inr cls) (n + 1) sh d) : ev E l M D n sh d kc ks pc L st Q := by
  intro p e R s m args below meth c H locs cells slots mc ms ls X
  obtain ⟨z1, z2, z3, z4, z5, z6⟩ := hz
  obtain ⟨r1, r2, h1, h2, r3, r4⟩ := X.2.2.2.2
  have hts := X.1.2.2.2.2.2.1
  obtain ⟨sa, hstr⟩ := X.1.2.2.2.2.2.2.2.2.2.1.2.2.1 _ z5
  obtain ⟨-, -, -, hU, hN⟩ := X.1.2.2.2.2.2.2.2.2.2.2
  have hsum : ∀ l9 : List zv_V, ((l9.map (zv_c E)).map fun v => v.category).sum ≤ 2 * l9.length := by
    intro l9
    induction l9 with
    | nil => simp
    | cons a t ih =>
      have h9 := zv_cat E a
      have h8 : zv_k a ≤ 2 := by rcases a with (x | r) | (x | (x | x)) <;> simp [zv_k]
      simp only [List.map_cons, List.sum_cons, List.length_cons]
      omega
  have hs9 := hsum st
  refine vx_throwS9 X.1.1 X.1.2.1 hl X.1.2.2.2.2.1 z1 z2 (hts _ z3) (hts _ z4) hstr (fun w hw => hts w (z6 w hw).1) ?_ hU hN X.2.2.1 (X.2.2.2.1.1.trans X.1.2.2.2.1.symm) d0 d3 d4 d6 d9 ?_ (by omega) (by omega) (by omega) (by omega) X.1.2.2.2.2.2.2.1 ?_ X.2.2.1.2.2 (by omega) (by omega)
  · intro w hw
    rcases List.mem_cons.mp hw with rfl | hw
    · exact zg_ot (lw_g_ok z3) rfl
    · rcases List.mem_cons.mp hw with rfl | hw
      · exact zg_ot (lw_g_ok z4) rfl
      · exact zg_ot (lw_g_ok (z6 w hw).1) (z6 w hw).2
  · intro x hx
    rw [X.1.2.2.2.2.2.2.2.1, hh] at hx
    cases hx
  · intro t hA hz hk
    refine ⟨n + 1, sh, d, hq, zw_H_grow X.2.1 hz hk, ?_⟩
    refine ⟨by rw [hz]; exact Nat.le_trans X.2.2.1.1 (Nat.le_succ _), fun q g1 g2 => ?_⟩
    rw [hk q (Nat.lt_of_lt_of_le g1 X.2.2.1.1)]
    exact X.2.2.1.2.1 q g1 g2
theorem ev_throwSW {ik is ic : Nat} {text cls : String} {names : List String} (d0 : decode (zm_c M) pc = .ok (.new ik, 3)) (d3 : decode (zm_c M) (pc + 3) = .ok (.dup, 1)) (d4 : decode (zm_c M) (pc + 4) = .ok (.ldc_w is, 3)) (d6 : decode (zm_c M) (pc + 7) = .ok (.invokespecial ic, 3)) (d9 : decode (zm_c M) (pc + 10) = .ok (.athrow, 1))
    (hz : zt_ok M ik is ic text cls names) (hl : l.stackTraces = false) (hh : zm_h M = []) (hD : names.length + 6 ≤ D) (hst : st.length ≤ 8) (hkc : 1 ≤ kc) (hks : 6 ≤ ks) (hq : Q (.inr cls) (n + 1) sh d) : ev E l M D n sh d kc ks pc L st Q := by
  intro p e R s m args below meth c H locs cells slots mc ms ls X
  obtain ⟨z1, z2, z3, z4, z5, z6⟩ := hz
  obtain ⟨r1, r2, h1, h2, r3, r4⟩ := X.2.2.2.2
  have hts := X.1.2.2.2.2.2.1
  obtain ⟨sa, hstr⟩ := X.1.2.2.2.2.2.2.2.2.2.1.2.2.1 _ z5
  obtain ⟨-, -, -, hU, hN⟩ := X.1.2.2.2.2.2.2.2.2.2.2
  have hsum : ∀ l9 : List zv_V, ((l9.map (zv_c E)).map fun v => v.category).sum ≤ 2 * l9.length := by
    intro l9
    induction l9 with
    | nil => simp
    | cons a t ih =>
      have h9 := zv_cat E a
      have h8 : zv_k a ≤ 2 := by rcases a with (x | r) | (x | (x | x)) <;> simp [zv_k]
      simp only [List.map_cons, List.sum_cons, List.length_cons]
      omega
  have hs9 := hsum st
  refine vx_throwSW9 X.1.1 X.1.2.1 hl X.1.2.2.2.2.1 z1 z2 (hts _ z3) (hts _ z4) hstr (fun w hw => hts w (z6 w hw).1) ?_ hU hN X.2.2.1 (X.2.2.2.1.1.trans X.1.2.2.2.1.symm) d0 d3 d4 d6 d9 ?_ (by omega) (by omega) (by omega) (by omega) X.1.2.2.2.2.2.2.1 ?_ X.2.2.1.2.2 (by omega) (by omega)
  · intro w hw
    rcases List.mem_cons.mp hw with rfl | hw
    · exact zg_ot (lw_g_ok z3) rfl
    · rcases List.mem_cons.mp hw with rfl | hw
      · exact zg_ot (lw_g_ok z4) rfl
      · exact zg_ot (lw_g_ok (z6 w hw).1) (z6 w hw).2
  · intro x hx
    rw [X.1.2.2.2.2.2.2.2.1, hh] at hx
    cases hx
  · intro t hA hz hk
    refine ⟨n + 1, sh, d, hq, zw_H_grow X.2.1 hz hk, ?_⟩
    refine ⟨by rw [hz]; exact Nat.le_trans X.2.2.1.1 (Nat.le_succ _), fun q g1 g2 => ?_⟩
    rw [hk q (Nat.lt_of_lt_of_le g1 X.2.2.1.1)]
    exact X.2.2.1.2.1 q g1 g2
/-- the next thing that is made -/
theorem ev_new {idx ci kc2 ks2 : Nat} {q : vw_C} (hd : decode (zm_c M) pc = .ok (.new idx, 3)) (hc : zk_cl[ci]? = some q) (hl : Cond.classLink (zm_o M) idx q.1 ∈ lw_g) (hi : Cond.instantiable q.1 q.2.2 ∈ lw_g) (hi2 : Cond.initialized q.1 ∈ lw_g) (h0 : ∀ j, d ((n : Int) + 1) j = 0) (hkc : 1 + kc2 ≤ kc) (hks : q.2.2 + ks2 ≤ ks)
    (kk : ev E l M D (n + 1) (zk_u sh ((n : Int) + 1) (some (.inl ci))) d kc2 ks2 (pc + 3) L (zv_a ((n : Int) + 1) :: st) Q) : ev E l M D n sh d kc ks pc L st Q := by
  intro p e R s m args below meth c H locs cells slots mc ms ls X
  obtain ⟨r1, r2, h1, h2, r3, r4⟩ := X.2.2.2.2
  have hts := X.1.2.2.2.2.2.1
  have hKn := X.1.2.2.2.2.2.2.2.2.2.1.1 ci q hc
  have hsz := X.2.1.1
  refine W.newcK X.1.1 X.1.2.1 X.1.2.2.2.2.1 (hts _ hl) (hts _ hi) (hts _ hi2) rfl hd (by omega) (by omega) hKn.2.1 hsz fun H1 kC hkC e1 z1 o1 => ?_
  have hro : zv_c E (zv_a ((n : Int) + 1)) = .ref (ze_o E + n) := by
    show va_rf (zv_ro E ((n : Int) + 1)) = _
    rw [zv_ro_pos (by omega)]
    show Value.ref _ = _
    congr 2
  have k2 := kk p e R s m args below meth c H1 locs (cells + 1) (slots + q.2.2) mc ms ls ⟨X.1, zw_H_new X.2.1 (by rw [z1, hsz]) (fun q9 h9 => o1 q9 (by omega)) ⟨q, hc, ?_⟩, ⟨Nat.le_trans X.2.2.1.1 (by omega), fun x g1 g2 => (o1 x (by have := X.2.2.1.1; omega)).trans (X.2.2.1.2.1 x g1 g2), X.2.2.1.2.2⟩, X.2.2.2.1, r1, r2, by omega, by omega, r3, r4⟩
  · simp only [List.map_cons, hro] at k2
    exact k2
  · have e2 : (((n + 1 : Nat) : Int)) = (n : Int) + 1 := by omega
    refine (u_born (zk_ty ci) hts (zc_in ci q hc) hKn hkC e1 (zc_ty ci q hc)).to (fun j hj => ?_)
    rw [e2, h0 j, zv_def E]
theorem ev_newa {N kc2 ks2 : Nat} {atype : ArrayType} {ty : FieldType} (hd : decode (zm_c M) pc = .ok (.newarray atype, 2)) (hty : newarray.typeOf atype = ty) (ha : Cond.arrayClass ty ∈ lw_g) (hin : ty ∈ zk_aty) (hprim : ty.isReference = false) (h0 : ∀ j, d ((n : Int) + 1) j = 0) (hN : N ≤ 65536) (hkc : 1 + kc2 ≤ kc) (hks : N + ks2 ≤ ks)
    (kk : ev E l M D (n + 1) (zk_u sh ((n : Int) + 1) (some (.inr (ty, N)))) d kc2 ks2 (pc + 2) L (zv_a ((n : Int) + 1) :: st) Q) : ev E l M D n sh d kc ks pc L (zv_i (N : Int) :: st) Q := by
  intro p e R s m args below meth c H locs cells slots mc ms ls X
  obtain ⟨r1, r2, h1, h2, r3, r4⟩ := X.2.2.2.2
  have hts := X.1.2.2.2.2.2.1
  have hsz := X.2.1.1
  subst hty
  have hzN : zi (N : Int) := ⟨by omega, by omega⟩
  have hNN : (Int32.ofInt (N : Int)).toNatClampNeg = N := by
    show (Int32.ofInt (N : Int)).toInt.toNat = N
    rw [zi_t hzN]; rfl
  have hcb : componentBytes (newarray.typeOf atype) ≤ 8 := by cases atype <;> decide
  refine va_newaK X.1.1 X.1.2.1 (hts _ ha) rfl hd rfl (fun q => by have := (zi_lt hzN zi_0).mp q; omega) hNN (by have : N * componentBytes (newarray.typeOf atype) ≤ 65536 * 8 := Nat.mul_le_mul hN hcb; omega) (by omega) (by omega) hsz fun H1 cA e1 z1 o1 hAr hNm => ?_
  have hro : zv_c E (zv_a ((n : Int) + 1)) = .ref (ze_o E + n) := by
    show va_rf (zv_ro E ((n : Int) + 1)) = _
    rw [zv_ro_pos (by omega)]
    show Value.ref _ = _
    congr 2
  have hcA : cA = ze_t E (newarray.typeOf atype) := by
    have hra := (X.1.2.2.2.2.2.2.2.2.2.1.2.1 _ hin).2
    have : s.vm.findClass ("[" ++ (newarray.typeOf atype).toString) = some (ze_t E (newarray.typeOf atype)) := by
      cases atype <;> exact hra
    exact Option.some.inj (hNm.symm.trans this)
  have k2 := kk p e R s m args below meth c H1 locs (cells + 1) (slots + N) mc ms ls ⟨X.1, zw_H_new X.2.1 (by rw [z1, hsz]) (fun q9 h9 => o1 q9 (by omega)) ⟨?_, hin⟩, ⟨Nat.le_trans X.2.2.1.1 (by omega), fun x g1 g2 => (o1 x (by have := X.2.2.1.1; omega)).trans (X.2.2.1.2.1 x g1 g2), X.2.2.1.2.2⟩, X.2.2.2.1, r1, r2, by omega, by omega, r3, r4⟩
  · simp only [List.map_cons, hro] at k2
    exact k2
  · have e2 : (((n + 1 : Nat) : Int)) = (n : Int) + 1 := by omega
    show H1[ze_o E + n]? = _
    rw [e1, hcA]
    simp only [e2, h0, ← zv_def E]
end EV7
/-! ===== EV: methods and calls ===== -/
def zs_w (st : List zv_V) : Nat := (st.map zv_k).sum
theorem zs_cat (E : ze_E) : ∀ st : List zv_V, ((st.map (zv_c E)).map fun v => v.category).sum = zs_w st
  | [] => rfl
  | a :: t => by
    have := zs_cat E t
    simp only [List.map_cons, List.sum_cons, zs_w, zv_cat] at this ⊢
    rw [this]
theorem lg_sl_len (E : ze_E) : ∀ As : List zv_V, (lg_sl (As.map (zv_c E))).length = zs_w As
  | [] => rfl
  | a :: t => by
    have ih := lg_sl_len E t
    have h := zv_cat E a
    simp only [List.map_cons, zs_w, List.sum_cons] at ih ⊢
    rw [← ih]
    rcases a with (x | r) | (x | (x | x)) <;> simp only [zv_k] at h ⊢ <;> simp [lg_sl, h] <;> omega
theorem zv_ad (E : ze_E) (q : Nat) : zv_c E (zv_a (-(q : Int) - 2)) = .ref q ∧ -(q : Int) - 2 < 0 := by
  refine ⟨?_, by omega⟩
  show va_rf (zv_ro E _) = _
  unfold zv_ro
  rw [if_neg (by omega), if_pos (by omega), if_neg (by omega), show (-(-(q : Int) - 2) - 2).toNat = q by omega]
  rfl
section EV8
variable {E : ze_E} {l : Launch} {M M' : zm_M} {D n : Nat} {sh : zk_S} {d : zm_D} {kc ks pc : Nat} {L : zl_L} {st : List zv_V} {Q Q' : ev_Q}
theorem mt_blind {As : List zv_V} : FrameBlind (mt_P E n sh d As) := fun a U g mk q => ⟨q.1, q.2.1, q.2.2.1, q.2.2.2⟩
theorem mt_of {As : List zv_V} (hy : plainFor (zm_y M) = true) (hh : zm_h M = []) (hn : zs_w As ≤ zm_n M) (kk : ev E l M D n sh d kc ks 0 (zl_args 0 As) [] Q) : mt E l M D kc ks n sh d As Q := by
  have hcw : zm_cw M = .code (zm_y M) (zm_c M) (zm_n M) (zm_r M) := by unfold zm_cw; rw [hh]
  refine vx_ofWF (cc := zm_c M) (maxL := zm_n M) (ret := zm_r M) (ws' := lw_g) hy (by unfold zm_w; rw [hcw]) ?_
  intro p e s m args below meth c s₁ B hml htab hv
  obtain ⟨rfl, hH, hT, hX⟩ := hv
  have hts := atoms_spec (ws := zm_w M) B.pre
  have htab2 : c.exceptionTable.toList = tableOf (zm_h M) := by
    rw [hh]
    cases hq : c.exceptionTable.toList with
    | nil => rfl
    | cons a t => exact (htab a (by rw [hq]; exact List.mem_cons_self)).elim
  have C : ev_C E M p s m ((As.map (zv_c E)).toArray) meth c := ⟨B.exec, B.bytes, B.returns, hml, findClass_of_methodNamed B.named, fun w hw => hts w (List.mem_cons_of_mem _ hw), B.notSynchronized, htab2, (name_of_methodNamed B.named B.method).1, hT, hX⟩
  have hl := lv_entry (As.map (zv_c E)) (n := zm_n M) (by rw [lg_sl_len]; exact hn)
  rw [lg_entry_eq]
  refine kk p e _ s m _ below meth c s.heap [] 0 0 kc ks _ ⟨C, hH, va_S.rf, ⟨hl.1, hl.2.1, fun i v hv => ?_⟩, Nat.le_refl _, Nat.le_refl _, by omega, by omega, Nat.le_refl _, Nat.le_refl _⟩
  exact hl.2.2 _ (zl_args_lv E As 0 i v hv)
theorem mt_ofH {As : List zv_V} {h : Nat × Nat × Nat × Nat} {t : List (Nat × Nat × Nat × Nat)} (hy : plainName (zm_y M).cls = true) (hh : zm_h M = h :: t) (hn : zs_w As ≤ zm_n M) (kk : ev E l M D n sh d kc ks 0 (zl_args 0 As) [] Q) : mt E l M D kc ks n sh d As Q := by
  have hcw : zm_cw M = .codeWith (zm_y M) (zm_c M) (zm_n M) (zm_r M) (h :: t) := by unfold zm_cw; rw [hh]
  refine vx_ofWH (cc := zm_c M) (maxL := zm_n M) (ret := zm_r M) (hh := h :: t) (ws' := lw_g) hy (by unfold zm_w; rw [hcw]) ?_
  intro p e s m args below meth c s₁ B hml hv
  obtain ⟨rfl, hH, hT, hX⟩ := hv
  have hts := atoms_spec (ws := zm_w M) B.pre
  have htab2 : c.exceptionTable.toList = tableOf (zm_h M) := by
    have h1 := hts _ (show zm_cw M ∈ zm_w M from List.mem_cons_self)
    rw [hcw] at h1
    rw [hh]
    exact vx_table (x := zm_y M) B h1
  have C : ev_C E M p s m ((As.map (zv_c E)).toArray) meth c := ⟨B.exec, B.bytes, B.returns, hml, findClass_of_methodNamed B.named, fun w hw => hts w (List.mem_cons_of_mem _ hw), B.notSynchronized, htab2, (name_of_methodNamed B.named B.method).1, hT, hX⟩
  have hl := lv_entry (As.map (zv_c E)) (n := zm_n M) (by rw [lg_sl_len]; exact hn)
  rw [lg_entry_eq]
  refine kk p e _ s m _ below meth c s.heap [] 0 0 kc ks _ ⟨C, hH, va_S.rf, ⟨hl.1, hl.2.1, fun i v hv => ?_⟩, Nat.le_refl _, Nat.le_refl _, by omega, by omega, Nat.le_refl _, Nat.le_refl _⟩
  exact hl.2.2 _ (zl_args_lv E As 0 i v hv)
/-- x is thrown at pc -/
def ev_t (E : ze_E) (l : Launch) (M : zm_M) (D n : Nat) (sh : zk_S) (d : zm_D) (kc ks : Nat) (pc : Nat) (L : zl_L) (rest : List zv_V) (x : String) (Q : ev_Q) : Prop :=
  ∀ (p : Program) (e : Env) (R : Room) (s : State) (m : MethodId) (args : Array Value) (below : List Frame) (meth : Method) (c : Code) (H : Heap) (locs : List Loc) (cells slots mc ms : Nat) (ls : Array Slot) (q : Addr) (ce : Cell),
    ev_X E M D n sh d kc ks L p R s m args meth c H locs cells slots mc ms ls → H[q]? = some ce → ce.vm = .none → s.vm.findClass x = some ce.cls →
    vx_W p l e R s m args below meth c H locs cells slots (vx_MQ below (ev_Qc E Q) (ev_XC E Q) args s mc ms (ze_A E)) (F0 m pc ls (rest.map (zv_c E))) q
theorem ev_out {x : String} (hh : ∀ z ∈ tableOf (zm_h M), covers z pc = false) (hq : Q (.inr x) n sh d) : ev_t E l M D n sh d kc ks pc L st x Q := by
  intro p e R s m args below meth c H locs cells slots mc ms ls q ce X hce hv hcl
  obtain ⟨r1, r2, h1, h2, r3, r4⟩ := X.2.2.2.2
  exact vx_out (by rw [X.1.2.2.2.2.2.2.2.1]; exact hh) X.1.2.2.2.2.2.2.1 hce hv hcl (fun t ht hA => ⟨n, sh, d, hq, by rw [ht]; exact X.2.1, X.2.2.1.F ht⟩) X.2.2.1.2.2 (by omega) (by omega)
theorem ev_catch {x nm : String} {pre suf : List ExceptionTableEntry} {z : ExceptionTableEntry} (hs : tableOf (zm_h M) = pre ++ z :: suf) (hp : ∀ y ∈ pre, covers y pc = false ∨ (y.catchType ≠ 0 ∧ ∃ nm : String, Cond.classLink (zm_o M) y.catchType nm ∈ lw_g ∧ (x, nm) ∈ zk_nc)) (hc : covers z pc = true) (h0 : z.catchType ≠ 0)
    (hl : Cond.classLink (zm_o M) z.catchType nm ∈ lw_g) (hca : Cond.castable x nm ∈ lw_g) (kk : ∀ r : Int, r < 0 → ev E l M D n sh d kc ks z.handlerPc L [zv_a r] Q) : ev_t E l M D n sh d kc ks pc L st x Q := by
  intro p e R s m args below meth c H locs cells slots mc ms ls q ce X hce hv hcl
  have hts := X.1.2.2.2.2.2.1
  refine vx_catch X.1.2.2.2.2.1 pre z suf (by rw [X.1.2.2.2.2.2.2.2.1]; exact hs) (fun y hy => ?_) hc h0 (hts _ hl) (hts _ hca) hce hv hcl ?_
  · rcases hp y hy with h | ⟨h, nm9, h2, h3⟩
    · exact Or.inl h
    · exact Or.inr ⟨h, nm9, hts _ h2, X.1.2.2.2.2.2.2.2.2.2.1.2.2.2 _ h3⟩
  · have k2 := kk (-(((q : Nat)) : Int) - 2) (zv_ad E q).2 p e R s m args below meth c H locs cells slots mc ms ls X
    simp only [List.map_cons, List.map_nil, (zv_ad E q).1] at k2
    exact k2
/-- behind a call -/
theorem ev_run {kc' ks' kc2 ks2 : Nat} {a : Array Value} {st0 rest : List zv_V}
    (hr : ∀ (p : Program) (e : Env) (R : Room) (s : State) (m : MethodId) (args : Array Value) (below : List Frame) (meth : Method) (c : Code) (H : Heap) (locs : List Loc) (cells slots mc ms : Nat) (ls : Array Slot), ev_X E M D n sh d kc ks L p R s m args meth c H locs cells slots mc ms ls →
      vx_Run p l e R s m args below meth c H locs cells slots kc' ks' (F0 m pc ls (st0.map (zv_c E))) (rest.map (zv_c E)) (ev_Qc E Q' a) (ev_XC E Q') (ze_A E))
    (hkc : kc' + kc2 ≤ kc) (hks : ks' + ks2 ≤ ks)
    (kx : ∀ (x : String) (n' : Nat) (sh' : zk_S) (d' : zm_D), Q' (.inr x) n' sh' d' → ev_t E l M D n' sh' d' kc2 ks2 pc L rest x Q)
    (kk : ∀ (v : Option zv_V) (n' : Nat) (sh' : zk_S) (d' : zm_D), Q' (.inl v) n' sh' d' → ev E l M D n' sh' d' kc2 ks2 (pc + 3) L (v.toList ++ rest) Q) : ev E l M D n sh d kc ks pc L st0 Q := by
  intro p e R s m args below meth c H locs cells slots mc ms ls X T hT XS
  obtain ⟨r1, r2, h1, h2, r3, r4⟩ := X.2.2.2.2
  rcases hr p e R s m args below meth c H locs cells slots mc ms ls X T hT XS with ⟨v, st₀, t, T', Lc, h0, X', hL, e1, e2, ⟨⟨v', n', sh', d', hv, hq, hH'⟩, hF⟩, stp⟩ | ⟨q, st₀, t, T', Lc, x, ce, h0, X', hL, e1, e2, ⟨n', sh', d', hq, hH', hF⟩, hce, hcv, hcl, stp⟩
  · obtain ⟨-, -, k3⟩ := vx_keep h0 e1 X.2.2.1 (fun _ _ h => h) (fun _ h => h) hL hF
    have hv2 : v = v'.map (zv_c E) := by injection hv
    subst hv2
    have hmap : (v'.toList ++ rest).map (zv_c E) = (v'.map (zv_c E)).toList ++ rest.map (zv_c E) := by cases v' <;> rfl
    obtain ⟨t2, a1, b1⟩ := kk v' n' sh' d' hq p e R s m args below meth c T'.heap (locs ++ Lc) (cells + kc') (slots + ks') mc ms ls ⟨X.1, by rw [e1]; exact hH', k3, X.2.2.2.1, r1, r2, by omega, by omega, r3, r4⟩ T' rfl X'
    rw [hmap] at a1
    exact ⟨t2, stp t2 a1, b1⟩
  · obtain ⟨-, -, k3⟩ := vx_keep h0 e1 X.2.2.1 (fun _ _ h => h) (fun _ h => h) hL hF
    obtain ⟨t2, a1, b1⟩ := kx x n' sh' d' hq p e R s m args below meth c T'.heap (locs ++ Lc) (cells + kc') (slots + ks') mc ms ls q ce ⟨X.1, by rw [e1]; exact hH', k3, X.2.2.2.1, r1, r2, by omega, by omega, r3, r4⟩ (by rw [e1]; exact hce) hcv hcl T' rfl X'
    exact ⟨t2, stp.trans a1, b1⟩
/-- what is fixed of a method that is called -/
def zm_ok (M : zm_M) (k : Nat) : Prop := zm_cw M ∈ lw_g ∧ Cond.initialized (zm_o M) ∈ lw_g ∧ (zm_o M ≠ "java/lang/invoke/MethodHandle" ∧ zm_o M ≠ "java/lang/invoke/VarHandle") ∧ (parseMethodDescriptor (zm_y M).desc).map (fun d => d.parameters.length) = some k ∧ zm_n M ≤ 40
theorem zm_ws {s : State} {args : Array Value} (hts : ∀ w ∈ lw_g, w.before args s = true) (h : zm_cw M ∈ lw_g) : ∀ w ∈ zm_w M, ∀ (a' : Array Value) (U : State), s.WarmedH U.vm → w.before a' U = true := by
  intro w hw a' U hW
  rcases List.mem_cons.mp hw with rfl | hw
  · exact zg_warm (lw_g_ok h) hW (hts _ h)
  · exact zg_warm (lw_g_ok hw) hW (hts _ hw)
theorem zm_callB {k D' kc' ks' idx : Nat} {R : Room} {s : State} {args : Array Value} (hts : ∀ w ∈ lw_g, w.before args s = true) (ho : zm_ok M' k) (hh : zm_h M' = []) (hl : Cond.methodLink (zm_o M) idx (zm_y M') ∈ lw_g) (hD : D' + 1 ≤ D) (hR : D ≤ R.frames) (hR2 : 64 * D ≤ R.locals) :
    CallB R s args (zm_o M) idx (zm_y M') (zm_c M') (zm_n M') (zm_r M') (zm_w M') ({ frames := D', cells := kc', slots := ks', locals := 64 * D' } : Room) kc' ks' k := by
  obtain ⟨o1, o2, o3, o4, o5⟩ := ho
  have hcw : zm_cw M' = .code (zm_y M') (zm_c M') (zm_n M') (zm_r M') := by unfold zm_cw; rw [hh]
  refine ⟨rfl, rfl, by show D' + 1 ≤ R.frames; omega, by show 8 + (zm_n M' + 11) + 64 * D' ≤ R.locals; omega, zm_ws hts o1, by rw [← hcw]; exact List.mem_cons_self, by rw [← hcw]; exact hts _ o1, hts _ o2, o3, fun sig h => ?_, hts _ hl⟩
  rw [h] at o4
  exact (Option.some.inj o4).symm
theorem zm_fix {s : State} {p : Program} {m : MethodId} {args : Array Value} {meth : Method} {c : Code} (C : ev_C E M p s m args meth c) : CallFix p m c (zm_c M) (zm_n M) s args lw_g (zm_o M) := ⟨C.1, C.2.1, C.2.2.2.1, C.2.2.2.2.1, C.2.2.2.2.2.1⟩
theorem mt_pre {As : List zv_V} {p : Program} {R : Room} {s : State} {m : MethodId} {args : Array Value} {meth : Method} {c : Code} {H : Heap} {locs : List Loc} {cells slots mc ms : Nat} {ls : Array Slot} (X : ev_X E M D n sh d kc ks L p R s m args meth c H locs cells slots mc ms ls) : PreS s H (mt_P E n sh d As) (As.map (zv_c E)) :=
  ⟨mt_blind, fun U hU hW => ⟨rfl, by rw [hU]; exact X.2.1, X.1.2.2.2.2.2.2.2.2.2.1.moved hW, by rw [hU]; exact (X.1.2.2.2.2.2.2.2.2.2.2.kept X.2.2.1).moved hW.alike⟩⟩
theorem mt_room {st : List zv_V} {m : MethodId} {pc : Nat} {ls : Array Slot} {g : List Value} (h : zs_w st ≤ 8) : 2 * (F0 m pc ls g).monitorRoom + ((st.map (zv_c E)).map fun v => v.category).sum ≤ 8 := lv_room (by rw [zs_cat]; exact h)
theorem mt_recv {r : Int} {ci : Nat} {q : vw_C} {p : Program} {R : Room} {s : State} {m : MethodId} {args : Array Value} {meth : Method} {c : Code} {H : Heap} {locs : List Loc} {cells slots mc ms : Nat} {ls : Array Slot} (X : ev_X E M D n sh d kc ks L p R s m args meth c H locs cells slots mc ms ls) (hr : sh r = some (.inl ci)) (h0 : 0 < r) (hc : zk_cl[ci]? = some q) :
    ∃ cellB : Cell, H[ze_o E + (r.toNat - 1)]? = some cellB ∧ cellB.vm.isStatics = false ∧ s.vm.findClass q.1 = some cellB.cls := by
  obtain ⟨q', hq', cell, g1, g2, g3, -⟩ := zw_obj X.2.1 hr h0
  cases Option.some.inj (hc.symm.trans hq')
  exact ⟨cell, g1, by rw [g3]; rfl, by rw [g2]; exact (X.1.2.2.2.2.2.2.2.2.2.1.1 ci q hc).2.1⟩
/-- invokestatic -/
theorem ev_callS {k idx D' kc' ks' kc2 ks2 : Nat} {As st0 rest : List zv_V} (hd : decode (zm_c M) pc = .ok (.invokestatic idx, 3)) (hM : mt E l M' D' kc' ks' n sh d As Q') (hst : st0 = As.reverse ++ rest) (ho : zm_ok M' k) (hh : zm_h M' = []) (hk : As.length = k) (hl : Cond.methodLink (zm_o M) idx (zm_y M') ∈ lw_g) (hs : Cond.static (zm_y M') ∈ lw_g) (hD : D' + 1 ≤ D) (hw : zs_w rest ≤ 8) (hkc : kc' + kc2 ≤ kc) (hks : ks' + ks2 ≤ ks)
    (kx : ∀ (x : String) (n' : Nat) (sh' : zk_S) (d' : zm_D), Q' (.inr x) n' sh' d' → ev_t E l M D n' sh' d' kc2 ks2 pc L rest x Q)
    (kk : ∀ (v : Option zv_V) (n' : Nat) (sh' : zk_S) (d' : zm_D), Q' (.inl v) n' sh' d' → ev E l M D n' sh' d' kc2 ks2 (pc + 3) L (v.toList ++ rest) Q) : ev E l M D n sh d kc ks pc L st0 Q := by
  refine ev_run (a := (As.map (zv_c E)).toArray) (kc' := kc') (ks' := ks') (fun p e R s m args below meth c H locs cells slots mc ms ls X => ?_) hkc hks kx kk
  obtain ⟨r1, r2, h1, h2, r3, r4⟩ := X.2.2.2.2
  have hts := X.1.2.2.2.2.2.1
  exact vx_runS (zm_fix X.1) hM ⟨zm_callB hts ho hh hl hD r1 r2, hts _ hs⟩ (mt_pre X) rfl (by rw [List.length_map]; exact hk) X.2.2.2.1.1 (by rw [hst]; simp) (mt_room hw) hd ⟨by omega, by omega⟩
/-- invokevirtual of an object of the class of the method -/
theorem ev_callV {k idx D' kc' ks' kc2 ks2 ci : Nat} {r : Int} {q : vw_C} {As st0 rest : List zv_V} (hd : decode (zm_c M) pc = .ok (.invokevirtual idx, 3)) (hM : mt E l M' D' kc' ks' n sh d (zv_a r :: As) Q') (hst : st0 = As.reverse ++ zv_a r :: rest) (hr : sh r = some (.inl ci)) (h0 : 0 < r) (hc : zk_cl[ci]? = some q) (ho : zm_ok M' k) (hh : zm_h M' = []) (hk : As.length = k) (hl : Cond.methodLink (zm_o M) idx (zm_y M') ∈ lw_g) (hs : Cond.instanceMethod (zm_y M') ∈ lw_g) (hs2 : Cond.selects q.1 (zm_y M') (zm_y M') ∈ lw_g) (hD : D' + 1 ≤ D) (hw : zs_w rest ≤ 8) (hkc : kc' + kc2 ≤ kc) (hks : ks' + ks2 ≤ ks)
    (kx : ∀ (x : String) (n' : Nat) (sh' : zk_S) (d' : zm_D), Q' (.inr x) n' sh' d' → ev_t E l M D n' sh' d' kc2 ks2 pc L rest x Q)
    (kk : ∀ (v : Option zv_V) (n' : Nat) (sh' : zk_S) (d' : zm_D), Q' (.inl v) n' sh' d' → ev E l M D n' sh' d' kc2 ks2 (pc + 3) L (v.toList ++ rest) Q) : ev E l M D n sh d kc ks pc L st0 Q := by
  refine ev_run (a := (Value.ref (ze_o E + (r.toNat - 1)) :: As.map (zv_c E)).toArray) (kc' := kc') (ks' := ks') (fun p e R s m args below meth c H locs cells slots mc ms ls X => ?_) hkc hks kx kk
  obtain ⟨r1, r2, h1, h2, r3, r4⟩ := X.2.2.2.2
  have hts := X.1.2.2.2.2.2.1
  have hp := mt_pre (As := zv_a r :: As) X
  have hro : zv_c E (zv_a r) = .ref (ze_o E + (r.toNat - 1)) := by show va_rf (zv_ro E r) = _; rw [zv_ro_pos h0]; rfl
  simp only [List.map_cons, hro] at hp
  exact vx_runV (zm_fix X.1) hM ⟨zm_callB hts ho hh hl hD r1 r2, hts _ hs, hts _ hs2⟩ ⟨hp.1, mt_recv X hr h0 hc, hp.2⟩ rfl (by rw [List.length_map]; exact hk) X.2.2.2.1.1 (by rw [hst]; simp [hro]) (mt_room hw) hd ⟨by omega, by omega⟩
/-- a constructor -/
theorem ev_callI {k idx D' kc' ks' kc2 ks2 : Nat} {r : Int} {As st0 rest : List zv_V} (hd : decode (zm_c M) pc = .ok (.invokespecial idx, 3)) (hM : mt E l M' D' kc' ks' n sh d (zv_a r :: As) Q') (hst : st0 = As.reverse ++ zv_a r :: rest) (h0 : 0 < r) (hnm : (zm_y M').name = "<init>") (hrn : zm_r M' = none) (ho : zm_ok M' k) (hh : zm_h M' = []) (hk : As.length = k) (hl : Cond.methodLink (zm_o M) idx (zm_y M') ∈ lw_g) (hs : Cond.instanceMethod (zm_y M') ∈ lw_g) (hD : D' + 1 ≤ D) (hw : zs_w rest ≤ 8) (hkc : kc' + kc2 ≤ kc) (hks : ks' + ks2 ≤ ks)
    (kx : ∀ (x : String) (n' : Nat) (sh' : zk_S) (d' : zm_D), Q' (.inr x) n' sh' d' → ev_t E l M D n' sh' d' kc2 ks2 pc L rest x Q)
    (kk : ∀ (v : Option zv_V) (n' : Nat) (sh' : zk_S) (d' : zm_D), Q' (.inl v) n' sh' d' → ev E l M D n' sh' d' kc2 ks2 (pc + 3) L (v.toList ++ rest) Q) : ev E l M D n sh d kc ks pc L st0 Q := by
  refine ev_run (a := (Value.ref (ze_o E + (r.toNat - 1)) :: As.map (zv_c E)).toArray) (kc' := kc') (ks' := ks') (fun p e R s m args below meth c H locs cells slots mc ms ls X => ?_) hkc hks kx kk
  obtain ⟨r1, r2, h1, h2, r3, r4⟩ := X.2.2.2.2
  have hts := X.1.2.2.2.2.2.1
  have hp := mt_pre (As := zv_a r :: As) X
  have hro : zv_c E (zv_a r) = .ref (ze_o E + (r.toNat - 1)) := by show va_rf (zv_ro E r) = _; rw [zv_ro_pos h0]; rfl
  simp only [List.map_cons, hro] at hp
  have hcb := zm_callB (kc' := kc') (ks' := ks') hts ho hh hl hD r1 r2
  rw [hrn] at hcb
  exact vx_runI (zm_fix X.1) hM ⟨hcb, hnm, hts _ hs⟩ hp rfl (by rw [List.length_map]; exact hk) X.2.2.2.1.1 (by rw [hst]; simp [hro]) (mt_room hw) hd ⟨by omega, by omega⟩
end EV8
/-! ===== EV: what was wanting ===== -/
section EV9
variable {E : ze_E} {l : Launch} {M M' : zm_M} {D n : Nat} {sh : zk_S} {d : zm_D} {kc ks pc : Nat} {L : zl_L} {st : List zv_V} {Q Q' : ev_Q}
theorem ev_st {st' : List zv_V} (h : st.map (zv_c E) = st'.map (zv_c E)) (kk : ev E l M D n sh d kc ks pc L st' Q) : ev E l M D n sh d kc ks pc L st Q := by
  intro p e R s m args below meth c H locs cells slots mc ms ls X
  rw [h]
  exact kk p e R s m args below meth c H locs cells slots mc ms ls X
theorem ev_subg {L' : zl_L} (h : ∀ i v, zl_get L' i = some v → zl_get L i = some v) (kk : ev E l M D n sh d kc ks pc L' st Q) : ev E l M D n sh d kc ks pc L st Q := by
  intro p e R s m args below meth c H locs cells slots mc ms ls X
  exact kk p e R s m args below meth c H locs cells slots mc ms ls (X.loc ⟨X.2.2.2.1.1, X.2.2.2.1.2.1, fun i v hv => X.2.2.2.1.2.2 i v (h i v hv)⟩)
theorem zw_H_dz {d' : zm_D} {H : Heap} (h : zw_H E n sh d H) (hd : ∀ r : Nat, 1 ≤ r → r ≤ n → ∀ j, d' r j = d r j) : zw_H E n sh d' H := by
  refine ⟨h.1, fun r hr => ?_⟩
  by_cases e : r ≤ n
  · exact zw_at_kept (h.2 r hr) rfl (hd r hr e)
  · have h1 := h.2 r hr
    have hsz := h.1
    rcases hs : sh r with _ | ci | ⟨ty, N⟩
    · trivial
    · rw [hs] at h1
      obtain ⟨q, g1, cell, g3, -⟩ := h1
      have := (Array.getElem?_eq_some_iff.mp g3).1
      omega
    · rw [hs] at h1
      have := (Array.getElem?_eq_some_iff.mp h1.1).1
      omega
theorem ev_dz {d' : zm_D} (hd : ∀ r : Nat, 1 ≤ r → r ≤ n → ∀ j, d' r j = d r j) (kk : ev E l M D n sh d' kc ks pc L st Q) : ev E l M D n sh d kc ks pc L st Q := by
  intro p e R s m args below meth c H locs cells slots mc ms ls X
  exact kk p e R s m args below meth c H locs cells slots mc ms ls ⟨X.1, zw_H_dz X.2.1 hd, X.2.2⟩
theorem zs_w_le : ∀ l9 : List zv_V, zs_w l9 ≤ 2 * l9.length
  | [] => by simp [zs_w]
  | a :: t => by
    have ih := zs_w_le t
    have h8 : zv_k a ≤ 2 := by rcases a with (x | r) | (x | (x | x)) <;> simp [zv_k]
    simp only [zs_w, List.map_cons, List.sum_cons, List.length_cons] at ih ⊢
    omega
theorem ev_objinit {idx : Nat} {r : Int} (hd : decode (zm_c M) pc = .ok (.invokespecial idx, 3)) (h1 : Cond.methodLink (zm_o M) idx Lib.objectInit ∈ lw_g) (h2 : Cond.instanceMethod Lib.objectInit ∈ lw_g) (h3 : Cond.code Lib.objectInit ⟨#[0xb1]⟩ 1 none ∈ lw_g) (h0 : 0 < r) (hw : st.length ≤ 4) (hD : 0 < D)
    (kk : ev E l M D n sh d kc ks (pc + 3) L st Q) : ev E l M D n sh d kc ks pc L (zv_a r :: st) Q := by
  intro p e R s m args below meth c H locs cells slots mc ms ls X
  have k2 := kk p e R s m args below meth c H locs cells slots mc ms ls X
  have hts := X.1.2.2.2.2.2.1
  obtain ⟨r1, r2, -, -, -, -⟩ := X.2.2.2.2
  have hs := zs_cat E st
  have hs2 := zs_w_le st
  simp only [List.map_cons, zv_c, zv_ro_pos h0]
  exact W.objInit X.1.1 X.1.2.1 X.1.2.2.2.2.1 (hts _ h1) (hts _ h2) (hts _ h3) rfl (X.2.2.2.1.1.trans X.1.2.2.2.1.symm) rfl hd (by omega) (by rw [hs]; show 2 * 0 + _ + _ ≤ _; omega) k2
theorem ev_f2bits {idx : Nat} {b : UInt32} (hd : decode (zm_c M) pc = .ok (.invokestatic idx, 3)) (h1 : Cond.methodLink (zm_o M) idx ⟨"java/lang/Float", "floatToRawIntBits", "(F)I"⟩ ∈ lw_g) (h2 : Cond.native ⟨"java/lang/Float", "floatToRawIntBits", "(F)I"⟩ ∈ lw_g) (h3 : Cond.static ⟨"java/lang/Float", "floatToRawIntBits", "(F)I"⟩ ∈ lw_g) (h4 : Cond.initialized "java/lang/Float" ∈ lw_g) (hw : st.length ≤ 4) (hD : 0 < D)
    (kk : ev E l M D n sh d kc ks (pc + 3) L (zv_i b.toInt32.toInt :: st) Q) : ev E l M D n sh d kc ks pc L (zv_f b :: st) Q := by
  intro p e R s m args below meth c H locs cells slots mc ms ls X
  have k2 := kk p e R s m args below meth c H locs cells slots mc ms ls X
  have hts := X.1.2.2.2.2.2.1
  obtain ⟨r1, r2, -, -, -, -⟩ := X.2.2.2.2
  have hs := zs_cat E st
  have hs2 := zs_w_le st
  simp only [List.map_cons, zv_c, zi_ofInt] at k2 ⊢
  exact vn_f2i X.1.1 X.1.2.1 (X.1.2.2.2.1.trans X.2.2.2.1.1.symm) X.1.2.2.2.2.1 (hts _ h1) (hts _ h2) (hts _ h3) (hts _ h4) (by omega) (by rw [hs]; omega) hd k2
/-- a private constructor of a nest mate -/
theorem ev_callIN {k idx D' kc' ks' kc2 ks2 : Nat} {r : Int} {host : String} {As st0 rest : List zv_V} (hd : decode (zm_c M) pc = .ok (.invokespecial idx, 3)) (hM : mt E l M' D' kc' ks' n sh d (zv_a r :: As) Q') (hst : st0 = As.reverse ++ zv_a r :: rest) (h0 : 0 < r) (hnm : (zm_y M').name = "<init>") (hrn : zm_r M' = none) (ho : zm_ok M' k) (hh : zm_h M' = []) (hk : As.length = k) (hl : Cond.methodLinkNest (zm_o M) idx (zm_y M') host ∈ lw_g) (hs : Cond.instanceMethod (zm_y M') ∈ lw_g) (hD : D' + 1 ≤ D) (hw : zs_w rest ≤ 8) (hkc : kc' + kc2 ≤ kc) (hks : ks' + ks2 ≤ ks)
    (kx : ∀ (x : String) (n' : Nat) (sh' : zk_S) (d' : zm_D), Q' (.inr x) n' sh' d' → ev_t E l M D n' sh' d' kc2 ks2 pc L rest x Q)
    (kk : ∀ (v : Option zv_V) (n' : Nat) (sh' : zk_S) (d' : zm_D), Q' (.inl v) n' sh' d' → ev E l M D n' sh' d' kc2 ks2 (pc + 3) L (v.toList ++ rest) Q) : ev E l M D n sh d kc ks pc L st0 Q := by
  refine ev_run (a := (Value.ref (ze_o E + (r.toNat - 1)) :: As.map (zv_c E)).toArray) (kc' := kc') (ks' := ks') (fun p e R s m args below meth c H locs cells slots mc ms ls X => ?_) hkc hks kx kk
  obtain ⟨r1, r2, h1, h2, r3, r4⟩ := X.2.2.2.2
  have hts := X.1.2.2.2.2.2.1
  have hp := mt_pre (As := zv_a r :: As) X
  have hro : zv_c E (zv_a r) = .ref (ze_o E + (r.toNat - 1)) := by show va_rf (zv_ro E r) = _; rw [zv_ro_pos h0]; rfl
  simp only [List.map_cons, hro] at hp
  obtain ⟨o1, o2, o3, o4, o5⟩ := ho
  have hcw : zm_cw M' = .code (zm_y M') (zm_c M') (zm_n M') (zm_r M') := by unfold zm_cw; rw [hh]
  have hcb : va_CN R s args (zm_o M) idx (zm_y M') host (zm_c M') (zm_n M') none (zm_w M') ({ frames := D', cells := kc', slots := ks', locals := 64 * D' } : Room) kc' ks' k := by
    rw [hrn] at hcw
    refine ⟨⟨rfl, rfl, by show D' + 1 ≤ R.frames; omega, by show 8 + (zm_n M' + 11) + 64 * D' ≤ R.locals; omega, zm_ws hts o1, by rw [← hcw]; exact List.mem_cons_self⟩, by rw [← hcw]; exact hts _ o1, hts _ o2, o3, fun sig h => ?_, hts _ hl⟩
    rw [h] at o4
    exact (Option.some.inj o4).symm
  exact vx_runIN (zm_fix X.1) hM ⟨hcb, hnm, hts _ hs⟩ hp rfl (by rw [List.length_map]; exact hk) X.2.2.2.1.1 (by rw [hst]; simp [hro]) (mt_room hw) hd ⟨by omega, by omega⟩
/-- invokestatic of a method with a table of its own -/
theorem ev_callSX {k idx D' kc' ks' kc2 ks2 : Nat} {As st0 rest : List zv_V} {h9 : Nat × Nat × Nat × Nat} {t9 : List (Nat × Nat × Nat × Nat)} (hd : decode (zm_c M) pc = .ok (.invokestatic idx, 3)) (hM : mt E l M' D' kc' ks' n sh d As Q') (hst : st0 = As.reverse ++ rest) (ho : zm_ok M' k) (hh : zm_h M' = h9 :: t9) (hk : As.length = k) (hl : Cond.methodLink (zm_o M) idx (zm_y M') ∈ lw_g) (hs : Cond.static (zm_y M') ∈ lw_g) (hD : D' + 1 ≤ D) (hw : zs_w rest ≤ 8) (hkc : kc' + kc2 ≤ kc) (hks : ks' + ks2 ≤ ks)
    (kx : ∀ (x : String) (n' : Nat) (sh' : zk_S) (d' : zm_D), Q' (.inr x) n' sh' d' → ev_t E l M D n' sh' d' kc2 ks2 pc L rest x Q)
    (kk : ∀ (v : Option zv_V) (n' : Nat) (sh' : zk_S) (d' : zm_D), Q' (.inl v) n' sh' d' → ev E l M D n' sh' d' kc2 ks2 (pc + 3) L (v.toList ++ rest) Q) : ev E l M D n sh d kc ks pc L st0 Q := by
  refine ev_run (a := (As.map (zv_c E)).toArray) (kc' := kc') (ks' := ks') (fun p e R s m args below meth c H locs cells slots mc ms ls X => ?_) hkc hks kx kk
  obtain ⟨r1, r2, h1, h2, r3, r4⟩ := X.2.2.2.2
  have hts := X.1.2.2.2.2.2.1
  obtain ⟨o1, o2, o3, o4, o5⟩ := ho
  have hcw : zm_cw M' = .codeWith (zm_y M') (zm_c M') (zm_n M') (zm_r M') (h9 :: t9) := by unfold zm_cw; rw [hh]
  have hcb : vx_CSW R s args (zm_o M) idx (zm_y M') (zm_c M') (zm_n M') (zm_r M') (h9 :: t9) (zm_w M') ({ frames := D', cells := kc', slots := ks', locals := 64 * D' } : Room) kc' ks' k := by
    refine ⟨⟨rfl, rfl, by show D' + 1 ≤ R.frames; omega, by show 8 + (zm_n M' + 11) + 64 * D' ≤ R.locals; omega, zm_ws hts o1, by rw [← hcw]; exact List.mem_cons_self⟩, by rw [← hcw]; exact hts _ o1, hts _ o2, o3, fun sig h => ?_, hts _ hl, hts _ hs⟩
    rw [h] at o4
    exact (Option.some.inj o4).symm
  exact vx_runSX (zm_fix X.1) hM hcb (mt_pre X) rfl (by rw [List.length_map]; exact hk) X.2.2.2.1.1 (by rw [hst]; simp) (mt_room hw) hd ⟨by omega, by omega⟩
end EV9
/-- System.arraycopy of ints -/
def zm_cp (d : zm_D) (r1 p r2 q x : Int) : zm_D := fun a k => if a = r2 ∧ (q ≤ k ∧ k < q + x) then d r1 (p + (k - q)) else d a k
/-! ===== EV: arrays of references, System.arraycopy ===== -/
section EV10
variable {E : ze_E} {l : Launch} {M : zm_M} {D n : Nat} {sh : zk_S} {d : zm_D} {kc ks pc : Nat} {L : zl_L} {st : List zv_V} {Q : ev_Q}
theorem ev_anew {N kc2 ks2 idx : Nat} {C : String} (hd : decode (zm_c M) pc = .ok (.anewarray idx, 3)) (hl : Cond.classLink (zm_o M) idx C ∈ lw_g) (ha : Cond.arrayOver (.object C) ∈ lw_g) (hin : FieldType.object C ∈ zk_aty) (h0 : ∀ j, d ((n : Int) + 1) j = 0) (hN : N ≤ 65536) (hkc : 1 + kc2 ≤ kc) (hks : N + ks2 ≤ ks)
    (kk : ev E l M D (n + 1) (zk_u sh ((n : Int) + 1) (some (.inr (.object C, N)))) d kc2 ks2 (pc + 3) L (zv_a ((n : Int) + 1) :: st) Q) : ev E l M D n sh d kc ks pc L (zv_i (N : Int) :: st) Q := by
  intro p e R s m args below meth c H locs cells slots mc ms ls X
  obtain ⟨r1, r2, h1, h2, r3, r4⟩ := X.2.2.2.2
  have hts := X.1.2.2.2.2.2.1
  have hsz := X.2.1.1
  have hzN : zi (N : Int) := ⟨by omega, by omega⟩
  have hNN : (Int32.ofInt (N : Int)).toNatClampNeg = N := by
    show (Int32.ofInt (N : Int)).toInt.toNat = N
    rw [zi_t hzN]; rfl
  refine W.anew X.1.1 X.1.2.1 X.1.2.2.2.2.1 (hts _ hl) (hts _ ha) rfl hd rfl (fun q => by have := (zi_lt hzN zi_0).mp q; omega) (by rw [hNN]; omega) (by omega) (by rw [hNN]; omega) fun cA kA comp f1 f2 f3 f4 => ?_
  rw [hNN]
  generalize hH1 : H.push ({ cls := cA, slots := Array.replicate N .null, vm := .none } : Cell) = H1
  have z1 : H1.size = H.size + 1 := by rw [← hH1, Array.size_push]
  have e1 : H1[H.size]? = some (arrV cA N (fun _ => .null)) := by rw [← hH1, Array.getElem?_push_size, ← arrV_new]
  have o1 : ∀ q : Nat, q < H.size → H1[q]? = H[q]? := fun q hq => by rw [← hH1, Array.getElem?_push, if_neg (Nat.ne_of_lt hq)]
  have hro : zv_c E (zv_a ((n : Int) + 1)) = .ref (ze_o E + n) := by
    show va_rf (zv_ro E ((n : Int) + 1)) = _
    rw [zv_ro_pos (by omega)]
    show Value.ref _ = _
    congr 2
  have hcA : cA = ze_t E (.object C) := by
    obtain ⟨kA9, comp9, -, -, -, g⟩ := (X.1.2.2.2.2.2.2.2.2.2.1.2.1 _ hin).2
    exact Option.some.inj (f1.symm.trans g)
  have k2 := kk p e R s m args below meth c H1 locs (cells + 1) (slots + N) mc ms ls ⟨X.1, zw_H_new X.2.1 z1 o1 ⟨?_, hin⟩, ⟨Nat.le_trans X.2.2.1.1 (by omega), fun x g1 g2 => (o1 x (Nat.lt_of_lt_of_le g1 X.2.2.1.1)).trans (X.2.2.1.2.1 x g1 g2), X.2.2.1.2.2⟩, X.2.2.2.1, r1, r2, by omega, by omega, r3, r4⟩
  · simp only [List.map_cons, hro] at k2
    rw [hsz]
    exact k2
  · have e2 : (((n + 1 : Nat) : Int)) = (n : Int) + 1 := by omega
    show H1[ze_o E + n]? = _
    rw [← hsz, e1, hcA]
    simp only [e2, h0, ← zv_def E]
    rfl
theorem ev_acopy {idx N1 N2 : Nat} {r1 r2 p9 q9 x9 : Int} (hd : decode (zm_c M) pc = .ok (.invokestatic idx, 3)) (w1 : Cond.methodLink (zm_o M) idx arraycopyName ∈ lw_g) (w2 : Cond.native arraycopyName ∈ lw_g) (w3 : Cond.static arraycopyName ∈ lw_g) (w4 : Cond.initialized "java/lang/System" ∈ lw_g)
    (hr1 : sh r1 = some (.inr (.int, N1))) (hr2 : sh r2 = some (.inr (.int, N2))) (h01 : 0 < r1) (h02 : 0 < r2) (hN1 : N1 ≤ 1000000) (hN2 : N2 ≤ 1000000) (hp : 0 ≤ p9) (hq : 0 ≤ q9) (hx : 0 ≤ x9) (hs1 : p9 + x9 ≤ N1) (hs2 : q9 + x9 ≤ N2) (hw : st.length ≤ 4) (hD : 0 < D)
    (kk : ev E l M D n sh (zm_cp d r1 p9 r2 q9 x9) kc ks (pc + 3) L st Q) : ev E l M D n sh d kc ks pc L (zv_i x9 :: zv_i q9 :: zv_a r2 :: zv_i p9 :: zv_a r1 :: st) Q := by
  intro p e R s m args below meth c H locs cells slots mc ms ls X
  have hts := X.1.2.2.2.2.2.1
  obtain ⟨q1, hty⟩ := zw_arr X.2.1 hr1 h01
  obtain ⟨q2, -⟩ := zw_arr X.2.1 hr2 h02
  obtain ⟨g1, g2, -, -, -, -⟩ := X.2.2.2.2
  have hs := zs_cat E st
  have hsl := zs_w_le st
  obtain ⟨-, k0, hk0, cm0, hkk0⟩ := (X.1.2.2.2.2.2.2.2.2.2.1.2.1 _ hty).1 N1 (fun j => zv_fv E .int (d r1 j))
  obtain ⟨-, k1, hk1, cm1, hkk1⟩ := (X.1.2.2.2.2.2.2.2.2.2.1.2.1 _ hty).1 N2 (fun j => zv_fv E .int (d r2 j))
  have zp : zi p9 := ⟨by omega, by omega⟩
  have zq : zi q9 := ⟨by omega, by omega⟩
  have zx : zi x9 := ⟨by omega, by omega⟩
  have np : (Int32.ofInt p9).toNatClampNeg = p9.toNat := by show (Int32.ofInt p9).toInt.toNat = _; rw [zi_t zp]
  have nq : (Int32.ofInt q9).toNatClampNeg = q9.toNat := by show (Int32.ofInt q9).toInt.toNat = _; rw [zi_t zq]
  have nx : (Int32.ofInt x9).toNatClampNeg = x9.toNat := by show (Int32.ofInt x9).toInt.toNat = _; rw [zi_t zx]
  simp only [List.map_cons, zv_c, zv_ro_pos h01, zv_ro_pos h02]
  intro T hT XS
  obtain ⟨vm', X', step⟩ := XS.arraycopy X.1.1 X.1.2.2.2.2.1 (hts _ w1) (hts _ w2) (hts _ w3) (hts _ w4) (src := ze_o E + (r1.toNat - 1)) (dst := ze_o E + (r2.toNat - 1)) (srcPos := Int32.ofInt p9) (destPos := Int32.ofInt q9) (n := Int32.ofInt x9) (by rw [hT]; exact q1) (by rw [hT]; exact q2)
    (fun _ h => by cases h) (fun _ h => by cases h) (fun h => by cases h) (fun h => by cases h) hk0 hk1 hkk0 hkk1 rfl (fun q => by have := (zi_lt zp zi_0).mp q; omega) (fun q => by have := (zi_lt zq zi_0).mp q; omega) (fun q => by have := (zi_lt zx zi_0).mp q; omega)
    (by rw [zi_t zp, zi_t zx, arrV_size]; omega) (by rw [zi_t zq, zi_t zx, arrV_size]; omega)
    (fun vm₁ _ i hi => by
      rw [nx] at hi
      have e9 : (arrV (ze_t E .int) N1 (fun j => zv_fv E .int (d r1 j))).slots.getD ((Int32.ofInt p9).toNatClampNeg + i) .null = zv_fv E .int (d r1 ((p9.toNat + i : Nat) : Int)) := by
        rw [np, Array.getD_eq_getD_getElem?, arrV_read _ _ (by omega)]
        rfl
      rw [e9]
      exact ⟨rfl, trivial⟩)
    (g := F0 m pc ls _) rfl (X.2.2.2.1.1.trans X.1.2.2.2.1.symm) (rest := st.map (zv_c E)) rfl (by rw [X.1.2.1]; exact hd) (by omega) (by rw [hs]; have : nativeFrameWords "java/lang/System" "arraycopy" 5 ≤ 40 := (by decide); show 2 * 0 + _ + _ ≤ _; omega)
  have ecp : copied (arrV (ze_t E .int) N1 (fun j => zv_fv E .int (d r1 j))) (arrV (ze_t E .int) N2 (fun j => zv_fv E .int (d r2 j))) (Int32.ofInt p9) (Int32.ofInt q9) (Int32.ofInt x9) = arrV (ze_t E .int) N2 (fun j => zv_fv E .int (zm_cp d r1 p9 r2 q9 x9 r2 j)) := by
    have h9 := va_copied (fun z : Int => zv_fv E .int z) (ze_t E .int) (ze_t E .int) (n0 := N1) (n1 := N2) (sp := (Int32.ofInt p9).toNatClampNeg) (dp := (Int32.ofInt q9).toNatClampNeg) (n := (Int32.ofInt x9).toNatClampNeg) (fun j => d r1 j) (fun j => d r2 j) (by rw [np, nx]; omega)
    refine h9.trans ?_
    congr 1
    funext j
    congr 1
    simp only [va_cpy, np, nq, nx, zm_cp]
    by_cases hj : q9.toNat ≤ j ∧ j < q9.toNat + x9.toNat
    · rw [if_pos hj, if_pos ⟨trivial, by omega, by omega⟩]
      congr 1
      omega
    · rw [if_neg hj, if_neg (fun q => hj ⟨by omega, by omega⟩)]
  rw [ecp] at X' step
  have hl : ze_o E + (r2.toNat - 1) < H.size := (Array.getElem?_eq_some_iff.mp q2).1
  generalize hcell : arrV (ze_t E .int) N2 (fun j => zv_fv E .int (zm_cp d r1 p9 r2 q9 x9 r2 j)) = cell at X' step
  have hheap : ((T.setVm vm').setCell (ze_o E + (r2.toNat - 1)) cell).heap = H.setIfInBounds (ze_o E + (r2.toNat - 1)) cell := by rw [← hT]; rfl
  have oq : ∀ q : Nat, q ≠ ze_o E + (r2.toNat - 1) → (H.setIfInBounds (ze_o E + (r2.toNat - 1)) cell)[q]? = H[q]? := fun q hq => by simp [Array.getElem?_setIfInBounds, Ne.symm hq]
  have hz : (H.setIfInBounds (ze_o E + (r2.toNat - 1)) cell).size = H.size := by simp
  have k1 : zw_H E n sh (zm_cp d r1 p9 r2 q9 x9) (H.setIfInBounds (ze_o E + (r2.toNat - 1)) cell) := by
    refine zw_H_set X.2.1 h02 hz oq (fun a k ha => ?_) ?_
    · unfold zm_cp
      rw [if_neg (fun q => ha q.1)]
    · rw [hr2]
      have er : ((r2.toNat : Nat) : Int) = r2 := by omega
      refine ⟨?_, hty⟩
      rw [er, hcell]
      simp [Array.getElem?_setIfInBounds, hl]
  have k2 : va_S (ze_A E) s.heap (H.setIfInBounds (ze_o E + (r2.toNat - 1)) cell) (locs ++ (Cell.stretch (arrV (ze_t E .int) N1 (fun j => zv_fv E .int (d r1 j))) (Int32.ofInt p9).toNatClampNeg (Int32.ofInt x9).toNatClampNeg).zipIdx.map fun q => ⟨ze_o E + (r2.toNat - 1), (Int32.ofInt q9).toNatClampNeg + q.2⟩) := by
    refine ⟨by rw [hz]; exact X.2.2.1.1, fun q g1 g2 => ?_, fun q hq9 => ?_⟩
    · rw [oq q (fun e9 => g2 (by rw [e9]; exact Nat.le_add_right _ _))]
      exact X.2.2.1.2.1 q g1 g2
    · rcases List.mem_append.mp hq9 with h | h
      · exact X.2.2.1.2.2 q h
      · obtain ⟨z, -, hz9⟩ := List.mem_map.mp h
        rw [← hz9]
        exact Nat.le_add_right _ _
  obtain ⟨t, a1, b1⟩ := kk p e R s m args below meth c _ _ cells slots mc ms ls ⟨X.1, k1, k2, X.2.2.2⟩ _ hheap X'
  exact ⟨t, step t a1, b1⟩
end EV10
/-! ===== EV: a throw of an exception whose constructor has another entry ===== -/
section EV11
variable {E : ze_E} {l : Launch} {M : zm_M} {D n : Nat} {sh : zk_S} {d : zm_D} {kc ks pc : Nat} {L : zl_L} {st : List zv_V} {Q : ev_Q}
theorem ev_throwN {ik is ic idx9 : Nat} {text cls Y9 : String} {r9 : List String} {bts9 : ByteArray} (d0 : decode (zm_c M) pc = .ok (.new ik, 3)) (d3 : decode (zm_c M) (pc + 3) = .ok (.dup, 1)) (d4 : decode (zm_c M) (pc + 4) = .ok (.ldc_w is, 3)) (d6 : decode (zm_c M) (pc + 7) = .ok (.invokespecial ic, 3)) (d9 : decode (zm_c M) (pc + 10) = .ok (.athrow, 1))
    (z1 : Bundle.fit cls = true) (zY : Bundle.fit Y9 = true) (zr : ∀ n ∈ r9, Bundle.fit n = true) (b0 : decode bts9 0 = .ok (.aload_n 0, 1)) (b1 : decode bts9 1 = .ok (.aload_n 1, 1)) (b2 : decode bts9 2 = .ok (.invokespecial idx9, 3)) (b5 : decode bts9 5 = .ok (.return_, 1))
    (z3 : Cond.classLink (zm_o M) ik cls ∈ lw_g) (z4 : Cond.initialized cls ∈ lw_g) (z5 : (zm_o M, is, text) ∈ zk_str) (z6 : ∀ w ∈ (zxL (zm_o M) ic cls Y9 r9 idx9 bts9).filter vx_no, w ∈ lw_g ∧ zg_arr w = false)
    (hl : l.stackTraces = false) (hh : zm_h M = []) (hD : (Y9 :: r9).length + 6 ≤ D) (hst : st.length ≤ 8) (hkc : 1 ≤ kc) (hks : 6 ≤ ks) (hq : Q (.inr cls) (n + 1) sh d) : ev E l M D n sh d kc ks pc L st Q := by
  intro p e R s m args below meth c H locs cells slots mc ms ls X
  obtain ⟨r1, r2, h1, h2, r3, r4⟩ := X.2.2.2.2
  have hts := X.1.2.2.2.2.2.1
  obtain ⟨sa, hstr⟩ := X.1.2.2.2.2.2.2.2.2.2.1.2.2.1 _ z5
  obtain ⟨-, -, -, hU, hN⟩ := X.1.2.2.2.2.2.2.2.2.2.2
  have hs9 := zs_w_le st
  rw [← zs_cat E st] at hs9
  refine vx_makeN9 X.1.1 X.1.2.1 hl X.1.2.2.2.2.1 z1 zY zr b0 b1 b2 b5 (hts _ z3) (hts _ z4) hstr (fun w hw => hts w (z6 w hw).1) ?_ hU hN X.2.2.1 (X.2.2.2.1.1.trans X.1.2.2.2.1.symm) d0 d3 d4 d6 (by omega) (by omega) (by omega) (by omega) (fun H1 ce hz hk hce hcv hcl => ?_)
  · intro w hw
    rcases List.mem_cons.mp hw with rfl | hw
    · exact zg_ot (lw_g_ok z3) rfl
    · rcases List.mem_cons.mp hw with rfl | hw
      · exact zg_ot (lw_g_ok z4) rfl
      · exact zg_ot (lw_g_ok (z6 w hw).1) (z6 w hw).2
  · have hS1 : va_S (ze_A E) s.heap H1 locs := by
      refine ⟨by rw [hz]; exact Nat.le_trans X.2.2.1.1 (Nat.le_succ _), fun q g1 g2 => ?_, X.2.2.1.2.2⟩
      rw [hk q (Nat.lt_of_lt_of_le g1 X.2.2.1.1)]
      exact X.2.2.1.2.1 q g1 g2
    refine vx_athrow X.1.1 X.1.2.1 d9 ?_
    exact ev_out (kc := 0) (ks := 0) (pc := pc + 10) (fun z hz9 => by rw [hh] at hz9; cases hz9) hq p e R s m args below meth c H1 locs (cells + 1) (slots + 6) mc ms ls H.size ce ⟨X.1, zw_H_grow X.2.1 hz hk, hS1, X.2.2.2.1, r1, r2, by omega, by omega, r3, r4⟩ hce hcv hcl
end EV11
/-! ===== arrays of arrays ===== -/
def zF0 (c : ClassId) (N b kk i : Nat) : Cell := arrV c N (fun j => if j < i then .ref (b + 1 + j * kk) else .null)
def zF (c : ClassId) (N kk : Nat) (g : State → State) (s : State) : Nat → State
  | 0 => s.pushCell (zF0 c N s.heap.size kk 0)
  | i + 1 => (g (zF c N kk g s i)).setCell s.heap.size (zF0 c N s.heap.size kk (i + 1))
/-- a maker of kk cells of ks slots -/
def zGs (kk ks : Nat) (C : Nat → Nat → Cell) (g : State → State) : Prop :=
  ∀ s : State, (g s).heap.size = s.heap.size + kk ∧ (g s).vm = s.vm ∧ (g s).slotsUsed = s.slotsUsed + ks ∧ (∀ a, a < s.heap.size → (g s).heap[a]? = s.heap[a]?) ∧ (∀ q, q < kk → (g s).heap[s.heap.size + q]? = some (C s.heap.size q)) ∧ (∀ f, g (s.setTop f) = (g s).setTop f)
theorem zGs_push (cell : Cell) : zGs 1 cell.slots.size (fun _ _ => cell) (fun s => s.pushCell cell) := by
  intro s
  refine ⟨by simp, rfl, by simp, fun a ha => State.heap_pushCell_of_lt _ _ ha, fun q hq => ?_, fun f => ?_⟩
  · have e : q = 0 := by omega
    subst e
    exact State.heap_pushCell_size _ _
  · simp only [State.pushCell_setTop]
theorem zF0_size (c : ClassId) (N b kk i : Nat) : (zF0 c N b kk i).slots.size = N := arrV_size _ _ _
theorem zF_facts {c : ClassId} {N kk ks : Nat} {C : Nat → Nat → Cell} {g : State → State} (hg : zGs kk ks C g) (s : State) : ∀ i : Nat, (zF c N kk g s i).heap.size = s.heap.size + 1 + i * kk ∧ (zF c N kk g s i).vm = s.vm ∧ (zF c N kk g s i).slotsUsed = s.slotsUsed + N + i * ks ∧ (∀ a, a < s.heap.size → (zF c N kk g s i).heap[a]? = s.heap[a]?) ∧ (zF c N kk g s i).heap[s.heap.size]? = some (zF0 c N s.heap.size kk i) ∧ (∀ j, j < i → ∀ q, q < kk → (zF c N kk g s i).heap[s.heap.size + 1 + j * kk + q]? = some (C (s.heap.size + 1 + j * kk) q)) ∧ (∀ f, zF c N kk g (s.setTop f) i = (zF c N kk g s i).setTop f)
  | 0 => by
    refine ⟨by simp [zF], rfl, by simp [zF, zF0_size], fun a ha => State.heap_pushCell_of_lt _ _ ha, State.heap_pushCell_size _ _, fun j hj => absurd hj (Nat.not_lt_zero j), fun f => ?_⟩
    simp only [zF, State.heap_setTop, State.pushCell_setTop]
  | i + 1 => by
    obtain ⟨f1, f2, f3, f4, f5, f6, f7⟩ := zF_facts (c := c) (N := N) hg s i
    obtain ⟨g1, g2, g3, g4, g5, g6⟩ := hg (zF c N kk g s i)
    have hlt : s.heap.size < (g (zF c N kk g s i)).heap.size := by rw [g1, f1]; omega
    have hcell : (g (zF c N kk g s i)).heap[s.heap.size]? = some (zF0 c N s.heap.size kk i) := by rw [g4 _ (by rw [f1]; omega)]; exact f5
    refine ⟨?_, ?_, ?_, fun a ha => ?_, ?_, fun j hj q hq => ?_, fun f => ?_⟩
    · show ((g (zF c N kk g s i)).setCell s.heap.size _).heap.size = _
      rw [size_setCell, g1, f1, Nat.succ_mul]; omega
    · show ((g (zF c N kk g s i)).setCell s.heap.size _).vm = _
      rw [← f2, ← g2]; rfl
    · show ((g (zF c N kk g s i)).setCell s.heap.size _).slotsUsed = _
      have : ((g (zF c N kk g s i)).setCell s.heap.size (zF0 c N s.heap.size kk (i + 1))).slotsUsed = (g (zF c N kk g s i)).slotsUsed := rfl
      rw [this, g3, f3, Nat.succ_mul]; omega
    · show ((g (zF c N kk g s i)).setCell s.heap.size _).heap[a]? = _
      rw [State.heap_setCell_other (Nat.ne_of_gt ha), g4 _ (by rw [f1]; omega)]
      exact f4 a ha
    · exact State.heap_setCell_self hcell
    · show ((g (zF c N kk g s i)).setCell s.heap.size _).heap[s.heap.size + 1 + j * kk + q]? = _
      rw [State.heap_setCell_other (show s.heap.size ≠ s.heap.size + 1 + j * kk + q by generalize j * kk = z; omega)]
      rcases Nat.lt_or_ge j i with h | h
      · have hm : j * kk + kk ≤ i * kk := by have := Nat.mul_le_mul_right kk (show j + 1 ≤ i from h); rw [Nat.succ_mul] at this; exact this
        rw [g4 _ (by rw [f1]; omega)]
        exact f6 j h q hq
      · have e : j = i := by omega
        subst e
        have := g5 q hq
        rw [f1] at this
        exact this
    · simp only [zF, f7, State.heap_setTop, g6, State.setCell_setTop]
theorem zGs_F {c : ClassId} {N kk ks : Nat} {C : Nat → Nat → Cell} {g : State → State} (hg : zGs kk ks C g) (hk : 0 < kk) : zGs (1 + N * kk) (N + N * ks) (fun b r => if r = 0 then zF0 c N b kk N else C (b + 1 + (r - 1) / kk * kk) ((r - 1) % kk)) (fun s => zF c N kk g s N) := by
  intro s
  obtain ⟨f1, f2, f3, f4, f5, f6, f7⟩ := zF_facts (c := c) (N := N) hg s N
  refine ⟨by dsimp only; rw [f1]; omega, f2, by dsimp only; rw [f3]; omega, f4, fun q hq => ?_, f7⟩
  dsimp only
  by_cases h0 : q = 0
  · subst h0
    simpa using f5
  · have hm := Nat.div_add_mod (q - 1) kk
    have hl := Nat.mod_lt (q - 1) hk
    have hj : (q - 1) / kk < N := by
      rw [Nat.div_lt_iff_lt_mul hk]; omega
    have := f6 _ hj _ hl
    rw [if_neg h0, ← this]
    congr 1
    rw [Nat.mul_comm kk] at hm
    omega
section ZW
variable {E : CtlPost} {e : Env} {d : Bool} {acts : List Action} {s : State}
theorem zwp_new {c comp : ClassId} {k : Class} {type : FieldType} {len : Nat} {init : Value} (hk : s.vm.classes[c]? = some k) (hkind : k.kind = .array comp type)
    (hlimit : ¬ len > e.platform.arrayLengthLimit) (hheap : ¬ len * componentBytes type > e.platform.maxHeapBytes) (hfit : fits type init = true) (hdef : init.isDefault = true) {Q : Addr → Pre}
    (h1 : s.heap.size < e.platform.maxCells) (h2 : s.slotsUsed + len ≤ e.platform.maxSlots)
    (hq : Q s.heap.size d acts (s.pushCell { cls := c, slots := Array.replicate len init, vm := .none })) :
    wp (Jvm.newArray c len init) Q E e d acts s := by
  have hfits : ∀ i v, (Array.replicate len init)[i]? = some v → s.fitsSlot c .none i v = true := by
    intro i v hv
    simp only [Array.getElem?_replicate] at hv
    split at hv
    · cases hv; simp [State.fitsSlot, State.slotType?, hk, hkind, hfit]
    · cases hv
  have hda : allocActs (Array.replicate len init) s.heap.size acts = acts := by
    have hall : ((Array.replicate len init).all (·.isDefault)) = true := by
      rw [Array.all_replicate]; split <;> simp [hdef]
    unfold allocActs; rw [if_pos hall]
  simp only [Jvm.newArray, Jvm.arrayFits, wp_bind', W.ask, W.ite, hlimit, if_false, wp_pure', W.theClass, hk, hkind, hheap, W.alloc, W.stop, Option.some.injEq, exists_eq_left', Array.size_replicate, hda]
  rw [if_neg (by omega)]
  exact ⟨h1, h2, hfits, hq⟩
theorem zwp_make1 {comp cc : ClassId} {kc : Class} {type : FieldType} {m : Int32} (hkc : s.vm.classes[comp]? = some kc) (hkindc : kc.kind = .array cc type) (hm : ¬ m < 0)
    (hl2 : ¬ m.toNatClampNeg > e.platform.arrayLengthLimit) (hh2 : ¬ m.toNatClampNeg * componentBytes type > e.platform.maxHeapBytes)
    (hdf : fits type (defaultValue type) = true) (hdd : (defaultValue type).isDefault = true)
    (h1 : s.heap.size < e.platform.maxCells) (h2 : s.slotsUsed + m.toNatClampNeg ≤ e.platform.maxSlots)
    {Q : Addr → Pre} (hq : Q s.heap.size d acts (s.pushCell { cls := comp, slots := Array.replicate m.toNatClampNeg (defaultValue type), vm := .none })) :
    wp (multianewarray.make comp [m]) Q E e d acts s := by
  rw [multianewarray.make]
  simp only [wp_bind', W.ite, hm, if_false, wp_pure', W.theClass, hkc, hkindc, Option.some.injEq, exists_eq_left']
  exact zwp_new hkc hkindc hl2 hh2 hdf hdd h1 h2 hq
theorem zrefFits {t : FieldType} (h : t.isReference = true) (v : Value) (hv : v = .null ∨ ∃ a, v = .ref a) : fits t v = true := by
  rcases hv with rfl | ⟨a, rfl⟩ <;> cases t <;> simp [FieldType.isReference] at h <;> rfl
theorem zwp_makeN {c comp : ClassId} {k : Class} {t0 : FieldType} {n r0 : Int32} {rs : List Int32} {kk ks : Nat} {C : Nat → Nat → Cell} {g : State → State} (hk : s.vm.classes[c]? = some k) (hkind : k.kind = .array comp t0) (href : t0.isReference = true) (hn : ¬ n < 0)
    (hl1 : ¬ n.toNatClampNeg > e.platform.arrayLengthLimit) (hh1 : ¬ n.toNatClampNeg * componentBytes t0 > e.platform.maxHeapBytes) (hg : zGs kk ks C g) (hfind : ((r0 :: rs).find? (· < 0)) = none)
    (hin : ∀ (s' : State) (d' : Bool) (acts' : List Action) (Q' : Addr → Pre), s'.vm = s.vm → s'.heap.size + kk ≤ e.platform.maxCells → s'.slotsUsed + ks ≤ e.platform.maxSlots → (∀ d'' acts'', Q' s'.heap.size d'' acts'' (g s')) → wp (multianewarray.make comp (r0 :: rs)) Q' E e d' acts' s')
    (hc : s.heap.size + 1 + n.toNatClampNeg * kk ≤ e.platform.maxCells) (hs : s.slotsUsed + n.toNatClampNeg + n.toNatClampNeg * ks ≤ e.platform.maxSlots)
    {Q : Addr → Pre} (hq : ∀ d' acts', Q s.heap.size d' acts' (zF c n.toNatClampNeg kk g s n.toNatClampNeg)) :
    wp (multianewarray.make c (n :: r0 :: rs)) Q E e d acts s := by
  rw [multianewarray.make]
  simp only [wp_bind', W.ite, hn, if_false, wp_pure', W.theClass, hk, hkind, Option.some.injEq, exists_eq_left']
  refine zwp_new hk hkind hl1 hh1 (zrefFits href _ (Or.inl rfl)) rfl (by omega) (by omega) ?_
  simp only [hfind]
  have e0 : ({ cls := c, slots := Array.replicate n.toNatClampNeg .null, vm := .none } : Cell) = zF0 c n.toNatClampNeg s.heap.size kk 0 := by
    rw [arrV_new]
    unfold zF0
    congr 1
  rw [e0]
  rw [ite_self, wp_bind', Std.Legacy.Range.forIn_eq_forIn_range']
  have hsz : ([:n.toNatClampNeg] : Std.Legacy.Range).size = n.toNatClampNeg := by simp [Std.Legacy.Range.size]
  rw [hsz]
  show wp (forIn (List.range' 0 n.toNatClampNeg 1) PUnit.unit _) _ E e d acts _
  refine wp_forIn_inv (fun rest s' => ∃ i, i ≤ n.toNatClampNeg ∧ rest = List.range' i (n.toNatClampNeg - i) ∧ s' = zF c n.toNatClampNeg kk g s i) _ _ ⟨0, Nat.zero_le _, rfl, rfl⟩ ?_ ?_
  · rintro x rest s' d' acts' Q' ⟨i, hi, hl, rfl⟩ hnext
    have hlt : i < n.toNatClampNeg := by
      rcases Nat.lt_or_ge i n.toNatClampNeg with h | h
      · exact h
      · rw [show n.toNatClampNeg - i = 0 from by omega] at hl; simp at hl
    obtain ⟨rfl, hrest⟩ : x = i ∧ rest = List.range' (i + 1) (n.toNatClampNeg - (i + 1)) := by
      rw [show n.toNatClampNeg - i = (n.toNatClampNeg - (i + 1)) + 1 from by omega, List.range'_succ] at hl
      exact ⟨(List.cons.inj hl).1, (List.cons.inj hl).2⟩
    obtain ⟨f1, f2, f3, f4, f5, -, -⟩ := zF_facts (c := c) (N := n.toNatClampNeg) hg s x
    obtain ⟨g1, g2, g3, g4, -, -⟩ := hg (zF c n.toNatClampNeg kk g s x)
    have hm1 : x * kk + kk ≤ n.toNatClampNeg * kk := by
      have := Nat.mul_le_mul_right kk (show x + 1 ≤ n.toNatClampNeg from hlt)
      rw [Nat.succ_mul] at this; exact this
    have hm2 : x * ks + ks ≤ n.toNatClampNeg * ks := by
      have := Nat.mul_le_mul_right ks (show x + 1 ≤ n.toNatClampNeg from hlt)
      rw [Nat.succ_mul] at this; exact this
    simp only [wp_bind']
    refine hin _ _ _ _ f2 (by rw [f1]; omega) (by rw [f3]; omega) (fun d9 a9 => ?_)
    have hcell : (g (zF c n.toNatClampNeg kk g s x)).heap[s.heap.size]? = some (zF0 c n.toNatClampNeg s.heap.size kk x) := by rw [g4 _ (by rw [f1]; omega)]; exact f5
    simp only [wp_bind', W.writeLoc, wp_pure']
    refine ⟨zF0 c n.toNatClampNeg s.heap.size kk x, hcell, by simp [zF0, arrV], by rw [zF0_size]; exact hlt, ?_, hnext _ _ _ ⟨x + 1, hlt, hrest, ?_⟩⟩
    · simp [State.fitsSlot, State.slotType?, zF0, arrV, g2, f2, hk, hkind, zrefFits href _ (Or.inr ⟨_, rfl⟩)]
    · rw [f1]
      show (g (zF c n.toNatClampNeg kk g s x)).setCell s.heap.size ((zF0 c n.toNatClampNeg s.heap.size kk x).setSlot x _) = (g (zF c n.toNatClampNeg kk g s x)).setCell s.heap.size _
      congr 1
      unfold zF0
      rw [arrV_store]
      congr 1
      funext j
      by_cases hj : j = x
      · subst hj
        simp [updV]
      · by_cases h2 : j < x
        · simp [updV, hj, h2, Nat.lt_succ_of_lt h2]
        · simp [updV, hj, h2, show ¬ j < x + 1 by omega]
  · rintro s' d' acts' ⟨i, hi, hl, rfl⟩
    have hiN : i = n.toNatClampNeg := by
      rcases Nat.lt_or_ge i n.toNatClampNeg with h | h
      · rw [show n.toNatClampNeg - i = (n.toNatClampNeg - (i + 1)) + 1 from by omega, List.range'_succ] at hl; cases hl
      · omega
    subst hiN
    simp only [wp_pure']
    exact hq _ _
end ZW
abbrev zMm : Type := Nat × (zk_S × (zm_D × Nat))
/-- new int[N][K]: the outer array, then the inner ones -/
def zmul2 (M : zMm) (N K : Nat) : zMm := (M.1 + 1 + N, ((fun r => if r = (M.1 : Int) + 1 then some (.inr (.array .int, N)) else if (M.1 : Int) + 2 ≤ r ∧ r < (M.1 : Int) + 2 + N then some (.inr (.int, K)) else M.2.1 r), ((fun r j => if (M.1 : Int) + 1 ≤ r then (if r = (M.1 : Int) + 1 ∧ (0 ≤ j ∧ j < N) then (M.1 : Int) + 2 + j else 0) else M.2.2.1 r j), M.2.2.2 + N + N * K)))
/-- new int[N][K][J]: the outer array; then each one of its arrays with the inner ones behind it -/
def zmul3 (M : zMm) (N K J : Nat) : zMm := (M.1 + 1 + N * (K + 1), ((fun r => if r = (M.1 : Int) + 1 then some (.inr (.array (.array .int), N)) else if (M.1 : Int) + 2 ≤ r ∧ r < (M.1 : Int) + 2 + N * (K + 1) then (if (r - ((M.1 : Int) + 2)) % ((K : Int) + 1) = 0 then some (.inr (.array .int, K)) else some (.inr (.int, J))) else M.2.1 r), ((fun r j => if (M.1 : Int) + 1 ≤ r then (if r = (M.1 : Int) + 1 ∧ (0 ≤ j ∧ j < N) then (M.1 : Int) + 2 + j * (K + 1) else if (r < (M.1 : Int) + 2 + N * (K + 1) ∧ (M.1 : Int) + 2 ≤ r) ∧ ((r - ((M.1 : Int) + 2)) % ((K : Int) + 1) = 0 ∧ (0 ≤ j ∧ j < K)) then r + 1 + j else 0) else M.2.2.1 r j), M.2.2.2 + N + N * K + N * K * J)))
/-! ===== arrays of arrays: on the machine, and over the pure memory ===== -/
section ZST
variable {p : Program} {l : Launch} {e : Env} {R : Room} {s : State} {m : MethodId} {args : Array Value} {below : List Frame} {meth : Method} {c : Code} {locs : List Loc}
theorem zSt_F {cA : ClassId} {N kk ks : Nat} {C : Nat → Nat → Cell} {g : State → State} (hg : zGs kk ks C g) (hgS : ∀ (T : State) (cells slots : Nat), Stand p l e R s m args below meth c T locs cells slots → Stand p l e R s m args below meth c (g T) locs (cells + kk) (slots + ks))
    {T : State} {cells slots : Nat} (X : Stand p l e R s m args below meth c T locs cells slots) : ∀ i : Nat, Stand p l e R s m args below meth c (zF cA N kk g T i) locs (cells + 1 + i * kk) (slots + N + i * ks)
  | 0 => by
    have h := X.pushed (zF0 cA N T.heap.size kk 0)
    rw [zF0_size] at h
    simpa [zF] using h
  | i + 1 => by
    have Xi := hgS _ _ _ (zSt_F (cA := cA) (N := N) hg hgS X i)
    obtain ⟨f1, f2, f3, f4, f5, -, -⟩ := zF_facts (c := cA) (N := N) hg T i
    obtain ⟨g1, g2, g3, g4, -, -⟩ := hg (zF cA N kk g T i)
    have hcell : (g (zF cA N kk g T i)).heap[T.heap.size]? = some (zF0 cA N T.heap.size kk i) := by rw [g4 _ (by rw [f1]; omega)]; exact f5
    have h := Xi.stored hcell i (.ref (T.heap.size + 1 + i * kk))
    have e9 : (zF0 cA N T.heap.size kk i).setSlot i (.ref (T.heap.size + 1 + i * kk)) = zF0 cA N T.heap.size kk (i + 1) := by
      unfold zF0
      rw [arrV_store]
      congr 1
      funext j
      by_cases hj : j = i
      · subst hj
        simp [updV]
      · by_cases h2 : j < i
        · simp [updV, hj, h2, Nat.lt_succ_of_lt h2]
        · simp [updV, hj, h2, show ¬ j < i + 1 by omega]
    rw [e9] at h
    have h2 := Stand.forget h (fun y hy => by
      rw [List.mem_singleton] at hy
      rw [hy]
      exact X.same.2.1)
    have e1 : cells + 1 + (i + 1) * kk = cells + 1 + i * kk + kk := by rw [Nat.succ_mul]; omega
    have e2 : slots + N + (i + 1) * ks = slots + N + i * ks + ks := by rw [Nat.succ_mul]; omega
    rw [e1, e2]
    exact h2
theorem zmulti2 {T : State} {cells slots k9 s9 : Nat} (X : Stand p l e R s m args below meth c T locs cells slots) (hexec : p.tables.exec = Jvm.exec) {own nm : String} {cA : ClassId} {index : Nat}
    (hown : s.vm.findClass own = some m.cls) (hclink : (Cond.classLink own index nm).before args s = true) (hnameA : s.vm.findClass nm = some cA)
    {g : JFrame} (hg : g.method = m) (hdg : decode c.code g.pc = .ok (.multianewarray index 2, 4)) {n k : Int32} {rest : List Value} (hstack : g.stack = .int k :: .int n :: rest)
    {G : State → State} (hG : ∀ S f, G (S.setTop f) = (G S).setTop f) (hGX : ∀ vm₁, s.WarmedH vm₁ → Stand p l e R s m args below meth c (G (T.setVm vm₁)) locs (cells + k9) (slots + s9))
    (hwp : ∀ (vm₁ : Vm), s.WarmedH vm₁ → ∀ (f : JFrame) (E : CtlPost) (d : Bool) (acts : List Action) (Q : Addr → Pre), (∀ d' acts', Q T.heap.size d' acts' (G ((T.setVm vm₁).setTop f))) → wp (multianewarray.make cA [n, k]) Q E e d acts ((T.setVm vm₁).setTop f)) :
    ∃ vm₁ : Vm, s.WarmedH vm₁ ∧ Stand p l e R s m args below meth c (G (T.setVm vm₁)) locs (cells + k9) (slots + s9) ∧
      ∀ target, Steps p.tables e below ((G (T.setVm vm₁)).setTop { g with pc := g.pc + 4, stack := .ref T.heap.size :: rest }) target → Steps p.tables e below (T.setTop g) target := by
  subst hg
  have hpl : e.platform.magicAccessors = ({} : Platform).magicAccessors := by rw [X.admits.platform]
  obtain ⟨c0, hfc0, hcl⟩ := Cond.classLink_spec hown hclink e.platform hpl
  cases hnameA.symm.trans hfc0
  obtain ⟨hg₁, hwarm₁, hready₁⟩ := State.classEntry (e := e) X.warmed hcl
  generalize T.vm.noted g.method.cls index (.cls cA) = vm₁ at hg₁ hwarm₁ hready₁
  have XF := hGX vm₁ hwarm₁
  refine ⟨vm₁, hwarm₁, XF, fun target hrest => ?_⟩
  jvm_step X.here [hexec, hdg]
  simp only [multianewarray.sem, wp_bind', W.resolveClassAt_links (State.method?_setTop g X.here.top) hg₁]
  rw [W.popN, if_neg (by decide)]
  refine ⟨g, State.topJava?_setTop' (s := T.setVm vm₁) g X.here.top, [.int n, .int k], rest, rfl, hstack, ?_⟩
  simp only [List.mapM_cons, List.mapM_nil, wp_bind', wp_pure']
  have eS : ((T.setTop g).setVm vm₁).setTop { g with stack := rest } = (T.setVm vm₁).setTop { g with stack := rest } := by
    show ((T.setVm vm₁).setTop g).setTop _ = _
    rw [State.setTop_setTop]
  rw [eS]
  refine hwp vm₁ hwarm₁ _ _ _ _ _ (fun d' acts' => ?_)
  rw [hG]
  simp only [wp_bind', W.mark, W.pushRef, State.topJava?_setTop' _ XF.here.top, Option.some.injEq, exists_eq_left', State.setTop_setTop, State.heap_setTop]
  intro acts
  simp [jvm, XF.here.top]
  exact hrest
theorem zmulti3 {T : State} {cells slots k9 s9 : Nat} (X : Stand p l e R s m args below meth c T locs cells slots) (hexec : p.tables.exec = Jvm.exec) {own nm : String} {cA : ClassId} {index : Nat}
    (hown : s.vm.findClass own = some m.cls) (hclink : (Cond.classLink own index nm).before args s = true) (hnameA : s.vm.findClass nm = some cA)
    {g : JFrame} (hg : g.method = m) (hdg : decode c.code g.pc = .ok (.multianewarray index 3, 4)) {n k j : Int32} {rest : List Value} (hstack : g.stack = .int j :: .int k :: .int n :: rest)
    {G : State → State} (hG : ∀ S f, G (S.setTop f) = (G S).setTop f) (hGX : ∀ vm₁, s.WarmedH vm₁ → Stand p l e R s m args below meth c (G (T.setVm vm₁)) locs (cells + k9) (slots + s9))
    (hwp : ∀ (vm₁ : Vm), s.WarmedH vm₁ → ∀ (f : JFrame) (E : CtlPost) (d : Bool) (acts : List Action) (Q : Addr → Pre), (∀ d' acts', Q T.heap.size d' acts' (G ((T.setVm vm₁).setTop f))) → wp (multianewarray.make cA [n, k, j]) Q E e d acts ((T.setVm vm₁).setTop f)) :
    ∃ vm₁ : Vm, s.WarmedH vm₁ ∧ Stand p l e R s m args below meth c (G (T.setVm vm₁)) locs (cells + k9) (slots + s9) ∧
      ∀ target, Steps p.tables e below ((G (T.setVm vm₁)).setTop { g with pc := g.pc + 4, stack := .ref T.heap.size :: rest }) target → Steps p.tables e below (T.setTop g) target := by
  subst hg
  have hpl : e.platform.magicAccessors = ({} : Platform).magicAccessors := by rw [X.admits.platform]
  obtain ⟨c0, hfc0, hcl⟩ := Cond.classLink_spec hown hclink e.platform hpl
  cases hnameA.symm.trans hfc0
  obtain ⟨hg₁, hwarm₁, hready₁⟩ := State.classEntry (e := e) X.warmed hcl
  generalize T.vm.noted g.method.cls index (.cls cA) = vm₁ at hg₁ hwarm₁ hready₁
  have XF := hGX vm₁ hwarm₁
  refine ⟨vm₁, hwarm₁, XF, fun target hrest => ?_⟩
  jvm_step X.here [hexec, hdg]
  simp only [multianewarray.sem, wp_bind', W.resolveClassAt_links (State.method?_setTop g X.here.top) hg₁]
  rw [W.popN, if_neg (by decide)]
  refine ⟨g, State.topJava?_setTop' (s := T.setVm vm₁) g X.here.top, [.int n, .int k, .int j], rest, rfl, hstack, ?_⟩
  simp only [List.mapM_cons, List.mapM_nil, wp_bind', wp_pure']
  have eS : ((T.setTop g).setVm vm₁).setTop { g with stack := rest } = (T.setVm vm₁).setTop { g with stack := rest } := by
    show ((T.setVm vm₁).setTop g).setTop _ = _
    rw [State.setTop_setTop]
  rw [eS]
  refine hwp vm₁ hwarm₁ _ _ _ _ _ (fun d' acts' => ?_)
  rw [hG]
  simp only [wp_bind', W.mark, W.pushRef, State.topJava?_setTop' _ XF.here.top, Option.some.injEq, exists_eq_left', State.setTop_setTop, State.heap_setTop]
  intro acts
  simp [jvm, XF.here.top]
  exact hrest
theorem zao_spec {args : Array Value} {first s : State} {o : Option Outcome} {idx : List Nat} {t : FieldType} (h : (Cond.arrayOver (.array t)).holds args first o s idx = true) :
    ∃ comp c k, s.vm.findClass (FieldType.array t).toString = some comp ∧ s.vm.classes[c]? = some k ∧ k.kind = .array comp (.array t) ∧ s.vm.findClass ("[" ++ (FieldType.array t).toString) = some c := by
  simp only [Cond.holds, Cond.value, beq_iff_eq] at h
  cases hc : s.vm.findClass (FieldType.array t).toString with
  | none => simp [hc] at h
  | some comp =>
    simp only [hc, Option.bind_some, Option.bind_eq_some_iff, Option.map_eq_some_iff] at h
    obtain ⟨c, hi, k, hk, hb⟩ := h
    obtain ⟨hlt, hp, -⟩ := Array.findIdx?_eq_some_iff_getElem.mp hi
    have hkk : s.vm.classes[c] = k := (Array.getElem?_eq_some_iff.mp hk).2
    rw [hkk] at hp
    cases hkind : k.kind with
    | array component ty =>
      rw [hkind] at hb hp
      simp at hb hp
      exact ⟨comp, c, k, rfl, hk, by rw [hkind, hp, hb.1], hb.2⟩
    | _ => rw [hkind] at hb; simp at hb
end ZST
/-- many new cells -/
theorem zw_H_many {E : ze_E} {n kk : Nat} {sh sh' : zk_S} {d d' : zm_D} {H H1 : Heap} (h : zw_H E n sh d H) (hz : H1.size = H.size + kk) (hk : ∀ q, q < H.size → H1[q]? = H[q]?) (hs : ∀ r : Nat, 1 ≤ r → r ≤ n → sh' r = sh r ∧ ∀ j, d' r j = d r j) (hs2 : ∀ r : Nat, n + kk < r → sh' r = sh r)
    (hn : ∀ q, q < kk → zw_at E d' H1 (n + 1 + q) (sh' ((n + 1 + q : Nat) : Int))) : zw_H E (n + kk) sh' d' H1 := by
  refine ⟨by rw [hz, h.1]; omega, fun r hr => ?_⟩
  by_cases e : r ≤ n
  · obtain ⟨e1, e2⟩ := hs r hr e
    rw [e1]
    exact zw_at_kept (zw_H_old h hk r hr) rfl e2
  · by_cases e3 : r ≤ n + kk
    · obtain ⟨q, rfl⟩ : ∃ q, r = n + 1 + q := ⟨r - (n + 1), by omega⟩
      exact hn q (by omega)
    · rw [hs2 r (by omega)]
      have h1 := h.2 r hr
      have hsz := h.1
      rcases hsr : sh r with _ | ci | ⟨ty, N⟩
      · trivial
      · rw [hsr] at h1
        obtain ⟨q, g1, cell, g3, -⟩ := h1
        have := (Array.getElem?_eq_some_iff.mp g3).1
        omega
      · rw [hsr] at h1
        have := (Array.getElem?_eq_some_iff.mp h1.1).1
        omega
theorem arrV_same {c : ClassId} {N : Nat} {f g : Nat → Value} (h : ∀ j, j < N → f j = g j) : arrV c N f = arrV c N g := by
  unfold arrV
  congr 1
  apply Array.ext
  · simp
  · intro i h1 h2
    simp only [Array.getElem_ofFn]
    exact h i (by simpa using h1)
theorem zv_rf (E : ze_E) (z : Int) (h : 0 < z) : va_rf (zv_ro E z) = .ref (ze_o E + (z.toNat - 1)) := by rw [zv_ro_pos h]; rfl
section EV13
variable {E : ze_E} {l : Launch} {M : zm_M} {D n u0 : Nat} {sh : zk_S} {d : zm_D} {kc ks pc : Nat} {L : zl_L} {st : List zv_V} {Q : ev_Q}
theorem zi_clamp {x : Int} (h : 0 ≤ x ∧ x ≤ 1000) : ¬ Int32.ofInt x < 0 ∧ (Int32.ofInt x).toNatClampNeg = x.toNat := by
  have hz : zi x := ⟨by omega, by omega⟩
  refine ⟨fun q => by have := (zi_lt hz zi_0).mp q; omega, ?_⟩
  show (Int32.ofInt x).toInt.toNat = _
  rw [zi_t hz]
set_option maxHeartbeats 2000000 in
theorem ev_multi2 {x y : Int} {idx kc2 ks2 : Nat} (hd : decode (zm_c M) pc = .ok (.multianewarray idx 2, 4)) (hl : Cond.classLink (zm_o M) idx "[[I" ∈ lw_g) (ha : Cond.arrayOver (.array .int) ∈ lw_g) (hc : Cond.arrayClass .int ∈ lw_g) (hx : 0 ≤ x ∧ x ≤ 1000) (hy : 0 ≤ y ∧ y ≤ 1000)
    (hkc : 1 + x.toNat + kc2 ≤ kc) (hks : x.toNat + x.toNat * y.toNat + ks2 ≤ ks)
    (kk : ev E l M D (n + 1 + x.toNat) (zmul2 (n, sh, d, u0) x.toNat y.toNat).2.1 (zmul2 (n, sh, d, u0) x.toNat y.toNat).2.2.1 kc2 ks2 (pc + 4) L (zv_a ((n : Int) + 1) :: st) Q) : ev E l M D n sh d kc ks pc L (zv_i y :: zv_i x :: st) Q := by
  intro p e R s m args below meth c H locs cells slots mc ms ls X T hT XS
  obtain ⟨r1, r2, h1, h2, r3, r4⟩ := X.2.2.2.2
  have hts := X.1.2.2.2.2.2.1
  have hsz := X.2.1.1
  have m2 : FieldType.array .int ∈ zk_aty := by decide +kernel
  have m1 : FieldType.int ∈ zk_aty := by decide +kernel
  have hRA2 : s.vm.findClass "[[I" = some (ze_t E (.array .int)) := (X.1.2.2.2.2.2.2.2.2.2.1.2.1 _ m2).2
  have hRA1 : s.vm.findClass "[I" = some (ze_t E .int) := (X.1.2.2.2.2.2.2.2.2.2.1.2.1 _ m1).2
  obtain ⟨comp, cA, kA, hcomp, hkA, hkindA, hnameA⟩ := zao_spec (hts _ ha)
  obtain ⟨comp', kC, cc, hcomp', hkC, hkindC⟩ := Cond.arrayClass_spec (hts _ hc)
  have ecomp : comp = ze_t E .int := Option.some.inj (hcomp.symm.trans hRA1)
  have ecomp' : comp' = ze_t E .int := Option.some.inj (hcomp'.symm.trans hRA1)
  have ecA : cA = ze_t E (.array .int) := Option.some.inj (hnameA.symm.trans hRA2)
  subst ecomp ecomp' ecA
  obtain ⟨cx, ex⟩ := zi_clamp hx
  obtain ⟨cy, ey⟩ := zi_clamp hy
  generalize hN : x.toNat = N at *
  generalize hK : y.toNat = K at *
  have hpA : e.platform.arrayLengthLimit = e.platform.arrayLengthLimit := rfl
  let inner : Cell := { cls := ze_t E .int, slots := Array.replicate K (defaultValue .int), vm := .none }
  have hin : inner.slots.size = K := by simp [inner]
  have hg1 : zGs 1 K (fun _ _ => inner) (fun S => S.pushCell inner) := by have := zGs_push inner; rwa [hin] at this
  have hg2 := zGs_F (c := ze_t E (.array .int)) (N := N) hg1 (by omega)
  have hl1 : ∀ z : Nat, z ≤ 1000 → ¬ z > e.platform.arrayLengthLimit := fun z hz => by rw [Launch.admits_arrayLengthLimit XS.admits]; omega
  have hh1 : ∀ z w : Nat, z ≤ 1000 → w ≤ 8 → ¬ z * w > e.platform.maxHeapBytes := fun z w hz hw => by
    rw [Launch.admits_maxHeapBytes XS.admits]
    have := Nat.mul_le_mul hz hw
    omega
  have hNK : 1 + N * 1 = 1 + N := by omega
  obtain ⟨hr1, hr2⟩ := XS.roomAbove (a := 1 + N * 1) (b := N + N * K) (by omega) (by omega)
  obtain ⟨vm₁, hW₁, XF, step⟩ := zmulti2 XS X.1.1 X.1.2.2.2.2.1 (hts _ hl) hRA2 (g := F0 m pc ls (((zv_i y :: zv_i x :: st)).map (zv_c E))) rfl (by rw [X.1.2.1]; exact hd) (n := Int32.ofInt x) (k := Int32.ofInt y) (rest := st.map (zv_c E)) rfl
    (G := fun S => zF (ze_t E (.array .int)) N 1 (fun S => S.pushCell inner) S N) (k9 := 1 + N * 1) (s9 := N + N * K) (fun S f => (hg2 S).2.2.2.2.2 f)
    (fun vm₁ hW => by
      have h9 := zSt_F (cA := ze_t E (.array .int)) (N := N) hg1 (fun T cells slots Z => by have := Z.pushed inner; rwa [hin] at this) (XS.noted hW) N
      have e1 : cells + (1 + N * 1) = cells + 1 + N * 1 := by omega
      have e2 : slots + (N + N * K) = slots + N + N * K := by omega
      rw [e1, e2]; exact h9)
    (fun vm₁ hW f E9 d9 a9 Q9 hQ9 => by
      obtain ⟨kA₁, hkA₁, heA⟩ := hW.alike.2.2 _ _ hkA
      obtain ⟨kC₁, hkC₁, heC⟩ := hW.alike.2.2 _ _ hkC
      refine zwp_makeN (kk := 1) (ks := K) (g := fun S => S.pushCell inner) (C := fun _ _ => inner) (k := kA₁) (comp := ze_t E .int) (t0 := .array .int) hkA₁ (by rw [heA]; exact hkindA) rfl cx (by rw [ex]; exact hl1 _ (by omega)) (by rw [ex]; exact hh1 _ _ (by omega) (by decide)) hg1 (by simp [cy])
        (fun s' d' acts' Q' e1 e2 e3 e4 => ?_) (by rw [ex]; show T.heap.size + 1 + N * 1 ≤ _; omega) (by rw [ex]; show T.slotsUsed + N + N * K ≤ _; omega) (fun d' acts' => ?_)
      · refine zwp_make1 (kc := kC₁) (cc := cc) (type := .int) (by rw [e1]; exact hkC₁) (by rw [heC]; exact hkindC) cy (by rw [ey]; exact hl1 _ (by omega)) (by rw [ey]; exact hh1 _ _ (by omega) (by decide)) rfl rfl (by omega) (by rw [ey]; exact e3) ?_
        rw [ey]
        exact e4 _ _
      · rw [ex]
        exact hQ9 d' acts')
  obtain ⟨f1, f2, f3, f4, f5, f6⟩ := hg2 (T.setVm vm₁)
  have hTh : (T.setVm vm₁).heap = H := hT
  dsimp only at f1 f4 f5 XF step
  rw [hTh] at f1 f4 f5
  generalize hF : zF (ze_t E (.array .int)) N 1 (fun S => S.pushCell inner) (T.setVm vm₁) N = F at *
  have hro : zv_c E (zv_a ((n : Int) + 1)) = .ref T.heap.size := by
    show va_rf (zv_ro E ((n : Int) + 1)) = _
    rw [zv_rf _ _ (by omega), hT, hsz]
    congr 1
  have hH1 : zw_H E (n + (1 + N * 1)) (zmul2 (n, sh, d, u0) N K).2.1 (zmul2 (n, sh, d, u0) N K).2.2.1 F.heap := by
    refine zw_H_many X.2.1 f1 f4 (fun r q1 q2 => ⟨?_, fun j => ?_⟩) (fun r q => ?_) (fun q hq => ?_)
    · unfold zmul2; dsimp only
      rw [if_neg (by omega), if_neg (by omega)]
    · unfold zmul2; dsimp only
      rw [if_neg (by omega)]
    · unfold zmul2; dsimp only
      rw [if_neg (by omega), if_neg (by omega)]
    · have hcell := f5 q hq
      by_cases h0 : q = 0
      · subst h0
        rw [if_pos rfl] at hcell
        have hs9 : (zmul2 (n, sh, d, u0) N K).2.1 ((n + 1 + 0 : Nat) : Int) = some (.inr (.array .int, N)) := by
          unfold zmul2; dsimp only
          rw [if_pos (by omega)]
        rw [hs9]
        refine ⟨?_, m2⟩
        rw [show ze_o E + (n + 1 + 0 - 1) = H.size + 0 by omega, hcell]
        refine congrArg some (arrV_same (fun j hj => ?_))
        rw [if_pos hj]
        show _ = va_rf (zv_ro E _)
        have hd9 : (zmul2 (n, sh, d, u0) N K).2.2.1 ((n + 1 + 0 : Nat) : Int) (j : Int) = (n : Int) + 2 + j := by
          unfold zmul2; dsimp only
          rw [if_pos (by omega), if_pos ⟨by omega, by omega, by omega⟩]
        rw [hd9, zv_rf _ _ (by omega)]
        have e7 : ((n : Int) + 2 + j).toNat = n + 2 + j := by omega
        rw [e7]
        show Value.ref _ = Value.ref _
        congr 1
        have e8 : H.size + 1 + j * 1 = ze_o E + (n + 2 + j - 1) := by omega
        exact e8
      · rw [if_neg h0] at hcell
        have hs9 : (zmul2 (n, sh, d, u0) N K).2.1 ((n + 1 + q : Nat) : Int) = some (.inr (.int, K)) := by
          unfold zmul2; dsimp only
          rw [if_neg (by omega), if_pos ⟨by omega, by omega⟩]
        rw [hs9]
        refine ⟨?_, m1⟩
        rw [show ze_o E + (n + 1 + q - 1) = H.size + q by omega, hcell]
        have hinner : inner = arrV (ze_t E .int) K (fun _ => .int 0) := arrV_new _ _ _
        rw [hinner]
        refine congrArg some (arrV_same (fun j hj => ?_))
        have hd9 : (zmul2 (n, sh, d, u0) N K).2.2.1 ((n + 1 + q : Nat) : Int) (j : Int) = 0 := by
          unfold zmul2; dsimp only
          rw [if_pos (by omega), if_neg (by omega)]
        rw [hd9]
        rfl
  obtain ⟨t, a1, b1⟩ := kk p e R s m args below meth c F.heap locs (cells + (1 + N * 1)) (slots + (N + N * K)) mc ms ls ⟨X.1, by rw [show n + 1 + N = n + (1 + N * 1) by omega]; exact hH1, ⟨by rw [f1]; exact Nat.le_trans X.2.2.1.1 (by omega), fun q g1 g2 => (f4 q (Nat.lt_of_lt_of_le g1 X.2.2.1.1)).trans (X.2.2.1.2.1 q g1 g2), X.2.2.1.2.2⟩, X.2.2.2.1, r1, r2, by omega, by omega, r3, r4⟩ F rfl XF
  simp only [List.map_cons, hro] at a1
  exact ⟨t, step t a1, b1⟩
set_option maxHeartbeats 4000000 in
theorem ev_multi3 {x y z : Int} {idx kc2 ks2 : Nat} (hd : decode (zm_c M) pc = .ok (.multianewarray idx 3, 4)) (hl : Cond.classLink (zm_o M) idx "[[[I" ∈ lw_g) (ha0 : Cond.arrayOver (.array (.array .int)) ∈ lw_g) (ha : Cond.arrayOver (.array .int) ∈ lw_g) (hc : Cond.arrayClass .int ∈ lw_g) (hx : 0 ≤ x ∧ x ≤ 100) (hy : 0 ≤ y ∧ y ≤ 100) (hz9 : 0 ≤ z ∧ z ≤ 100)
    (hkc : 1 + x.toNat * (y.toNat + 1) + kc2 ≤ kc) (hks : x.toNat + x.toNat * y.toNat + x.toNat * y.toNat * z.toNat + ks2 ≤ ks)
    (kk : ev E l M D (n + 1 + x.toNat * (y.toNat + 1)) (zmul3 (n, sh, d, u0) x.toNat y.toNat z.toNat).2.1 (zmul3 (n, sh, d, u0) x.toNat y.toNat z.toNat).2.2.1 kc2 ks2 (pc + 4) L (zv_a ((n : Int) + 1) :: st) Q) : ev E l M D n sh d kc ks pc L (zv_i z :: zv_i y :: zv_i x :: st) Q := by
  intro p e R s m args below meth c H locs cells slots mc ms ls X T hT XS
  obtain ⟨r1, r2, h1, h2, r3, r4⟩ := X.2.2.2.2
  have hts := X.1.2.2.2.2.2.1
  have hsz := X.2.1.1
  have m3 : FieldType.array (.array .int) ∈ zk_aty := by decide +kernel
  have m2 : FieldType.array .int ∈ zk_aty := by decide +kernel
  have m1 : FieldType.int ∈ zk_aty := by decide +kernel
  have hRA3 : s.vm.findClass "[[[I" = some (ze_t E (.array (.array .int))) := (X.1.2.2.2.2.2.2.2.2.2.1.2.1 _ m3).2
  have hRA2 : s.vm.findClass "[[I" = some (ze_t E (.array .int)) := (X.1.2.2.2.2.2.2.2.2.2.1.2.1 _ m2).2
  have hRA1 : s.vm.findClass "[I" = some (ze_t E .int) := (X.1.2.2.2.2.2.2.2.2.2.1.2.1 _ m1).2
  obtain ⟨compO, cO, kO, hcompO, hkO, hkindO, hnameO⟩ := zao_spec (hts _ ha0)
  obtain ⟨comp, cA, kA, hcomp, hkA, hkindA, hnameA⟩ := zao_spec (hts _ ha)
  obtain ⟨comp', kC, cc, hcomp', hkC, hkindC⟩ := Cond.arrayClass_spec (hts _ hc)
  have e1 : compO = ze_t E (.array .int) := Option.some.inj (hcompO.symm.trans hRA2)
  have e2 : cO = ze_t E (.array (.array .int)) := Option.some.inj (hnameO.symm.trans hRA3)
  have e3 : comp = ze_t E .int := Option.some.inj (hcomp.symm.trans hRA1)
  have e4 : comp' = ze_t E .int := Option.some.inj (hcomp'.symm.trans hRA1)
  have e5 : cA = ze_t E (.array .int) := Option.some.inj (hnameA.symm.trans hRA2)
  subst e1 e2 e3 e4 e5
  obtain ⟨cx, ex⟩ := zi_clamp (x := x) ⟨hx.1, by omega⟩
  obtain ⟨cy, ey⟩ := zi_clamp (x := y) ⟨hy.1, by omega⟩
  obtain ⟨cz, ez⟩ := zi_clamp (x := z) ⟨hz9.1, by omega⟩
  have bx : x.toNat ≤ 100 := by omega
  have by9 : y.toNat ≤ 100 := by omega
  have bz : z.toNat ≤ 100 := by omega
  generalize hN : x.toNat = N at *
  generalize hK : y.toNat = K at *
  generalize hJ : z.toNat = J at *
  let inner : Cell := { cls := ze_t E .int, slots := Array.replicate J (defaultValue .int), vm := .none }
  have hin : inner.slots.size = J := by simp [inner]
  have hg1 : zGs 1 J (fun _ _ => inner) (fun S => S.pushCell inner) := by have := zGs_push inner; rwa [hin] at this
  have hg2 := zGs_F (c := ze_t E (.array .int)) (N := K) hg1 (by omega)
  rw [show 1 + K * 1 = K + 1 by omega] at hg2
  have hg3 := zGs_F (c := ze_t E (.array (.array .int))) (N := N) hg2 (by omega)
  have hl1 : ∀ w : Nat, w ≤ 1000 → ¬ w > e.platform.arrayLengthLimit := fun w hw => by rw [Launch.admits_arrayLengthLimit XS.admits]; omega
  have hh1 : ∀ v w : Nat, v ≤ 1000 → w ≤ 8 → ¬ v * w > e.platform.maxHeapBytes := fun v w hv hw => by
    rw [Launch.admits_maxHeapBytes XS.admits]
    have := Nat.mul_le_mul hv hw
    omega
  have hNK : N * (K + K * J) = N * K + N * K * J := by rw [Nat.mul_add, Nat.mul_assoc]
  obtain ⟨hr1, hr2⟩ := XS.roomAbove (a := 1 + N * (K + 1)) (b := N + N * (K + K * J)) (by omega) (by omega)
  obtain ⟨vm₁, hW₁, XF, step⟩ := zmulti3 XS X.1.1 X.1.2.2.2.2.1 (hts _ hl) hRA3 (g := F0 m pc ls (((zv_i z :: zv_i y :: zv_i x :: st)).map (zv_c E))) rfl (by rw [X.1.2.1]; exact hd) (n := Int32.ofInt x) (k := Int32.ofInt y) (j := Int32.ofInt z) (rest := st.map (zv_c E)) rfl
    (G := fun S => zF (ze_t E (.array (.array .int))) N (K + 1) (fun S => zF (ze_t E (.array .int)) K 1 (fun S => S.pushCell inner) S K) S N) (k9 := 1 + N * (K + 1)) (s9 := N + N * (K + K * J)) (fun S f => (hg3 S).2.2.2.2.2 f)
    (fun vm₁ hW => by
      have h9 := zSt_F (cA := ze_t E (.array (.array .int))) (N := N) hg2 (fun T cells slots Z => by
        have h8 := zSt_F (cA := ze_t E (.array .int)) (N := K) hg1 (fun T cells slots Z => by have := Z.pushed inner; rwa [hin] at this) Z K
        have e1 : cells + (K + 1) = cells + 1 + K * 1 := by omega
        have e2 : slots + (K + K * J) = slots + K + K * J := by omega
        rw [e1, e2]; exact h8) (XS.noted hW) N
      have e1 : cells + (1 + N * (K + 1)) = cells + 1 + N * (K + 1) := by omega
      have e2 : slots + (N + N * (K + K * J)) = slots + N + N * (K + K * J) := by omega
      rw [e1, e2]; exact h9)
    (fun vm₁ hW f E9 d9 a9 Q9 hQ9 => by
      obtain ⟨kO₁, hkO₁, heO⟩ := hW.alike.2.2 _ _ hkO
      obtain ⟨kA₁, hkA₁, heA⟩ := hW.alike.2.2 _ _ hkA
      obtain ⟨kC₁, hkC₁, heC⟩ := hW.alike.2.2 _ _ hkC
      refine zwp_makeN (kk := K + 1) (ks := K + K * J) (g := fun S => zF (ze_t E (.array .int)) K 1 (fun S => S.pushCell inner) S K) (k := kO₁) (comp := ze_t E (.array .int)) (t0 := .array (.array .int)) hkO₁ (by rw [heO]; exact hkindO) rfl cx (by rw [ex]; exact hl1 _ (by omega)) (by rw [ex]; exact hh1 _ _ (by omega) (by decide)) hg2 (by simp [cy, cz])
        (fun s' d' acts' Q' w1 w2 w3 w4 => ?_) (by rw [ex]; show T.heap.size + 1 + N * (K + 1) ≤ _; omega) (by rw [ex]; show T.slotsUsed + N + N * (K + K * J) ≤ _; omega) (fun d' acts' => ?_)
      · refine zwp_makeN (kk := 1) (ks := J) (g := fun S => S.pushCell inner) (C := fun _ _ => inner) (k := kA₁) (comp := ze_t E .int) (t0 := .array .int) (by rw [w1]; exact hkA₁) (by rw [heA]; exact hkindA) rfl cy (by rw [ey]; exact hl1 _ (by omega)) (by rw [ey]; exact hh1 _ _ (by omega) (by decide)) hg1 (by simp [cz])
          (fun s' d' acts' Q' v1 v2 v3 v4 => ?_) (by rw [ey]; omega) (by rw [ey]; omega) (fun d' acts' => ?_)
        · refine zwp_make1 (kc := kC₁) (cc := cc) (type := .int) (by rw [v1, w1]; exact hkC₁) (by rw [heC]; exact hkindC) cz (by rw [ez]; exact hl1 _ (by omega)) (by rw [ez]; exact hh1 _ _ (by omega) (by decide)) rfl rfl (by omega) (by rw [ez]; exact v3) ?_
          rw [ez]
          exact v4 _ _
        · rw [ey]
          exact w4 d' acts'
      · rw [ex]
        exact hQ9 d' acts')
  obtain ⟨f1, f2, f3, f4, f5, f6⟩ := hg3 (T.setVm vm₁)
  have hTh : (T.setVm vm₁).heap = H := hT
  dsimp only at f1 f4 f5 XF step
  rw [hTh] at f1 f4 f5
  generalize hF : zF (ze_t E (.array (.array .int))) N (K + 1) (fun S => zF (ze_t E (.array .int)) K 1 (fun S => S.pushCell inner) S K) (T.setVm vm₁) N = F at *
  have hro : zv_c E (zv_a ((n : Int) + 1)) = .ref T.heap.size := by
    show va_rf (zv_ro E ((n : Int) + 1)) = _
    rw [zv_rf _ _ (by omega), hT, hsz]
    congr 1
  have hcast : ((N * (K + 1) : Nat) : Int) = (N : Int) * ((K : Int) + 1) := by rw [Int.natCast_mul]; rfl
  have hH1 : zw_H E (n + (1 + N * (K + 1))) (zmul3 (n, sh, d, u0) N K J).2.1 (zmul3 (n, sh, d, u0) N K J).2.2.1 F.heap := by
    refine zw_H_many X.2.1 f1 f4 (fun r q1 q2 => ⟨?_, fun j => ?_⟩) (fun r q => ?_) (fun q hq => ?_)
    · unfold zmul3; dsimp only
      rw [if_neg (by omega), if_neg (by omega)]
    · unfold zmul3; dsimp only
      rw [if_neg (by omega)]
    · unfold zmul3; dsimp only
      rw [if_neg (by omega), if_neg (by rw [← hcast]; omega)]
    · have hcell := f5 q hq
      by_cases h0 : q = 0
      · subst h0
        rw [if_pos rfl] at hcell
        have hs9 : (zmul3 (n, sh, d, u0) N K J).2.1 ((n + 1 + 0 : Nat) : Int) = some (.inr (.array (.array .int), N)) := by
          unfold zmul3; dsimp only
          rw [if_pos (by omega)]
        rw [hs9]
        refine ⟨?_, m3⟩
        rw [show ze_o E + (n + 1 + 0 - 1) = H.size + 0 by omega, hcell]
        refine congrArg some (arrV_same (fun j hj => ?_))
        rw [if_pos hj]
        show _ = va_rf (zv_ro E _)
        have hd9 : (zmul3 (n, sh, d, u0) N K J).2.2.1 ((n + 1 + 0 : Nat) : Int) (j : Int) = (n : Int) + 2 + (j : Int) * ((K : Int) + 1) := by
          unfold zmul3; dsimp only
          rw [if_pos (by omega), if_pos ⟨by omega, by omega, by omega⟩]
        have hcj : ((j * (K + 1) : Nat) : Int) = (j : Int) * ((K : Int) + 1) := by rw [Int.natCast_mul]; rfl
        rw [hd9, ← hcj, zv_rf _ _ (by omega)]
        have e7 : ((n : Int) + 2 + ((j * (K + 1) : Nat) : Int)).toNat = n + 2 + j * (K + 1) := by omega
        rw [e7]
        show Value.ref _ = Value.ref _
        congr 1
        have e8 : H.size + 1 + j * (K + 1) = ze_o E + (n + 2 + j * (K + 1) - 1) := by omega
        exact e8
      · rw [if_neg h0] at hcell
        have hdm := Nat.div_add_mod (q - 1) (K + 1)
        have hlt := Nat.mod_lt (q - 1) (show 0 < K + 1 by omega)
        have hmc : (((n + 1 + q : Nat) : Int) - ((n : Int) + 2)) % ((K : Int) + 1) = (((q - 1) % (K + 1) : Nat) : Int) := by
          rw [show ((n + 1 + q : Nat) : Int) - ((n : Int) + 2) = ((q - 1 : Nat) : Int) by omega, Int.natCast_emod]; rfl
        have hin9 : (n : Int) + 2 ≤ ((n + 1 + q : Nat) : Int) ∧ ((n + 1 + q : Nat) : Int) < (n : Int) + 2 + (N : Int) * ((K : Int) + 1) := by rw [← hcast]; omega
        have hgt : ¬ ((n + 1 + q : Nat) : Int) = (n : Int) + 1 := by omega
        by_cases hm0 : (q - 1) % (K + 1) = 0
        · rw [if_pos hm0] at hcell
          have hs9 : (zmul3 (n, sh, d, u0) N K J).2.1 ((n + 1 + q : Nat) : Int) = some (.inr (.array .int, K)) := by
            unfold zmul3; dsimp only
            rw [if_neg hgt, if_pos hin9, if_pos (by rw [hmc, hm0]; rfl)]
          rw [hs9]
          refine ⟨?_, m2⟩
          rw [show ze_o E + (n + 1 + q - 1) = H.size + q by omega, hcell]
          refine congrArg some (arrV_same (fun j hj => ?_))
          rw [if_pos hj]
          show _ = va_rf (zv_ro E _)
          have hd9 : (zmul3 (n, sh, d, u0) N K J).2.2.1 ((n + 1 + q : Nat) : Int) (j : Int) = ((n + 1 + q : Nat) : Int) + 1 + j := by
            unfold zmul3; dsimp only
            rw [if_pos (by omega), if_neg (fun w => hgt w.1), if_pos ⟨⟨hin9.2, hin9.1⟩, by rw [hmc, hm0]; rfl, by omega, by omega⟩]
          rw [hd9, zv_rf _ _ (by omega)]
          have e7 : (((n + 1 + q : Nat) : Int) + 1 + (j : Int)).toNat = n + 1 + q + 1 + j := by omega
          rw [e7]
          show Value.ref _ = Value.ref _
          congr 1
          rw [hm0] at hdm
          rw [Nat.mul_comm] at hdm
          have e8 : H.size + 1 + (q - 1) / (K + 1) * (K + 1) + 1 + j * 1 = ze_o E + (n + 1 + q + 1 + j - 1) := by omega
          exact e8
        · rw [if_neg hm0] at hcell
          have hm9 : ¬ (((n + 1 + q : Nat) : Int) - ((n : Int) + 2)) % ((K : Int) + 1) = 0 := by rw [hmc]; omega
          have hs9 : (zmul3 (n, sh, d, u0) N K J).2.1 ((n + 1 + q : Nat) : Int) = some (.inr (.int, J)) := by
            unfold zmul3; dsimp only
            rw [if_neg hgt, if_pos hin9, if_neg hm9]
          rw [hs9]
          refine ⟨?_, m1⟩
          rw [show ze_o E + (n + 1 + q - 1) = H.size + q by omega, hcell]
          have hinner : inner = arrV (ze_t E .int) J (fun _ => .int 0) := arrV_new _ _ _
          rw [hinner]
          refine congrArg some (arrV_same (fun j hj => ?_))
          have hd9 : (zmul3 (n, sh, d, u0) N K J).2.2.1 ((n + 1 + q : Nat) : Int) (j : Int) = 0 := by
            unfold zmul3; dsimp only
            rw [if_pos (by omega), if_neg (fun w => hgt w.1), if_neg (fun w => hm9 w.2.1)]
          rw [hd9]
          rfl
  obtain ⟨t, a1, b1⟩ := kk p e R s m args below meth c F.heap locs (cells + (1 + N * (K + 1))) (slots + (N + N * (K + K * J))) mc ms ls ⟨X.1, by rw [show n + 1 + N * (K + 1) = n + (1 + N * (K + 1)) by omega]; exact hH1, ⟨by rw [f1]; exact Nat.le_trans X.2.2.1.1 (by omega), fun q g1 g2 => (f4 q (Nat.lt_of_lt_of_le g1 X.2.2.1.1)).trans (X.2.2.1.2.1 q g1 g2), X.2.2.1.2.2⟩, X.2.2.2.1, r1, r2, by omega, by omega, r3, r4⟩ F rfl XF
  simp only [List.map_cons, hro] at a1
  exact ⟨t, step t a1, b1⟩
end EV13
end
