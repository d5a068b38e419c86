section
-- ===== PART A: goes FIRST, ahead of the names: the tables' words, and 'selects' of the private methods out of them =====
/-- a private method of a class that the tables say can be made, by its rows of tables_1 -/
def lw_okq (q : MethodName × Nat) : Prop := (q.1.cls ≠ "java/lang/invoke/MethodHandle" ∧ q.1.cls ≠ "java/lang/invoke/VarHandle") ∧ Cond.instantiable q.1.cls q.2 ∈ tables_1 ∧ Cond.privateMethod q.1 ∈ tables_1 ∧ Cond.instanceMethod q.1 ∈ tables_1
theorem lw_p0 : lw_okq (⟨"ShoeHouse$Machine", "stopsWith", "(II)I"⟩, 9) := ⟨⟨by decide +kernel, by decide +kernel⟩, List.mem_of_getElem? (i := 347) (by decide +kernel), List.mem_of_getElem? (i := 459) (by decide +kernel), List.mem_of_getElem? (i := 460) (by decide +kernel)⟩
theorem lw_p1 : lw_okq (⟨"ShoeHouse$Machine", "symbolAt", "(II)I"⟩, 9) := ⟨⟨by decide +kernel, by decide +kernel⟩, List.mem_of_getElem? (i := 347) (by decide +kernel), List.mem_of_getElem? (i := 463) (by decide +kernel), List.mem_of_getElem? (i := 464) (by decide +kernel)⟩
theorem lw_p2 : lw_okq (⟨"ShoeHouse$Machine", "timesOf", "(I)I"⟩, 9) := ⟨⟨by decide +kernel, by decide +kernel⟩, List.mem_of_getElem? (i := 347) (by decide +kernel), List.mem_of_getElem? (i := 467) (by decide +kernel), List.mem_of_getElem? (i := 468) (by decide +kernel)⟩
theorem lw_p3 : lw_okq (⟨"ShoeHouse", "areAllChipsHere", "()Z"⟩, 11) := ⟨⟨by decide +kernel, by decide +kernel⟩, List.mem_of_getElem? (i := 32) (by decide +kernel), List.mem_of_getElem? (i := 516) (by decide +kernel), List.mem_of_getElem? (i := 517) (by decide +kernel)⟩
theorem lw_p4 : lw_okq (⟨"ShoeHouse", "chipsOfGuests", "()I"⟩, 11) := ⟨⟨by decide +kernel, by decide +kernel⟩, List.mem_of_getElem? (i := 32) (by decide +kernel), List.mem_of_getElem? (i := 520) (by decide +kernel), List.mem_of_getElem? (i := 521) (by decide +kernel)⟩
theorem lw_p5 : lw_okq (⟨"ShoeHouse", "stakesOf", "(LShoeHouse$Guest;)I"⟩, 11) := ⟨⟨by decide +kernel, by decide +kernel⟩, List.mem_of_getElem? (i := 32) (by decide +kernel), List.mem_of_getElem? (i := 528) (by decide +kernel), List.mem_of_getElem? (i := 529) (by decide +kernel)⟩
theorem lw_p6 : lw_okq (⟨"ShoeHouse", "isNothingOfBarred", "()Z"⟩, 11) := ⟨⟨by decide +kernel, by decide +kernel⟩, List.mem_of_getElem? (i := 32) (by decide +kernel), List.mem_of_getElem? (i := 568) (by decide +kernel), List.mem_of_getElem? (i := 569) (by decide +kernel)⟩
theorem lw_p7 : lw_okq (⟨"ShoeHouse", "areChancesSound", "()Z"⟩, 11) := ⟨⟨by decide +kernel, by decide +kernel⟩, List.mem_of_getElem? (i := 32) (by decide +kernel), List.mem_of_getElem? (i := 576) (by decide +kernel), List.mem_of_getElem? (i := 577) (by decide +kernel)⟩
theorem lw_p8 : lw_okq (⟨"java/lang/Throwable", "fillInStackTrace", "(I)Ljava/lang/Throwable;"⟩, 6) := ⟨⟨by decide +kernel, by decide +kernel⟩, List.mem_of_getElem? (i := 651) (by decide +kernel), List.mem_of_getElem? (i := 649) (by decide +kernel), List.mem_of_getElem? (i := 650) (by decide +kernel)⟩
theorem lw_p9 : lw_okq (⟨"ShoeHouse", "guestAt", "(I)LShoeHouse$Guest;"⟩, 11) := ⟨⟨by decide +kernel, by decide +kernel⟩, List.mem_of_getElem? (i := 32) (by decide +kernel), List.mem_of_getElem? (i := 729) (by decide +kernel), List.mem_of_getElem? (i := 730) (by decide +kernel)⟩
theorem lw_p10 : lw_okq (⟨"ShoeHouse$Shoe", "see", "(I)V"⟩, 8) := ⟨⟨by decide +kernel, by decide +kernel⟩, List.mem_of_getElem? (i := 57) (by decide +kernel), List.mem_of_getElem? (i := 849) (by decide +kernel), List.mem_of_getElem? (i := 850) (by decide +kernel)⟩
theorem lw_p11 : lw_okq (⟨"ShoeHouse$CardTable", "drawForDealer", "()V"⟩, 10) := ⟨⟨by decide +kernel, by decide +kernel⟩, List.mem_of_getElem? (i := 207) (by decide +kernel), List.mem_of_getElem? (i := 853) (by decide +kernel), List.mem_of_getElem? (i := 854) (by decide +kernel)⟩
theorem lw_p12 : lw_okq (⟨"ShoeHouse$CardTable", "drawsAgain", "()Z"⟩, 10) := ⟨⟨by decide +kernel, by decide +kernel⟩, List.mem_of_getElem? (i := 207) (by decide +kernel), List.mem_of_getElem? (i := 874) (by decide +kernel), List.mem_of_getElem? (i := 875) (by decide +kernel)⟩
theorem lw_p13 : lw_okq (⟨"ShoeHouse$Shoe", "takeCard", "()I"⟩, 8) := ⟨⟨by decide +kernel, by decide +kernel⟩, List.mem_of_getElem? (i := 57) (by decide +kernel), List.mem_of_getElem? (i := 888) (by decide +kernel), List.mem_of_getElem? (i := 889) (by decide +kernel)⟩
theorem lw_p14 : lw_okq (⟨"ShoeHouse$CardTable", "settle", "(LShoeHouse$Seat;LShoeHouse$Hand;)V"⟩, 10) := ⟨⟨by decide +kernel, by decide +kernel⟩, List.mem_of_getElem? (i := 207) (by decide +kernel), List.mem_of_getElem? (i := 896) (by decide +kernel), List.mem_of_getElem? (i := 897) (by decide +kernel)⟩
theorem lw_p15 : lw_okq (⟨"ShoeHouse$CardTable", "gainOf", "(LShoeHouse$Seat;LShoeHouse$Hand;)I"⟩, 10) := ⟨⟨by decide +kernel, by decide +kernel⟩, List.mem_of_getElem? (i := 207) (by decide +kernel), List.mem_of_getElem? (i := 900) (by decide +kernel), List.mem_of_getElem? (i := 901) (by decide +kernel)⟩
def lw_privs_1 : List (MethodName × Nat) := [(⟨"ShoeHouse$Machine", "stopsWith", "(II)I"⟩, 9), (⟨"ShoeHouse$Machine", "symbolAt", "(II)I"⟩, 9), (⟨"ShoeHouse$Machine", "timesOf", "(I)I"⟩, 9), (⟨"ShoeHouse", "areAllChipsHere", "()Z"⟩, 11), (⟨"ShoeHouse", "chipsOfGuests", "()I"⟩, 11), (⟨"ShoeHouse", "stakesOf", "(LShoeHouse$Guest;)I"⟩, 11), (⟨"ShoeHouse", "isNothingOfBarred", "()Z"⟩, 11), (⟨"ShoeHouse", "areChancesSound", "()Z"⟩, 11), (⟨"java/lang/Throwable", "fillInStackTrace", "(I)Ljava/lang/Throwable;"⟩, 6), (⟨"ShoeHouse", "guestAt", "(I)LShoeHouse$Guest;"⟩, 11), (⟨"ShoeHouse$Shoe", "see", "(I)V"⟩, 8), (⟨"ShoeHouse$CardTable", "drawForDealer", "()V"⟩, 10), (⟨"ShoeHouse$CardTable", "drawsAgain", "()Z"⟩, 10), (⟨"ShoeHouse$Shoe", "takeCard", "()I"⟩, 8), (⟨"ShoeHouse$CardTable", "settle", "(LShoeHouse$Seat;LShoeHouse$Hand;)V"⟩, 10), (⟨"ShoeHouse$CardTable", "gainOf", "(LShoeHouse$Seat;LShoeHouse$Hand;)I"⟩, 10)]
theorem lw_r1 : ∀ q ∈ lw_privs_1, lw_okq q := List.forall_mem_cons.mpr ⟨lw_p0, List.forall_mem_cons.mpr ⟨lw_p1, List.forall_mem_cons.mpr ⟨lw_p2, List.forall_mem_cons.mpr ⟨lw_p3, List.forall_mem_cons.mpr ⟨lw_p4, List.forall_mem_cons.mpr ⟨lw_p5, List.forall_mem_cons.mpr ⟨lw_p6, List.forall_mem_cons.mpr ⟨lw_p7, List.forall_mem_cons.mpr ⟨lw_p8, List.forall_mem_cons.mpr ⟨lw_p9, List.forall_mem_cons.mpr ⟨lw_p10, List.forall_mem_cons.mpr ⟨lw_p11, List.forall_mem_cons.mpr ⟨lw_p12, List.forall_mem_cons.mpr ⟨lw_p13, List.forall_mem_cons.mpr ⟨lw_p14, List.forall_mem_cons.mpr ⟨lw_p15, fun _ h => absurd h List.not_mem_nil⟩⟩⟩⟩⟩⟩⟩⟩⟩⟩⟩⟩⟩⟩⟩⟩
theorem lw_p16 : lw_okq (⟨"ShoeHouse$CardTable", "payForNatural", "(I)I"⟩, 10) := ⟨⟨by decide +kernel, by decide +kernel⟩, List.mem_of_getElem? (i := 207) (by decide +kernel), List.mem_of_getElem? (i := 906) (by decide +kernel), List.mem_of_getElem? (i := 907) (by decide +kernel)⟩
theorem lw_p17 : lw_okq (⟨"ShoeHouse", "trayAt", "(I)LShoeHouse$Tray;"⟩, 11) := ⟨⟨by decide +kernel, by decide +kernel⟩, List.mem_of_getElem? (i := 32) (by decide +kernel), List.mem_of_getElem? (i := 960) (by decide +kernel), List.mem_of_getElem? (i := 961) (by decide +kernel)⟩
theorem lw_p18 : lw_okq (⟨"ShoeHouse", "needNoRound", "()V"⟩, 11) := ⟨⟨by decide +kernel, by decide +kernel⟩, List.mem_of_getElem? (i := 32) (by decide +kernel), List.mem_of_getElem? (i := 994) (by decide +kernel), List.mem_of_getElem? (i := 995) (by decide +kernel)⟩
theorem lw_p19 : lw_okq (⟨"ShoeHouse$Shoe", "layMixed", "(I)V"⟩, 8) := ⟨⟨by decide +kernel, by decide +kernel⟩, List.mem_of_getElem? (i := 57) (by decide +kernel), List.mem_of_getElem? (i := 1038) (by decide +kernel), List.mem_of_getElem? (i := 1039) (by decide +kernel)⟩
theorem lw_p20 : lw_okq (⟨"ShoeHouse", "seatAt", "(I)LShoeHouse$Seat;"⟩, 11) := ⟨⟨by decide +kernel, by decide +kernel⟩, List.mem_of_getElem? (i := 32) (by decide +kernel), List.mem_of_getElem? (i := 1062) (by decide +kernel), List.mem_of_getElem? (i := 1063) (by decide +kernel)⟩
theorem lw_p21 : lw_okq (⟨"ShoeHouse", "needStake", "(LShoeHouse$Guest;I)V"⟩, 11) := ⟨⟨by decide +kernel, by decide +kernel⟩, List.mem_of_getElem? (i := 32) (by decide +kernel), List.mem_of_getElem? (i := 1072) (by decide +kernel), List.mem_of_getElem? (i := 1073) (by decide +kernel)⟩
theorem lw_p22 : lw_okq (⟨"ShoeHouse$CardTable", "dealToSeats", "()V"⟩, 10) := ⟨⟨by decide +kernel, by decide +kernel⟩, List.mem_of_getElem? (i := 207) (by decide +kernel), List.mem_of_getElem? (i := 1125) (by decide +kernel), List.mem_of_getElem? (i := 1126) (by decide +kernel)⟩
theorem lw_p23 : lw_okq (⟨"ShoeHouse", "handInTurn", "(I)LShoeHouse$Hand;"⟩, 11) := ⟨⟨by decide +kernel, by decide +kernel⟩, List.mem_of_getElem? (i := 32) (by decide +kernel), List.mem_of_getElem? (i := 1141) (by decide +kernel), List.mem_of_getElem? (i := 1142) (by decide +kernel)⟩
theorem lw_p24 : lw_okq (⟨"ShoeHouse", "needRound", "()V"⟩, 11) := ⟨⟨by decide +kernel, by decide +kernel⟩, List.mem_of_getElem? (i := 32) (by decide +kernel), List.mem_of_getElem? (i := 1145) (by decide +kernel), List.mem_of_getElem? (i := 1146) (by decide +kernel)⟩
theorem lw_p25 : lw_okq (⟨"ShoeHouse", "needCards", "(I)V"⟩, 11) := ⟨⟨by decide +kernel, by decide +kernel⟩, List.mem_of_getElem? (i := 32) (by decide +kernel), List.mem_of_getElem? (i := 1153) (by decide +kernel), List.mem_of_getElem? (i := 1154) (by decide +kernel)⟩
theorem lw_p26 : lw_okq (⟨"ShoeHouse", "playerAt", "(LShoeHouse$Seat;I)LShoeHouse$Guest;"⟩, 11) := ⟨⟨by decide +kernel, by decide +kernel⟩, List.mem_of_getElem? (i := 32) (by decide +kernel), List.mem_of_getElem? (i := 1177) (by decide +kernel), List.mem_of_getElem? (i := 1178) (by decide +kernel)⟩
theorem lw_p27 : lw_okq (⟨"ShoeHouse", "needUnseen", "()V"⟩, 11) := ⟨⟨by decide +kernel, by decide +kernel⟩, List.mem_of_getElem? (i := 32) (by decide +kernel), List.mem_of_getElem? (i := 1286) (by decide +kernel), List.mem_of_getElem? (i := 1287) (by decide +kernel)⟩
theorem lw_p28 : lw_okq (⟨"ShoeHouse", "needNoSpin", "()V"⟩, 11) := ⟨⟨by decide +kernel, by decide +kernel⟩, List.mem_of_getElem? (i := 32) (by decide +kernel), List.mem_of_getElem? (i := 1390) (by decide +kernel), List.mem_of_getElem? (i := 1391) (by decide +kernel)⟩
theorem lw_p29 : lw_okq (⟨"ShoeHouse", "needSpin", "()V"⟩, 11) := ⟨⟨by decide +kernel, by decide +kernel⟩, List.mem_of_getElem? (i := 32) (by decide +kernel), List.mem_of_getElem? (i := 1440) (by decide +kernel), List.mem_of_getElem? (i := 1441) (by decide +kernel)⟩
theorem lw_p30 : lw_okq (⟨"ShoeHouse$Lottery", "rightNumbers", "(I)I"⟩, 5) := ⟨⟨by decide +kernel, by decide +kernel⟩, List.mem_of_getElem? (i := 105) (by decide +kernel), List.mem_of_getElem? (i := 1510) (by decide +kernel), List.mem_of_getElem? (i := 1511) (by decide +kernel)⟩
theorem lw_p31 : lw_okq (⟨"ShoeHouse$Lottery", "giveTier", "(III)I"⟩, 5) := ⟨⟨by decide +kernel, by decide +kernel⟩, List.mem_of_getElem? (i := 105) (by decide +kernel), List.mem_of_getElem? (i := 1526) (by decide +kernel), List.mem_of_getElem? (i := 1527) (by decide +kernel)⟩
def lw_privs_2 : List (MethodName × Nat) := [(⟨"ShoeHouse$CardTable", "payForNatural", "(I)I"⟩, 10), (⟨"ShoeHouse", "trayAt", "(I)LShoeHouse$Tray;"⟩, 11), (⟨"ShoeHouse", "needNoRound", "()V"⟩, 11), (⟨"ShoeHouse$Shoe", "layMixed", "(I)V"⟩, 8), (⟨"ShoeHouse", "seatAt", "(I)LShoeHouse$Seat;"⟩, 11), (⟨"ShoeHouse", "needStake", "(LShoeHouse$Guest;I)V"⟩, 11), (⟨"ShoeHouse$CardTable", "dealToSeats", "()V"⟩, 10), (⟨"ShoeHouse", "handInTurn", "(I)LShoeHouse$Hand;"⟩, 11), (⟨"ShoeHouse", "needRound", "()V"⟩, 11), (⟨"ShoeHouse", "needCards", "(I)V"⟩, 11), (⟨"ShoeHouse", "playerAt", "(LShoeHouse$Seat;I)LShoeHouse$Guest;"⟩, 11), (⟨"ShoeHouse", "needUnseen", "()V"⟩, 11), (⟨"ShoeHouse", "needNoSpin", "()V"⟩, 11), (⟨"ShoeHouse", "needSpin", "()V"⟩, 11), (⟨"ShoeHouse$Lottery", "rightNumbers", "(I)I"⟩, 5), (⟨"ShoeHouse$Lottery", "giveTier", "(III)I"⟩, 5)]
theorem lw_r2 : ∀ q ∈ lw_privs_2, lw_okq q := List.forall_mem_cons.mpr ⟨lw_p16, List.forall_mem_cons.mpr ⟨lw_p17, List.forall_mem_cons.mpr ⟨lw_p18, List.forall_mem_cons.mpr ⟨lw_p19, List.forall_mem_cons.mpr ⟨lw_p20, List.forall_mem_cons.mpr ⟨lw_p21, List.forall_mem_cons.mpr ⟨lw_p22, List.forall_mem_cons.mpr ⟨lw_p23, List.forall_mem_cons.mpr ⟨lw_p24, List.forall_mem_cons.mpr ⟨lw_p25, List.forall_mem_cons.mpr ⟨lw_p26, List.forall_mem_cons.mpr ⟨lw_p27, List.forall_mem_cons.mpr ⟨lw_p28, List.forall_mem_cons.mpr ⟨lw_p29, List.forall_mem_cons.mpr ⟨lw_p30, List.forall_mem_cons.mpr ⟨lw_p31, fun _ h => absurd h List.not_mem_nil⟩⟩⟩⟩⟩⟩⟩⟩⟩⟩⟩⟩⟩⟩⟩⟩
theorem lw_p32 : lw_okq (⟨"ShoeHouse", "needGuests", "()V"⟩, 11) := ⟨⟨by decide +kernel, by decide +kernel⟩, List.mem_of_getElem? (i := 32) (by decide +kernel), List.mem_of_getElem? (i := 1616) (by decide +kernel), List.mem_of_getElem? (i := 1617) (by decide +kernel)⟩
theorem lw_p33 : lw_okq (⟨"ShoeHouseModel", "isThrown", "(ZI)Z"⟩, 50) := ⟨⟨by decide +kernel, by decide +kernel⟩, List.mem_of_getElem? (i := 1628) (by decide +kernel), List.mem_of_getElem? (i := 1803) (by decide +kernel), List.mem_of_getElem? (i := 1804) (by decide +kernel)⟩
theorem lw_p34 : lw_okq (⟨"ShoeHouseModel", "isNobody", "(I)Z"⟩, 50) := ⟨⟨by decide +kernel, by decide +kernel⟩, List.mem_of_getElem? (i := 1628) (by decide +kernel), List.mem_of_getElem? (i := 1811) (by decide +kernel), List.mem_of_getElem? (i := 1812) (by decide +kernel)⟩
theorem lw_p35 : lw_okq (⟨"ShoeHouseModel", "turnNow", "()I"⟩, 50) := ⟨⟨by decide +kernel, by decide +kernel⟩, List.mem_of_getElem? (i := 1628) (by decide +kernel), List.mem_of_getElem? (i := 1831) (by decide +kernel), List.mem_of_getElem? (i := 1832) (by decide +kernel)⟩
theorem lw_p36 : lw_okq (⟨"ShoeHouseModel", "finish", "()V"⟩, 50) := ⟨⟨by decide +kernel, by decide +kernel⟩, List.mem_of_getElem? (i := 1628) (by decide +kernel), List.mem_of_getElem? (i := 1835) (by decide +kernel), List.mem_of_getElem? (i := 1836) (by decide +kernel)⟩
theorem lw_p37 : lw_okq (⟨"ShoeHouseModel", "isNaturalAt", "(I)Z"⟩, 50) := ⟨⟨by decide +kernel, by decide +kernel⟩, List.mem_of_getElem? (i := 1628) (by decide +kernel), List.mem_of_getElem? (i := 1839) (by decide +kernel), List.mem_of_getElem? (i := 1840) (by decide +kernel)⟩
theorem lw_p38 : lw_okq (⟨"ShoeHouseModel", "valueAt", "(II)I"⟩, 50) := ⟨⟨by decide +kernel, by decide +kernel⟩, List.mem_of_getElem? (i := 1628) (by decide +kernel), List.mem_of_getElem? (i := 1843) (by decide +kernel), List.mem_of_getElem? (i := 1844) (by decide +kernel)⟩
theorem lw_p39 : lw_okq (⟨"ShoeHouseModel", "isEnd", "(IZ)Z"⟩, 50) := ⟨⟨by decide +kernel, by decide +kernel⟩, List.mem_of_getElem? (i := 1628) (by decide +kernel), List.mem_of_getElem? (i := 1853) (by decide +kernel), List.mem_of_getElem? (i := 1854) (by decide +kernel)⟩
theorem lw_p40 : lw_okq (⟨"ShoeHouseModel", "next", "()I"⟩, 50) := ⟨⟨by decide +kernel, by decide +kernel⟩, List.mem_of_getElem? (i := 1628) (by decide +kernel), List.mem_of_getElem? (i := 1857) (by decide +kernel), List.mem_of_getElem? (i := 1858) (by decide +kernel)⟩
theorem lw_p41 : lw_okq (⟨"ShoeHouseModel", "settleAll", "(Z)V"⟩, 50) := ⟨⟨by decide +kernel, by decide +kernel⟩, List.mem_of_getElem? (i := 1628) (by decide +kernel), List.mem_of_getElem? (i := 1861) (by decide +kernel), List.mem_of_getElem? (i := 1862) (by decide +kernel)⟩
theorem lw_p42 : lw_okq (⟨"ShoeHouseModel", "settle", "(IIIZ)V"⟩, 50) := ⟨⟨by decide +kernel, by decide +kernel⟩, List.mem_of_getElem? (i := 1628) (by decide +kernel), List.mem_of_getElem? (i := 1865) (by decide +kernel), List.mem_of_getElem? (i := 1866) (by decide +kernel)⟩
theorem lw_p43 : lw_okq (⟨"ShoeHouseModel", "win", "(III)V"⟩, 50) := ⟨⟨by decide +kernel, by decide +kernel⟩, List.mem_of_getElem? (i := 1628) (by decide +kernel), List.mem_of_getElem? (i := 1869) (by decide +kernel), List.mem_of_getElem? (i := 1870) (by decide +kernel)⟩
theorem lw_p44 : lw_okq (⟨"ShoeHouseModel", "pay", "(III)V"⟩, 50) := ⟨⟨by decide +kernel, by decide +kernel⟩, List.mem_of_getElem? (i := 1628) (by decide +kernel), List.mem_of_getElem? (i := 1873) (by decide +kernel), List.mem_of_getElem? (i := 1874) (by decide +kernel)⟩
theorem lw_p45 : lw_okq (⟨"ShoeHouseModel", "lose", "(II)V"⟩, 50) := ⟨⟨by decide +kernel, by decide +kernel⟩, List.mem_of_getElem? (i := 1628) (by decide +kernel), List.mem_of_getElem? (i := 1880) (by decide +kernel), List.mem_of_getElem? (i := 1881) (by decide +kernel)⟩
theorem lw_p46 : lw_okq (⟨"ShoeHouseModel", "winOf", "(I)I"⟩, 50) := ⟨⟨by decide +kernel, by decide +kernel⟩, List.mem_of_getElem? (i := 1628) (by decide +kernel), List.mem_of_getElem? (i := 1903) (by decide +kernel), List.mem_of_getElem? (i := 1904) (by decide +kernel)⟩
theorem lw_p47 : lw_okq (⟨"ShoeHouseModel", "hasStake", "(I)Z"⟩, 50) := ⟨⟨by decide +kernel, by decide +kernel⟩, List.mem_of_getElem? (i := 1628) (by decide +kernel), List.mem_of_getElem? (i := 1937) (by decide +kernel), List.mem_of_getElem? (i := 1938) (by decide +kernel)⟩
def lw_privs_3 : List (MethodName × Nat) := [(⟨"ShoeHouse", "needGuests", "()V"⟩, 11), (⟨"ShoeHouseModel", "isThrown", "(ZI)Z"⟩, 50), (⟨"ShoeHouseModel", "isNobody", "(I)Z"⟩, 50), (⟨"ShoeHouseModel", "turnNow", "()I"⟩, 50), (⟨"ShoeHouseModel", "finish", "()V"⟩, 50), (⟨"ShoeHouseModel", "isNaturalAt", "(I)Z"⟩, 50), (⟨"ShoeHouseModel", "valueAt", "(II)I"⟩, 50), (⟨"ShoeHouseModel", "isEnd", "(IZ)Z"⟩, 50), (⟨"ShoeHouseModel", "next", "()I"⟩, 50), (⟨"ShoeHouseModel", "settleAll", "(Z)V"⟩, 50), (⟨"ShoeHouseModel", "settle", "(IIIZ)V"⟩, 50), (⟨"ShoeHouseModel", "win", "(III)V"⟩, 50), (⟨"ShoeHouseModel", "pay", "(III)V"⟩, 50), (⟨"ShoeHouseModel", "lose", "(II)V"⟩, 50), (⟨"ShoeHouseModel", "winOf", "(I)I"⟩, 50), (⟨"ShoeHouseModel", "hasStake", "(I)Z"⟩, 50)]
theorem lw_r3 : ∀ q ∈ lw_privs_3, lw_okq q := List.forall_mem_cons.mpr ⟨lw_p32, List.forall_mem_cons.mpr ⟨lw_p33, List.forall_mem_cons.mpr ⟨lw_p34, List.forall_mem_cons.mpr ⟨lw_p35, List.forall_mem_cons.mpr ⟨lw_p36, List.forall_mem_cons.mpr ⟨lw_p37, List.forall_mem_cons.mpr ⟨lw_p38, List.forall_mem_cons.mpr ⟨lw_p39, List.forall_mem_cons.mpr ⟨lw_p40, List.forall_mem_cons.mpr ⟨lw_p41, List.forall_mem_cons.mpr ⟨lw_p42, List.forall_mem_cons.mpr ⟨lw_p43, List.forall_mem_cons.mpr ⟨lw_p44, List.forall_mem_cons.mpr ⟨lw_p45, List.forall_mem_cons.mpr ⟨lw_p46, List.forall_mem_cons.mpr ⟨lw_p47, fun _ h => absurd h List.not_mem_nil⟩⟩⟩⟩⟩⟩⟩⟩⟩⟩⟩⟩⟩⟩⟩⟩
theorem lw_p48 : lw_okq (⟨"ShoeHouseModel", "mayStake", "(II)Z"⟩, 50) := ⟨⟨by decide +kernel, by decide +kernel⟩, List.mem_of_getElem? (i := 1628) (by decide +kernel), List.mem_of_getElem? (i := 1941) (by decide +kernel), List.mem_of_getElem? (i := 1942) (by decide +kernel)⟩
theorem lw_p49 : lw_okq (⟨"ShoeHouseModel", "isBarredNow", "(I)Z"⟩, 50) := ⟨⟨by decide +kernel, by decide +kernel⟩, List.mem_of_getElem? (i := 1628) (by decide +kernel), List.mem_of_getElem? (i := 1945) (by decide +kernel), List.mem_of_getElem? (i := 1946) (by decide +kernel)⟩
theorem lw_p50 : lw_okq (⟨"ShoeHouseModel", "stakes", "(II)V"⟩, 50) := ⟨⟨by decide +kernel, by decide +kernel⟩, List.mem_of_getElem? (i := 1628) (by decide +kernel), List.mem_of_getElem? (i := 1949) (by decide +kernel), List.mem_of_getElem? (i := 1950) (by decide +kernel)⟩
theorem lw_p51 : lw_okq (⟨"ShoeHouseModel", "unseen", "()I"⟩, 50) := ⟨⟨by decide +kernel, by decide +kernel⟩, List.mem_of_getElem? (i := 1628) (by decide +kernel), List.mem_of_getElem? (i := 1953) (by decide +kernel), List.mem_of_getElem? (i := 1954) (by decide +kernel)⟩
theorem lw_p52 : lw_okq (⟨"ShoeHouseModel", "counted", "()I"⟩, 50) := ⟨⟨by decide +kernel, by decide +kernel⟩, List.mem_of_getElem? (i := 1628) (by decide +kernel), List.mem_of_getElem? (i := 1957) (by decide +kernel), List.mem_of_getElem? (i := 1958) (by decide +kernel)⟩
theorem lw_p53 : lw_okq (⟨"ShoeHouseModel", "leftOf", "(I)I"⟩, 50) := ⟨⟨by decide +kernel, by decide +kernel⟩, List.mem_of_getElem? (i := 1628) (by decide +kernel), List.mem_of_getElem? (i := 1961) (by decide +kernel), List.mem_of_getElem? (i := 1962) (by decide +kernel)⟩
theorem lw_p54 : lw_okq (⟨"ShoeHouseModel", "take", "(II)V"⟩, 50) := ⟨⟨by decide +kernel, by decide +kernel⟩, List.mem_of_getElem? (i := 1628) (by decide +kernel), List.mem_of_getElem? (i := 1969) (by decide +kernel), List.mem_of_getElem? (i := 1970) (by decide +kernel)⟩
theorem lw_p55 : lw_okq (⟨"ShoeHouseModel", "isNotTurn", "(I)Z"⟩, 50) := ⟨⟨by decide +kernel, by decide +kernel⟩, List.mem_of_getElem? (i := 1628) (by decide +kernel), List.mem_of_getElem? (i := 1977) (by decide +kernel), List.mem_of_getElem? (i := 1978) (by decide +kernel)⟩
theorem lw_p56 : lw_okq (⟨"ShoeHouseModel", "looks", "(II)V"⟩, 50) := ⟨⟨by decide +kernel, by decide +kernel⟩, List.mem_of_getElem? (i := 1628) (by decide +kernel), List.mem_of_getElem? (i := 1981) (by decide +kernel), List.mem_of_getElem? (i := 1982) (by decide +kernel)⟩
theorem lw_p57 : lw_okq (⟨"ShoeHouseModel", "goesOn", "()V"⟩, 50) := ⟨⟨by decide +kernel, by decide +kernel⟩, List.mem_of_getElem? (i := 1628) (by decide +kernel), List.mem_of_getElem? (i := 1985) (by decide +kernel), List.mem_of_getElem? (i := 1986) (by decide +kernel)⟩
theorem lw_p58 : lw_okq (⟨"ShoeHouseModel", "bust", "(IZ)J"⟩, 50) := ⟨⟨by decide +kernel, by decide +kernel⟩, List.mem_of_getElem? (i := 1628) (by decide +kernel), List.mem_of_getElem? (i := 2025) (by decide +kernel), List.mem_of_getElem? (i := 2026) (by decide +kernel)⟩
theorem lw_p59 : lw_okq (⟨"ShoeHouseModel", "busting", "(I)I"⟩, 50) := ⟨⟨by decide +kernel, by decide +kernel⟩, List.mem_of_getElem? (i := 1628) (by decide +kernel), List.mem_of_getElem? (i := 2029) (by decide +kernel), List.mem_of_getElem? (i := 2030) (by decide +kernel)⟩
theorem lw_p60 : lw_okq (⟨"ShoeHouseModel", "ends", "(IZII)D"⟩, 50) := ⟨⟨by decide +kernel, by decide +kernel⟩, List.mem_of_getElem? (i := 1628) (by decide +kernel), List.mem_of_getElem? (i := 2044) (by decide +kernel), List.mem_of_getElem? (i := 2045) (by decide +kernel)⟩
theorem lw_p61 : lw_okq (⟨"ShoeHouseModel", "isSpinning", "()Z"⟩, 50) := ⟨⟨by decide +kernel, by decide +kernel⟩, List.mem_of_getElem? (i := 1628) (by decide +kernel), List.mem_of_getElem? (i := 2094) (by decide +kernel), List.mem_of_getElem? (i := 2095) (by decide +kernel)⟩
theorem lw_p62 : lw_okq (⟨"ShoeHouseModel", "returned", "(Z)J"⟩, 50) := ⟨⟨by decide +kernel, by decide +kernel⟩, List.mem_of_getElem? (i := 1628) (by decide +kernel), List.mem_of_getElem? (i := 2130) (by decide +kernel), List.mem_of_getElem? (i := 2131) (by decide +kernel)⟩
theorem lw_p63 : lw_okq (⟨"ShoeHouseModel", "right", "(I)I"⟩, 50) := ⟨⟨by decide +kernel, by decide +kernel⟩, List.mem_of_getElem? (i := 1628) (by decide +kernel), List.mem_of_getElem? (i := 2151) (by decide +kernel), List.mem_of_getElem? (i := 2152) (by decide +kernel)⟩
def lw_privs_4 : List (MethodName × Nat) := [(⟨"ShoeHouseModel", "mayStake", "(II)Z"⟩, 50), (⟨"ShoeHouseModel", "isBarredNow", "(I)Z"⟩, 50), (⟨"ShoeHouseModel", "stakes", "(II)V"⟩, 50), (⟨"ShoeHouseModel", "unseen", "()I"⟩, 50), (⟨"ShoeHouseModel", "counted", "()I"⟩, 50), (⟨"ShoeHouseModel", "leftOf", "(I)I"⟩, 50), (⟨"ShoeHouseModel", "take", "(II)V"⟩, 50), (⟨"ShoeHouseModel", "isNotTurn", "(I)Z"⟩, 50), (⟨"ShoeHouseModel", "looks", "(II)V"⟩, 50), (⟨"ShoeHouseModel", "goesOn", "()V"⟩, 50), (⟨"ShoeHouseModel", "bust", "(IZ)J"⟩, 50), (⟨"ShoeHouseModel", "busting", "(I)I"⟩, 50), (⟨"ShoeHouseModel", "ends", "(IZII)D"⟩, 50), (⟨"ShoeHouseModel", "isSpinning", "()Z"⟩, 50), (⟨"ShoeHouseModel", "returned", "(Z)J"⟩, 50), (⟨"ShoeHouseModel", "right", "(I)I"⟩, 50)]
theorem lw_r4 : ∀ q ∈ lw_privs_4, lw_okq q := List.forall_mem_cons.mpr ⟨lw_p48, List.forall_mem_cons.mpr ⟨lw_p49, List.forall_mem_cons.mpr ⟨lw_p50, List.forall_mem_cons.mpr ⟨lw_p51, List.forall_mem_cons.mpr ⟨lw_p52, List.forall_mem_cons.mpr ⟨lw_p53, List.forall_mem_cons.mpr ⟨lw_p54, List.forall_mem_cons.mpr ⟨lw_p55, List.forall_mem_cons.mpr ⟨lw_p56, List.forall_mem_cons.mpr ⟨lw_p57, List.forall_mem_cons.mpr ⟨lw_p58, List.forall_mem_cons.mpr ⟨lw_p59, List.forall_mem_cons.mpr ⟨lw_p60, List.forall_mem_cons.mpr ⟨lw_p61, List.forall_mem_cons.mpr ⟨lw_p62, List.forall_mem_cons.mpr ⟨lw_p63, fun _ h => absurd h List.not_mem_nil⟩⟩⟩⟩⟩⟩⟩⟩⟩⟩⟩⟩⟩⟩⟩⟩
theorem lw_p64 : lw_okq (⟨"ShoeHouseModel", "ruin", "(IIZ)J"⟩, 50) := ⟨⟨by decide +kernel, by decide +kernel⟩, List.mem_of_getElem? (i := 1628) (by decide +kernel), List.mem_of_getElem? (i := 2203) (by decide +kernel), List.mem_of_getElem? (i := 2204) (by decide +kernel)⟩
def lw_privs_5 : List (MethodName × Nat) := [(⟨"ShoeHouseModel", "ruin", "(IIZ)J"⟩, 50)]
theorem lw_r5 : ∀ q ∈ lw_privs_5, lw_okq q := List.forall_mem_cons.mpr ⟨lw_p64, fun _ h => absurd h List.not_mem_nil⟩
def lw_privs : List (MethodName × Nat) := lw_privs_1 ++ (lw_privs_2 ++ (lw_privs_3 ++ (lw_privs_4 ++ (lw_privs_5))))
def lw_tbl : List Cond := k2_sels lw_privs ++ tables_1
theorem lw_privs_ok : ∀ q ∈ lw_privs, lw_okq q := by
  show ∀ q ∈ lw_privs_1 ++ (lw_privs_2 ++ (lw_privs_3 ++ (lw_privs_4 ++ (lw_privs_5)))), lw_okq q
  exact List.forall_mem_append.mpr ⟨lw_r1, List.forall_mem_append.mpr ⟨lw_r2, List.forall_mem_append.mpr ⟨lw_r3, List.forall_mem_append.mpr ⟨lw_r4, lw_r5⟩⟩⟩⟩
/-- the streams that the claim lets the run draw from -/
abbrev lw_cs : List Choice := [Jvm.Choice.named "NaN.bits"]
theorem lw_bits : nanBits ∈ lw_cs := by first | decide | exact List.mem_cons_self | simp [lw_cs, nanBits]
-- ===== end of PART A; then your names; then what follows =====
/-! ===== BEGIN words of one list among another's, by their places ===== -/
theorem goodIn_r {big : List Cond} (ws : List Cond) (ps : List Nat) (hp : ws = ps.filterMap (fun i => big[i]?)) (h : ws.all goodWord = true) : GoodIn big ws := by
  intro w hw
  have h1 := List.all_eq_true.mp h w hw
  rw [hp] at hw
  obtain ⟨i, -, hi⟩ := List.mem_filterMap.mp hw
  have hm : w ∈ big := by first | exact List.mem_of_getElem? hi | exact List.getElem?_mem hi
  exact ⟨hm, good_of_word h1⟩
theorem goodIn_app {big a b : List Cond} (ha : GoodIn big a) (hb : GoodIn big b) : GoodIn big (a ++ b) := fun w h => (List.mem_append.mp h).elim (ha w) (hb w)
theorem goodIn_ca {big a b : List Cond} {c : Cond} (ha : GoodIn big (c :: a)) (hb : GoodIn big b) : GoodIn big (c :: (a ++ b)) := fun w h => (List.mem_cons.mp h).elim (fun e => ha w (List.mem_cons.mpr (Or.inl e))) (fun h => (List.mem_append.mp h).elim (fun h => ha w (List.mem_cons.mpr (Or.inr h))) (hb w))
theorem goodIn_sub {big ws : List Cond} (hm : ∀ w ∈ ws, w ∈ big) (h : ws.all goodWord = true) : GoodIn big ws := fun w hw => ⟨hm w hw, good_of_word (List.all_eq_true.mp h w hw)⟩
/-! ===== END ===== -/
/-! ===== BEGIN exceptions that leave a method, and their catching by the caller (launches without stack traces) ===== -/
section VXA
/-! The laws vx_back, vx_callV, vx_callS, vx_callSW, vx_throw0, vx_throwS follow proofs of the library, with one case more: JvmDerived/Free/Laws.lean (Back.of_free), Shelf42/LK1.lean (callV, callS), Shelf/KitTraced.lean (throwNew0V, throwNewS). -/
/-- where a method has thrown q: the class by its name, the cell, what was written, the world -/
def vx_T (XC : String → State → State → Prop) (st : State) (q : Addr) (t : State) (mc ms : Nat) (free : Addr → Prop) : Prop :=
  ∃ (E : String) (ce : Cell) (L : List Loc), XC E st t ∧ t.heap[q]? = some ce ∧ ce.vm = .none ∧ st.vm.findClass E = some ce.cls ∧ st.WarmedH t.vm ∧ st.sameButNew ({ t with vm := st.vm } : State) L mc ms ∧ ∀ z ∈ L, free z.base
def vx_Q (Qc : Array Value → State → Outcome → State → Prop) (XC : String → State → State → Prop) (mc ms : Nat) (free : Addr → Prop) : Array Value → State → Outcome → State → Prop := fun a st o t =>
  (Qc a st o t ∧ ∃ L, FrameEnd st o t L mc ms ∧ ∀ q ∈ L, free q.base) ∨ ∃ q, o = .threw q ∧ vx_T XC st q t mc ms free
/-- a callee that returns or throws -/
def vx_Met (l : Launch) (y : MethodName) (ws : List Cond) (rm : Room) (Pc : Array Value → State → Prop) (Qc : Array Value → State → Outcome → State → Prop) (XC : String → State → State → Prop) (mc ms : Nat) (free : Addr → Prop) : Prop :=
  MetFree l y (headSpec ws rm) Pc (fun _ _ _ _ _ => True) (vx_Q Qc XC mc ms free)
def vx_Post (XC : String → State → State → Prop) (mc ms : Nat) (free : Addr → Prop) : Pt → Array Value → Addr → Pt → Prop := fun A a q B =>
  ∃ (g : JFrame) (mk : MethodId) (t : State) (L : List Loc) (E : String) (ce : Cell), B.U.heap = t.heap ∧ B.U.vm = t.vm ∧ XC E (A.U.calling g mk a) t ∧ t.heap[q]? = some ce ∧ ce.vm = .none ∧ A.U.vm.findClass E = some ce.cls ∧ B.locs = A.locs ++ L ∧ (∀ z ∈ L, free z.base) ∧ B.cells = A.cells + mc ∧ B.slots = A.slots + ms
def vx_Back (l : Launch) (R : Room) (p : Program) (e : Env) (below : List Frame) (s : State) (sargs : Array Value) (y : MethodName) (len W9 : Nat)
    (Pre : Pt → Array Value → Prop) (Post : Pt → Array Value → Option Value → Pt → Prop) (PostX : Pt → Array Value → Addr → Pt → Prop) : Prop :=
  ∀ (m : MethodId) (meth : Method) (c : Code) (A : Pt) (g : JFrame) (ig : Instr) (mk : MethodId) (a : Array Value),
    Stand p l e R s m sargs below meth c A.U A.locs A.cells A.slots → g.method = m → g.locals.size = c.maxLocals → decode c.code g.pc = .ok (ig, len) →
    2 * g.monitorRoom + (g.stack.map fun v => v.category).sum ≤ W9 → A.U.methodNamed? y = some mk → Pre A a →
    (∃ (v : Option Value) (B : Pt), Stand p l e R s m sargs below meth c B.U B.locs B.cells B.slots ∧ Post A a v B ∧
      Steps p.tables e below (doInvoke e (A.U.setTop g) [] mk a).1 (B.U.setTop { g with pc := g.pc + len, stack := v.toList ++ g.stack })) ∨
    (∃ (q : Addr) (B : Pt), Stand p l e R s m sargs below meth c B.U B.locs B.cells B.slots ∧ PostX A a q B ∧
      Steps p.tables e below (doInvoke e (A.U.setTop g) [] mk a).1 ((B.U.setTop g).pushFrame (.throwing q)))
section Payer
variable {l : Launch} {R : Room} {p : Program} {e : Env} {below : List Frame} {s : State} {sargs : Array Value} {y : MethodName} {len W9 : Nat}
theorem vx_back {ws : List Cond} {rm : Room} {Pc : Array Value → State → Prop} {Qc : Array Value → State → Outcome → State → Prop} {XC : String → State → State → Prop} {mc ms : Nat} {free : Addr → Prop} {bytes : ByteArray} {maxL : Nat} {ret : Option FieldType}
    (hM : vx_Met l y ws rm Pc Qc XC mc ms free) (hblind : FrameBlind Pc) (hrc : rm.cells = mc) (hrs : rm.slots = ms)
    (hframes : rm.frames + 1 ≤ R.frames) (hlocals : W9 + (maxL + 11) + rm.locals ≤ R.locals)
    (hws : ∀ w ∈ ws, ∀ a' U, s.WarmedH U.vm → w.before a' U = true) (hcode : Cond.code y bytes maxL ret ∈ ws) (hinit : ∀ a' U, s.WarmedH U.vm → (Cond.initialized y.cls).before a' U = true) :
    vx_Back l R p e below s sargs y len W9 (PreOf R mc ms Pc) (PostOf Qc mc ms free) (vx_Post XC mc ms free) := by
  intro m meth c A g ig mk a X hg hsize hdg hW hn hp
  have h1 : (headSpec ws rm).pre.before a A.U = true := atoms_intro fun w hw => hws w hw _ _ X.warmed
  have h2 : (Cond.code y bytes maxL ret).before a A.U = true := hws _ hcode _ _ X.warmed
  have h3 : (Cond.initialized y.cls).before a A.U = true := hinit _ _ X.warmed
  have h4 : A.cells + (headSpec ws rm).room.cells ≤ R.cells := by rw [show (headSpec ws rm).room.cells = mc from hrc]; exact hp.1
  have h5 : A.slots + (headSpec ws rm).room.slots ≤ R.slots := by rw [show (headSpec ws rm).room.slots = ms from hrs]; exact hp.2.1
  have hPc : Pc a (A.U.calling g mk a) := hblind _ _ _ _ hp.2.2
  obtain ⟨U, Ls, c0, s0⟩ := A
  dsimp only [Pt.U, Pt.locs, Pt.cells, Pt.slots] at h1 h2 h3 h4 h5 X hn hPc ⊢
  obtain ⟨methY, cY, hmY, hcY, -, hlY, -, -, -, -⟩ := Cond.code_spec hn h2
  obtain ⟨kY, hkY, -⟩ := className_of_methodNamed hn
  have hinitY : kY.init = .initialized := Cond.initialized_spec (findClass_of_methodNamed hn) hkY h3
  have h : At U g.method c below := by rw [hg]; exact X.here
  have hlocals9 : W9 + (maxL + 11) + (headSpec ws rm).room.locals ≤ R.locals := hlocals
  have happ : (headSpec ws rm).appliesLoose y e.platform (U.calling g mk a) = true :=
    Spec.appliesLoose_calling (g := g) h hdg hn hkY hinitY
      (X.room_calling (g := g) (R' := (headSpec ws rm).room) hsize hmY hcY hframes (by rw [hlY]; omega) h4 h5) h1
  obtain ⟨mid, hmid⟩ := h.above
  have hfr : (U.setTop g).frames = (.java g :: mid) ++ below := by rw [State.frames_setTop' g h.top, hmid]; rfl
  obtain ⟨o, s₂, hsteps, -, hend, hq⟩ := Steps.callFree hM p X.admits X.cas X.clock (acts := []) hfr happ hPc trivial
  have hq' : vx_Q Qc XC mc ms free a (U.calling g mk a) o s₂ := hq
  rw [State.frames_setTop' g h.top] at hend
  obtain ⟨g₀, hg0⟩ := Option.isSome_iff_exists.mp h.top
  obtain ⟨r, hr⟩ := State.topJava?_eq_some.mp hg0
  have hr' : (({ U with heap := s₂.heap, slotsUsed := s₂.slotsUsed } : State).setVm s₂.vm).frames = .java g₀ :: r := hr
  rcases hq' with ⟨hqc, L, hfe, hL⟩ | ⟨q, rfl, E, ce, L, hx, hce, hcv, hcl, hW₂, hsm, hL⟩
  · obtain ⟨⟨v, rfl⟩, hW₂, e2, q2, q3, q4, q5, q6⟩ := id hfe
    have e3 : s₂ = ({ (U.calling g mk a).setFrames s₂.frames with heap := s₂.heap, slotsUsed := s₂.slotsUsed } : State).setVm s₂.vm := by
      have : s₂ = ({ s₂ with vm := (U.calling g mk a).vm } : State).setVm s₂.vm := rfl
      rw [e2] at this
      exact this
    obtain ⟨c₂, i₂, len₂, hc₂, hd₂, hf₂⟩ := hend
    have hW' : U.WarmedH s₂.vm := hW₂
    have hcc : c₂ = c := by
      have h1 : s₂.code? g.method = U.code? g.method := by
        rw [State.code?_eq, State.code?_eq, hW'.alike.method?]
      exact Option.some.inj (hc₂.symm.trans (h1.trans h.code))
    subst hcc
    have hlen : len₂ = len := by rw [hdg] at hd₂; cases hd₂; rfl
    subst hlen
    have hs₂ : s₂ = (({ U with heap := s₂.heap, slotsUsed := s₂.slotsUsed } : State).setVm s₂.vm).setTop { g with pc := g.pc + len₂, stack := v.toList ++ g.stack } := by
      refine e3.trans ?_
      rw [hf₂, State.calling_eq h.top, State.setFrames_setFrames, State.setTop_of_frames _ hr', hr]
      rfl
    have hsame : U.sameButNew ({ U with heap := s₂.heap, slotsUsed := s₂.slotsUsed } : State) L mc ms := by
      refine ⟨?_, q2, q3, q4, q5, q6⟩
      obtain ⟨t, ht, -⟩ := State.frames_cons hr
      show ({ U with heap := s₂.heap, slotsUsed := s₂.slotsUsed } : State) = { U.setFrames U.frames with heap := s₂.heap, slotsUsed := s₂.slotsUsed }
      rw [State.setFrames_self ht]
    subst hg
    refine Or.inl ⟨v, ⟨(({ U with heap := s₂.heap, slotsUsed := s₂.slotsUsed } : State).setVm s₂.vm), Ls ++ L, c0 + mc, s0 + ms⟩,
      ⟨X.admits, X.cas, X.clock, X.frames, X.room, X.hears, X.method, X.code, (X.here.setHeapUsed s₂.heap s₂.slotsUsed).setVm hW'.alike, X.tail, State.WarmedH.trans X.warmed hW', X.limits, X.bytes, X.same.trans (hsame.setVm s.vm)⟩,
      ⟨g, mk, s₂, L, rfl, rfl, hqc, rfl, hL, rfl, rfl⟩, ?_⟩
    show Steps p.tables e below _ ((({ U with heap := s₂.heap, slotsUsed := s₂.slotsUsed } : State).setVm s₂.vm).setTop { g with pc := g.pc + len₂, stack := v.toList ++ g.stack })
    rw [← hs₂]
    exact hsteps
  · obtain ⟨e2, q2, q3, q4, q5, q6⟩ := id hsm
    have e3 : s₂ = ({ (U.calling g mk a).setFrames s₂.frames with heap := s₂.heap, slotsUsed := s₂.slotsUsed } : State).setVm s₂.vm := by
      have : s₂ = ({ s₂ with vm := (U.calling g mk a).vm } : State).setVm s₂.vm := rfl
      rw [e2] at this
      exact this
    have hf₂ : s₂.frames = .throwing q :: .java g :: U.frames.tail := hend
    have hW' : U.WarmedH s₂.vm := hW₂
    have hs₂ : s₂ = ((({ U with heap := s₂.heap, slotsUsed := s₂.slotsUsed } : State).setVm s₂.vm).setTop g).pushFrame (.throwing q) := by
      refine e3.trans ?_
      rw [hf₂, State.calling_eq h.top, State.setFrames_setFrames, State.pushFrame, State.frames_setTop _ hr', State.setTop_of_frames _ hr', State.setFrames_setFrames, hr]
      rfl
    have hsame : U.sameButNew ({ U with heap := s₂.heap, slotsUsed := s₂.slotsUsed } : State) L mc ms := by
      refine ⟨?_, q2, q3, q4, q5, q6⟩
      obtain ⟨t, ht, -⟩ := State.frames_cons hr
      show ({ U with heap := s₂.heap, slotsUsed := s₂.slotsUsed } : State) = { U.setFrames U.frames with heap := s₂.heap, slotsUsed := s₂.slotsUsed }
      rw [State.setFrames_self ht]
    subst hg
    refine Or.inr ⟨q, ⟨(({ U with heap := s₂.heap, slotsUsed := s₂.slotsUsed } : State).setVm s₂.vm), Ls ++ L, c0 + mc, s0 + ms⟩,
      ⟨X.admits, X.cas, X.clock, X.frames, X.room, X.hears, X.method, X.code, (X.here.setHeapUsed s₂.heap s₂.slotsUsed).setVm hW'.alike, X.tail, State.WarmedH.trans X.warmed hW', X.limits, X.bytes, X.same.trans (hsame.setVm s.vm)⟩,
      ⟨g, mk, s₂, L, E, ce, rfl, rfl, hx, hce, hcv, hcl, rfl, hL, rfl, rfl⟩, ?_⟩
    show Steps p.tables e below _ (((({ U with heap := s₂.heap, slotsUsed := s₂.slotsUsed } : State).setVm s₂.vm).setTop g).pushFrame (.throwing q))
    rw [← hs₂]
    exact hsteps
end Payer
section Calls
variable {p : Program} {l : Launch} {e : Env} {R : Room} {s : State} {m : MethodId} {args : Array Value} {below : List Frame} {meth : Method} {c : Code} {T : State} {locs : List Loc} {cells slots : Nat}
theorem vx_callV (X : Stand p l e R s m args below meth c T locs cells slots) (hexec : p.tables.exec = Jvm.exec) {own C : String} {index : Nat} {y : MethodName} {bytes : ByteArray} {maxL : Nat} {ret : Option FieldType}
    (hown : s.vm.findClass own = some m.cls) (hlink : (Cond.methodLink own index y).before args s = true) (hinst : (Cond.instanceMethod y).before args s = true) (hsel : (Cond.selects C y y).before args s = true)
    (hcode : (Cond.code y bytes maxL ret).before args s = true) (hy : y.cls ≠ "java/lang/invoke/MethodHandle" ∧ y.cls ≠ "java/lang/invoke/VarHandle")
    {W9 : Nat} {Pre : Pt → Array Value → Prop} {Post : Pt → Array Value → Option Value → Pt → Prop} {PostX : Pt → Array Value → Addr → Pt → Prop} (hK : vx_Back l R p e below s args y 3 W9 Pre Post PostX)
    {b : Addr} {cellB : Cell} (hcell : T.heap[b]? = some cellB) (hobj : cellB.vm.isStatics = false) (hcls : s.vm.findClass C = some cellB.cls)
    {g : JFrame} (hg : g.method = m) (hsize : g.locals.size = c.maxLocals) {argsL rest : List Value} (hlen : ∀ sig, parseMethodDescriptor y.desc = some sig → argsL.length = sig.parameters.length)
    (hstack : g.stack = argsL.reverse ++ .ref b :: rest) (hW : 2 * g.monitorRoom + (rest.map fun v => v.category).sum ≤ W9) (hdg : decode c.code g.pc = .ok (.invokevirtual index, 3))
    (hpre : ∀ vm₁, s.WarmedH vm₁ → Pre ⟨T.setVm vm₁, locs, cells, slots⟩ (Value.ref b :: argsL).toArray) :
    (∃ (v : Option Value) (vm₁ : Vm) (B : Pt), s.WarmedH vm₁ ∧ Stand p l e R s m args below meth c B.U B.locs B.cells B.slots ∧ Post ⟨T.setVm vm₁, locs, cells, slots⟩ (Value.ref b :: argsL).toArray v B ∧
      ∀ target, Steps p.tables e below (B.U.setTop { g with pc := g.pc + 3, stack := v.toList ++ rest }) target → Steps p.tables e below (T.setTop g) target) ∨
    (∃ (q : Addr) (vm₁ : Vm) (B : Pt), s.WarmedH vm₁ ∧ Stand p l e R s m args below meth c B.U B.locs B.cells B.slots ∧ PostX ⟨T.setVm vm₁, locs, cells, slots⟩ (Value.ref b :: argsL).toArray q B ∧
      Steps p.tables e below (T.setTop g) ((B.U.setTop { g with stack := rest }).pushFrame (.throwing q))) := by
  obtain ⟨mk, methM, hnamed, hmethM, hstM, habM⟩ := Cond.instanceMethod_spec hinst
  obtain ⟨methM', cM, hmethM', -, -, -, -, -, -, hsigM⟩ := Cond.code_spec hnamed hcode
  cases hmethM.symm.trans hmethM'
  obtain ⟨c2, r2, m2, q1, q2, q3, q4, kP, hkP, hkPi⟩ := Cond.selects_spec hsel
  cases hcls.symm.trans q1
  cases (State.methodFound?_of_named hnamed hy).symm.trans q2
  cases hnamed.symm.trans q3
  have hselP : selectMethod e.platform s.vm cellB.cls mk = .method mk := by rw [Launch.admits_selectMethod X.admits]; exact q4
  obtain ⟨vm₁, X₁, hstep₁⟩ := X.invokevirtual hexec hown hlink hnamed hmethM hstM hkP hkPi hy (a := b) (cell := cellB) hcell
    (fun z h => by rw [h] at hobj; cases hobj) hselP hmethM habM hkP hkPi (g := g) hg (argsL := argsL) (rest := rest) (hlen _ hsigM) hstack hdg
  rcases hK m meth c ⟨T.setVm vm₁, locs, cells, slots⟩ { g with stack := rest } (.invokevirtual index) mk (Value.ref b :: argsL).toArray X₁ hg hsize hdg hW (X₁.named hnamed) (hpre vm₁ X₁.warmed) with ⟨v, B, X', hpost, hsteps⟩ | ⟨q, B, X', hpost, hsteps⟩
  · exact Or.inl ⟨v, vm₁, B, X₁.warmed, X', hpost, fun target h => hstep₁ _ fun acts => by rw [doInvoke_state]; exact hsteps.trans h⟩
  · exact Or.inr ⟨q, vm₁, B, X₁.warmed, X', hpost, hstep₁ _ fun acts => by rw [doInvoke_state]; exact hsteps⟩
theorem vx_callS (X : Stand p l e R s m args below meth c T locs cells slots) (hexec : p.tables.exec = Jvm.exec) {own : String} {index : Nat} {y : MethodName} {bytes : ByteArray} {maxL : Nat} {ret : Option FieldType}
    (hown : s.vm.findClass own = some m.cls) (hlink : (Cond.methodLink own index y).before args s = true) (hstat : (Cond.static y).before args s = true) (hinit : (Cond.initialized y.cls).before args s = true)
    (hcode : (Cond.code y bytes maxL ret).before args s = true) (hy : y.cls ≠ "java/lang/invoke/MethodHandle" ∧ y.cls ≠ "java/lang/invoke/VarHandle")
    {W9 : Nat} {Pre : Pt → Array Value → Prop} {Post : Pt → Array Value → Option Value → Pt → Prop} {PostX : Pt → Array Value → Addr → Pt → Prop} (hK : vx_Back l R p e below s args y 3 W9 Pre Post PostX)
    {g : JFrame} (hg : g.method = m) (hsize : g.locals.size = c.maxLocals) {argsL rest : List Value} (hlen : ∀ sig, parseMethodDescriptor y.desc = some sig → argsL.length = sig.parameters.length)
    (hstack : g.stack = argsL.reverse ++ rest) (hW : 2 * g.monitorRoom + (rest.map fun v => v.category).sum ≤ W9) (hdg : decode c.code g.pc = .ok (.invokestatic index, 3))
    (hpre : ∀ vm₁, s.WarmedH vm₁ → Pre ⟨T.setVm vm₁, locs, cells, slots⟩ argsL.toArray) :
    (∃ (v : Option Value) (vm₁ : Vm) (B : Pt), s.WarmedH vm₁ ∧ Stand p l e R s m args below meth c B.U B.locs B.cells B.slots ∧ Post ⟨T.setVm vm₁, locs, cells, slots⟩ argsL.toArray v B ∧
      ∀ target, Steps p.tables e below (B.U.setTop { g with pc := g.pc + 3, stack := v.toList ++ rest }) target → Steps p.tables e below (T.setTop g) target) ∨
    (∃ (q : Addr) (vm₁ : Vm) (B : Pt), s.WarmedH vm₁ ∧ Stand p l e R s m args below meth c B.U B.locs B.cells B.slots ∧ PostX ⟨T.setVm vm₁, locs, cells, slots⟩ argsL.toArray q B ∧
      Steps p.tables e below (T.setTop g) ((B.U.setTop { g with stack := rest }).pushFrame (.throwing q))) := by
  obtain ⟨mk, hnamed⟩ := Cond.code_named hcode
  obtain ⟨methM, cM, hmethM, -, -, -, -, -, -, hsigM⟩ := Cond.code_spec hnamed hcode
  have hstatic : methM.isStatic = true := Cond.static_spec hnamed hmethM hstat
  obtain ⟨kP, hkP, -⟩ := className_of_methodNamed hnamed
  have hinitP : kP.init = .initialized := Cond.initialized_spec (findClass_of_methodNamed hnamed) hkP hinit
  obtain ⟨vm₁, X₁, hstep₁⟩ := X.invokestatic hexec hown hlink hnamed hmethM hstatic hkP hinitP hy (g := g) hg (argsL := argsL) (rest := rest) (hlen _ hsigM) hstack hdg
  rcases hK m meth c ⟨T.setVm vm₁, locs, cells, slots⟩ { g with stack := rest } (.invokestatic index) mk argsL.toArray X₁ hg hsize hdg hW (X₁.named hnamed) (hpre vm₁ X₁.warmed) with ⟨v, B, X', hpost, hsteps⟩ | ⟨q, B, X', hpost, hsteps⟩
  · exact Or.inl ⟨v, vm₁, B, X₁.warmed, X', hpost, fun target h => hstep₁ _ fun acts => by rw [doInvoke_state]; exact hsteps.trans h⟩
  · exact Or.inr ⟨q, vm₁, B, X₁.warmed, X', hpost, hstep₁ _ fun acts => by rw [doInvoke_state]; exact hsteps⟩
end Calls
theorem vx_cls {s : State} {T : State} {vm₁ : Vm} {E : String} {k : ClassId} (hW : s.WarmedH vm₁) (h : (T.setVm vm₁).vm.findClass E = some k) : s.vm.findClass E = some k := by
  have h1 : vm₁.findClass E = some k := h
  rw [hW.alike.findClass] at h1
  exact h1
/-- the method's frame g, with q thrown over it -/
def vx_W (p : Program) (l : Launch) (e : Env) (R : Room) (s : State) (m : MethodId) (args : Array Value) (below : List Frame) (meth : Method) (c : Code) (H : Heap) (locs : List Loc) (cells slots : Nat) (Q : State → Prop) (g : JFrame) (q : Addr) : Prop :=
  ∀ T : State, T.heap = H → Stand p l e R s m args below meth c T locs cells slots → ∃ t, Steps p.tables e below ((T.setTop g).pushFrame (.throwing q)) t ∧ Q t
def vx_Run (p : Program) (l : Launch) (e : Env) (R : Room) (s : State) (m : MethodId) (args : Array Value) (below : List Frame) (meth : Method) (c : Code) (H : Heap) (locs : List Loc) (cells slots mc ms : Nat) (g : JFrame) (rest : List Value) (Qa : State → Outcome → State → Prop) (XC : String → State → State → Prop) (free : Addr → Prop) : Prop :=
  ∀ T : State, T.heap = H → Stand p l e R s m args below meth c T locs cells slots →
    (∃ (v : Option Value) (st₀ t T' : State) (L : List Loc), st₀.heap = H ∧ Stand p l e R s m args below meth c T' (locs ++ L) (cells + mc) (slots + ms) ∧ (∀ q ∈ L, free q.base) ∧ T'.heap = t.heap ∧ T'.vm = t.vm ∧ Qa st₀ (.returned v) t ∧
      Goes p e below T g T' { g with pc := g.pc + 3, stack := v.toList ++ rest }) ∨
    (∃ (q : Addr) (st₀ t T' : State) (L : List Loc) (E : String) (ce : Cell), st₀.heap = H ∧ Stand p l e R s m args below meth c T' (locs ++ L) (cells + mc) (slots + ms) ∧ (∀ z ∈ L, free z.base) ∧ T'.heap = t.heap ∧ T'.vm = t.vm ∧ XC E st₀ t ∧ t.heap[q]? = some ce ∧ ce.vm = .none ∧ s.vm.findClass E = some ce.cls ∧
      Steps p.tables e below (T.setTop g) ((T'.setTop { g with stack := rest }).pushFrame (.throwing q)))
def vx_X {S : Type} (px : S → Prop) (B : String → S → State → Prop) (A : Nat → Prop) : String → State → State → Prop := fun E st t => ∃ u : S, px u ∧ B E u t ∧ va_F A st t
section Runs
variable {p : Program} {l : Launch} {e : Env} {R : Room} {s : State} {m : MethodId} {args : Array Value} {below : List Frame} {meth : Method} {c : Code} {H : Heap} {locs : List Loc} {cells slots : Nat}
variable {y : MethodName} {bytes cc : ByteArray} {maxL nL mc ms n index : Nat} {ret : Option FieldType} {ws : List Cond} {rm : Room} {Pc : Array Value → State → Prop} {Qc : Array Value → State → Outcome → State → Prop} {XC : String → State → State → Prop} {free : Addr → Prop} {Ts : List Cond} {own C : String} {b : Addr} {As rest : List Value} {g : JFrame}
theorem vx_callBack (cb : CallB R s args own index y bytes maxL ret ws rm mc ms n) (hM : vx_Met l y ws rm Pc Qc XC mc ms free) (hbl : FrameBlind Pc) : vx_Back l R p e below s args y 3 8 (PreOf R mc ms Pc) (PostOf Qc mc ms free) (vx_Post XC mc ms free) := by
  obtain ⟨hrc, hrs, hfr, hlo, hws, hcw, -, hini, -⟩ := cb
  exact vx_back (bytes := bytes) (maxL := maxL) (ret := ret) hM hbl hrc hrs hfr hlo hws hcw (fun a' U hW => word_at hW (Or.inl (by first | rfl | simp [Cond.onTables, Cond.keeps, Cond.steady])) hini)
theorem vx_runV (S : CallFix p m c cc nL s args Ts own) (hM : vx_Met l y ws rm Pc Qc XC mc ms free) (cw : CallW R s args own C index y bytes maxL ret ws rm mc ms n) (hp : PreV s H C b Pc As)
    (hg : g.method = m) (hn : As.length = n) (hsize : g.locals.size = nL) (hstack : g.stack = As.reverse ++ .ref b :: rest) (hW : 2 * g.monitorRoom + (rest.map fun v => v.category).sum ≤ 8) (hdg : decode cc g.pc = .ok (.invokevirtual index, 3)) (hf : cells + mc ≤ R.cells ∧ slots + ms ≤ R.slots) :
    vx_Run p l e R s m args below meth c H locs cells slots mc ms g rest (Qc (Value.ref b :: As).toArray) XC free := by
  have hK : vx_Back l R p e below s args y 3 8 (PreOf R mc ms Pc) (PostOf Qc mc ms free) (vx_Post XC mc ms free) := vx_callBack cw.1 hM hp.1
  obtain ⟨⟨-, -, -, -, -, -, hcode, -, hy, hlen, hl⟩, hin, hse⟩ := cw
  obtain ⟨hx, hb, hml, ho, -⟩ := S
  obtain ⟨-, ⟨cellB, hcB, hoB, hclB⟩, hPc⟩ := hp
  intro T hT X
  rcases vx_callV X hx (C := C) (bytes := bytes) (maxL := maxL) (ret := ret) ho hl hin hse hcode hy hK (by rw [hT]; exact hcB) hoB hclB hg (hsize.trans hml.symm) (argsL := As) (rest := rest) (fun sig h => hn.trans (hlen sig h)) hstack hW (by rw [hb]; exact hdg)
    (fun vm₁ hW₁ => ⟨hf.1, hf.2, hPc (T.setVm vm₁) hT hW₁⟩) with ⟨v, vm₁, ⟨U', l2, c2, s2⟩, hW₁, X', ⟨g', mk, t, L, e1, e2, hq, h1, hL, h2, h3⟩, st⟩ | ⟨q, vm₁, ⟨U', l2, c2, s2⟩, hW₁, X', ⟨g', mk, t, L, E, ce, e1, e2, hq, hce, hcv, hcl, h1, hL, h2, h3⟩, st⟩
  · dsimp only [Pt.U, Pt.locs, Pt.cells, Pt.slots] at X' e1 e2 h1 h2 h3 st
    subst h1; subst h2; subst h3
    exact Or.inl ⟨v, (T.setVm vm₁).calling g' mk (Value.ref b :: As).toArray, t, U', L, hT, X', hL, e1, e2, hq, st⟩
  · dsimp only [Pt.U, Pt.locs, Pt.cells, Pt.slots] at X' e1 e2 h1 h2 h3 st hcl
    subst h1; subst h2; subst h3
    exact Or.inr ⟨q, (T.setVm vm₁).calling g' mk (Value.ref b :: As).toArray, t, U', L, E, ce, hT, X', hL, e1, e2, hq, hce, hcv, vx_cls hW₁ hcl, st⟩
theorem vx_runS (S : CallFix p m c cc nL s args Ts own) (hM : vx_Met l y ws rm Pc Qc XC mc ms free) (cw : CallB R s args own index y bytes maxL ret ws rm mc ms n ∧ (Cond.static y).before args s = true) (hp : PreS s H Pc As)
    (hg : g.method = m) (hn : As.length = n) (hsize : g.locals.size = nL) (hstack : g.stack = As.reverse ++ rest) (hW : 2 * g.monitorRoom + (rest.map fun v => v.category).sum ≤ 8) (hdg : decode cc g.pc = .ok (.invokestatic index, 3)) (hf : cells + mc ≤ R.cells ∧ slots + ms ≤ R.slots) :
    vx_Run p l e R s m args below meth c H locs cells slots mc ms g rest (Qc As.toArray) XC free := by
  have hK : vx_Back l R p e below s args y 3 8 (PreOf R mc ms Pc) (PostOf Qc mc ms free) (vx_Post XC mc ms free) := vx_callBack cw.1 hM hp.1
  obtain ⟨⟨-, -, -, -, -, -, hcode, hini, hy, hlen, hl⟩, hstt⟩ := cw
  obtain ⟨hx, hb, hml, ho, -⟩ := S
  intro T hT X
  rcases vx_callS X hx (bytes := bytes) (maxL := maxL) (ret := ret) ho hl hstt hini hcode hy hK hg (hsize.trans hml.symm) (argsL := As) (rest := rest) (fun sig h => hn.trans (hlen sig h)) hstack hW (by rw [hb]; exact hdg)
    (fun vm₁ hW₁ => ⟨hf.1, hf.2, hp.2 (T.setVm vm₁) hT hW₁⟩) with ⟨v, vm₁, ⟨U', l2, c2, s2⟩, hW₁, X', ⟨g', mk, t, L, e1, e2, hq, h1, hL, h2, h3⟩, st⟩ | ⟨q, vm₁, ⟨U', l2, c2, s2⟩, hW₁, X', ⟨g', mk, t, L, E, ce, e1, e2, hq, hce, hcv, hcl, h1, hL, h2, h3⟩, st⟩
  · dsimp only [Pt.U, Pt.locs, Pt.cells, Pt.slots] at X' e1 e2 h1 h2 h3 st
    subst h1; subst h2; subst h3
    exact Or.inl ⟨v, (T.setVm vm₁).calling g' mk As.toArray, t, U', L, hT, X', hL, e1, e2, hq, st⟩
  · dsimp only [Pt.U, Pt.locs, Pt.cells, Pt.slots] at X' e1 e2 h1 h2 h3 st hcl
    subst h1; subst h2; subst h3
    exact Or.inr ⟨q, (T.setVm vm₁).calling g' mk As.toArray, t, U', L, E, ce, hT, X', hL, e1, e2, hq, hce, hcv, vx_cls hW₁ hcl, st⟩
end Runs
section Rows
variable {p : Program} {l : Launch} {e : Env} {R : Room} {s : State} {m : MethodId} {args : Array Value} {below : List Frame} {meth : Method} {c : Code} {H : Heap} {locs : List Loc} {cells slots : Nat} {Q : State → Prop}
variable {mc ms : Nat} {free : Addr → Prop} {A0 A1 : Nat → Prop} {H0 : Heap} {a : Array Value} {pc : Nat} {ls : Array Slot} {st0 rest : List Value}
theorem vx_keep {st₀ t T' : State} {L : List Loc} (h0 : st₀.heap = H) (e1 : T'.heap = t.heap) (hS : va_S A0 H0 H locs) (hA : ∀ q, q < H.size → A1 q → A0 q) (hf : ∀ q, free q → A0 q) (hL : ∀ q ∈ L, free q.base) (hF : va_F A1 st₀ t) :
    H.size ≤ T'.heap.size ∧ (∀ q : Nat, q < H.size → ¬ A1 q → T'.heap[q]? = H[q]?) ∧ va_S A0 H0 T'.heap (locs ++ L) := by
  obtain ⟨hz, hk⟩ := hF
  rw [h0] at hz hk
  exact ⟨by rw [e1]; exact hz, fun q h1 h2 => by rw [e1]; exact hk q h1 h2,
    ⟨Nat.le_trans hS.1 (by rw [e1]; exact hz), fun q h1 h2 => by rw [e1, hk q (Nat.lt_of_lt_of_le h1 hS.1) (fun z => h2 (hA q (Nat.lt_of_lt_of_le h1 hS.1) z))]; exact hS.2.1 q h1 h2, fun q hq => by
      rcases List.mem_append.mp hq with h | h
      · exact hS.2.2 q h
      · exact hf _ (hL q h)⟩⟩
theorem vx_calli {S SX : Type} {post : Int32 → S → Prop} {px : SX → Prop} {B : S → State → Prop} {BX : String → SX → State → Prop} {AX : Nat → Prop} (hr : vx_Run p l e R s m args below meth c H locs cells slots mc ms (F0 m pc ls st0) rest (va_Qi post B A1 a) (vx_X px BX AX) free) (hS : va_S A0 H0 H locs) (hA : ∀ q, q < H.size → A1 q → A0 q) (hf : ∀ q, free q → A0 q) (hAX : ∀ q, q < H.size → AX q → A0 q)
    (kx : ∀ (E : String) (ce : Cell) (q9 : Addr) (u : SX) (t : State) (H1 : Heap) (locs1 : List Loc), t.heap = H1 → s.vm.Alike t.vm → px u → BX E u t → H.size ≤ H1.size → (∀ q : Nat, q < H.size → ¬ AX q → H1[q]? = H[q]?) → va_S A0 H0 H1 locs1 → H1[q9]? = some ce → ce.vm = .none → s.vm.findClass E = some ce.cls → vx_W p l e R s m args below meth c H1 locs1 (cells + mc) (slots + ms) Q (F0 m pc ls rest) q9)
    (kk : ∀ (r : Int32) (u : S) (t : State) (H1 : Heap) (locs1 : List Loc), t.heap = H1 → s.vm.Alike t.vm → post r u → B u t → H.size ≤ H1.size → (∀ q : Nat, q < H.size → ¬ A1 q → H1[q]? = H[q]?) → va_S A0 H0 H1 locs1 → W p l e R s m args below meth c H1 locs1 (cells + mc) (slots + ms) Q (F0 m (pc + 3) ls (.int r :: rest))) : W p l e R s m args below meth c H locs cells slots Q (F0 m pc ls st0) := by
  intro T hT X
  rcases hr T hT X with ⟨v, st₀, t, T', L, h0, X', hL, e1, e2, ⟨⟨r, u, hv, hp, hb⟩, hF⟩, st⟩ | ⟨q, st₀, t, T', L, E, ce, h0, X', hL, e1, e2, ⟨u, hp, hb, hF⟩, hce, hcv, hcl, st⟩
  · cases hv
    obtain ⟨k1, k2, k3⟩ := vx_keep h0 e1 hS hA hf hL hF
    obtain ⟨t2, a1, b1⟩ := kk r u t T'.heap (locs ++ L) e1.symm (by rw [← e2]; exact X'.warmed.alike) hp hb k1 k2 k3 T' rfl X'
    exact ⟨t2, st t2 a1, b1⟩
  · obtain ⟨k1, k2, k3⟩ := vx_keep h0 e1 hS hAX hf hL hF
    obtain ⟨t2, a1, b1⟩ := kx E ce q u t T'.heap (locs ++ L) e1.symm (by rw [← e2]; exact X'.warmed.alike) hp hb k1 k2 k3 (by rw [e1]; exact hce) hcv hcl T' rfl X'
    exact ⟨t2, st.trans a1, b1⟩
theorem vx_calll {S SX : Type} {post : Int64 → S → Prop} {px : SX → Prop} {B : S → State → Prop} {BX : String → SX → State → Prop} {AX : Nat → Prop} (hr : vx_Run p l e R s m args below meth c H locs cells slots mc ms (F0 m pc ls st0) rest (va_Ql post B A1 a) (vx_X px BX AX) free) (hS : va_S A0 H0 H locs) (hA : ∀ q, q < H.size → A1 q → A0 q) (hf : ∀ q, free q → A0 q) (hAX : ∀ q, q < H.size → AX q → A0 q)
    (kx : ∀ (E : String) (ce : Cell) (q9 : Addr) (u : SX) (t : State) (H1 : Heap) (locs1 : List Loc), t.heap = H1 → s.vm.Alike t.vm → px u → BX E u t → H.size ≤ H1.size → (∀ q : Nat, q < H.size → ¬ AX q → H1[q]? = H[q]?) → va_S A0 H0 H1 locs1 → H1[q9]? = some ce → ce.vm = .none → s.vm.findClass E = some ce.cls → vx_W p l e R s m args below meth c H1 locs1 (cells + mc) (slots + ms) Q (F0 m pc ls rest) q9)
    (kk : ∀ (r : Int64) (u : S) (t : State) (H1 : Heap) (locs1 : List Loc), t.heap = H1 → s.vm.Alike t.vm → post r u → B u t → H.size ≤ H1.size → (∀ q : Nat, q < H.size → ¬ A1 q → H1[q]? = H[q]?) → va_S A0 H0 H1 locs1 → W p l e R s m args below meth c H1 locs1 (cells + mc) (slots + ms) Q (F0 m (pc + 3) ls (.long r :: rest))) : W p l e R s m args below meth c H locs cells slots Q (F0 m pc ls st0) := by
  intro T hT X
  rcases hr T hT X with ⟨v, st₀, t, T', L, h0, X', hL, e1, e2, ⟨⟨r, u, hv, hp, hb⟩, hF⟩, st⟩ | ⟨q, st₀, t, T', L, E, ce, h0, X', hL, e1, e2, ⟨u, hp, hb, hF⟩, hce, hcv, hcl, st⟩
  · cases hv
    obtain ⟨k1, k2, k3⟩ := vx_keep h0 e1 hS hA hf hL hF
    obtain ⟨t2, a1, b1⟩ := kk r u t T'.heap (locs ++ L) e1.symm (by rw [← e2]; exact X'.warmed.alike) hp hb k1 k2 k3 T' rfl X'
    exact ⟨t2, st t2 a1, b1⟩
  · obtain ⟨k1, k2, k3⟩ := vx_keep h0 e1 hS hAX hf hL hF
    obtain ⟨t2, a1, b1⟩ := kx E ce q u t T'.heap (locs ++ L) e1.symm (by rw [← e2]; exact X'.warmed.alike) hp hb k1 k2 k3 (by rw [e1]; exact hce) hcv hcl T' rfl X'
    exact ⟨t2, st.trans a1, b1⟩
theorem vx_callf {S SX : Type} {post : UInt32 → S → Prop} {px : SX → Prop} {B : S → State → Prop} {BX : String → SX → State → Prop} {AX : Nat → Prop} (hr : vx_Run p l e R s m args below meth c H locs cells slots mc ms (F0 m pc ls st0) rest (va_Qf post B A1 a) (vx_X px BX AX) free) (hS : va_S A0 H0 H locs) (hA : ∀ q, q < H.size → A1 q → A0 q) (hf : ∀ q, free q → A0 q) (hAX : ∀ q, q < H.size → AX q → A0 q)
    (kx : ∀ (E : String) (ce : Cell) (q9 : Addr) (u : SX) (t : State) (H1 : Heap) (locs1 : List Loc), t.heap = H1 → s.vm.Alike t.vm → px u → BX E u t → H.size ≤ H1.size → (∀ q : Nat, q < H.size → ¬ AX q → H1[q]? = H[q]?) → va_S A0 H0 H1 locs1 → H1[q9]? = some ce → ce.vm = .none → s.vm.findClass E = some ce.cls → vx_W p l e R s m args below meth c H1 locs1 (cells + mc) (slots + ms) Q (F0 m pc ls rest) q9)
    (kk : ∀ (r : UInt32) (u : S) (t : State) (H1 : Heap) (locs1 : List Loc), t.heap = H1 → s.vm.Alike t.vm → post r u → B u t → H.size ≤ H1.size → (∀ q : Nat, q < H.size → ¬ A1 q → H1[q]? = H[q]?) → va_S A0 H0 H1 locs1 → W p l e R s m args below meth c H1 locs1 (cells + mc) (slots + ms) Q (F0 m (pc + 3) ls (.float r :: rest))) : W p l e R s m args below meth c H locs cells slots Q (F0 m pc ls st0) := by
  intro T hT X
  rcases hr T hT X with ⟨v, st₀, t, T', L, h0, X', hL, e1, e2, ⟨⟨r, u, hv, hp, hb⟩, hF⟩, st⟩ | ⟨q, st₀, t, T', L, E, ce, h0, X', hL, e1, e2, ⟨u, hp, hb, hF⟩, hce, hcv, hcl, st⟩
  · cases hv
    obtain ⟨k1, k2, k3⟩ := vx_keep h0 e1 hS hA hf hL hF
    obtain ⟨t2, a1, b1⟩ := kk r u t T'.heap (locs ++ L) e1.symm (by rw [← e2]; exact X'.warmed.alike) hp hb k1 k2 k3 T' rfl X'
    exact ⟨t2, st t2 a1, b1⟩
  · obtain ⟨k1, k2, k3⟩ := vx_keep h0 e1 hS hAX hf hL hF
    obtain ⟨t2, a1, b1⟩ := kx E ce q u t T'.heap (locs ++ L) e1.symm (by rw [← e2]; exact X'.warmed.alike) hp hb k1 k2 k3 (by rw [e1]; exact hce) hcv hcl T' rfl X'
    exact ⟨t2, st.trans a1, b1⟩
theorem vx_calld {S SX : Type} {post : UInt64 → S → Prop} {px : SX → Prop} {B : S → State → Prop} {BX : String → SX → State → Prop} {AX : Nat → Prop} (hr : vx_Run p l e R s m args below meth c H locs cells slots mc ms (F0 m pc ls st0) rest (va_Qd post B A1 a) (vx_X px BX AX) free) (hS : va_S A0 H0 H locs) (hA : ∀ q, q < H.size → A1 q → A0 q) (hf : ∀ q, free q → A0 q) (hAX : ∀ q, q < H.size → AX q → A0 q)
    (kx : ∀ (E : String) (ce : Cell) (q9 : Addr) (u : SX) (t : State) (H1 : Heap) (locs1 : List Loc), t.heap = H1 → s.vm.Alike t.vm → px u → BX E u t → H.size ≤ H1.size → (∀ q : Nat, q < H.size → ¬ AX q → H1[q]? = H[q]?) → va_S A0 H0 H1 locs1 → H1[q9]? = some ce → ce.vm = .none → s.vm.findClass E = some ce.cls → vx_W p l e R s m args below meth c H1 locs1 (cells + mc) (slots + ms) Q (F0 m pc ls rest) q9)
    (kk : ∀ (r : UInt64) (u : S) (t : State) (H1 : Heap) (locs1 : List Loc), t.heap = H1 → s.vm.Alike t.vm → post r u → B u t → H.size ≤ H1.size → (∀ q : Nat, q < H.size → ¬ A1 q → H1[q]? = H[q]?) → va_S A0 H0 H1 locs1 → W p l e R s m args below meth c H1 locs1 (cells + mc) (slots + ms) Q (F0 m (pc + 3) ls (.double r :: rest))) : W p l e R s m args below meth c H locs cells slots Q (F0 m pc ls st0) := by
  intro T hT X
  rcases hr T hT X with ⟨v, st₀, t, T', L, h0, X', hL, e1, e2, ⟨⟨r, u, hv, hp, hb⟩, hF⟩, st⟩ | ⟨q, st₀, t, T', L, E, ce, h0, X', hL, e1, e2, ⟨u, hp, hb, hF⟩, hce, hcv, hcl, st⟩
  · cases hv
    obtain ⟨k1, k2, k3⟩ := vx_keep h0 e1 hS hA hf hL hF
    obtain ⟨t2, a1, b1⟩ := kk r u t T'.heap (locs ++ L) e1.symm (by rw [← e2]; exact X'.warmed.alike) hp hb k1 k2 k3 T' rfl X'
    exact ⟨t2, st t2 a1, b1⟩
  · obtain ⟨k1, k2, k3⟩ := vx_keep h0 e1 hS hAX hf hL hF
    obtain ⟨t2, a1, b1⟩ := kx E ce q u t T'.heap (locs ++ L) e1.symm (by rw [← e2]; exact X'.warmed.alike) hp hb k1 k2 k3 (by rw [e1]; exact hce) hcv hcl T' rfl X'
    exact ⟨t2, st.trans a1, b1⟩
theorem vx_callv {S SX : Type} {post : S → Prop} {px : SX → Prop} {B : S → State → Prop} {BX : String → SX → State → Prop} {AX : Nat → Prop} (hr : vx_Run p l e R s m args below meth c H locs cells slots mc ms (F0 m pc ls st0) rest (va_Qv post B A1 a) (vx_X px BX AX) free) (hS : va_S A0 H0 H locs) (hA : ∀ q, q < H.size → A1 q → A0 q) (hf : ∀ q, free q → A0 q) (hAX : ∀ q, q < H.size → AX q → A0 q)
    (kx : ∀ (E : String) (ce : Cell) (q9 : Addr) (u : SX) (t : State) (H1 : Heap) (locs1 : List Loc), t.heap = H1 → s.vm.Alike t.vm → px u → BX E u t → H.size ≤ H1.size → (∀ q : Nat, q < H.size → ¬ AX q → H1[q]? = H[q]?) → va_S A0 H0 H1 locs1 → H1[q9]? = some ce → ce.vm = .none → s.vm.findClass E = some ce.cls → vx_W p l e R s m args below meth c H1 locs1 (cells + mc) (slots + ms) Q (F0 m pc ls rest) q9)
    (kk : ∀ (u : S) (t : State) (H1 : Heap) (locs1 : List Loc), t.heap = H1 → s.vm.Alike t.vm → post u → B u t → H.size ≤ H1.size → (∀ q : Nat, q < H.size → ¬ A1 q → H1[q]? = H[q]?) → va_S A0 H0 H1 locs1 → W p l e R s m args below meth c H1 locs1 (cells + mc) (slots + ms) Q (F0 m (pc + 3) ls (rest))) : W p l e R s m args below meth c H locs cells slots Q (F0 m pc ls st0) := by
  intro T hT X
  rcases hr T hT X with ⟨v, st₀, t, T', L, h0, X', hL, e1, e2, ⟨⟨u, hv, hp, hb⟩, hF⟩, st⟩ | ⟨q, st₀, t, T', L, E, ce, h0, X', hL, e1, e2, ⟨u, hp, hb, hF⟩, hce, hcv, hcl, st⟩
  · cases hv
    obtain ⟨k1, k2, k3⟩ := vx_keep h0 e1 hS hA hf hL hF
    obtain ⟨t2, a1, b1⟩ := kk u t T'.heap (locs ++ L) e1.symm (by rw [← e2]; exact X'.warmed.alike) hp hb k1 k2 k3 T' rfl X'
    exact ⟨t2, st t2 a1, b1⟩
  · obtain ⟨k1, k2, k3⟩ := vx_keep h0 e1 hS hAX hf hL hF
    obtain ⟨t2, a1, b1⟩ := kx E ce q u t T'.heap (locs ++ L) e1.symm (by rw [← e2]; exact X'.warmed.alike) hp hb k1 k2 k3 (by rw [e1]; exact hce) hcv hcl T' rfl X'
    exact ⟨t2, st.trans a1, b1⟩
/-- caught by the row x of this method's table; the rows ahead don't take it -/
theorem vx_catch {own name : String} {E : String} {ce : Cell} {q : Addr} (hown : s.vm.findClass own = some m.cls) (pre : List ExceptionTableEntry) (x : ExceptionTableEntry) (suf : List ExceptionTableEntry) (hsplit : c.exceptionTable.toList = pre ++ x :: suf)
    (hpass : ∀ z ∈ pre, covers z pc = false ∨ (z.catchType ≠ 0 ∧ ∃ nm : String, (Cond.classLink own z.catchType nm).before args s = true ∧ va_Nc E nm s)) (hx : covers x pc = true) (h0 : x.catchType ≠ 0)
    (hlink : (Cond.classLink own x.catchType name).before args s = true) (hcast : (Cond.castable E name).before args s = true) (hcell : H[q]? = some ce) (hv : ce.vm = .none) (hcl : s.vm.findClass E = some ce.cls)
    (kk : W p l e R s m args below meth c H locs cells slots Q (F0 m x.handlerPc ls [.ref q])) : vx_W p l e R s m args below meth c H locs cells slots Q (F0 m pc ls rest) q := by
  intro T hT X
  have hpl : e.platform.magicAccessors = ({} : Platform).magicAccessors := by rw [X.admits.platform]
  obtain ⟨c3, c4, hc3, hc4, hasg⟩ := Cond.castable_spec hcast
  cases Option.some.inj (hc3.symm.trans hcl)
  obtain ⟨c5, hc5, hcl5⟩ := Cond.classLink_spec hown hlink e.platform hpl
  cases Option.some.inj (hc4.symm.trans hc5)
  obtain ⟨vm', X', st⟩ := X.thenCaughtThrough q (g := F0 m pc ls rest) rfl (Steps.refl _) (by rw [hT]; exact hcell) (by rw [hv]; rfl) (by obtain ⟨k9, h9, -⟩ := Vm.findClass_spec hcl; exact ⟨k9, h9⟩) pre x suf hsplit
    (fun z hz => by
      rcases hpass z hz with h | ⟨hz0, nm, hl1, hn1⟩
      · exact Or.inl h
      · obtain ⟨c6, hc6, hcl6⟩ := Cond.classLink_spec hown hl1 e.platform hpl
        obtain ⟨a8, b8, h1, h2, h3⟩ := hn1
        cases Option.some.inj (h1.symm.trans hcl)
        cases Option.some.inj (h2.symm.trans hc6)
        exact Or.inr ⟨hz0, _, hcl6, h3⟩) hx (Or.inr ⟨h0, c4, hcl5, hasg⟩)
  obtain ⟨t, a1, b1⟩ := kk (T.setVm vm') hT X'
  exact ⟨t, st.trans a1, b1⟩
end Rows
section Ends
variable {p : Program} {l : Launch} {e : Env} {R : Room} {s : State} {m : MethodId} {args : Array Value} {below : List Frame} {meth : Method} {c : Code} {H : Heap} {locs : List Loc} {cells slots : Nat} {Q : State → Prop}
variable {mc ms : Nat} {free : Addr → Prop} {A0 A1 : Nat → Prop} {H0 : Heap} {a : Array Value} {ls : Array Slot} {st0 rest : List Value}
variable {Qc : Array Value → State → Outcome → State → Prop} {XC : String → State → State → Prop}
/-- what a body that may throw owes at its end -/
def vx_MQ (below : List Frame) (Qc : Array Value → State → Outcome → State → Prop) (XC : String → State → State → Prop) (a : Array Value) (s : State) (mc ms : Nat) (free : Addr → Prop) : State → Prop := fun t =>
  ∃ o, t.status = .running ∧ Ended t below o ∧ vx_Q Qc XC mc ms free a s o t
theorem vx_ret {g : JFrame} {mc ms : Nat} (k : W p l e R s m args below meth c H locs cells slots (MQ below Qc args s mc ms free) g) : W p l e R s m args below meth c H locs cells slots (vx_MQ below Qc XC args s mc ms free) g := by
  intro T hT X
  obtain ⟨t, a1, o, b1, b2, b3, b4⟩ := k T hT X
  exact ⟨t, a1, o, b1, b2, Or.inl ⟨b3, b4⟩⟩
/-- not caught here: it goes on to the caller -/
theorem vx_widen {g : JFrame} {q : Addr} {k n : Nat} (h1 : cells ≤ k) (h2 : slots ≤ n) (kk : vx_W p l e R s m args below meth c H locs k n Q g q) : vx_W p l e R s m args below meth c H locs cells slots Q g q := fun T hT X => kk T hT (stand_widen X h1 h2)
theorem vx_out {pc : Nat} {E : String} {ce : Cell} {q : Addr} {mc ms : Nat} (hout : ∀ x ∈ c.exceptionTable.toList, covers x pc = false) (hlocks : meth.locks = false) (hcell : H[q]? = some ce) (hv : ce.vm = .none) (hcl : s.vm.findClass E = some ce.cls)
    (hx : ∀ t : State, t.heap = H → s.vm.Alike t.vm → XC E s t) (hf : ∀ z ∈ locs, free z.base) (hc : cells ≤ mc) (hs : slots ≤ ms) :
    vx_W p l e R s m args below meth c H locs cells slots (vx_MQ below Qc XC args s mc ms free) (F0 m pc ls rest) q := by
  intro T hT X
  obtain ⟨st1, hrun, hend, hW, hsm⟩ := X.leaveThrown q (g := F0 m pc ls rest) rfl rfl rfl hout hlocks
  have hcell9 : (T.setFrames (.throwing q :: below)).heap[q]? = some ce := by
    show T.heap[q]? = some ce
    rw [hT]; exact hcell
  exact ⟨_, st1, .threw q, hrun, hend, Or.inr ⟨q, rfl, E, ce, locs, hx _ hT hW.alike, hcell9, hv, hcl, hW, hsm.mono hc hs, hf⟩⟩
theorem vx_frame {U : State} {k n : Nat} (h : s.sameButNew ({ U with vm := s.vm } : State) locs k n) : s.heap.size ≤ U.heap.size ∧ ∀ q : Nat, q < s.heap.size → (∀ z ∈ locs, z.base ≠ q) → U.heap[q]? = s.heap[q]? := by
  obtain ⟨-, h2, -, -, -, h6⟩ := h
  refine ⟨h2, fun q hq hz => ?_⟩
  obtain ⟨c9, e1, e2, e3, e4⟩ := h6 q _ (Array.getElem?_eq_getElem hq)
  have hs : c9.slots = (s.heap[q]).slots := Array.ext_getElem? fun i => e4 i fun hm => hz _ hm rfl
  have h9 : c9 = s.heap[q] := by
    rw [hs] at e2
    exact e2
  have e5 : U.heap[q]? = some c9 := e1
  rw [e5, h9, Array.getElem?_eq_getElem hq]
/-- the words of a throw but the four that speak of the heap -/
def vx_no (w : Cond) : Bool := decide (w ≠ .isRef (.static Bundle.tN "UNASSIGNED_STACK" Bundle.steD)) && decide (w ≠ .isRef (.static Bundle.tN "SUPPRESSED_SENTINEL" Bundle.listD)) && decide (w ≠ .laysStatic Bundle.tN "UNASSIGNED_STACK" Bundle.steD) && decide (w ≠ .laysStatic Bundle.tN "SUPPRESSED_SENTINEL" Bundle.listD)
def vx_at0 (own : String) (ic : Nat) (X : String) (names : List String) : List Cond := (Bundle.ownAtoms0 own ic X names).filter vx_no
def vx_atS (own : String) (ic : Nat) (X : String) (names : List String) : List Cond := (Bundle.ownAtoms own ic X names).filter vx_no
/-- a word that the tables alone decide, or a good one -/
def vx_ot (w : Cond) : Bool := w.onTables || goodWord w
theorem vx_ot_at {args a' : Array Value} {s U : State} {w : Cond} (hW : s.WarmedH U.vm) (hvm : s.vm = U.vm) (hg : vx_ot w = true) (h : w.before args s = true) : w.before a' U = true := by
  simp only [vx_ot, Bool.or_eq_true] at hg
  rcases hg with hg | hg
  · exact va_tabs hg hvm h
  · exact word_at hW (good_of_word hg) h
/-- a list's words: the good ones out of the method's own list, the others by premises of their own -/
theorem vx_hat {args : Array Value} {s : State} {L B : List Cond} (h1 : ∀ w ∈ L.filter goodWord, w.before args s = true) (h2 : ∀ w ∈ L.filter (fun w => !goodWord w), w ∈ B) (h3 : ∀ w ∈ B, w.before args s = true) : ∀ w ∈ L, w.before args s = true := by
  intro w hw
  by_cases g : goodWord w = true
  · exact h1 w (List.mem_filter.mpr ⟨hw, g⟩)
  · refine h3 w (h2 w (List.mem_filter.mpr ⟨hw, ?_⟩))
    show (!goodWord w) = true
    cases hgw : goodWord w
    · rfl
    · exact absurd hgw g
theorem vx_c {args : Array Value} {s : State} {w : Cond} {B : List Cond} (h : w.before args s = true) (t : ∀ w ∈ B, w.before args s = true) : ∀ w' ∈ w :: B, w'.before args s = true := fun w' h' => (List.mem_cons.mp h').elim (fun e => by rw [e]; exact h) (t w')
theorem vx_n {args : Array Value} {s : State} : ∀ w ∈ ([] : List Cond), w.before args s = true := fun _ h => nomatch h
theorem vx_own {args : Array Value} {s : State} {L : List Cond} (h1 : ∀ w ∈ L.filter vx_no, w.before args s = true)
    (hU : (Cond.isRef (.static Bundle.tN "UNASSIGNED_STACK" Bundle.steD)).before args s = true) (hN : (Cond.isRef (.static Bundle.tN "SUPPRESSED_SENTINEL" Bundle.listD)).before args s = true)
    (lU : (Cond.laysStatic Bundle.tN "UNASSIGNED_STACK" Bundle.steD).before args s = true) (lN : (Cond.laysStatic Bundle.tN "SUPPRESSED_SENTINEL" Bundle.listD).before args s = true) : ∀ w ∈ L, w.before args s = true := by
  intro w hw
  by_cases e1 : w = .isRef (.static Bundle.tN "UNASSIGNED_STACK" Bundle.steD)
  · rw [e1]; exact hU
  · by_cases e2 : w = .isRef (.static Bundle.tN "SUPPRESSED_SENTINEL" Bundle.listD)
    · rw [e2]; exact hN
    · by_cases e3 : w = .laysStatic Bundle.tN "UNASSIGNED_STACK" Bundle.steD
      · rw [e3]; exact lU
      · by_cases e4 : w = .laysStatic Bundle.tN "SUPPRESSED_SENTINEL" Bundle.listD
        · rw [e4]; exact lN
        · exact h1 w (List.mem_filter.mpr ⟨hw, by unfold vx_no; rw [decide_eq_true e1, decide_eq_true e2, decide_eq_true e3, decide_eq_true e4]; rfl⟩)
/-- where a static field lies, its class's statics cell in H -/
def vx_L (C n d : String) (A : Nat → Prop) (U : State) (H : Heap) : Prop := ∃ (c : ClassId) (k : Class) (i : Nat) (f : Field) (a : Nat) (cell : Cell), U.vm.findClass C = some c ∧ U.fieldFound? C n d = some (c, k, i, f) ∧ f.isStatic = true ∧ k.statics = some a ∧ H[a]? = some cell ∧ cell.vm.isStatics = true ∧ cell.cls = c ∧ f.slot < cell.slots.size ∧ k.staticTypes[f.slot]? = some f.type ∧ ¬ A a
theorem vx_L.moved {C n d : String} {A : Nat → Prop} {u U : State} {H : Heap} (hvm : u.vm.Alike U.vm) (h : vx_L C n d A u H) : vx_L C n d A U H := by
  obtain ⟨c, k, i, f, a, cell, h1, h2, h3, h4, h5, h6, h7, h8, h9, h10⟩ := h
  obtain ⟨k', hi', he⟩ := State.fieldFound?_setVm hvm h2
  exact ⟨c, k', i, f, a, cell, by rw [hvm.findClass]; exact h1, hi', h3, by rw [he]; exact h4, h5, h6, h7, h8, by rw [he]; exact h9, h10⟩
theorem vx_L.kept {C n d : String} {A : Nat → Prop} {U : State} {H H1 : Heap} (h : vx_L C n d A U H) (hq : ∀ a : Nat, a < H.size → ¬ A a → H1[a]? = H[a]?) : vx_L C n d A U H1 := by
  obtain ⟨c, k, i, f, a, cell, h1, h2, h3, h4, h5, h6, h7, h8, h9, h10⟩ := h
  exact ⟨c, k, i, f, a, cell, h1, h2, h3, h4, by rw [hq a (Array.getElem?_eq_some_iff.mp h5).1 h10]; exact h5, h6, h7, h8, h9, h10⟩
theorem vx_L.narrow {C n d : String} {A B : Nat → Prop} {U : State} {H : Heap} (h : vx_L C n d A U H) (hAB : ∀ q, B q → A q) : vx_L C n d B U H := by
  obtain ⟨c, k, i, f, a, cell, h1, h2, h3, h4, h5, h6, h7, h8, h9, h10⟩ := h
  exact ⟨c, k, i, f, a, cell, h1, h2, h3, h4, h5, h6, h7, h8, h9, fun z => h10 (hAB _ z)⟩
theorem vx_L.word {C n d : String} {A : Nat → Prop} {s : State} {args : Array Value} (h : vx_L C n d A s s.heap) : (Cond.laysStatic C n d).before args s = true := by
  obtain ⟨c, k, i, f, a, cell, h1, h2, h3, h4, h5, h6, h7, h8, h9, -⟩ := h
  show (Cond.laysStatic C n d).holds args s none s [] = true
  exact Cond.laysStatic_of h1 h2 h3 h4 h5 h6 h7 h8 h9
/-- .. and what it holds: null or some reference -/
def vx_Zq (C n d : String) (A : Nat → Prop) (U : State) (H : Heap) : Prop := va_Zq C n d A U H ∧ vx_L C n d A U H
theorem vx_Zq.moved {C n d : String} {A : Nat → Prop} {u U : State} {H : Heap} (hvm : u.vm.Alike U.vm) (h : vx_Zq C n d A u H) : vx_Zq C n d A U H := ⟨va_Zq.moved hvm h.1, vx_L.moved hvm h.2⟩
theorem vx_Zq.kept {C n d : String} {A : Nat → Prop} {U : State} {H H1 : Heap} (h : vx_Zq C n d A U H) (hq : ∀ a : Nat, a < H.size → ¬ A a → H1[a]? = H[a]?) : vx_Zq C n d A U H1 := ⟨va_Zq.kept h.1 hq, vx_L.kept h.2 hq⟩
theorem vx_Zq.narrow {C n d : String} {A B : Nat → Prop} {U : State} {H : Heap} (h : vx_Zq C n d A U H) (hAB : ∀ q, B q → A q) : vx_Zq C n d B U H := ⟨va_Zq.narrow h.1 hAB, vx_L.narrow h.2 hAB⟩
theorem vx_Zqof {args : Array Value} {s : State} {C n d : String} {A : Nat → Prop} (hl : (Cond.laysStatic C n d).before args s = true) (hini : (Cond.initialized C).before args s = true) (h : (Cond.isRef (.static C n d)).before args s = true) (hA : ∀ a : Nat, a < s.heap.size → ¬ A a) : vx_Zq C n d A s s.heap := by
  refine ⟨va_Zqof hl hini h hA, ?_⟩
  obtain ⟨c, k, i, f, a, cell, h1, h2, h3, h4, h5, h6, h7, h8, h9⟩ := Cond.laysStatic_spec hl
  exact ⟨c, k, i, f, a, cell, h1, h2, h3, h4, h5, h6, h7, h8, h9, hA a (Array.getElem?_eq_some_iff.mp h5).1⟩
theorem vx_isRef {C n d : String} {v : Value} {A : Nat → Prop} {s : State} {args : Array Value} (h : va_Z C n d v A s s.heap) (hv : v.isRef = true) : (Cond.isRef (.static C n d)).before args s = true := by
  obtain ⟨cf, kf, fi, f, a, cell, h1, h2, h3, h4, h5, h6, h7, -⟩ := h
  have he : (Term.static C n d).eval args s none [] s = some v := by
    simp [Term.eval, State.fieldNamed?, h1, h2, h4, h5, h6, h7]
  simp only [Cond.before, Cond.holds, Cond.value, he]
  cases v <;> simp_all [Value.isRef]
theorem vx_isRefq {C n d : String} {A : Nat → Prop} {s : State} {args : Array Value} (h : va_Zq C n d A s s.heap) : (Cond.isRef (.static C n d)).before args s = true := by
  rcases h with h | ⟨t, h⟩
  · exact vx_isRef h rfl
  · exact vx_isRef h rfl
/-- the same frame, seen from here: as if the method were called anew in this heap -/
theorem vx_rebase {T : State} (X : Stand p l e R s m args below meth c T locs cells slots) {R' : Room} (hf : R'.frames ≤ R.frames) (hl : R'.locals ≤ R.locals) (hc : cells + R'.cells ≤ R.cells) (hs : slots + R'.slots ≤ R.slots) :
    Stand p l e R' ((T.setVm s.vm).setFrames (.invoking m args :: below)) m args below meth c T [] 0 0 := by
  have htop : (T.setVm s.vm).topJava?.isSome := X.here.top
  have hF : ((T.setVm s.vm).setFrames (.invoking m args :: below)).frames = .invoking m args :: below := State.frames_setFrames _ (State.cur_lt_of_top htop)
  obtain ⟨g₀, hg0⟩ := Option.isSome_iff_exists.mp htop
  obtain ⟨r, hr⟩ := State.topJava?_eq_some.mp hg0
  have hl9 : e.platform.stackLimits (T.setVm s.vm).me = e.platform.stackLimits s.me := X.limits
  have hb9 : (T.setVm s.vm).me.stackBytes = s.me.stackBytes := X.bytes
  refine ⟨X.admits, X.cas, X.clock, hF, ?_, X.hears, X.method, X.code, X.here, X.tail, X.warmed, ?_, ?_, ?_⟩
  · have h := X.room
    have hU : ((T.setVm s.vm).setFrames (.invoking m args :: below)).localsInUse = s.localsInUse := by
      rw [State.localsInUse_invoking hF (meth := meth) (c := c) X.method X.code, State.localsInUse_invoking X.frames X.method X.code]
    simp only [State.hasRoom, Bool.and_eq_true, decide_eq_true_eq] at h ⊢
    obtain ⟨⟨⟨⟨h1, h2, h3, h4, h5, h6⟩, h7⟩, h8⟩, h9⟩ := h
    rw [X.frames, List.length_cons] at h2 h3
    have q1 := X.heapSize
    have q2 := X.used
    simp only [hF, hU, List.length_cons, State.stackLimits_setFrames, State.stackBytes_setFrames, hl9, hb9]
    refine ⟨⟨⟨⟨by omega, by omega, by omega, by omega, by omega, h6⟩, ?_⟩, ?_⟩, X.book⟩
    · show T.heap.size + R'.cells ≤ e.platform.maxCells
      omega
    · show T.slotsUsed + R'.slots ≤ e.platform.maxSlots
      omega
  · rw [State.stackLimits_setFrames]; rfl
  · rw [State.stackBytes_setFrames]; rfl
  · refine ⟨?_, Nat.le_refl _, Nat.le_refl _, ?_, ?_, fun a c9 h9 => ⟨c9, h9, rfl, rfl, fun _ _ => rfl⟩⟩
    · obtain ⟨t, ht, -⟩ := State.frames_cons hr
      show T.setVm s.vm = { ((T.setVm s.vm).setFrames (.invoking m args :: below)).setFrames (T.setVm s.vm).frames with heap := T.heap, slotsUsed := T.slotsUsed }
      rw [State.setFrames_setFrames, State.setFrames_self ht]
      rfl
    · show T.slotsUsed = T.slotsUsed + ((T.heap.toList.drop T.heap.size).map (·.slots.size)).sum
      rw [List.drop_eq_nil_of_le (Nat.le_of_eq Array.length_toList)]
      rfl
    · show ((T.heap.toList.drop T.heap.size).map (·.slots.size)).sum ≤ 0
      rw [List.drop_eq_nil_of_le (Nat.le_of_eq Array.length_toList)]
      exact Nat.le_refl _
/-- 'throw new E()': new; dup; invokespecial; athrow -/
theorem vx_throw0 {cc : ByteArray} {pc : Nat} (hexec : p.tables.exec = Jvm.exec) (hb : c.code = cc) (hl : l.stackTraces = false) {own cls : String} {names : List String} {ik ic mc ms : Nat} {A : Nat → Prop}
    (hown : s.vm.findClass own = some m.cls) (hcls : Bundle.fit cls = true) (hnames : ∀ n ∈ names, Bundle.fit n = true)
    (hk : (Cond.classLink own ik cls).before args s = true) (hini : (Cond.initialized cls).before args s = true) (hat : ∀ w ∈ vx_at0 own ic cls names, w.before args s = true)
    (hgood : ∀ w ∈ Cond.classLink own ik cls :: Cond.initialized cls :: vx_at0 own ic cls names, vx_ot w = true)
    (hU : vx_Zq Bundle.tN "UNASSIGNED_STACK" Bundle.steD A s s.heap) (hN : vx_Zq Bundle.tN "SUPPRESSED_SENTINEL" Bundle.listD A s s.heap) (hS : va_S A s.heap H locs) (hsize : ls.size = c.maxLocals)
    (d0 : decode cc pc = .ok (.new ik, 3)) (d3 : decode cc (pc + 3) = .ok (.dup, 1)) (d4 : decode cc (pc + 4) = .ok (.invokespecial ic, 3)) (d7 : decode cc (pc + 7) = .ok (.athrow, 1))
    (hout : ∀ x ∈ c.exceptionTable.toList, covers x (pc + 7) = false)
    (hRframes : names.length + 3 < R.frames) (hRlocals : (rest.map fun v => v.category).sum + (13 * (names.length + 1) + 42) ≤ R.locals) (hRcells : cells + 1 ≤ R.cells) (hRslots : slots + 6 ≤ R.slots) (hlocks : meth.locks = false)
    (hx : ∀ t : State, s.vm.Alike t.vm → H.size ≤ t.heap.size → (∀ q : Nat, q < H.size → t.heap[q]? = H[q]?) → XC cls s t)
    (hf : ∀ z ∈ locs, free z.base) (hc : cells + 1 ≤ mc) (hs : slots + 6 ≤ ms) :
    W p l e R s m args below meth c H locs cells slots (vx_MQ below Qc XC args s mc ms free) (F0 m pc ls rest) := by
  intro T hT X
  have htr : e.platform.stackTraces = false := (show e.platform.stackTraces = l.stackTraces by rw [X.admits.platform]).trans hl
  have Y := vx_rebase X (R' := { frames := R.frames, locals := R.locals, cells := 1, slots := 6 }) (Nat.le_refl _) (Nat.le_refl _) hRcells hRslots
  obtain ⟨s', hA⟩ : ∃ z, z = (T.setVm s.vm).setFrames (.invoking m args :: below) := ⟨_, rfl⟩
  rw [← hA] at Y
  have hvm : s'.vm = s.vm := by rw [hA]; rfl
  have hhp : s'.heap = H := by rw [hA]; exact hT
  have hW0 : s.WarmedH s'.vm := by rw [hvm]; exact State.WarmedH.refl s
  have hat' : ∀ w ∈ vx_at0 own ic cls names, w.before args s' = true := fun w hw => vx_ot_at hW0 hvm.symm (hgood w (List.mem_cons_of_mem _ (List.mem_cons_of_mem _ hw))) (hat w hw)
  have hk' : (Cond.classLink own ik cls).before args s' = true := vx_ot_at hW0 hvm.symm (hgood _ List.mem_cons_self) hk
  have hini' : (Cond.initialized cls).before args s' = true := vx_ot_at hW0 hvm.symm (hgood _ (List.mem_cons_of_mem _ List.mem_cons_self)) hini
  have hU' : vx_Zq Bundle.tN "UNASSIGNED_STACK" Bundle.steD A s' s'.heap := by rw [hhp]; exact vx_Zq.moved hW0.alike (hU.kept hS.2.1)
  have hN' : vx_Zq Bundle.tN "SUPPRESSED_SENTINEL" Bundle.listD A s' s'.heap := by rw [hhp]; exact vx_Zq.moved hW0.alike (hN.kept hS.2.1)
  have h : ∀ w ∈ Bundle.ownAtoms0 own ic cls names, w.before args s' = true := vx_own hat' (vx_isRefq hU'.1) (vx_isRefq hN'.1) hU'.2.word hN'.2.word
  have hown' : s'.vm.findClass own = some m.cls := by rw [hvm]; exact hown
  have hins : (Cond.instantiable cls 6).before args s' = true := h _ (by simp [Bundle.ownAtoms0])
  obtain ⟨vm₁, cX, kX, hfX, hkX, -, -, X₁, st1⟩ := Y.newCold hexec (own := own) (C := cls) (index := ik) (n := 6) hown' hk' hins hini'
    (g := F0 m pc ls rest) rfl (by rw [hb]; exact d0) (Nat.le_refl _) (Nat.le_refl _)
  generalize hT1 : (T.setVm vm₁).pushCell { cls := cX, slots := kX.instanceTypes.map defaultValue, vm := .none } = T1 at X₁ st1
  have hcat : (Value.ref T.heap.size).category = 1 := rfl
  have hcellA : T1.heap[T.heap.size]? = some (freshCell cX kX) := by rw [← hT1]; exact State.heap_pushCell_size _ _
  have d3' : decode c.code (pc + 3) = .ok (.dup, 1) := by rw [hb]; exact d3
  obtain ⟨U, hsteps, hrun, hend, hW, hsame, ce, hce, hO⟩ := X₁.ctorThrow0 hexec htr (own := own) (cls := cls) (names := names) (ic := ic) hown' hcls hnames h (fun x hx => nomatch hx) hfX hkX hcellA (by rw [hhp, hT]; exact Nat.le_refl _)
    (g := { method := m, pc := pc + 4, locals := ls, stack := .ref T.heap.size :: .ref T.heap.size :: rest, locked := none }) rfl hsize rfl rfl (rest := rest) rfl
    (by rw [hb]; exact d4) (by rw [hb]; exact d7) hout hRframes (by simp only [List.map_cons, List.sum_cons, hcat]; omega) hlocks
  obtain ⟨f1, f2⟩ := vx_frame hsame
  rw [hhp] at f1 f2
  have hWs : s.WarmedH U.vm := State.WarmedH.trans hW0 hW
  have hcl : s.vm.findClass cls = some ce.cls := by
    have h9 := hO.cls
    rw [hvm] at h9
    exact h9
  have hall : s.sameButNew ({ U with vm := s.vm } : State) locs mc ms := by
    subst hA
    obtain ⟨e1, e2⟩ := hsame
    rw [State.setFrames_setFrames] at e1
    have h2 : (T.setVm s.vm).sameButNew ({ U with vm := s.vm } : State) [] (0 + 1) (0 + 6) := ⟨e1, e2⟩
    have h3 := X.same.trans h2
    rw [List.append_nil] at h3
    exact h3.mono hc hs
  refine ⟨U, ?_, .threw T.heap.size, hrun, hend, Or.inr ⟨T.heap.size, rfl, cls, ce, locs, hx U hWs.alike f1 (fun q hq => f2 q hq (fun z hz => nomatch hz)), hce, hO.vm, hcl, hWs, hall, hf⟩⟩
  refine st1 _ ?_
  show Steps p.tables e below (T1.setTop { method := m, pc := pc + 3, locals := ls, stack := .ref T.heap.size :: rest, locked := none }) _
  jvm_step X₁.here [X₁.here.top, hexec, d3', Value.category]
  exact hsteps
/-- 'throw new E("text")': new; dup; ldc; invokespecial; athrow -/
theorem vx_throwS {cc : ByteArray} {pc : Nat} (hexec : p.tables.exec = Jvm.exec) (hb : c.code = cc) (hl : l.stackTraces = false) {own cls text : String} {names : List String} {ik is ic mc ms sa : Nat} {A : Nat → Prop}
    (hown : s.vm.findClass own = some m.cls) (hcls : Bundle.fit cls = true) (hnames : ∀ n ∈ names, Bundle.fit n = true)
    (hk : (Cond.classLink own ik cls).before args s = true) (hini : (Cond.initialized cls).before args s = true) (hstr : vk_R own is text sa s) (hat : ∀ w ∈ vx_atS own ic cls names, w.before args s = true)
    (hgood : ∀ w ∈ Cond.classLink own ik cls :: Cond.initialized cls :: vx_atS own ic cls names, vx_ot w = true)
    (hU : vx_Zq Bundle.tN "UNASSIGNED_STACK" Bundle.steD A s s.heap) (hN : vx_Zq Bundle.tN "SUPPRESSED_SENTINEL" Bundle.listD A s s.heap) (hS : va_S A s.heap H locs) (hsize : ls.size = c.maxLocals)
    (d0 : decode cc pc = .ok (.new ik, 3)) (d3 : decode cc (pc + 3) = .ok (.dup, 1)) (d4 : decode cc (pc + 4) = .ok (.ldc is, 2)) (d6 : decode cc (pc + 6) = .ok (.invokespecial ic, 3)) (d9 : decode cc (pc + 9) = .ok (.athrow, 1))
    (hout : ∀ x ∈ c.exceptionTable.toList, covers x (pc + 9) = false)
    (hRframes : names.length + 3 < R.frames) (hRlocals : (rest.map fun v => v.category).sum + (13 * (names.length + 1) + 43) ≤ R.locals) (hRcells : cells + 1 ≤ R.cells) (hRslots : slots + 6 ≤ R.slots) (hlocks : meth.locks = false)
    (hx : ∀ t : State, s.vm.Alike t.vm → H.size ≤ t.heap.size → (∀ q : Nat, q < H.size → t.heap[q]? = H[q]?) → XC cls s t)
    (hf : ∀ z ∈ locs, free z.base) (hc : cells + 1 ≤ mc) (hs : slots + 6 ≤ ms) :
    W p l e R s m args below meth c H locs cells slots (vx_MQ below Qc XC args s mc ms free) (F0 m pc ls rest) := by
  intro T hT X
  have htr : e.platform.stackTraces = false := (show e.platform.stackTraces = l.stackTraces by rw [X.admits.platform]).trans hl
  have Y := vx_rebase X (R' := { frames := R.frames, locals := R.locals, cells := 1, slots := 6 }) (Nat.le_refl _) (Nat.le_refl _) hRcells hRslots
  obtain ⟨s', hA⟩ : ∃ z, z = (T.setVm s.vm).setFrames (.invoking m args :: below) := ⟨_, rfl⟩
  rw [← hA] at Y
  have hvm : s'.vm = s.vm := by rw [hA]; rfl
  have hhp : s'.heap = H := by rw [hA]; exact hT
  have hW0 : s.WarmedH s'.vm := by rw [hvm]; exact State.WarmedH.refl s
  have hat' : ∀ w ∈ vx_atS own ic cls names, w.before args s' = true := fun w hw => vx_ot_at hW0 hvm.symm (hgood w (List.mem_cons_of_mem _ (List.mem_cons_of_mem _ hw))) (hat w hw)
  have hk' : (Cond.classLink own ik cls).before args s' = true := vx_ot_at hW0 hvm.symm (hgood _ List.mem_cons_self) hk
  have hini' : (Cond.initialized cls).before args s' = true := vx_ot_at hW0 hvm.symm (hgood _ (List.mem_cons_of_mem _ List.mem_cons_self)) hini
  have hU' : vx_Zq Bundle.tN "UNASSIGNED_STACK" Bundle.steD A s' s'.heap := by rw [hhp]; exact vx_Zq.moved hW0.alike (hU.kept hS.2.1)
  have hN' : vx_Zq Bundle.tN "SUPPRESSED_SENTINEL" Bundle.listD A s' s'.heap := by rw [hhp]; exact vx_Zq.moved hW0.alike (hN.kept hS.2.1)
  have h : ∀ w ∈ Bundle.ownAtoms own ic cls names, w.before args s' = true := vx_own hat' (vx_isRefq hU'.1) (vx_isRefq hN'.1) hU'.2.word hN'.2.word
  have hown' : s'.vm.findClass own = some m.cls := by rw [hvm]; exact hown
  have hins : (Cond.instantiable cls 6).before args s' = true := h _ (by simp [Bundle.ownAtoms])
  obtain ⟨vm₁, cX, kX, hfX, hkX, -, -, X₁, st1⟩ := Y.newCold hexec (own := own) (C := cls) (index := ik) (n := 6) hown' hk' hins hini'
    (g := F0 m pc ls rest) rfl (by rw [hb]; exact d0) (Nat.le_refl _) (Nat.le_refl _)
  generalize hT1 : (T.setVm vm₁).pushCell { cls := cX, slots := kX.instanceTypes.map defaultValue, vm := .none } = T1 at X₁ st1
  have hcat : (Value.ref T.heap.size).category = 1 := rfl
  have hcellA : T1.heap[T.heap.size]? = some (freshCell cX kX) := by rw [← hT1]; exact State.heap_pushCell_size _ _
  have d3' : decode c.code (pc + 3) = .ok (.dup, 1) := by rw [hb]; exact d3
  have d4' : decode c.code (pc + 4) = .ok (.ldc is, 2) := by rw [hb]; exact d4
  have hstr' : vk_R own is text sa s' := vk_R.warm hW0 hstr
  obtain ⟨U, hsteps, hrun, hend, hW, hsame, ce, hce, hO⟩ := X₁.ctorThrowS hexec htr (own := own) (cls := cls) (names := names) (ic := ic) hown' hcls hnames h (fun x hx => nomatch hx) hfX hkX hcellA (by rw [hhp, hT]; exact Nat.le_refl _) (msg := .ref sa) rfl
    (g := { method := m, pc := pc + 6, locals := ls, stack := .ref sa :: .ref T.heap.size :: .ref T.heap.size :: rest, locked := none }) rfl hsize rfl rfl (rest := rest) rfl
    (by rw [hb]; exact d6) (by rw [hb]; exact d9) hout hRframes (by simp only [List.map_cons, List.sum_cons, hcat]; omega) hlocks
  obtain ⟨f1, f2⟩ := vx_frame hsame
  rw [hhp] at f1 f2
  have hWs : s.WarmedH U.vm := State.WarmedH.trans hW0 hW
  have hcl : s.vm.findClass cls = some ce.cls := by
    have h9 := hO.cls
    rw [hvm] at h9
    exact h9
  have hall : s.sameButNew ({ U with vm := s.vm } : State) locs mc ms := by
    subst hA
    obtain ⟨e1, e2⟩ := hsame
    rw [State.setFrames_setFrames] at e1
    have h2 : (T.setVm s.vm).sameButNew ({ U with vm := s.vm } : State) [] (0 + 1) (0 + 6) := ⟨e1, e2⟩
    have h3 := X.same.trans h2
    rw [List.append_nil] at h3
    exact h3.mono hc hs
  refine ⟨U, ?_, .threw T.heap.size, hrun, hend, Or.inr ⟨T.heap.size, rfl, cls, ce, locs, hx U hWs.alike f1 (fun q hq => f2 q hq (fun z hz => nomatch hz)), hce, hO.vm, hcl, hWs, hall, hf⟩⟩
  refine st1 _ ?_
  show Steps p.tables e below (T1.setTop { method := m, pc := pc + 3, locals := ls, stack := .ref T.heap.size :: rest, locked := none }) _
  jvm_step X₁.here [X₁.here.top, hexec, d3', Value.category]
  exact X₁.ldcString hexec (own := own) (text := text) (index := is) (a := sa) hown' hstr'.1 hstr'.2
    (g := { method := m, pc := pc + 4, locals := ls, stack := .ref T.heap.size :: .ref T.heap.size :: rest, locked := none }) rfl d4' _ hsteps
/-- 'throw new E("text")', the text by a wide index -/
theorem vx_throwSW {cc : ByteArray} {pc : Nat} (hexec : p.tables.exec = Jvm.exec) (hb : c.code = cc) (hl : l.stackTraces = false) {own cls text : String} {names : List String} {ik is ic mc ms sa : Nat} {A : Nat → Prop}
    (hown : s.vm.findClass own = some m.cls) (hcls : Bundle.fit cls = true) (hnames : ∀ n ∈ names, Bundle.fit n = true)
    (hk : (Cond.classLink own ik cls).before args s = true) (hini : (Cond.initialized cls).before args s = true) (hstr : vk_R own is text sa s) (hat : ∀ w ∈ vx_atS own ic cls names, w.before args s = true)
    (hgood : ∀ w ∈ Cond.classLink own ik cls :: Cond.initialized cls :: vx_atS own ic cls names, vx_ot w = true)
    (hU : vx_Zq Bundle.tN "UNASSIGNED_STACK" Bundle.steD A s s.heap) (hN : vx_Zq Bundle.tN "SUPPRESSED_SENTINEL" Bundle.listD A s s.heap) (hS : va_S A s.heap H locs) (hsize : ls.size = c.maxLocals)
    (d0 : decode cc pc = .ok (.new ik, 3)) (d3 : decode cc (pc + 3) = .ok (.dup, 1)) (d4 : decode cc (pc + 4) = .ok (.ldc_w is, 3)) (d7 : decode cc (pc + 7) = .ok (.invokespecial ic, 3)) (d10 : decode cc (pc + 10) = .ok (.athrow, 1))
    (hout : ∀ x ∈ c.exceptionTable.toList, covers x (pc + 10) = false)
    (hRframes : names.length + 3 < R.frames) (hRlocals : (rest.map fun v => v.category).sum + (13 * (names.length + 1) + 43) ≤ R.locals) (hRcells : cells + 1 ≤ R.cells) (hRslots : slots + 6 ≤ R.slots) (hlocks : meth.locks = false)
    (hx : ∀ t : State, s.vm.Alike t.vm → H.size ≤ t.heap.size → (∀ q : Nat, q < H.size → t.heap[q]? = H[q]?) → XC cls s t)
    (hf : ∀ z ∈ locs, free z.base) (hc : cells + 1 ≤ mc) (hs : slots + 6 ≤ ms) :
    W p l e R s m args below meth c H locs cells slots (vx_MQ below Qc XC args s mc ms free) (F0 m pc ls rest) := by
  intro T hT X
  have htr : e.platform.stackTraces = false := (show e.platform.stackTraces = l.stackTraces by rw [X.admits.platform]).trans hl
  have Y := vx_rebase X (R' := { frames := R.frames, locals := R.locals, cells := 1, slots := 6 }) (Nat.le_refl _) (Nat.le_refl _) hRcells hRslots
  obtain ⟨s', hA⟩ : ∃ z, z = (T.setVm s.vm).setFrames (.invoking m args :: below) := ⟨_, rfl⟩
  rw [← hA] at Y
  have hvm : s'.vm = s.vm := by rw [hA]; rfl
  have hhp : s'.heap = H := by rw [hA]; exact hT
  have hW0 : s.WarmedH s'.vm := by rw [hvm]; exact State.WarmedH.refl s
  have hat' : ∀ w ∈ vx_atS own ic cls names, w.before args s' = true := fun w hw => vx_ot_at hW0 hvm.symm (hgood w (List.mem_cons_of_mem _ (List.mem_cons_of_mem _ hw))) (hat w hw)
  have hk' : (Cond.classLink own ik cls).before args s' = true := vx_ot_at hW0 hvm.symm (hgood _ List.mem_cons_self) hk
  have hini' : (Cond.initialized cls).before args s' = true := vx_ot_at hW0 hvm.symm (hgood _ (List.mem_cons_of_mem _ List.mem_cons_self)) hini
  have hU' : vx_Zq Bundle.tN "UNASSIGNED_STACK" Bundle.steD A s' s'.heap := by rw [hhp]; exact vx_Zq.moved hW0.alike (hU.kept hS.2.1)
  have hN' : vx_Zq Bundle.tN "SUPPRESSED_SENTINEL" Bundle.listD A s' s'.heap := by rw [hhp]; exact vx_Zq.moved hW0.alike (hN.kept hS.2.1)
  have h : ∀ w ∈ Bundle.ownAtoms own ic cls names, w.before args s' = true := vx_own hat' (vx_isRefq hU'.1) (vx_isRefq hN'.1) hU'.2.word hN'.2.word
  have hown' : s'.vm.findClass own = some m.cls := by rw [hvm]; exact hown
  have hins : (Cond.instantiable cls 6).before args s' = true := h _ (by simp [Bundle.ownAtoms])
  obtain ⟨vm₁, cX, kX, hfX, hkX, -, -, X₁, st1⟩ := Y.newCold hexec (own := own) (C := cls) (index := ik) (n := 6) hown' hk' hins hini'
    (g := F0 m pc ls rest) rfl (by rw [hb]; exact d0) (Nat.le_refl _) (Nat.le_refl _)
  generalize hT1 : (T.setVm vm₁).pushCell { cls := cX, slots := kX.instanceTypes.map defaultValue, vm := .none } = T1 at X₁ st1
  have hcat : (Value.ref T.heap.size).category = 1 := rfl
  have hcellA : T1.heap[T.heap.size]? = some (freshCell cX kX) := by rw [← hT1]; exact State.heap_pushCell_size _ _
  have d3' : decode c.code (pc + 3) = .ok (.dup, 1) := by rw [hb]; exact d3
  have d4' : decode c.code (pc + 4) = .ok (.ldc_w is, 3) := by rw [hb]; exact d4
  have hstr' : vk_R own is text sa s' := vk_R.warm hW0 hstr
  obtain ⟨U, hsteps, hrun, hend, hW, hsame, ce, hce, hO⟩ := X₁.ctorThrowS hexec htr (own := own) (cls := cls) (names := names) (ic := ic) hown' hcls hnames h (fun x hx => nomatch hx) hfX hkX hcellA (by rw [hhp, hT]; exact Nat.le_refl _) (msg := .ref sa) rfl
    (g := { method := m, pc := pc + 7, locals := ls, stack := .ref sa :: .ref T.heap.size :: .ref T.heap.size :: rest, locked := none }) rfl hsize rfl rfl (rest := rest) rfl
    (by rw [hb]; exact d7) (by rw [hb]; exact d10) hout hRframes (by simp only [List.map_cons, List.sum_cons, hcat]; omega) hlocks
  obtain ⟨f1, f2⟩ := vx_frame hsame
  rw [hhp] at f1 f2
  have hWs : s.WarmedH U.vm := State.WarmedH.trans hW0 hW
  have hcl : s.vm.findClass cls = some ce.cls := by
    have h9 := hO.cls
    rw [hvm] at h9
    exact h9
  have hall : s.sameButNew ({ U with vm := s.vm } : State) locs mc ms := by
    subst hA
    obtain ⟨e1, e2⟩ := hsame
    rw [State.setFrames_setFrames] at e1
    have h2 : (T.setVm s.vm).sameButNew ({ U with vm := s.vm } : State) [] (0 + 1) (0 + 6) := ⟨e1, e2⟩
    have h3 := X.same.trans h2
    rw [List.append_nil] at h3
    exact h3.mono hc hs
  refine ⟨U, ?_, .threw T.heap.size, hrun, hend, Or.inr ⟨T.heap.size, rfl, cls, ce, locs, hx U hWs.alike f1 (fun q hq => f2 q hq (fun z hz => nomatch hz)), hce, hO.vm, hcl, hWs, hall, hf⟩⟩
  refine st1 _ ?_
  show Steps p.tables e below (T1.setTop { method := m, pc := pc + 3, locals := ls, stack := .ref T.heap.size :: rest, locked := none }) _
  jvm_step X₁.here [X₁.here.top, hexec, d3', Value.category]
  exact X₁.ldcStringW hexec (own := own) (text := text) (index := is) (a := sa) hown' hstr'.1 hstr'.2
    (g := { method := m, pc := pc + 4, locals := ls, stack := .ref T.heap.size :: .ref T.heap.size :: rest, locked := none }) rfl d4' _ hsteps
end Ends
section Bodies
variable {l : Launch}
theorem vx_ofW {y : MethodName} {ws ws' : List Cond} {rm : Room} {Pc : Array Value → State → Prop} {Qc : Array Value → State → Outcome → State → Prop} {XC : String → State → State → Prop} {mc ms : Nat} {free : Addr → Prop} {cc : ByteArray} {maxL : Nat} {ret : Option FieldType}
    (hy : plainName y.cls = true) (hw : ws = Cond.code y cc maxL ret :: ws')
    (body : ∀ p e s m args below meth c s₁, BodyLoose p l y (headSpec ws rm) cc maxL ret e s m args below meth c s₁ → c.maxLocals = maxL → (∀ x ∈ c.exceptionTable.toList, False) → Pc args s →
      W p l e (headSpec ws rm).room s m args below meth c s.heap [] 0 0 (vx_MQ below Qc XC args s mc ms free) (entryFrame m args maxL)) : vx_Met l y ws rm Pc Qc XC mc ms free := by
  refine MetFree.of_bodyS (code := cc) (maxLocals := maxL) (ret := ret) hy ?_ ?_
  · intro args s m h hn
    obtain ⟨meth, c, h1, h2, h3, h4, h5, h6, -, -⟩ := Cond.code_spec hn (atoms_spec (ws := ws) h _ (by rw [hw]; exact List.mem_cons_self))
    exact ⟨meth, c, h1, h2, h3, h4, h5, h6⟩
  · intro p e s m args below meth c s₁ B hml hP _
    have hh0 : s₁.heap = s.heap := by rw [B.state]; rfl
    have ht : ∀ x ∈ c.exceptionTable.toList, False := by
      obtain ⟨meth9, c9, h1, h2, -, -, -, -, h7, -⟩ := Cond.code_spec B.named (atoms_spec (ws := ws) B.pre _ (by rw [hw]; exact List.mem_cons_self))
      cases Option.some.inj (h1.symm.trans B.method)
      cases Option.some.inj (h2.symm.trans (Stand.of_body B).code)
      intro x hx
      rw [Array.isEmpty_iff.mp h7] at hx
      cases hx
    obtain ⟨t, a1, o, b1, b2, b3⟩ := body p e s m args below meth c s₁ B hml ht hP s₁ hh0 (Stand.of_body B)
    exact ⟨t, o, a1, b1, b2, b3⟩
/-- the table of a body with handlers -/
theorem vx_table {p : Program} {x y : MethodName} {S : Spec} {cc bytes : ByteArray} {maxL maxL' : Nat} {ret ret' : Option FieldType} {e : Env} {s s₁ : State} {m : MethodId} {args : Array Value} {below : List Frame} {meth : Method} {c : Code} {hh : List (Nat × Nat × Nat × Nat)}
    (B : BodyLoose p l y S cc maxL ret e s m args below meth c s₁) (h : (Cond.codeWith y bytes maxL' ret' hh).before args s = true) : c.exceptionTable.toList = tableOf hh := by
  obtain ⟨m9, meth9, c9, hn9, h1, h2, -, -, h6, -⟩ := Cond.codeWith_spec h
  cases Option.some.inj (hn9.symm.trans B.named)
  cases Option.some.inj (h1.symm.trans B.method)
  cases Option.some.inj (h2.symm.trans (Stand.of_body B).code)
  rw [← h6, table_eq]
end Bodies
end VXA
/-! ===== END ===== -/
/-! ===== BEGIN a static call of a method with an exception table ===== -/
section VXS
variable {p : Program} {l : Launch} {e : Env} {R : Room} {s : State} {m : MethodId} {args : Array Value} {below : List Frame} {meth : Method} {c : Code} {T : State} {H : Heap} {locs : List Loc} {cells slots : Nat}
abbrev vx_CSW (R : Room) (s : State) (args : Array Value) (own : String) (index : Nat) (y : MethodName) (bytes : ByteArray) (maxL : Nat) (ret : Option FieldType) (hh : List (Nat × Nat × Nat × Nat)) (ws : List Cond) (rm : Room) (mc ms n : Nat) : Prop :=
  (rm.cells = mc ∧ rm.slots = ms ∧ rm.frames + 1 ≤ R.frames ∧ 8 + (maxL + 11) + rm.locals ≤ R.locals ∧ (∀ w ∈ ws, ∀ (a' : Array Value) (U : State), s.WarmedH U.vm → w.before a' U = true) ∧ Cond.codeWith y bytes maxL ret hh ∈ ws) ∧
  (Cond.codeWith y bytes maxL ret hh).before args s = true ∧ (Cond.initialized y.cls).before args s = true ∧ (y.cls ≠ "java/lang/invoke/MethodHandle" ∧ y.cls ≠ "java/lang/invoke/VarHandle") ∧
  (∀ sig, parseMethodDescriptor y.desc = some sig → n = sig.parameters.length) ∧ (Cond.methodLink own index y).before args s = true ∧ (Cond.static y).before args s = true
theorem vx_cwSW {own : String} {index maxL mc ms : Nat} {y : MethodName} {bytes : ByteArray} {ret : Option FieldType} {hh : List (Nat × Nat × Nat × Nat)} {Ts ws ws' : List Cond} {rm : Room} (n : Nat) (ht : ∀ w ∈ Ts, w.before args s = true) (hT : GoodIn Ts (va_wsS own index y ws)) (hw : ws = Cond.codeWith y bytes maxL ret hh :: ws') (hrc : rm.cells = mc) (hrs : rm.slots = ms)
    (hd : y.cls ≠ "java/lang/invoke/MethodHandle" ∧ y.cls ≠ "java/lang/invoke/VarHandle" ∧ (parseMethodDescriptor y.desc).map (fun d => d.parameters.length) = some n) (hR : rm.frames + 1 ≤ R.frames ∧ 8 + (maxL + 11) + rm.locals ≤ R.locals) :
    vx_CSW R s args own index y bytes maxL ret hh ws rm mc ms n := by
  have ok : ∀ w ∈ va_wsS own index y ws, w.before args s = true := fun w h => ht w (hT w h).1
  have hG : GoodIn Ts ws := fun w h => hT w (by unfold va_wsS; exact List.mem_append_right _ h)
  have hc : Cond.codeWith y bytes maxL ret hh ∈ ws := by rw [hw]; exact List.mem_cons_self
  refine ⟨⟨hrc, hrs, hR.1, hR.2, pay_in ht hG, hc⟩, ht _ (hG _ hc).1, ok _ (by simp [va_wsS]), ⟨hd.1, hd.2.1⟩, fun sig h => ?_, ok _ (by simp [va_wsS]), ok _ (by simp [va_wsS])⟩
  have h2 := hd.2.2
  rw [h] at h2
  exact (Option.some.inj h2).symm
theorem vx_callSW (X : Stand p l e R s m args below meth c T locs cells slots) (hexec : p.tables.exec = Jvm.exec) {own : String} {index : Nat} {y : MethodName} {bytes : ByteArray} {maxL : Nat} {ret : Option FieldType} {hh : List (Nat × Nat × Nat × Nat)}
    (hown : s.vm.findClass own = some m.cls) (hlink : (Cond.methodLink own index y).before args s = true) (hstat : (Cond.static y).before args s = true) (hinit : (Cond.initialized y.cls).before args s = true)
    (hcode : (Cond.codeWith y bytes maxL ret hh).before args s = true) (hy : y.cls ≠ "java/lang/invoke/MethodHandle" ∧ y.cls ≠ "java/lang/invoke/VarHandle")
    {W9 : Nat} {Pre : Pt → Array Value → Prop} {Post : Pt → Array Value → Option Value → Pt → Prop} (hK : Back l R p e below s args y 3 W9 Pre Post)
    {g : JFrame} (hg : g.method = m) (hsize : g.locals.size = c.maxLocals) {argsL rest : List Value} (hlen : ∀ sig, parseMethodDescriptor y.desc = some sig → argsL.length = sig.parameters.length)
    (hstack : g.stack = argsL.reverse ++ rest) (hW : 2 * g.monitorRoom + (rest.map fun v => v.category).sum ≤ W9) (hdg : decode c.code g.pc = .ok (.invokestatic index, 3))
    (hpre : ∀ vm₁, s.WarmedH vm₁ → Pre ⟨T.setVm vm₁, locs, cells, slots⟩ argsL.toArray) :
    ∃ (v : Option Value) (vm₁ : Vm) (B : Pt), s.WarmedH vm₁ ∧ Stand p l e R s m args below meth c B.U B.locs B.cells B.slots ∧ Post ⟨T.setVm vm₁, locs, cells, slots⟩ argsL.toArray v B ∧
      ∀ target, Steps p.tables e below (B.U.setTop { g with pc := g.pc + 3, stack := v.toList ++ rest }) target → Steps p.tables e below (T.setTop g) target := by
  obtain ⟨mk, methM, cM, hnamed, hmethM, -, -, -, -, -, -, hsigM⟩ := Cond.codeWith_spec hcode
  have hstatic : methM.isStatic = true := Cond.static_spec hnamed hmethM hstat
  obtain ⟨kP, hkP, -⟩ := className_of_methodNamed hnamed
  have hinitP : kP.init = .initialized := Cond.initialized_spec (findClass_of_methodNamed hnamed) hkP hinit
  obtain ⟨vm₁, X₁, hstep₁⟩ := X.invokestatic hexec hown hlink hnamed hmethM hstatic hkP hinitP hy (g := g) hg (argsL := argsL) (rest := rest) (hlen _ hsigM) hstack hdg
  obtain ⟨v, B, X', hpost, hsteps⟩ := hK m meth c ⟨T.setVm vm₁, locs, cells, slots⟩ { g with stack := rest } (.invokestatic index) mk argsL.toArray X₁ hg hsize hdg hW (X₁.named hnamed) (hpre vm₁ X₁.warmed)
  exact ⟨v, vm₁, B, X₁.warmed, X', hpost, fun target h => hstep₁ _ fun acts => by rw [doInvoke_state]; exact hsteps.trans h⟩
theorem vx_runSW {y : MethodName} {bytes cc : ByteArray} {maxL nL mc ms n index : Nat} {ret : Option FieldType} {hh : List (Nat × Nat × Nat × Nat)} {ws : List Cond} {rm : Room} {Pc : Array Value → State → Prop} {Qc : Array Value → State → Outcome → State → Prop} {free : Addr → Prop} {Ts : List Cond} {own : String} {As rest : List Value} {g : JFrame}
    (S : CallFix p m c cc nL s args Ts own) (hM : Met l y ws rm Pc Qc mc ms free) (cw : vx_CSW R s args own index y bytes maxL ret hh ws rm mc ms n) (hp : PreS s H Pc As)
    (hg : g.method = m) (hn : As.length = n) (hsize : g.locals.size = nL) (hstack : g.stack = As.reverse ++ rest) (hW : 2 * g.monitorRoom + (rest.map fun v => v.category).sum ≤ 8) (hdg : decode cc g.pc = .ok (.invokestatic index, 3)) (hf : cells + mc ≤ R.cells ∧ slots + ms ≤ R.slots) :
    va_Run p l e R s m args below meth c H locs cells slots mc ms g rest (Qc As.toArray) (free) := by
  obtain ⟨⟨hrc, hrs, hfr, hlo, hws, hcw⟩, hcode, hini, hy, hlen, hl, hstt⟩ := cw
  have hK : Back l R p e below s args y 3 8 (PreOf R mc ms Pc) (PostOf Qc mc ms free) := va_backW (hh := hh) (bytes := bytes) (maxL := maxL) (ret := ret) hM hp.1 hrc hrs hfr hlo hws hcw (fun a' U hW => word_at hW (Or.inl (by first | rfl | simp [Cond.onTables, Cond.keeps, Cond.steady])) hini)
  obtain ⟨hx, hb, hml, ho, -⟩ := S
  intro T hT X
  obtain ⟨v, vm₁, ⟨U', l2, c2, s2⟩, hW₁, X', ⟨g', mk, t, L, e1, e2, hq, h1, hL, h2, h3⟩, st⟩ := vx_callSW X hx (hh := hh) (bytes := bytes) (maxL := maxL) (ret := ret) ho hl hstt hini hcode hy hK hg (hsize.trans hml.symm) (argsL := As) (rest := rest) (fun sig h => hn.trans (hlen sig h)) hstack hW (by rw [hb]; exact hdg)
    (fun vm₁ hW₁ => ⟨hf.1, hf.2, hp.2 (T.setVm vm₁) hT hW₁⟩)
  dsimp only [Pt.U, Pt.locs, Pt.cells, Pt.slots] at X' e1 e2 h1 h2 h3 st
  subst h1; subst h2; subst h3
  exact ⟨v, (T.setVm vm₁).calling g' mk As.toArray, t, U', L, hT, X', hL, e1, e2, hq, st⟩
/-- not caught here, past rows that name other classes: it goes on to the caller -/
theorem vx_outP {p : Program} {l : Launch} {e : Env} {R : Room} {s : State} {m : MethodId} {args : Array Value} {below : List Frame} {meth : Method} {c : Code} {H : Heap} {locs : List Loc} {cells slots : Nat} {free : Addr → Prop} {ls : Array Slot} {rest : List Value} {Qc : Array Value → State → Outcome → State → Prop} {XC : String → State → State → Prop}
    {pc : Nat} {own E : String} {ce : Cell} {q : Addr} {mc ms : Nat} (hown : s.vm.findClass own = some m.cls) (hlocks : meth.locks = false)
    (hpass : ∀ z ∈ c.exceptionTable.toList, covers z pc = false ∨ (z.catchType ≠ 0 ∧ ∃ nm : String, (Cond.classLink own z.catchType nm).before args s = true ∧ va_Nc E nm s)) (hcell : H[q]? = some ce) (hv : ce.vm = .none) (hcl : s.vm.findClass E = some ce.cls)
    (hx : ∀ t : State, t.heap = H → s.vm.Alike t.vm → XC E s t) (hf : ∀ z ∈ locs, free z.base) (hc : cells ≤ mc) (hs : slots ≤ ms) :
    vx_W p l e R s m args below meth c H locs cells slots (vx_MQ below Qc XC args s mc ms free) (F0 m pc ls rest) q := by
  intro T hT X
  have hpl : e.platform.magicAccessors = ({} : Platform).magicAccessors := by rw [X.admits.platform]
  obtain ⟨vm', hW', X', st⟩ := X.outThrough hlocks q (g := F0 m pc ls rest) rfl rfl rfl (cell := ce) (by rw [hT]; exact hcell) (by rw [hv]; rfl)
    (by obtain ⟨k9, h9, -⟩ := Vm.findClass_spec hcl; exact ⟨k9, h9⟩) (fun z hz => by
      rcases hpass z hz with h | ⟨hz0, nm, hl1, hn1⟩
      · exact Or.inl h
      · obtain ⟨c6, hc6, hcl6⟩ := Cond.classLink_spec hown hl1 e.platform hpl
        obtain ⟨a8, b8, h1, h2, h3⟩ := hn1
        cases Option.some.inj (h1.symm.trans hcl)
        cases Option.some.inj (h2.symm.trans hc6)
        exact Or.inr ⟨hz0, _, hcl6, h3⟩)
  obtain ⟨g₀, hfr⟩ := X'.frames_eq
  have hcell9 : ((T.setVm vm').setFrames (.throwing q :: below)).heap[q]? = some ce := by
    show T.heap[q]? = some ce
    rw [hT]; exact hcell
  have hend : Ended ((T.setVm vm').setFrames (.throwing q :: below)) below (.threw q) := State.frames_setFrames _ (State.cur_lt_of_frames hfr)
  refine ⟨(T.setVm vm').setFrames (.throwing q :: below), ?_, .threw q, X'.here.running, hend, Or.inr ⟨q, rfl, E, ce, locs, hx _ hT (X'.ends _).1.alike, hcell9, hv, hcl, (X'.ends _).1, (X'.ends _).2.mono hc hs, hf⟩⟩
  rw [X.pushThrowing_eq]
  exact st
/-- a thing of a world lies in the heap -/
theorem vx_lt {D : va_G} {cl : List vw_C} {ws : va_W} {H1 : Heap} (h : va_P D cl ws H1) {k : Nat} {q : Nat × va_E} (hk : ws[k]? = some q) : q.1 < H1.size := (h k q hk).lt
end VXS
/-! ===== END ===== -/
/-! ===== BEGIN methods with a table of their own: called by a name, returning or throwing ===== -/
section VXH
/-! vx_backW, vx_callVX, vx_callSX, vx_callVW, vx_runVW, vx_runVX, vx_runSX, vx_ofWH follow the same proofs as their sisters above (Free/Laws.lean, Shelf42/LK1.lean); vx_outP calls Shelf42/NT130.lean (outThrough). -/
section
variable {l : Launch} {R : Room} {p : Program} {e : Env} {below : List Frame} {s : State} {sargs : Array Value} {y : MethodName} {len W9 : Nat}
theorem vx_backW {ws : List Cond} {rm : Room} {Pc : Array Value → State → Prop} {Qc : Array Value → State → Outcome → State → Prop} {XC : String → State → State → Prop} {mc ms : Nat} {free : Addr → Prop} {bytes : ByteArray} {maxL : Nat} {ret : Option FieldType} {hh : List (Nat × Nat × Nat × Nat)}
    (hM : vx_Met l y ws rm Pc Qc XC mc ms free) (hblind : FrameBlind Pc) (hrc : rm.cells = mc) (hrs : rm.slots = ms)
    (hframes : rm.frames + 1 ≤ R.frames) (hlocals : W9 + (maxL + 11) + rm.locals ≤ R.locals)
    (hws : ∀ w ∈ ws, ∀ a' U, s.WarmedH U.vm → w.before a' U = true) (hcode : Cond.codeWith y bytes maxL ret hh ∈ ws) (hinit : ∀ a' U, s.WarmedH U.vm → (Cond.initialized y.cls).before a' U = true) :
    vx_Back l R p e below s sargs y len W9 (PreOf R mc ms Pc) (PostOf Qc mc ms free) (vx_Post XC mc ms free) := by
  intro m meth c A g ig mk a X hg hsize hdg hW hn hp
  have h1 : (headSpec ws rm).pre.before a A.U = true := atoms_intro fun w hw => hws w hw _ _ X.warmed
  have h2 : (Cond.codeWith y bytes maxL ret hh).before a A.U = true := hws _ hcode _ _ X.warmed
  have h3 : (Cond.initialized y.cls).before a A.U = true := hinit _ _ X.warmed
  have h4 : A.cells + (headSpec ws rm).room.cells ≤ R.cells := by rw [show (headSpec ws rm).room.cells = mc from hrc]; exact hp.1
  have h5 : A.slots + (headSpec ws rm).room.slots ≤ R.slots := by rw [show (headSpec ws rm).room.slots = ms from hrs]; exact hp.2.1
  have hPc : Pc a (A.U.calling g mk a) := hblind _ _ _ _ hp.2.2
  obtain ⟨U, Ls, c0, s0⟩ := A
  dsimp only [Pt.U, Pt.locs, Pt.cells, Pt.slots] at h1 h2 h3 h4 h5 X hn hPc ⊢
  obtain ⟨m9, methY, cY, hn9, hmY, hcY, -, hlY, -⟩ := Cond.codeWith_spec h2
  cases Option.some.inj (hn9.symm.trans hn)
  obtain ⟨kY, hkY, -⟩ := className_of_methodNamed hn
  have hinitY : kY.init = .initialized := Cond.initialized_spec (findClass_of_methodNamed hn) hkY h3
  have h : At U g.method c below := by rw [hg]; exact X.here
  have hlocals9 : W9 + (maxL + 11) + (headSpec ws rm).room.locals ≤ R.locals := hlocals
  have happ : (headSpec ws rm).appliesLoose y e.platform (U.calling g mk a) = true :=
    Spec.appliesLoose_calling (g := g) h hdg hn hkY hinitY
      (X.room_calling (g := g) (R' := (headSpec ws rm).room) hsize hmY hcY hframes (by rw [hlY]; omega) h4 h5) h1
  obtain ⟨mid, hmid⟩ := h.above
  have hfr : (U.setTop g).frames = (.java g :: mid) ++ below := by rw [State.frames_setTop' g h.top, hmid]; rfl
  obtain ⟨o, s₂, hsteps, -, hend, hq⟩ := Steps.callFree hM p X.admits X.cas X.clock (acts := []) hfr happ hPc trivial
  have hq' : vx_Q Qc XC mc ms free a (U.calling g mk a) o s₂ := hq
  rw [State.frames_setTop' g h.top] at hend
  obtain ⟨g₀, hg0⟩ := Option.isSome_iff_exists.mp h.top
  obtain ⟨r, hr⟩ := State.topJava?_eq_some.mp hg0
  have hr' : (({ U with heap := s₂.heap, slotsUsed := s₂.slotsUsed } : State).setVm s₂.vm).frames = .java g₀ :: r := hr
  rcases hq' with ⟨hqc, L, hfe, hL⟩ | ⟨q, rfl, E, ce, L, hx, hce, hcv, hcl, hW₂, hsm, hL⟩
  · obtain ⟨⟨v, rfl⟩, hW₂, e2, q2, q3, q4, q5, q6⟩ := id hfe
    have e3 : s₂ = ({ (U.calling g mk a).setFrames s₂.frames with heap := s₂.heap, slotsUsed := s₂.slotsUsed } : State).setVm s₂.vm := by
      have : s₂ = ({ s₂ with vm := (U.calling g mk a).vm } : State).setVm s₂.vm := rfl
      rw [e2] at this
      exact this
    obtain ⟨c₂, i₂, len₂, hc₂, hd₂, hf₂⟩ := hend
    have hW' : U.WarmedH s₂.vm := hW₂
    have hcc : c₂ = c := by
      have h1 : s₂.code? g.method = U.code? g.method := by
        rw [State.code?_eq, State.code?_eq, hW'.alike.method?]
      exact Option.some.inj (hc₂.symm.trans (h1.trans h.code))
    subst hcc
    have hlen : len₂ = len := by rw [hdg] at hd₂; cases hd₂; rfl
    subst hlen
    have hs₂ : s₂ = (({ U with heap := s₂.heap, slotsUsed := s₂.slotsUsed } : State).setVm s₂.vm).setTop { g with pc := g.pc + len₂, stack := v.toList ++ g.stack } := by
      refine e3.trans ?_
      rw [hf₂, State.calling_eq h.top, State.setFrames_setFrames, State.setTop_of_frames _ hr', hr]
      rfl
    have hsame : U.sameButNew ({ U with heap := s₂.heap, slotsUsed := s₂.slotsUsed } : State) L mc ms := by
      refine ⟨?_, q2, q3, q4, q5, q6⟩
      obtain ⟨t, ht, -⟩ := State.frames_cons hr
      show ({ U with heap := s₂.heap, slotsUsed := s₂.slotsUsed } : State) = { U.setFrames U.frames with heap := s₂.heap, slotsUsed := s₂.slotsUsed }
      rw [State.setFrames_self ht]
    subst hg
    refine Or.inl ⟨v, ⟨(({ U with heap := s₂.heap, slotsUsed := s₂.slotsUsed } : State).setVm s₂.vm), Ls ++ L, c0 + mc, s0 + ms⟩,
      ⟨X.admits, X.cas, X.clock, X.frames, X.room, X.hears, X.method, X.code, (X.here.setHeapUsed s₂.heap s₂.slotsUsed).setVm hW'.alike, X.tail, State.WarmedH.trans X.warmed hW', X.limits, X.bytes, X.same.trans (hsame.setVm s.vm)⟩,
      ⟨g, mk, s₂, L, rfl, rfl, hqc, rfl, hL, rfl, rfl⟩, ?_⟩
    show Steps p.tables e below _ ((({ U with heap := s₂.heap, slotsUsed := s₂.slotsUsed } : State).setVm s₂.vm).setTop { g with pc := g.pc + len₂, stack := v.toList ++ g.stack })
    rw [← hs₂]
    exact hsteps
  · obtain ⟨e2, q2, q3, q4, q5, q6⟩ := id hsm
    have e3 : s₂ = ({ (U.calling g mk a).setFrames s₂.frames with heap := s₂.heap, slotsUsed := s₂.slotsUsed } : State).setVm s₂.vm := by
      have : s₂ = ({ s₂ with vm := (U.calling g mk a).vm } : State).setVm s₂.vm := rfl
      rw [e2] at this
      exact this
    have hf₂ : s₂.frames = .throwing q :: .java g :: U.frames.tail := hend
    have hW' : U.WarmedH s₂.vm := hW₂
    have hs₂ : s₂ = ((({ U with heap := s₂.heap, slotsUsed := s₂.slotsUsed } : State).setVm s₂.vm).setTop g).pushFrame (.throwing q) := by
      refine e3.trans ?_
      rw [hf₂, State.calling_eq h.top, State.setFrames_setFrames, State.pushFrame, State.frames_setTop _ hr', State.setTop_of_frames _ hr', State.setFrames_setFrames, hr]
      rfl
    have hsame : U.sameButNew ({ U with heap := s₂.heap, slotsUsed := s₂.slotsUsed } : State) L mc ms := by
      refine ⟨?_, q2, q3, q4, q5, q6⟩
      obtain ⟨t, ht, -⟩ := State.frames_cons hr
      show ({ U with heap := s₂.heap, slotsUsed := s₂.slotsUsed } : State) = { U.setFrames U.frames with heap := s₂.heap, slotsUsed := s₂.slotsUsed }
      rw [State.setFrames_self ht]
    subst hg
    refine Or.inr ⟨q, ⟨(({ U with heap := s₂.heap, slotsUsed := s₂.slotsUsed } : State).setVm s₂.vm), Ls ++ L, c0 + mc, s0 + ms⟩,
      ⟨X.admits, X.cas, X.clock, X.frames, X.room, X.hears, X.method, X.code, (X.here.setHeapUsed s₂.heap s₂.slotsUsed).setVm hW'.alike, X.tail, State.WarmedH.trans X.warmed hW', X.limits, X.bytes, X.same.trans (hsame.setVm s.vm)⟩,
      ⟨g, mk, s₂, L, E, ce, rfl, rfl, hx, hce, hcv, hcl, rfl, hL, rfl, rfl⟩, ?_⟩
    show Steps p.tables e below _ (((({ U with heap := s₂.heap, slotsUsed := s₂.slotsUsed } : State).setVm s₂.vm).setTop g).pushFrame (.throwing q))
    rw [← hs₂]
    exact hsteps
end
variable {p : Program} {l : Launch} {e : Env} {R : Room} {s : State} {m : MethodId} {args : Array Value} {below : List Frame} {meth : Method} {c : Code} {T : State} {H : Heap} {locs : List Loc} {cells slots : Nat}
theorem vx_callVX (X : Stand p l e R s m args below meth c T locs cells slots) (hexec : p.tables.exec = Jvm.exec) {own C : String} {index : Nat} {y : MethodName} {bytes : ByteArray} {maxL : Nat} {ret : Option FieldType} {hh : List (Nat × Nat × Nat × Nat)}
    (hown : s.vm.findClass own = some m.cls) (hlink : (Cond.methodLink own index y).before args s = true) (hinst : (Cond.instanceMethod y).before args s = true) (hsel : (Cond.selects C y y).before args s = true)
    (hcode : (Cond.codeWith y bytes maxL ret hh).before args s = true) (hy : y.cls ≠ "java/lang/invoke/MethodHandle" ∧ y.cls ≠ "java/lang/invoke/VarHandle")
    {W9 : Nat} {Pre : Pt → Array Value → Prop} {Post : Pt → Array Value → Option Value → Pt → Prop} {PostX : Pt → Array Value → Addr → Pt → Prop} (hK : vx_Back l R p e below s args y 3 W9 Pre Post PostX)
    {b : Addr} {cellB : Cell} (hcell : T.heap[b]? = some cellB) (hobj : cellB.vm.isStatics = false) (hcls : s.vm.findClass C = some cellB.cls)
    {g : JFrame} (hg : g.method = m) (hsize : g.locals.size = c.maxLocals) {argsL rest : List Value} (hlen : ∀ sig, parseMethodDescriptor y.desc = some sig → argsL.length = sig.parameters.length)
    (hstack : g.stack = argsL.reverse ++ .ref b :: rest) (hW : 2 * g.monitorRoom + (rest.map fun v => v.category).sum ≤ W9) (hdg : decode c.code g.pc = .ok (.invokevirtual index, 3))
    (hpre : ∀ vm₁, s.WarmedH vm₁ → Pre ⟨T.setVm vm₁, locs, cells, slots⟩ (Value.ref b :: argsL).toArray) :
    (∃ (v : Option Value) (vm₁ : Vm) (B : Pt), s.WarmedH vm₁ ∧ Stand p l e R s m args below meth c B.U B.locs B.cells B.slots ∧ Post ⟨T.setVm vm₁, locs, cells, slots⟩ (Value.ref b :: argsL).toArray v B ∧
      ∀ target, Steps p.tables e below (B.U.setTop { g with pc := g.pc + 3, stack := v.toList ++ rest }) target → Steps p.tables e below (T.setTop g) target) ∨
    (∃ (q : Addr) (vm₁ : Vm) (B : Pt), s.WarmedH vm₁ ∧ Stand p l e R s m args below meth c B.U B.locs B.cells B.slots ∧ PostX ⟨T.setVm vm₁, locs, cells, slots⟩ (Value.ref b :: argsL).toArray q B ∧
      Steps p.tables e below (T.setTop g) ((B.U.setTop { g with stack := rest }).pushFrame (.throwing q))) := by
  obtain ⟨mk, methM, hnamed, hmethM, hstM, habM⟩ := Cond.instanceMethod_spec hinst
  obtain ⟨m8, methM', cM, hn8, hmethM', -, -, -, -, -, -, hsigM⟩ := Cond.codeWith_spec hcode
  cases Option.some.inj (hn8.symm.trans hnamed)
  cases hmethM.symm.trans hmethM'
  obtain ⟨c2, r2, m2, q1, q2, q3, q4, kP, hkP, hkPi⟩ := Cond.selects_spec hsel
  cases hcls.symm.trans q1
  cases (State.methodFound?_of_named hnamed hy).symm.trans q2
  cases hnamed.symm.trans q3
  have hselP : selectMethod e.platform s.vm cellB.cls mk = .method mk := by rw [Launch.admits_selectMethod X.admits]; exact q4
  obtain ⟨vm₁, X₁, hstep₁⟩ := X.invokevirtual hexec hown hlink hnamed hmethM hstM hkP hkPi hy (a := b) (cell := cellB) hcell
    (fun z h => by rw [h] at hobj; cases hobj) hselP hmethM habM hkP hkPi (g := g) hg (argsL := argsL) (rest := rest) (hlen _ hsigM) hstack hdg
  rcases hK m meth c ⟨T.setVm vm₁, locs, cells, slots⟩ { g with stack := rest } (.invokevirtual index) mk (Value.ref b :: argsL).toArray X₁ hg hsize hdg hW (X₁.named hnamed) (hpre vm₁ X₁.warmed) with ⟨v, B, X', hpost, hsteps⟩ | ⟨q, B, X', hpost, hsteps⟩
  · exact Or.inl ⟨v, vm₁, B, X₁.warmed, X', hpost, fun target h => hstep₁ _ fun acts => by rw [doInvoke_state]; exact hsteps.trans h⟩
  · exact Or.inr ⟨q, vm₁, B, X₁.warmed, X', hpost, hstep₁ _ fun acts => by rw [doInvoke_state]; exact hsteps⟩
theorem vx_callSX (X : Stand p l e R s m args below meth c T locs cells slots) (hexec : p.tables.exec = Jvm.exec) {own : String} {index : Nat} {y : MethodName} {bytes : ByteArray} {maxL : Nat} {ret : Option FieldType} {hh : List (Nat × Nat × Nat × Nat)}
    (hown : s.vm.findClass own = some m.cls) (hlink : (Cond.methodLink own index y).before args s = true) (hstat : (Cond.static y).before args s = true) (hinit : (Cond.initialized y.cls).before args s = true)
    (hcode : (Cond.codeWith y bytes maxL ret hh).before args s = true) (hy : y.cls ≠ "java/lang/invoke/MethodHandle" ∧ y.cls ≠ "java/lang/invoke/VarHandle")
    {W9 : Nat} {Pre : Pt → Array Value → Prop} {Post : Pt → Array Value → Option Value → Pt → Prop} {PostX : Pt → Array Value → Addr → Pt → Prop} (hK : vx_Back l R p e below s args y 3 W9 Pre Post PostX)
    {g : JFrame} (hg : g.method = m) (hsize : g.locals.size = c.maxLocals) {argsL rest : List Value} (hlen : ∀ sig, parseMethodDescriptor y.desc = some sig → argsL.length = sig.parameters.length)
    (hstack : g.stack = argsL.reverse ++ rest) (hW : 2 * g.monitorRoom + (rest.map fun v => v.category).sum ≤ W9) (hdg : decode c.code g.pc = .ok (.invokestatic index, 3))
    (hpre : ∀ vm₁, s.WarmedH vm₁ → Pre ⟨T.setVm vm₁, locs, cells, slots⟩ argsL.toArray) :
    (∃ (v : Option Value) (vm₁ : Vm) (B : Pt), s.WarmedH vm₁ ∧ Stand p l e R s m args below meth c B.U B.locs B.cells B.slots ∧ Post ⟨T.setVm vm₁, locs, cells, slots⟩ argsL.toArray v B ∧
      ∀ target, Steps p.tables e below (B.U.setTop { g with pc := g.pc + 3, stack := v.toList ++ rest }) target → Steps p.tables e below (T.setTop g) target) ∨
    (∃ (q : Addr) (vm₁ : Vm) (B : Pt), s.WarmedH vm₁ ∧ Stand p l e R s m args below meth c B.U B.locs B.cells B.slots ∧ PostX ⟨T.setVm vm₁, locs, cells, slots⟩ argsL.toArray q B ∧
      Steps p.tables e below (T.setTop g) ((B.U.setTop { g with stack := rest }).pushFrame (.throwing q))) := by
  obtain ⟨mk, methM, cM, hnamed, hmethM, -, -, -, -, -, -, hsigM⟩ := Cond.codeWith_spec hcode
  have hstatic : methM.isStatic = true := Cond.static_spec hnamed hmethM hstat
  obtain ⟨kP, hkP, -⟩ := className_of_methodNamed hnamed
  have hinitP : kP.init = .initialized := Cond.initialized_spec (findClass_of_methodNamed hnamed) hkP hinit
  obtain ⟨vm₁, X₁, hstep₁⟩ := X.invokestatic hexec hown hlink hnamed hmethM hstatic hkP hinitP hy (g := g) hg (argsL := argsL) (rest := rest) (hlen _ hsigM) hstack hdg
  rcases hK m meth c ⟨T.setVm vm₁, locs, cells, slots⟩ { g with stack := rest } (.invokestatic index) mk argsL.toArray X₁ hg hsize hdg hW (X₁.named hnamed) (hpre vm₁ X₁.warmed) with ⟨v, B, X', hpost, hsteps⟩ | ⟨q, B, X', hpost, hsteps⟩
  · exact Or.inl ⟨v, vm₁, B, X₁.warmed, X', hpost, fun target h => hstep₁ _ fun acts => by rw [doInvoke_state]; exact hsteps.trans h⟩
  · exact Or.inr ⟨q, vm₁, B, X₁.warmed, X', hpost, hstep₁ _ fun acts => by rw [doInvoke_state]; exact hsteps⟩
theorem vx_callVW (X : Stand p l e R s m args below meth c T locs cells slots) (hexec : p.tables.exec = Jvm.exec) {own C : String} {index : Nat} {y : MethodName} {bytes : ByteArray} {maxL : Nat} {ret : Option FieldType} {hh : List (Nat × Nat × Nat × Nat)}
    (hown : s.vm.findClass own = some m.cls) (hlink : (Cond.methodLink own index y).before args s = true) (hinst : (Cond.instanceMethod y).before args s = true) (hsel : (Cond.selects C y y).before args s = true)
    (hcode : (Cond.codeWith y bytes maxL ret hh).before args s = true) (hy : y.cls ≠ "java/lang/invoke/MethodHandle" ∧ y.cls ≠ "java/lang/invoke/VarHandle")
    {W9 : Nat} {Pre : Pt → Array Value → Prop} {Post : Pt → Array Value → Option Value → Pt → Prop} (hK : Back l R p e below s args y 3 W9 Pre Post)
    {b : Addr} {cellB : Cell} (hcell : T.heap[b]? = some cellB) (hobj : cellB.vm.isStatics = false) (hcls : s.vm.findClass C = some cellB.cls)
    {g : JFrame} (hg : g.method = m) (hsize : g.locals.size = c.maxLocals) {argsL rest : List Value} (hlen : ∀ sig, parseMethodDescriptor y.desc = some sig → argsL.length = sig.parameters.length)
    (hstack : g.stack = argsL.reverse ++ .ref b :: rest) (hW : 2 * g.monitorRoom + (rest.map fun v => v.category).sum ≤ W9) (hdg : decode c.code g.pc = .ok (.invokevirtual index, 3))
    (hpre : ∀ vm₁, s.WarmedH vm₁ → Pre ⟨T.setVm vm₁, locs, cells, slots⟩ (Value.ref b :: argsL).toArray) :
    ∃ (v : Option Value) (vm₁ : Vm) (B : Pt), s.WarmedH vm₁ ∧ Stand p l e R s m args below meth c B.U B.locs B.cells B.slots ∧ Post ⟨T.setVm vm₁, locs, cells, slots⟩ (Value.ref b :: argsL).toArray v B ∧
      ∀ target, Steps p.tables e below (B.U.setTop { g with pc := g.pc + 3, stack := v.toList ++ rest }) target → Steps p.tables e below (T.setTop g) target := by
  obtain ⟨mk, methM, hnamed, hmethM, hstM, habM⟩ := Cond.instanceMethod_spec hinst
  obtain ⟨m8, methM', cM, hn8, hmethM', -, -, -, -, -, -, hsigM⟩ := Cond.codeWith_spec hcode
  cases Option.some.inj (hn8.symm.trans hnamed)
  cases hmethM.symm.trans hmethM'
  obtain ⟨c2, r2, m2, q1, q2, q3, q4, kP, hkP, hkPi⟩ := Cond.selects_spec hsel
  cases hcls.symm.trans q1
  cases (State.methodFound?_of_named hnamed hy).symm.trans q2
  cases hnamed.symm.trans q3
  have hselP : selectMethod e.platform s.vm cellB.cls mk = .method mk := by rw [Launch.admits_selectMethod X.admits]; exact q4
  obtain ⟨vm₁, X₁, hstep₁⟩ := X.invokevirtual hexec hown hlink hnamed hmethM hstM hkP hkPi hy (a := b) (cell := cellB) hcell
    (fun z h => by rw [h] at hobj; cases hobj) hselP hmethM habM hkP hkPi (g := g) hg (argsL := argsL) (rest := rest) (hlen _ hsigM) hstack hdg
  obtain ⟨v, B, X', hpost, hsteps⟩ := hK m meth c ⟨T.setVm vm₁, locs, cells, slots⟩ { g with stack := rest } (.invokevirtual index) mk (Value.ref b :: argsL).toArray X₁ hg hsize hdg hW (X₁.named hnamed) (hpre vm₁ X₁.warmed)
  exact ⟨v, vm₁, B, X₁.warmed, X', hpost, fun target h => hstep₁ _ fun acts => by rw [doInvoke_state]; exact hsteps.trans h⟩
abbrev vx_CVW (R : Room) (s : State) (args : Array Value) (own C : String) (index : Nat) (y : MethodName) (bytes : ByteArray) (maxL : Nat) (ret : Option FieldType) (hh : List (Nat × Nat × Nat × Nat)) (ws : List Cond) (rm : Room) (mc ms n : Nat) : Prop :=
  (rm.cells = mc ∧ rm.slots = ms ∧ rm.frames + 1 ≤ R.frames ∧ 8 + (maxL + 11) + rm.locals ≤ R.locals ∧ (∀ w ∈ ws, ∀ (a' : Array Value) (U : State), s.WarmedH U.vm → w.before a' U = true) ∧ Cond.codeWith y bytes maxL ret hh ∈ ws) ∧
  (Cond.codeWith y bytes maxL ret hh).before args s = true ∧ (Cond.initialized y.cls).before args s = true ∧ (y.cls ≠ "java/lang/invoke/MethodHandle" ∧ y.cls ≠ "java/lang/invoke/VarHandle") ∧
  (∀ sig, parseMethodDescriptor y.desc = some sig → n = sig.parameters.length) ∧ (Cond.methodLink own index y).before args s = true ∧ (Cond.instanceMethod y).before args s = true ∧ (Cond.selects C y y).before args s = true
theorem vx_cwVW {own C : String} {index maxL mc ms : Nat} {y : MethodName} {bytes : ByteArray} {ret : Option FieldType} {hh : List (Nat × Nat × Nat × Nat)} {Ts ws ws' : List Cond} {rm : Room} (n : Nat) (ht : ∀ w ∈ Ts, w.before args s = true) (hT : GoodIn Ts (wsV own index C y ws)) (hw : ws = Cond.codeWith y bytes maxL ret hh :: ws') (hrc : rm.cells = mc) (hrs : rm.slots = ms)
    (hd : y.cls = C ∧ y.cls ≠ "java/lang/invoke/MethodHandle" ∧ y.cls ≠ "java/lang/invoke/VarHandle" ∧ (parseMethodDescriptor y.desc).map (fun d => d.parameters.length) = some n) (hR : rm.frames + 1 ≤ R.frames ∧ 8 + (maxL + 11) + rm.locals ≤ R.locals) :
    vx_CVW R s args own C index y bytes maxL ret hh ws rm mc ms n := by
  obtain ⟨hC, hd⟩ := hd
  subst hC
  have ok : ∀ w ∈ wsV own index y.cls y ws, w.before args s = true := fun w h => ht w (hT w h).1
  have hG : GoodIn Ts ws := fun w h => hT w (by unfold wsV; exact List.mem_append_right _ h)
  have hc : Cond.codeWith y bytes maxL ret hh ∈ ws := by rw [hw]; exact List.mem_cons_self
  refine ⟨⟨hrc, hrs, hR.1, hR.2, pay_in ht hG, hc⟩, ht _ (hG _ hc).1, ok _ (by simp [wsV]), ⟨hd.1, hd.2.1⟩, fun sig h => ?_, ok _ (by simp [wsV]), ok _ (by simp [wsV]), ok _ (by simp [wsV])⟩
  have h2 := hd.2.2
  rw [h] at h2
  exact (Option.some.inj h2).symm
theorem vx_runVW {y : MethodName} {bytes cc : ByteArray} {maxL nL mc ms n index : Nat} {ret : Option FieldType} {hh : List (Nat × Nat × Nat × Nat)} {ws : List Cond} {rm : Room} {Pc : Array Value → State → Prop} {Qc : Array Value → State → Outcome → State → Prop} {free : Addr → Prop} {Ts : List Cond} {own C : String} {b : Addr} {As rest : List Value} {g : JFrame}
    (S : CallFix p m c cc nL s args Ts own) (hM : Met l y ws rm Pc Qc mc ms free) (cw : vx_CVW R s args own C index y bytes maxL ret hh ws rm mc ms n) (hp : PreV s H C b Pc As)
    (hg : g.method = m) (hn : As.length = n) (hsize : g.locals.size = nL) (hstack : g.stack = As.reverse ++ .ref b :: rest) (hW : 2 * g.monitorRoom + (rest.map fun v => v.category).sum ≤ 8) (hdg : decode cc g.pc = .ok (.invokevirtual index, 3)) (hf : cells + mc ≤ R.cells ∧ slots + ms ≤ R.slots) :
    va_Run p l e R s m args below meth c H locs cells slots mc ms g rest (Qc (Value.ref b :: As).toArray) free := by
  obtain ⟨⟨hrc, hrs, hfr, hlo, hws, hcw⟩, hcode, hini, hy, hlen, hl, hin, hse⟩ := cw
  have hK : Back l R p e below s args y 3 8 (PreOf R mc ms Pc) (PostOf Qc mc ms free) := va_backW (hh := hh) (bytes := bytes) (maxL := maxL) (ret := ret) hM hp.1 hrc hrs hfr hlo hws hcw (fun a' U hW => word_at hW (Or.inl (by first | rfl | simp [Cond.onTables, Cond.keeps, Cond.steady])) hini)
  obtain ⟨hx, hb, hml, ho, -⟩ := S
  obtain ⟨-, ⟨cellB, hcB, hoB, hclB⟩, hPc⟩ := hp
  intro T hT X
  obtain ⟨v, vm₁, ⟨U', l2, c2, s2⟩, hW₁, X', ⟨g', mk, t, L, e1, e2, hq, h1, hL, h2, h3⟩, st⟩ := vx_callVW X hx (C := C) (hh := hh) (bytes := bytes) (maxL := maxL) (ret := ret) ho hl hin hse hcode hy hK (by rw [hT]; exact hcB) hoB hclB hg (hsize.trans hml.symm) (argsL := As) (rest := rest) (fun sig h => hn.trans (hlen sig h)) hstack hW (by rw [hb]; exact hdg)
    (fun vm₁ hW₁ => ⟨hf.1, hf.2, hPc (T.setVm vm₁) hT hW₁⟩)
  dsimp only [Pt.U, Pt.locs, Pt.cells, Pt.slots] at X' e1 e2 h1 h2 h3 st
  subst h1; subst h2; subst h3
  exact ⟨v, (T.setVm vm₁).calling g' mk (Value.ref b :: As).toArray, t, U', L, hT, X', hL, e1, e2, hq, st⟩
section
variable {y : MethodName} {bytes cc : ByteArray} {maxL nL mc ms n index : Nat} {ret : Option FieldType} {ws : List Cond} {rm : Room} {Pc : Array Value → State → Prop} {Qc : Array Value → State → Outcome → State → Prop} {XC : String → State → State → Prop} {free : Addr → Prop} {Ts : List Cond} {own C : String} {b : Addr} {As rest : List Value} {g : JFrame}
theorem vx_runVX {hh : List (Nat × Nat × Nat × Nat)} (S : CallFix p m c cc nL s args Ts own) (hM : vx_Met l y ws rm Pc Qc XC mc ms free) (cw : vx_CVW R s args own C index y bytes maxL ret hh ws rm mc ms n) (hp : PreV s H C b Pc As)
    (hg : g.method = m) (hn : As.length = n) (hsize : g.locals.size = nL) (hstack : g.stack = As.reverse ++ .ref b :: rest) (hW : 2 * g.monitorRoom + (rest.map fun v => v.category).sum ≤ 8) (hdg : decode cc g.pc = .ok (.invokevirtual index, 3)) (hf : cells + mc ≤ R.cells ∧ slots + ms ≤ R.slots) :
    vx_Run p l e R s m args below meth c H locs cells slots mc ms g rest (Qc (Value.ref b :: As).toArray) XC free := by
  obtain ⟨⟨hrc, hrs, hfr, hlo, hws, hcw⟩, hcode, hini, hy, hlen, hl, hin, hse⟩ := cw
  have hK : vx_Back l R p e below s args y 3 8 (PreOf R mc ms Pc) (PostOf Qc mc ms free) (vx_Post XC mc ms free) := vx_backW (hh := hh) (bytes := bytes) (maxL := maxL) (ret := ret) hM hp.1 hrc hrs hfr hlo hws hcw (fun a' U hW => word_at hW (Or.inl (by first | rfl | simp [Cond.onTables, Cond.keeps, Cond.steady])) hini)
  obtain ⟨hx, hb, hml, ho, -⟩ := S
  obtain ⟨-, ⟨cellB, hcB, hoB, hclB⟩, hPc⟩ := hp
  intro T hT X
  rcases vx_callVX X hx (C := C) (hh := hh) (bytes := bytes) (maxL := maxL) (ret := ret) ho hl hin hse hcode hy hK (by rw [hT]; exact hcB) hoB hclB hg (hsize.trans hml.symm) (argsL := As) (rest := rest) (fun sig h => hn.trans (hlen sig h)) hstack hW (by rw [hb]; exact hdg)
    (fun vm₁ hW₁ => ⟨hf.1, hf.2, hPc (T.setVm vm₁) hT hW₁⟩) with ⟨v, vm₁, ⟨U', l2, c2, s2⟩, hW₁, X', ⟨g', mk, t, L, e1, e2, hq, h1, hL, h2, h3⟩, st⟩ | ⟨q, vm₁, ⟨U', l2, c2, s2⟩, hW₁, X', ⟨g', mk, t, L, E, ce, e1, e2, hq, hce, hcv, hcl, h1, hL, h2, h3⟩, st⟩
  · dsimp only [Pt.U, Pt.locs, Pt.cells, Pt.slots] at X' e1 e2 h1 h2 h3 st
    subst h1; subst h2; subst h3
    exact Or.inl ⟨v, (T.setVm vm₁).calling g' mk (Value.ref b :: As).toArray, t, U', L, hT, X', hL, e1, e2, hq, st⟩
  · dsimp only [Pt.U, Pt.locs, Pt.cells, Pt.slots] at X' e1 e2 h1 h2 h3 st hcl
    subst h1; subst h2; subst h3
    exact Or.inr ⟨q, (T.setVm vm₁).calling g' mk (Value.ref b :: As).toArray, t, U', L, E, ce, hT, X', hL, e1, e2, hq, hce, hcv, vx_cls hW₁ hcl, st⟩
theorem vx_runSX {hh : List (Nat × Nat × Nat × Nat)} (S : CallFix p m c cc nL s args Ts own) (hM : vx_Met l y ws rm Pc Qc XC mc ms free) (cw : vx_CSW R s args own index y bytes maxL ret hh ws rm mc ms n) (hp : PreS s H Pc As)
    (hg : g.method = m) (hn : As.length = n) (hsize : g.locals.size = nL) (hstack : g.stack = As.reverse ++ rest) (hW : 2 * g.monitorRoom + (rest.map fun v => v.category).sum ≤ 8) (hdg : decode cc g.pc = .ok (.invokestatic index, 3)) (hf : cells + mc ≤ R.cells ∧ slots + ms ≤ R.slots) :
    vx_Run p l e R s m args below meth c H locs cells slots mc ms g rest (Qc As.toArray) XC free := by
  obtain ⟨⟨hrc, hrs, hfr, hlo, hws, hcw⟩, hcode, hini, hy, hlen, hl, hstt⟩ := cw
  have hK : vx_Back l R p e below s args y 3 8 (PreOf R mc ms Pc) (PostOf Qc mc ms free) (vx_Post XC mc ms free) := vx_backW (hh := hh) (bytes := bytes) (maxL := maxL) (ret := ret) hM hp.1 hrc hrs hfr hlo hws hcw (fun a' U hW => word_at hW (Or.inl (by first | rfl | simp [Cond.onTables, Cond.keeps, Cond.steady])) hini)
  obtain ⟨hx, hb, hml, ho, -⟩ := S
  intro T hT X
  rcases vx_callSX X hx (hh := hh) (bytes := bytes) (maxL := maxL) (ret := ret) ho hl hstt hini hcode hy hK hg (hsize.trans hml.symm) (argsL := As) (rest := rest) (fun sig h => hn.trans (hlen sig h)) hstack hW (by rw [hb]; exact hdg)
    (fun vm₁ hW₁ => ⟨hf.1, hf.2, hp.2 (T.setVm vm₁) hT hW₁⟩) with ⟨v, vm₁, ⟨U', l2, c2, s2⟩, hW₁, X', ⟨g', mk, t, L, e1, e2, hq, h1, hL, h2, h3⟩, st⟩ | ⟨q, vm₁, ⟨U', l2, c2, s2⟩, hW₁, X', ⟨g', mk, t, L, E, ce, e1, e2, hq, hce, hcv, hcl, h1, hL, h2, h3⟩, st⟩
  · dsimp only [Pt.U, Pt.locs, Pt.cells, Pt.slots] at X' e1 e2 h1 h2 h3 st
    subst h1; subst h2; subst h3
    exact Or.inl ⟨v, (T.setVm vm₁).calling g' mk As.toArray, t, U', L, hT, X', hL, e1, e2, hq, st⟩
  · dsimp only [Pt.U, Pt.locs, Pt.cells, Pt.slots] at X' e1 e2 h1 h2 h3 st hcl
    subst h1; subst h2; subst h3
    exact Or.inr ⟨q, (T.setVm vm₁).calling g' mk As.toArray, t, U', L, E, ce, hT, X', hL, e1, e2, hq, hce, hcv, vx_cls hW₁ hcl, st⟩
end
end VXH
theorem vx_ofWH {l : Launch} {y : MethodName} {ws ws' : List Cond} {rm : Room} {Pc : Array Value → State → Prop} {Qc : Array Value → State → Outcome → State → Prop} {XC : String → State → State → Prop} {mc ms : Nat} {free : Addr → Prop} {cc : ByteArray} {maxL : Nat} {ret : Option FieldType} {hh : List (Nat × Nat × Nat × Nat)}
    (hy : plainName y.cls = true) (hw : ws = Cond.codeWith y cc maxL ret hh :: ws')
    (body : ∀ p e s m args below meth c s₁, BodyLoose p l y (headSpec ws rm) cc maxL ret e s m args below meth c s₁ → c.maxLocals = maxL → Pc args s →
      W p l e (headSpec ws rm).room s m args below meth c s.heap [] 0 0 (vx_MQ below Qc XC args s mc ms free) (entryFrame m args maxL)) : vx_Met l y ws rm Pc Qc XC mc ms free := by
  refine MetFree.of_bodyS (code := cc) (maxLocals := maxL) (ret := ret) hy ?_ ?_
  · intro args s m h hn
    obtain ⟨m9, meth, c, hn9, h1, h2, h3, h4, -, h5, h6, -⟩ := Cond.codeWith_spec (atoms_spec (ws := ws) h _ (by rw [hw]; exact List.mem_cons_self))
    cases hn.symm.trans hn9
    exact ⟨meth, c, h1, h2, h3, h4, h5, h6⟩
  · intro p e s m args below meth c s₁ B hml hP _
    have hh0 : s₁.heap = s.heap := by rw [B.state]; rfl
    obtain ⟨t, a1, o, b1, b2, b3⟩ := body p e s m args below meth c s₁ B hml hP s₁ hh0 (Stand.of_body B)
    exact ⟨t, o, a1, b1, b2, b3⟩
/-! ===== END ===== -/

/-! ===== BEGIN a constructor that throws (launches without stack traces) ===== -/
section VXIA
variable {p : Program} {l : Launch} {e : Env} {R : Room} {s : State} {m : MethodId} {args : Array Value} {below : List Frame} {meth : Method} {c : Code} {T : State} {locs : List Loc} {cells slots : Nat}
theorem vx_callI (X : Stand p l e R s m args below meth c T locs cells slots) (hexec : p.tables.exec = Jvm.exec) {own : String} {index : Nat} {y : MethodName} {bytes : ByteArray} {maxL : Nat}
    (hown : s.vm.findClass own = some m.cls) (hy1 : y.name = "<init>") (hlink : (Cond.methodLink own index y).before args s = true) (hinst : (Cond.instanceMethod y).before args s = true)
    (hcode : (Cond.code y bytes maxL none).before args s = true) (hy : y.cls ≠ "java/lang/invoke/MethodHandle" ∧ y.cls ≠ "java/lang/invoke/VarHandle")
    {W9 : Nat} {Pre : Pt → Array Value → Prop} {Post : Pt → Array Value → Option Value → Pt → Prop} {PostX : Pt → Array Value → Addr → Pt → Prop} (hK : vx_Back l R p e below s args y 3 W9 Pre Post PostX)
    {g : JFrame} (hg : g.method = m) (hsize : g.locals.size = c.maxLocals) {a : Addr} {argsL rest : List Value} (hlen : ∀ sig, parseMethodDescriptor y.desc = some sig → argsL.length = sig.parameters.length)
    (hstack : g.stack = argsL.reverse ++ .ref a :: rest) (hW : 2 * g.monitorRoom + (rest.map fun v => v.category).sum ≤ W9) (hdg : decode c.code g.pc = .ok (.invokespecial index, 3))
    (hpre : ∀ vm₁, s.WarmedH vm₁ → Pre ⟨T.setVm vm₁, locs, cells, slots⟩ (Value.ref a :: argsL).toArray) :
    (∃ (v : Option Value) (vm₁ : Vm) (B : Pt), s.WarmedH vm₁ ∧ Stand p l e R s m args below meth c B.U B.locs B.cells B.slots ∧ Post ⟨T.setVm vm₁, locs, cells, slots⟩ (Value.ref a :: argsL).toArray v B ∧
      ∀ target, Steps p.tables e below (B.U.setTop { g with pc := g.pc + 3, stack := v.toList ++ rest }) target → Steps p.tables e below (T.setTop g) target) ∨
    (∃ (q : Addr) (vm₁ : Vm) (B : Pt), s.WarmedH vm₁ ∧ Stand p l e R s m args below meth c B.U B.locs B.cells B.slots ∧ PostX ⟨T.setVm vm₁, locs, cells, slots⟩ (Value.ref a :: argsL).toArray q B ∧
      Steps p.tables e below (T.setTop g) ((B.U.setTop { g with stack := rest }).pushFrame (.throwing q))) := by
  subst hg
  have hpl : e.platform.magicAccessors = ({} : Platform).magicAccessors := by rw [X.admits.platform]
  obtain ⟨mk, methM, cM, kP, vm₁, hnamed, hmethM, hcodeM, -, hlocalsM, -, hkP, -, hW₁, hstep₁⟩ := Steps.initColdArgs (e := e) X.here hexec X.warmed hpl hown hy1 hy hlink hinst hcode (f := g) rfl hlen hstack hdg
  have X₁ := X.noted hW₁
  rcases hK g.method meth c ⟨T.setVm vm₁, locs, cells, slots⟩ { g with stack := rest } (.invokespecial index) mk (Value.ref a :: argsL).toArray X₁ rfl hsize hdg hW (X₁.named hnamed) (hpre vm₁ X₁.warmed) with ⟨v, B, X', hpost, hsteps⟩ | ⟨q, B, X', hpost, hsteps⟩
  · exact Or.inl ⟨v, vm₁, B, X₁.warmed, X', hpost, fun target h => hstep₁ _ fun acts => by rw [doInvoke_state]; exact hsteps.trans h⟩
  · exact Or.inr ⟨q, vm₁, B, X₁.warmed, X', hpost, hstep₁ _ fun acts => by rw [doInvoke_state]; exact hsteps⟩
end VXIA
section VXIB
variable {p : Program} {l : Launch} {e : Env} {R : Room} {s : State} {m : MethodId} {args : Array Value} {below : List Frame} {meth : Method} {c : Code} {H : Heap} {locs : List Loc} {cells slots : Nat}
variable {y : MethodName} {bytes cc : ByteArray} {maxL nL mc ms n index : Nat} {ret : Option FieldType} {ws : List Cond} {rm : Room} {Pc : Array Value → State → Prop} {Qc : Array Value → State → Outcome → State → Prop} {XC : String → State → State → Prop} {free : Addr → Prop} {Ts : List Cond} {own C : String} {b : Addr} {As rest : List Value} {g : JFrame}
theorem vx_runI (S : CallFix p m c cc nL s args Ts own) (hM : vx_Met l y ws rm Pc Qc XC mc ms free) (cw : CallB R s args own index y bytes maxL none ws rm mc ms n ∧ y.name = "<init>" ∧ (Cond.instanceMethod y).before args s = true) (hp : PreS s H Pc (.ref b :: As))
    (hg : g.method = m) (hn : As.length = n) (hsize : g.locals.size = nL) (hstack : g.stack = As.reverse ++ .ref b :: rest) (hW : 2 * g.monitorRoom + (rest.map fun v => v.category).sum ≤ 8) (hdg : decode cc g.pc = .ok (.invokespecial index, 3)) (hf : cells + mc ≤ R.cells ∧ slots + ms ≤ R.slots) :
    vx_Run p l e R s m args below meth c H locs cells slots mc ms g rest (Qc (Value.ref b :: As).toArray) XC free := by
  have hK : vx_Back l R p e below s args y 3 8 (PreOf R mc ms Pc) (PostOf Qc mc ms free) (vx_Post XC mc ms free) := vx_callBack cw.1 hM hp.1
  obtain ⟨⟨-, -, -, -, -, -, hcode, -, hy, hlen, hl⟩, hy1, hin⟩ := cw
  obtain ⟨hx, hb, hml, ho, -⟩ := S
  have hPc := hp.2
  intro T hT X
  rcases vx_callI X hx (bytes := bytes) (maxL := maxL) ho hy1 hl hin hcode hy hK hg (hsize.trans hml.symm) (a := b) (argsL := As) (rest := rest) (fun sig h => hn.trans (hlen sig h)) hstack hW (by rw [hb]; exact hdg)
    (fun vm₁ hW₁ => ⟨hf.1, hf.2, hPc (T.setVm vm₁) hT hW₁⟩) with ⟨v, vm₁, ⟨U', l2, c2, s2⟩, hW₁, X', ⟨g', mk, t, L, e1, e2, hq, h1, hL, h2, h3⟩, st⟩ | ⟨q, vm₁, ⟨U', l2, c2, s2⟩, hW₁, X', ⟨g', mk, t, L, E, ce, e1, e2, hq, hce, hcv, hcl, h1, hL, h2, h3⟩, st⟩
  · dsimp only [Pt.U, Pt.locs, Pt.cells, Pt.slots] at X' e1 e2 h1 h2 h3 st
    subst h1; subst h2; subst h3
    exact Or.inl ⟨v, (T.setVm vm₁).calling g' mk (Value.ref b :: As).toArray, t, U', L, hT, X', hL, e1, e2, hq, st⟩
  · dsimp only [Pt.U, Pt.locs, Pt.cells, Pt.slots] at X' e1 e2 h1 h2 h3 st hcl
    subst h1; subst h2; subst h3
    exact Or.inr ⟨q, (T.setVm vm₁).calling g' mk (Value.ref b :: As).toArray, t, U', L, E, ce, hT, X', hL, e1, e2, hq, hce, hcv, vx_cls hW₁ hcl, st⟩
end VXIB
/-! ===== END ===== -/
/-! ===== BEGIN a private constructor of a nest mate that throws ===== -/
section VXIC
variable {p : Program} {l : Launch} {e : Env} {R : Room} {s : State} {m : MethodId} {args : Array Value} {below : List Frame} {meth : Method} {c : Code} {T : State} {locs : List Loc} {cells slots : Nat}
theorem vx_callIN (X : Stand p l e R s m args below meth c T locs cells slots) (hexec : p.tables.exec = Jvm.exec) {own : String} {index : Nat} {host : String} {y : MethodName} {bytes : ByteArray} {maxL : Nat}
    (hown : s.vm.findClass own = some m.cls) (hy1 : y.name = "<init>") (hlink : (Cond.methodLinkNest own index y host).before args s = true) (hinst : (Cond.instanceMethod y).before args s = true)
    (hcode : (Cond.code y bytes maxL none).before args s = true) (hy : y.cls ≠ "java/lang/invoke/MethodHandle" ∧ y.cls ≠ "java/lang/invoke/VarHandle")
    {W9 : Nat} {Pre : Pt → Array Value → Prop} {Post : Pt → Array Value → Option Value → Pt → Prop} {PostX : Pt → Array Value → Addr → Pt → Prop} (hK : vx_Back l R p e below s args y 3 W9 Pre Post PostX)
    {g : JFrame} (hg : g.method = m) (hsize : g.locals.size = c.maxLocals) {a : Addr} {argsL rest : List Value} (hlen : ∀ sig, parseMethodDescriptor y.desc = some sig → argsL.length = sig.parameters.length)
    (hstack : g.stack = argsL.reverse ++ .ref a :: rest) (hW : 2 * g.monitorRoom + (rest.map fun v => v.category).sum ≤ W9) (hdg : decode c.code g.pc = .ok (.invokespecial index, 3))
    (hpre : ∀ vm₁, s.WarmedH vm₁ → Pre ⟨T.setVm vm₁, locs, cells, slots⟩ (Value.ref a :: argsL).toArray) :
    (∃ (v : Option Value) (vm₁ : Vm) (B : Pt), s.WarmedH vm₁ ∧ Stand p l e R s m args below meth c B.U B.locs B.cells B.slots ∧ Post ⟨T.setVm vm₁, locs, cells, slots⟩ (Value.ref a :: argsL).toArray v B ∧
      ∀ target, Steps p.tables e below (B.U.setTop { g with pc := g.pc + 3, stack := v.toList ++ rest }) target → Steps p.tables e below (T.setTop g) target) ∨
    (∃ (q : Addr) (vm₁ : Vm) (B : Pt), s.WarmedH vm₁ ∧ Stand p l e R s m args below meth c B.U B.locs B.cells B.slots ∧ PostX ⟨T.setVm vm₁, locs, cells, slots⟩ (Value.ref a :: argsL).toArray q B ∧
      Steps p.tables e below (T.setTop g) ((B.U.setTop { g with stack := rest }).pushFrame (.throwing q))) := by
  subst hg
  have hpl : e.platform.magicAccessors = ({} : Platform).magicAccessors := by rw [X.admits.platform]
  obtain ⟨mk, methM, cM, kP, vm₁, hnamed, hmethM, hcodeM, -, hlocalsM, -, hkP, -, hW₁, hstep₁⟩ := Steps.initColdArgsNest (e := e) X.here hexec X.warmed hpl hown hy1 hy hlink hinst hcode (f := g) rfl hlen hstack hdg
  have X₁ := X.noted hW₁
  rcases hK g.method meth c ⟨T.setVm vm₁, locs, cells, slots⟩ { g with stack := rest } (.invokespecial index) mk (Value.ref a :: argsL).toArray X₁ rfl hsize hdg hW (X₁.named hnamed) (hpre vm₁ X₁.warmed) with ⟨v, B, X', hpost, hsteps⟩ | ⟨q, B, X', hpost, hsteps⟩
  · exact Or.inl ⟨v, vm₁, B, X₁.warmed, X', hpost, fun target h => hstep₁ _ fun acts => by rw [doInvoke_state]; exact hsteps.trans h⟩
  · exact Or.inr ⟨q, vm₁, B, X₁.warmed, X', hpost, hstep₁ _ fun acts => by rw [doInvoke_state]; exact hsteps⟩
end VXIC
section VXID
variable {p : Program} {l : Launch} {e : Env} {R : Room} {s : State} {m : MethodId} {args : Array Value} {below : List Frame} {meth : Method} {c : Code} {H : Heap} {locs : List Loc} {cells slots : Nat}
theorem vx_runIN {y : MethodName} {bytes cc : ByteArray} {maxL nL mc ms n index : Nat} {ws : List Cond} {rm : Room} {Pc : Array Value → State → Prop} {Qc : Array Value → State → Outcome → State → Prop} {XC : String → State → State → Prop} {free : Addr → Prop} {Ts : List Cond} {own host : String} {b : Addr} {As rest : List Value} {g : JFrame}
    (S : CallFix p m c cc nL s args Ts own) (hM : vx_Met l y ws rm Pc Qc XC mc ms free) (cw : va_CN R s args own index y host bytes maxL none ws rm mc ms n ∧ y.name = "<init>" ∧ (Cond.instanceMethod y).before args s = true) (hp : PreS s H Pc (.ref b :: As))
    (hg : g.method = m) (hn : As.length = n) (hsize : g.locals.size = nL) (hstack : g.stack = As.reverse ++ .ref b :: rest) (hW : 2 * g.monitorRoom + (rest.map fun v => v.category).sum ≤ 8) (hdg : decode cc g.pc = .ok (.invokespecial index, 3)) (hf : cells + mc ≤ R.cells ∧ slots + ms ≤ R.slots) :
    vx_Run p l e R s m args below meth c H locs cells slots mc ms g rest (Qc (Value.ref b :: As).toArray) XC free := by
  obtain ⟨⟨⟨hrc, hrs, hfr, hlo, hws, hcw⟩, hcode, hini, hy, hlen, hl⟩, hx1, hx2⟩ := cw
  have hK : vx_Back l R p e below s args y 3 8 (PreOf R mc ms Pc) (PostOf Qc mc ms free) (vx_Post XC mc ms free) := vx_back (bytes := bytes) (maxL := maxL) (ret := none) hM hp.1 hrc hrs hfr hlo hws hcw (fun a' U hW => word_at hW (Or.inl (by first | rfl | simp [Cond.onTables, Cond.keeps, Cond.steady])) hini)
  obtain ⟨hx, hb, hml, ho, -⟩ := S
  have hPc := hp.2
  intro T hT X
  rcases vx_callIN X hx (bytes := bytes) (maxL := maxL) ho hx1 hl hx2 hcode hy hK hg (hsize.trans hml.symm) (a := b) (argsL := As) (rest := rest) (fun sig h => hn.trans (hlen sig h)) hstack hW (by rw [hb]; exact hdg)
    (fun vm₁ hW₁ => ⟨hf.1, hf.2, hPc (T.setVm vm₁) hT hW₁⟩) with ⟨v, vm₁, ⟨U', l2, c2, s2⟩, hW₁, X', ⟨g', mk, t, L, e1, e2, hq, h1, hL, h2, h3⟩, st⟩ | ⟨q, vm₁, ⟨U', l2, c2, s2⟩, hW₁, X', ⟨g', mk, t, L, E, ce, e1, e2, hq, hce, hcv, hcl, h1, hL, h2, h3⟩, st⟩
  · dsimp only [Pt.U, Pt.locs, Pt.cells, Pt.slots] at X' e1 e2 h1 h2 h3 st
    subst h1; subst h2; subst h3
    exact Or.inl ⟨v, (T.setVm vm₁).calling g' mk (Value.ref b :: As).toArray, t, U', L, hT, X', hL, e1, e2, hq, st⟩
  · dsimp only [Pt.U, Pt.locs, Pt.cells, Pt.slots] at X' e1 e2 h1 h2 h3 st hcl
    subst h1; subst h2; subst h3
    exact Or.inr ⟨q, (T.setVm vm₁).calling g' mk (Value.ref b :: As).toArray, t, U', L, E, ce, hT, X', hL, e1, e2, hq, hce, hcv, vx_cls hW₁ hcl, st⟩
end VXID
/-! ===== END ===== -/
section
variable {l : Launch}
theorem vx_ofWF {y : MethodName} {ws ws' : List Cond} {rm : Room} {Pc : Array Value → State → Prop} {Qc : Array Value → State → Outcome → State → Prop} {XC : String → State → State → Prop} {mc ms : Nat} {free : Addr → Prop} {cc : ByteArray} {maxL : Nat} {ret : Option FieldType}
    (hy : plainFor y = true) (hw : ws = Cond.code y cc maxL ret :: ws')
    (body : ∀ p e s m args below meth c s₁, BodyLoose p l y (headSpec ws rm) cc maxL ret e s m args below meth c s₁ → c.maxLocals = maxL → (∀ x ∈ c.exceptionTable.toList, False) → Pc args s →
      W p l e (headSpec ws rm).room s m args below meth c s.heap [] 0 0 (vx_MQ below Qc XC args s mc ms free) (entryFrame m args maxL)) : vx_Met l y ws rm Pc Qc XC mc ms free := by
  refine MetFree.of_bodySF (code := cc) (maxLocals := maxL) (ret := ret) hy ?_ ?_
  · intro args s m h hn
    obtain ⟨meth, c, h1, h2, h3, h4, h5, h6, -, -⟩ := Cond.code_spec hn (atoms_spec (ws := ws) h _ (by rw [hw]; exact List.mem_cons_self))
    exact ⟨meth, c, h1, h2, h3, h4, h5, h6⟩
  · intro p e s m args below meth c s₁ B hml hP _
    have hh0 : s₁.heap = s.heap := by rw [B.state]; rfl
    have ht : ∀ x ∈ c.exceptionTable.toList, False := by
      obtain ⟨meth9, c9, h1, h2, -, -, -, -, h7, -⟩ := Cond.code_spec B.named (atoms_spec (ws := ws) B.pre _ (by rw [hw]; exact List.mem_cons_self))
      cases Option.some.inj (h1.symm.trans B.method)
      cases Option.some.inj (h2.symm.trans (Stand.of_body B).code)
      intro x hx
      rw [Array.isEmpty_iff.mp h7] at hx
      cases hx
    obtain ⟨t, a1, o, b1, b2, b3⟩ := body p e s m args below meth c s₁ B hml ht hP s₁ hh0 (Stand.of_body B)
    exact ⟨t, o, a1, b1, b2, b3⟩
end
/-- words that stay true as the machine warms up -/
def zg_nest : Cond → Bool
  | .fieldLinkNest .. => true
  | .methodLinkNest .. => true
  | _ => false
def zg_arr : Cond → Bool
  | .arrayOver _ => true
  | _ => false
def zg_good (w : Cond) : Bool := goodWord w || ((w.onTables && (w.keepsFace || zg_nest w)) || zg_arr w)
theorem zg_aov {ty : FieldType} {args a' : Array Value} {s U : State} (hvm : s.vm.Alike U.vm) (h : (Cond.arrayOver ty).before args s = true) : (Cond.arrayOver ty).before a' U = true := by
  have hf : ∀ nm : String, U.vm.findClass nm = s.vm.findClass nm := fun nm => by rw [hvm.findClass]
  have h1 : ∀ comp : ClassId, (U.vm.classes.findIdx? fun (x : Class) => match x.kind with | .array component _ => component == comp | _ => false) = (s.vm.classes.findIdx? fun (x : Class) => match x.kind with | .array component _ => component == comp | _ => false) := fun comp =>
    (va_idx_bare U.vm comp).symm.trans ((congrArg (fun (vm : Vm) => (vm.classes.findIdx? fun (x : Class) => match x.kind with | .array component _ => component == comp | _ => false)) hvm.bare_eq).trans (va_idx_bare s.vm comp))
  have h2 : ∀ (vm : Vm) (c : Nat) (g : Kind → Bool), (vm.classes[c]?).map (fun (k : Class) => g k.kind) = (vm.bare.classes[c]?).map (fun (k : Class) => g k.kind) := fun vm c g => by
    simp only [Vm.bare, Array.getElem?_map, Option.map_map]
    rfl
  have h3 : ∀ (c : Nat) (g : Kind → Bool), (U.vm.classes[c]?).map (fun (k : Class) => g k.kind) = (s.vm.classes[c]?).map (fun (k : Class) => g k.kind) := fun c g => by
    rw [h2 U.vm, h2 s.vm, hvm.bare_eq]
  have hbd : ∀ {α β : Type} {o o' : Option α} {f f' : α → Option β}, o = o' → f = f' → o.bind f = o'.bind f' := fun h h' => by rw [h, h']
  unfold Cond.before Cond.holds at h ⊢
  have e : (Cond.arrayOver ty).value a' U none U [] = (Cond.arrayOver ty).value args s none s [] := by
    simp only [Cond.value, hf]
    refine congrArg _ (funext fun comp => ?_)
    refine hbd (h1 comp) (funext fun c => ?_)
    exact h3 c (fun kk => match kk with | .array _ ty9 => decide (ty9 = ty) && decide (s.vm.findClass ("[" ++ ty.toString) = some c) | _ => false)
  rw [e]
  exact h
theorem zg_warm {w : Cond} (hg : zg_good w = true) {args a' : Array Value} {s U : State} (hW : s.WarmedH U.vm) (h : w.before args s = true) : w.before a' U = true := by
  simp only [zg_good, Bool.or_eq_true, Bool.and_eq_true] at hg
  rcases hg with hg | ⟨ht, hg⟩ | hg
  · exact word_at hW (good_of_word hg) h
  · have key : w.before args (s.setVm U.vm) = true → w.before a' U = true := fun h1 => va_tabs (u := s.setVm U.vm) ht rfl h1
    rcases hg with hg | hg
    · exact key (Cond.before_shiftedFace (State.Shifted.of_warmed hW) _ hg h)
    · cases w <;> first | (simp [zg_nest] at hg; done) | exact key (Cond.fieldLinkNest_warmed hW h) | exact key (Cond.methodLinkNest_warmed hW h)
  · cases w <;> first | (simp [zg_arr] at hg; done) | exact zg_aov hW.alike h
def lw_g : List Cond := lw_tbl.filter zg_good
theorem lw_g_of {w : Cond} (h : w ∈ lw_tbl) (hg : zg_good w = true) : w ∈ lw_g := List.mem_filter.mpr ⟨h, hg⟩
theorem lw_g_in {w : Cond} (h : w ∈ lw_g) : w ∈ lw_tbl := (List.mem_filter.mp h).1
theorem lw_g_ok {w : Cond} (h : w ∈ lw_g) : zg_good w = true := (List.mem_filter.mp h).2
end
section
def RX0 : String := "ShoeHouse$CardTable"
def TX0 : u_T := fun k => match k with
  | 0 => ("ShoeHouse$CardTable", "shoe", "LShoeHouse$Shoe;", true)
  | 1 => ("ShoeHouse$CardTable", "tray", "LShoeHouse$Tray;", true)
  | 2 => ("ShoeHouse$CardTable", "seats", "[LShoeHouse$Seat;", true)
  | 3 => ("ShoeHouse$CardTable", "dealer", "LShoeHouse$Hand;", true)
  | 4 => ("ShoeHouse$CardTable", "isOn", "Z", false)
  | 5 => ("ShoeHouse$CardTable", "doublesSplits", "Z", false)
  | 6 => ("ShoeHouse$CardTable", "surrenders", "Z", false)
  | 7 => ("ShoeHouse$CardTable", "drawsAtSoft", "Z", false)
  | 8 => ("ShoeHouse$CardTable", "paysLess", "Z", false)
  | _ => ("ShoeHouse$CardTable", "brokenTenths", "I", false)
def tyX0 : Nat → FieldType := fun k => match k with
  | 0 => .object "ShoeHouse$Shoe"
  | 1 => .object "ShoeHouse$Tray"
  | 2 => .array (.object "ShoeHouse$Seat")
  | 3 => .object "ShoeHouse$Hand"
  | 4 => .boolean
  | 5 => .boolean
  | 6 => .boolean
  | 7 => .boolean
  | 8 => .boolean
  | _ => .int
theorem nmX0 : ∀ a, a < 10 → ∀ b, b < 10 → a ≠ b → (TX0 a).2.1 ≠ (TX0 b).2.1 := by decide +kernel
theorem tyX0_ok : ∀ k, k < 10 → parseFieldDescriptor (TX0 k).2.2.1 = some (tyX0 k) := by decide +kernel
abbrev cX0_init : ByteArray := prog_2_method_1_code
def yX0_init : MethodName := ⟨RX0, "<init>", "(LShoeHouse$Shoe;LShoeHouse$Tray;)V"⟩
abbrev cX0_tellRule : ByteArray := prog_2_method_2_code
def yX0_tellRule : MethodName := ⟨RX0, "tellRule", "(CZ)Z"⟩
abbrev cX0_hasStakes : ByteArray := prog_2_method_3_code
def yX0_hasStakes : MethodName := ⟨RX0, "hasStakes", "()Z"⟩
abbrev cX0_stakesOf : ByteArray := prog_2_method_4_code
def yX0_stakesOf : MethodName := ⟨RX0, "stakesOf", "(LShoeHouse$Guest;)I"⟩
abbrev cX0_takeAway : ByteArray := prog_2_method_5_code
def yX0_takeAway : MethodName := ⟨RX0, "takeAway", "(LShoeHouse$Guest;)I"⟩
abbrev cX0_forgetCards : ByteArray := prog_2_method_6_code
def yX0_forgetCards : MethodName := ⟨RX0, "forgetCards", "()V"⟩
abbrev cX0_seatInTurn : ByteArray := prog_2_method_7_code
def yX0_seatInTurn : MethodName := ⟨RX0, "seatInTurn", "()I"⟩
abbrev cX0_dealRound : ByteArray := prog_2_method_8_code
def yX0_dealRound : MethodName := ⟨RX0, "dealRound", "()I"⟩
abbrev cX0_dealToSeats : ByteArray := prog_2_method_9_code
def yX0_dealToSeats : MethodName := ⟨RX0, "dealToSeats", "()V"⟩
abbrev cX0_giveCard : ByteArray := prog_2_method_10_code
def yX0_giveCard : MethodName := ⟨RX0, "giveCard", "(LShoeHouse$Hand;)I"⟩
abbrev cX0_giveUp : ByteArray := prog_2_method_11_code
def yX0_giveUp : MethodName := ⟨RX0, "giveUp", "(LShoeHouse$Seat;LShoeHouse$Hand;)I"⟩
abbrev cX0_finishIfNobodyPlays : ByteArray := prog_2_method_12_code
def yX0_finishIfNobodyPlays : MethodName := ⟨RX0, "finishIfNobodyPlays", "()V"⟩
abbrev cX0_drawForDealer : ByteArray := prog_2_method_13_code
def yX0_drawForDealer : MethodName := ⟨RX0, "drawForDealer", "()V"⟩
abbrev cX0_drawsAgain : ByteArray := prog_2_method_14_code
def yX0_drawsAgain : MethodName := ⟨RX0, "drawsAgain", "()Z"⟩
abbrev cX0_settle : ByteArray := prog_2_method_15_code
def yX0_settle : MethodName := ⟨RX0, "settle", "(LShoeHouse$Seat;LShoeHouse$Hand;)V"⟩
abbrev cX0_gainOf : ByteArray := prog_2_method_16_code
def yX0_gainOf : MethodName := ⟨RX0, "gainOf", "(LShoeHouse$Seat;LShoeHouse$Hand;)I"⟩
abbrev cX0_payForNatural : ByteArray := prog_2_method_17_code
def yX0_payForNatural : MethodName := ⟨RX0, "payForNatural", "(I)I"⟩
def RX1 : String := "ShoeHouse$DealerOdds"
def TX1 : u_T := fun k => match k with
  | 0 => ("ShoeHouse$DealerOdds", "left", "[I", true)
  | 1 => ("ShoeHouse$DealerOdds", "end", "I", false)
  | _ => ("ShoeHouse$DealerOdds", "drawsAtSoft", "Z", false)
def tyX1 : Nat → FieldType := fun k => match k with
  | 0 => .array .int
  | 1 => .int
  | _ => .boolean
theorem nmX1 : ∀ a, a < 3 → ∀ b, b < 3 → a ≠ b → (TX1 a).2.1 ≠ (TX1 b).2.1 := by decide +kernel
theorem tyX1_ok : ∀ k, k < 3 → parseFieldDescriptor (TX1 k).2.2.1 = some (tyX1 k) := by decide +kernel
abbrev cX1_init : ByteArray := prog_3_method_1_code
def yX1_init : MethodName := ⟨RX1, "<init>", "()V"⟩
abbrev cX1_chanceOf : ByteArray := prog_3_method_2_code
def yX1_chanceOf : MethodName := ⟨RX1, "chanceOf", "(ILShoeHouse$CardTable;)D"⟩
abbrev cX1_chanceFrom : ByteArray := prog_3_method_3_code
def yX1_chanceFrom : MethodName := ⟨RX1, "chanceFrom", "(LShoeHouse$DealerOdds;IZII)D"⟩
def RX2 : String := "ShoeHouse$Guest"
def TX2 : u_T := fun k => match k with
  | 0 => ("ShoeHouse$Guest", "prizes", "[I", true)
  | 1 => ("ShoeHouse$Guest", "money", "I", false)
  | 2 => ("ShoeHouse$Guest", "chips", "I", false)
  | 3 => ("ShoeHouse$Guest", "limit", "I", false)
  | 4 => ("ShoeHouse$Guest", "limitTomorrow", "I", false)
  | 5 => ("ShoeHouse$Guest", "staked", "I", false)
  | 6 => ("ShoeHouse$Guest", "barredUntil", "I", false)
  | 7 => ("ShoeHouse$Guest", "brought", "I", false)
  | 8 => ("ShoeHouse$Guest", "reports", "I", false)
  | 9 => ("ShoeHouse$Guest", "highBets", "I", false)
  | 10 => ("ShoeHouse$Guest", "highChips", "I", false)
  | 11 => ("ShoeHouse$Guest", "otherBets", "I", false)
  | _ => ("ShoeHouse$Guest", "otherChips", "I", false)
def tyX2 : Nat → FieldType := fun k => match k with
  | 0 => .array .int
  | 1 => .int
  | 2 => .int
  | 3 => .int
  | 4 => .int
  | 5 => .int
  | 6 => .int
  | 7 => .int
  | 8 => .int
  | 9 => .int
  | 10 => .int
  | 11 => .int
  | _ => .int
theorem nmX2 : ∀ a, a < 13 → ∀ b, b < 13 → a ≠ b → (TX2 a).2.1 ≠ (TX2 b).2.1 := by decide +kernel
theorem tyX2_ok : ∀ k, k < 13 → parseFieldDescriptor (TX2 k).2.2.1 = some (tyX2 k) := by decide +kernel
abbrev cX2_init : ByteArray := prog_4_method_1_code
def yX2_init : MethodName := ⟨RX2, "<init>", "()V"⟩
abbrev cX2_isBarredOn : ByteArray := prog_4_method_2_code
def yX2_isBarredOn : MethodName := ⟨RX2, "isBarredOn", "(I)Z"⟩
abbrev cX2_mayStake : ByteArray := prog_4_method_3_code
def yX2_mayStake : MethodName := ⟨RX2, "mayStake", "(II)Z"⟩
abbrev cX2_putStake : ByteArray := prog_4_method_4_code
def yX2_putStake : MethodName := ⟨RX2, "putStake", "(I)V"⟩
abbrev cX2_bringMoney : ByteArray := prog_4_method_5_code
def yX2_bringMoney : MethodName := ⟨RX2, "bringMoney", "(I)V"⟩
abbrev cX2_tellLimit : ByteArray := prog_4_method_6_code
def yX2_tellLimit : MethodName := ⟨RX2, "tellLimit", "(I)V"⟩
abbrev cX2_beginDay : ByteArray := prog_4_method_7_code
def yX2_beginDay : MethodName := ⟨RX2, "beginDay", "()V"⟩
abbrev cX2_noteBet : ByteArray := prog_4_method_8_code
def yX2_noteBet : MethodName := ⟨RX2, "noteBet", "(IZ)V"⟩
abbrev cX2_isBettingByCount : ByteArray := prog_4_method_9_code
def yX2_isBettingByCount : MethodName := ⟨RX2, "isBettingByCount", "()Z"⟩
abbrev cX2_addPrize : ByteArray := prog_4_method_10_code
def yX2_addPrize : MethodName := ⟨RX2, "addPrize", "(II)V"⟩
abbrev cX2_dropPrizesOf : ByteArray := prog_4_method_11_code
def yX2_dropPrizesOf : MethodName := ⟨RX2, "dropPrizesOf", "(I)I"⟩
abbrev cX2_allPrizes : ByteArray := prog_4_method_12_code
def yX2_allPrizes : MethodName := ⟨RX2, "allPrizes", "()I"⟩
abbrev cX2_dropAllPrizes : ByteArray := prog_4_method_13_code
def yX2_dropAllPrizes : MethodName := ⟨RX2, "dropAllPrizes", "()V"⟩
def RX3 : String := "ShoeHouse$Hand"
def TX3 : u_T := fun k => match k with
  | 0 => ("ShoeHouse$Hand", "cards", "[I", true)
  | 1 => ("ShoeHouse$Hand", "size", "I", false)
  | 2 => ("ShoeHouse$Hand", "sum", "I", false)
  | 3 => ("ShoeHouse$Hand", "hasAce", "Z", false)
  | 4 => ("ShoeHouse$Hand", "stake", "I", false)
  | 5 => ("ShoeHouse$Hand", "isPlaying", "Z", false)
  | _ => ("ShoeHouse$Hand", "isSettled", "Z", false)
def tyX3 : Nat → FieldType := fun k => match k with
  | 0 => .array .int
  | 1 => .int
  | 2 => .int
  | 3 => .boolean
  | 4 => .int
  | 5 => .boolean
  | _ => .boolean
theorem nmX3 : ∀ a, a < 7 → ∀ b, b < 7 → a ≠ b → (TX3 a).2.1 ≠ (TX3 b).2.1 := by decide +kernel
theorem tyX3_ok : ∀ k, k < 7 → parseFieldDescriptor (TX3 k).2.2.1 = some (tyX3 k) := by decide +kernel
abbrev cX3_init : ByteArray := prog_5_method_1_code
def yX3_init : MethodName := ⟨RX3, "<init>", "()V"⟩
abbrev cX3_add : ByteArray := prog_5_method_2_code
def yX3_add : MethodName := ⟨RX3, "add", "(I)V"⟩
abbrev cX3_forgetCards : ByteArray := prog_5_method_3_code
def yX3_forgetCards : MethodName := ⟨RX3, "forgetCards", "()V"⟩
abbrev cX3_rankAt : ByteArray := prog_5_method_4_code
def yX3_rankAt : MethodName := ⟨RX3, "rankAt", "(I)I"⟩
abbrev cX3_value : ByteArray := prog_5_method_5_code
def yX3_value : MethodName := ⟨RX3, "value", "()I"⟩
abbrev cX3_isSoft : ByteArray := prog_5_method_6_code
def yX3_isSoft : MethodName := ⟨RX3, "isSoft", "()Z"⟩
abbrev cX3_isPair : ByteArray := prog_5_method_7_code
def yX3_isPair : MethodName := ⟨RX3, "isPair", "()Z"⟩
abbrev cX3_isNatural : ByteArray := prog_5_method_8_code
def yX3_isNatural : MethodName := ⟨RX3, "isNatural", "()Z"⟩
abbrev cX3_settle : ByteArray := prog_5_method_9_code
def yX3_settle : MethodName := ⟨RX3, "settle", "()I"⟩
abbrev cX3_takeBack : ByteArray := prog_5_method_10_code
def yX3_takeBack : MethodName := ⟨RX3, "takeBack", "(Z)I"⟩
def RX4 : String := "ShoeHouse$Lottery"
def TX4 : u_T := fun k => match k with
  | 0 => ("ShoeHouse$Lottery", "buyers", "[LShoeHouse$Guest;", true)
  | 1 => ("ShoeHouse$Lottery", "sets", "[I", true)
  | 2 => ("ShoeHouse$Lottery", "sold", "I", false)
  | 3 => ("ShoeHouse$Lottery", "drawn", "I", false)
  | _ => ("ShoeHouse$Lottery", "pool", "I", false)
def tyX4 : Nat → FieldType := fun k => match k with
  | 0 => .array (.object "ShoeHouse$Guest")
  | 1 => .array .int
  | 2 => .int
  | 3 => .int
  | _ => .int
theorem nmX4 : ∀ a, a < 5 → ∀ b, b < 5 → a ≠ b → (TX4 a).2.1 ≠ (TX4 b).2.1 := by decide +kernel
theorem tyX4_ok : ∀ k, k < 5 → parseFieldDescriptor (TX4 k).2.2.1 = some (tyX4 k) := by decide +kernel
abbrev cX4_init : ByteArray := prog_6_method_1_code
def yX4_init : MethodName := ⟨RX4, "<init>", "()V"⟩
abbrev cX4_setOf : ByteArray := prog_6_method_2_code
def yX4_setOf : MethodName := ⟨RX4, "setOf", "(I)I"⟩
abbrev cX4_isSoldOut : ByteArray := prog_6_method_3_code
def yX4_isSoldOut : MethodName := ⟨RX4, "isSoldOut", "()Z"⟩
abbrev cX4_isDrawn : ByteArray := prog_6_method_4_code
def yX4_isDrawn : MethodName := ⟨RX4, "isDrawn", "()Z"⟩
abbrev cX4_sell : ByteArray := prog_6_method_5_code
def yX4_sell : MethodName := ⟨RX4, "sell", "(LShoeHouse$Guest;I)V"⟩
abbrev cX4_rightNumbers : ByteArray := prog_6_method_6_code
def yX4_rightNumbers : MethodName := ⟨RX4, "rightNumbers", "(I)I"⟩
abbrev cX4_ticketsWithRight : ByteArray := prog_6_method_7_code
def yX4_ticketsWithRight : MethodName := ⟨RX4, "ticketsWithRight", "(I)I"⟩
abbrev cX4_giveOut : ByteArray := prog_6_method_8_code
def yX4_giveOut : MethodName := ⟨RX4, "giveOut", "(I)I"⟩
abbrev cX4_giveTier : ByteArray := prog_6_method_9_code
def yX4_giveTier : MethodName := ⟨RX4, "giveTier", "(III)I"⟩
abbrev cX4_takeAway : ByteArray := prog_6_method_10_code
def yX4_takeAway : MethodName := ⟨RX4, "takeAway", "(LShoeHouse$Guest;)V"⟩
def RX5 : String := "ShoeHouse$Machine"
def TX5 : u_T := fun k => match k with
  | 0 => ("ShoeHouse$Machine", "tray", "LShoeHouse$Tray;", true)
  | 1 => ("ShoeHouse$Machine", "symbols", "[I", true)
  | 2 => ("ShoeHouse$Machine", "times", "[I", true)
  | 3 => ("ShoeHouse$Machine", "pot", "I", false)
  | 4 => ("ShoeHouse$Machine", "bound", "I", false)
  | 5 => ("ShoeHouse$Machine", "player", "LShoeHouse$Guest;", false)
  | 6 => ("ShoeHouse$Machine", "stake", "I", false)
  | 7 => ("ShoeHouse$Machine", "isTilted", "Z", false)
  | _ => ("ShoeHouse$Machine", "hasPot", "Z", false)
def tyX5 : Nat → FieldType := fun k => match k with
  | 0 => .object "ShoeHouse$Tray"
  | 1 => .array .int
  | 2 => .array .int
  | 3 => .int
  | 4 => .int
  | 5 => .object "ShoeHouse$Guest"
  | 6 => .int
  | 7 => .boolean
  | _ => .boolean
theorem nmX5 : ∀ a, a < 9 → ∀ b, b < 9 → a ≠ b → (TX5 a).2.1 ≠ (TX5 b).2.1 := by decide +kernel
theorem tyX5_ok : ∀ k, k < 9 → parseFieldDescriptor (TX5 k).2.2.1 = some (tyX5 k) := by decide +kernel
abbrev cX5_init : ByteArray := prog_7_method_1_code
def yX5_init : MethodName := ⟨RX5, "<init>", "(LShoeHouse$Tray;)V"⟩
abbrev cX5_areSymbols : ByteArray := prog_7_method_2_code
def yX5_areSymbols : MethodName := ⟨RX5, "areSymbols", "(I)Z"⟩
abbrev cX5_areStops : ByteArray := prog_7_method_3_code
def yX5_areStops : MethodName := ⟨RX5, "areStops", "(I)Z"⟩
abbrev cX5_areDigits : ByteArray := prog_7_method_4_code
def yX5_areDigits : MethodName := ⟨RX5, "areDigits", "(III)Z"⟩
abbrev cX5_isSpinning : ByteArray := prog_7_method_5_code
def yX5_isSpinning : MethodName := ⟨RX5, "isSpinning", "()Z"⟩
abbrev cX5_stakeOf : ByteArray := prog_7_method_6_code
def yX5_stakeOf : MethodName := ⟨RX5, "stakeOf", "(LShoeHouse$Guest;)I"⟩
abbrev cX5_symbolAt : ByteArray := prog_7_method_7_code
def yX5_symbolAt : MethodName := ⟨RX5, "symbolAt", "(II)I"⟩
abbrev cX5_timesOf : ByteArray := prog_7_method_8_code
def yX5_timesOf : MethodName := ⟨RX5, "timesOf", "(I)I"⟩
abbrev cX5_tellSymbols : ByteArray := prog_7_method_9_code
def yX5_tellSymbols : MethodName := ⟨RX5, "tellSymbols", "(II)I"⟩
abbrev cX5_tellTimes : ByteArray := prog_7_method_10_code
def yX5_tellTimes : MethodName := ⟨RX5, "tellTimes", "(II)I"⟩
abbrev cX5_begin : ByteArray := prog_7_method_11_code
def yX5_begin : MethodName := ⟨RX5, "begin", "(LShoeHouse$Guest;I)V"⟩
abbrev cX5_settleAt : ByteArray := prog_7_method_12_code
def yX5_settleAt : MethodName := ⟨RX5, "settleAt", "(I)I"⟩
abbrev cX5_takeAway : ByteArray := prog_7_method_13_code
def yX5_takeAway : MethodName := ⟨RX5, "takeAway", "(LShoeHouse$Guest;)I"⟩
abbrev cX5_paidByAllStops : ByteArray := prog_7_method_14_code
def yX5_paidByAllStops : MethodName := ⟨RX5, "paidByAllStops", "()I"⟩
abbrev cX5_stopsWith : ByteArray := prog_7_method_15_code
def yX5_stopsWith : MethodName := ⟨RX5, "stopsWith", "(II)I"⟩
def RX6 : String := "ShoeHouse$Seat"
def TX6 : u_T := fun k => match k with
  | 0 => ("ShoeHouse$Seat", "first", "LShoeHouse$Hand;", true)
  | 1 => ("ShoeHouse$Seat", "second", "LShoeHouse$Hand;", true)
  | 2 => ("ShoeHouse$Seat", "guest", "LShoeHouse$Guest;", false)
  | _ => ("ShoeHouse$Seat", "isSplit", "Z", false)
def tyX6 : Nat → FieldType := fun k => match k with
  | 0 => .object "ShoeHouse$Hand"
  | 1 => .object "ShoeHouse$Hand"
  | 2 => .object "ShoeHouse$Guest"
  | _ => .boolean
theorem nmX6 : ∀ a, a < 4 → ∀ b, b < 4 → a ≠ b → (TX6 a).2.1 ≠ (TX6 b).2.1 := by decide +kernel
theorem tyX6_ok : ∀ k, k < 4 → parseFieldDescriptor (TX6 k).2.2.1 = some (tyX6 k) := by decide +kernel
abbrev cX6_init : ByteArray := prog_8_method_1_code
def yX6_init : MethodName := ⟨RX6, "<init>", "()V"⟩
abbrev cX6_hasStake : ByteArray := prog_8_method_2_code
def yX6_hasStake : MethodName := ⟨RX6, "hasStake", "()Z"⟩
abbrev cX6_stakes : ByteArray := prog_8_method_3_code
def yX6_stakes : MethodName := ⟨RX6, "stakes", "()I"⟩
abbrev cX6_take : ByteArray := prog_8_method_4_code
def yX6_take : MethodName := ⟨RX6, "take", "(LShoeHouse$Guest;I)V"⟩
abbrev cX6_handAt : ByteArray := prog_8_method_5_code
def yX6_handAt : MethodName := ⟨RX6, "handAt", "(I)LShoeHouse$Hand;"⟩
abbrev cX6_handThatPlays : ByteArray := prog_8_method_6_code
def yX6_handThatPlays : MethodName := ⟨RX6, "handThatPlays", "()LShoeHouse$Hand;"⟩
abbrev cX6_part : ByteArray := prog_8_method_7_code
def yX6_part : MethodName := ⟨RX6, "part", "()V"⟩
abbrev cX6_isNatural : ByteArray := prog_8_method_8_code
def yX6_isNatural : MethodName := ⟨RX6, "isNatural", "()Z"⟩
abbrev cX6_needsDealer : ByteArray := prog_8_method_9_code
def yX6_needsDealer : MethodName := ⟨RX6, "needsDealer", "()Z"⟩
abbrev cX6_forgetCards : ByteArray := prog_8_method_10_code
def yX6_forgetCards : MethodName := ⟨RX6, "forgetCards", "()V"⟩
abbrev cX6_forgetStakes : ByteArray := prog_8_method_11_code
def yX6_forgetStakes : MethodName := ⟨RX6, "forgetStakes", "()V"⟩
abbrev cX6_takeAway : ByteArray := prog_8_method_12_code
def yX6_takeAway : MethodName := ⟨RX6, "takeAway", "(Z)I"⟩
def RX7 : String := "ShoeHouse$Shoe"
def TX7 : u_T := fun k => match k with
  | 0 => ("ShoeHouse$Shoe", "cards", "[I", true)
  | 1 => ("ShoeHouse$Shoe", "mixed", "[I", true)
  | 2 => ("ShoeHouse$Shoe", "seen", "[I", true)
  | 3 => ("ShoeHouse$Shoe", "weights", "[I", true)
  | 4 => ("ShoeHouse$Shoe", "front", "I", false)
  | 5 => ("ShoeHouse$Shoe", "end", "I", false)
  | 6 => ("ShoeHouse$Shoe", "decks", "I", false)
  | _ => ("ShoeHouse$Shoe", "hidden", "I", false)
def tyX7 : Nat → FieldType := fun k => match k with
  | 0 => .array .int
  | 1 => .array .int
  | 2 => .array .int
  | 3 => .array .int
  | 4 => .int
  | 5 => .int
  | 6 => .int
  | _ => .int
theorem nmX7 : ∀ a, a < 8 → ∀ b, b < 8 → a ≠ b → (TX7 a).2.1 ≠ (TX7 b).2.1 := by decide +kernel
theorem tyX7_ok : ∀ k, k < 8 → parseFieldDescriptor (TX7 k).2.2.1 = some (tyX7 k) := by decide +kernel
abbrev cX7_init : ByteArray := prog_9_method_1_code
def yX7_init : MethodName := ⟨RX7, "<init>", "()V"⟩
abbrev cX7_cardsInDeck : ByteArray := prog_9_method_2_code
def yX7_cardsInDeck : MethodName := ⟨RX7, "cardsInDeck", "(I)I"⟩
abbrev cX7_size : ByteArray := prog_9_method_3_code
def yX7_size : MethodName := ⟨RX7, "size", "()I"⟩
abbrev cX7_rankAt : ByteArray := prog_9_method_4_code
def yX7_rankAt : MethodName := ⟨RX7, "rankAt", "(I)I"⟩
abbrev cX7_layDecks : ByteArray := prog_9_method_5_code
def yX7_layDecks : MethodName := ⟨RX7, "layDecks", "(I)V"⟩
abbrev cX7_bringBehind : ByteArray := prog_9_method_6_code
def yX7_bringBehind : MethodName := ⟨RX7, "bringBehind", "(I)V"⟩
abbrev cX7_mixHalves : ByteArray := prog_9_method_7_code
def yX7_mixHalves : MethodName := ⟨RX7, "mixHalves", "(Z)V"⟩
abbrev cX7_layMixed : ByteArray := prog_9_method_8_code
def yX7_layMixed : MethodName := ⟨RX7, "layMixed", "(I)V"⟩
abbrev cX7_takeCard : ByteArray := prog_9_method_9_code
def yX7_takeCard : MethodName := ⟨RX7, "takeCard", "()I"⟩
abbrev cX7_see : ByteArray := prog_9_method_10_code
def yX7_see : MethodName := ⟨RX7, "see", "(I)V"⟩
abbrev cX7_takeSeen : ByteArray := prog_9_method_11_code
def yX7_takeSeen : MethodName := ⟨RX7, "takeSeen", "()I"⟩
abbrev cX7_takeHidden : ByteArray := prog_9_method_12_code
def yX7_takeHidden : MethodName := ⟨RX7, "takeHidden", "()I"⟩
abbrev cX7_showHidden : ByteArray := prog_9_method_13_code
def yX7_showHidden : MethodName := ⟨RX7, "showHidden", "()V"⟩
abbrev cX7_unseenOf : ByteArray := prog_9_method_14_code
def yX7_unseenOf : MethodName := ⟨RX7, "unseenOf", "(I)I"⟩
abbrev cX7_unseenAbove : ByteArray := prog_9_method_15_code
def yX7_unseenAbove : MethodName := ⟨RX7, "unseenAbove", "(I)I"⟩
abbrev cX7_unseen : ByteArray := prog_9_method_16_code
def yX7_unseen : MethodName := ⟨RX7, "unseen", "()I"⟩
abbrev cX7_tellWeight : ByteArray := prog_9_method_17_code
def yX7_tellWeight : MethodName := ⟨RX7, "tellWeight", "(II)I"⟩
abbrev cX7_countSeen : ByteArray := prog_9_method_18_code
def yX7_countSeen : MethodName := ⟨RX7, "countSeen", "()I"⟩
abbrev cX7_countByDeck : ByteArray := prog_9_method_19_code
def yX7_countByDeck : MethodName := ⟨RX7, "countByDeck", "()I"⟩
abbrev cX7_isWhole : ByteArray := prog_9_method_20_code
def yX7_isWhole : MethodName := ⟨RX7, "isWhole", "()Z"⟩
def RX8 : String := "ShoeHouse$Tray"
def TX8 : u_T := fun k => match k with
  | 0 => ("ShoeHouse$Tray", "vault", "LShoeHouse$Vault;", true)
  | 1 => ("ShoeHouse$Tray", "chips", "I", false)
  | 2 => ("ShoeHouse$Tray", "chipsAtBegin", "I", false)
  | 3 => ("ShoeHouse$Tray", "fills", "I", false)
  | _ => ("ShoeHouse$Tray", "credits", "I", false)
def tyX8 : Nat → FieldType := fun k => match k with
  | 0 => .object "ShoeHouse$Vault"
  | 1 => .int
  | 2 => .int
  | 3 => .int
  | _ => .int
theorem nmX8 : ∀ a, a < 5 → ∀ b, b < 5 → a ≠ b → (TX8 a).2.1 ≠ (TX8 b).2.1 := by decide +kernel
theorem tyX8_ok : ∀ k, k < 5 → parseFieldDescriptor (TX8 k).2.2.1 = some (tyX8 k) := by decide +kernel
abbrev cX8_init : ByteArray := prog_10_method_1_code
def yX8_init : MethodName := ⟨RX8, "<init>", "(LShoeHouse$Vault;)V"⟩
abbrev cX8_takeFromVault : ByteArray := prog_10_method_2_code
def yX8_takeFromVault : MethodName := ⟨RX8, "takeFromVault", "(I)V"⟩
abbrev cX8_bringToVault : ByteArray := prog_10_method_3_code
def yX8_bringToVault : MethodName := ⟨RX8, "bringToVault", "(I)V"⟩
abbrev cX8_collect : ByteArray := prog_10_method_4_code
def yX8_collect : MethodName := ⟨RX8, "collect", "(I)V"⟩
abbrev cX8_payOut : ByteArray := prog_10_method_5_code
def yX8_payOut : MethodName := ⟨RX8, "payOut", "(I)V"⟩
abbrev cX8_winOfShift : ByteArray := prog_10_method_6_code
def yX8_winOfShift : MethodName := ⟨RX8, "winOfShift", "()I"⟩
abbrev cX8_beginShift : ByteArray := prog_10_method_7_code
def yX8_beginShift : MethodName := ⟨RX8, "beginShift", "()V"⟩
def RX9 : String := "ShoeHouse$Vault"
def TX9 : u_T := fun k => match k with
  | _ => ("ShoeHouse$Vault", "chips", "I", false)
def tyX9 : Nat → FieldType := fun k => match k with
  | _ => .int
theorem nmX9 : ∀ a, a < 1 → ∀ b, b < 1 → a ≠ b → (TX9 a).2.1 ≠ (TX9 b).2.1 := by decide +kernel
theorem tyX9_ok : ∀ k, k < 1 → parseFieldDescriptor (TX9 k).2.2.1 = some (tyX9 k) := by decide +kernel
abbrev cX9_init : ByteArray := prog_11_method_1_code
def yX9_init : MethodName := ⟨RX9, "<init>", "()V"⟩
def RX10 : String := "ShoeHouse$Wheel"
def TX10 : u_T := fun k => match k with
  | 0 => ("ShoeHouse$Wheel", "tray", "LShoeHouse$Tray;", true)
  | 1 => ("ShoeHouse$Wheel", "players", "[LShoeHouse$Guest;", true)
  | 2 => ("ShoeHouse$Wheel", "kinds", "[C", true)
  | 3 => ("ShoeHouse$Wheel", "numbers", "[I", true)
  | 4 => ("ShoeHouse$Wheel", "stakes", "[I", true)
  | _ => ("ShoeHouse$Wheel", "size", "I", false)
def tyX10 : Nat → FieldType := fun k => match k with
  | 0 => .object "ShoeHouse$Tray"
  | 1 => .array (.object "ShoeHouse$Guest")
  | 2 => .array .char
  | 3 => .array .int
  | 4 => .array .int
  | _ => .int
theorem nmX10 : ∀ a, a < 6 → ∀ b, b < 6 → a ≠ b → (TX10 a).2.1 ≠ (TX10 b).2.1 := by decide +kernel
theorem tyX10_ok : ∀ k, k < 6 → parseFieldDescriptor (TX10 k).2.2.1 = some (tyX10 k) := by decide +kernel
abbrev cX10_init : ByteArray := prog_12_method_1_code
def yX10_init : MethodName := ⟨RX10, "<init>", "(LShoeHouse$Tray;)V"⟩
abbrev cX10_isWager : ByteArray := prog_12_method_2_code
def yX10_isWager : MethodName := ⟨RX10, "isWager", "(CI)Z"⟩
abbrev cX10_isRed : ByteArray := prog_12_method_3_code
def yX10_isRed : MethodName := ⟨RX10, "isRed", "(I)Z"⟩
abbrev cX10_timesPaid : ByteArray := prog_12_method_4_code
def yX10_timesPaid : MethodName := ⟨RX10, "timesPaid", "(CII)I"⟩
abbrev cX10_isFull : ByteArray := prog_12_method_5_code
def yX10_isFull : MethodName := ⟨RX10, "isFull", "()Z"⟩
abbrev cX10_add : ByteArray := prog_12_method_6_code
def yX10_add : MethodName := ⟨RX10, "add", "(LShoeHouse$Guest;CII)V"⟩
abbrev cX10_settleAll : ByteArray := prog_12_method_7_code
def yX10_settleAll : MethodName := ⟨RX10, "settleAll", "(I)I"⟩
abbrev cX10_stakesOf : ByteArray := prog_12_method_8_code
def yX10_stakesOf : MethodName := ⟨RX10, "stakesOf", "(LShoeHouse$Guest;)I"⟩
abbrev cX10_takeAway : ByteArray := prog_12_method_9_code
def yX10_takeAway : MethodName := ⟨RX10, "takeAway", "(LShoeHouse$Guest;)I"⟩
def RX11 : String := "ShoeHouse"
def TX11 : u_T := fun k => match k with
  | 0 => ("ShoeHouse", "guests", "[LShoeHouse$Guest;", true)
  | 1 => ("ShoeHouse", "trays", "[LShoeHouse$Tray;", true)
  | 2 => ("ShoeHouse", "vault", "LShoeHouse$Vault;", true)
  | 3 => ("ShoeHouse", "shoe", "LShoeHouse$Shoe;", true)
  | 4 => ("ShoeHouse", "table", "LShoeHouse$CardTable;", true)
  | 5 => ("ShoeHouse", "odds", "LShoeHouse$DealerOdds;", true)
  | 6 => ("ShoeHouse", "wheel", "LShoeHouse$Wheel;", true)
  | 7 => ("ShoeHouse", "machine", "LShoeHouse$Machine;", true)
  | 8 => ("ShoeHouse", "lottery", "LShoeHouse$Lottery;", true)
  | 9 => ("ShoeHouse", "guestCount", "I", false)
  | _ => ("ShoeHouse", "today", "I", false)
def tyX11 : Nat → FieldType := fun k => match k with
  | 0 => .array (.object "ShoeHouse$Guest")
  | 1 => .array (.object "ShoeHouse$Tray")
  | 2 => .object "ShoeHouse$Vault"
  | 3 => .object "ShoeHouse$Shoe"
  | 4 => .object "ShoeHouse$CardTable"
  | 5 => .object "ShoeHouse$DealerOdds"
  | 6 => .object "ShoeHouse$Wheel"
  | 7 => .object "ShoeHouse$Machine"
  | 8 => .object "ShoeHouse$Lottery"
  | 9 => .int
  | _ => .int
theorem nmX11 : ∀ a, a < 11 → ∀ b, b < 11 → a ≠ b → (TX11 a).2.1 ≠ (TX11 b).2.1 := by decide +kernel
theorem tyX11_ok : ∀ k, k < 11 → parseFieldDescriptor (TX11 k).2.2.1 = some (tyX11 k) := by decide +kernel
abbrev cX11_init : ByteArray := prog_1_method_1_code
def yX11_init : MethodName := ⟨RX11, "<init>", "()V"⟩
abbrev cX11_guest : ByteArray := prog_1_method_2_code
def yX11_guest : MethodName := ⟨RX11, "guest", "(I)I"⟩
abbrev cX11_buyIn : ByteArray := prog_1_method_3_code
def yX11_buyIn : MethodName := ⟨RX11, "buyIn", "(II)I"⟩
abbrev cX11_cashOut : ByteArray := prog_1_method_4_code
def yX11_cashOut : MethodName := ⟨RX11, "cashOut", "(II)I"⟩
abbrev cX11_limit : ByteArray := prog_1_method_5_code
def yX11_limit : MethodName := ⟨RX11, "limit", "(II)I"⟩
abbrev cX11_bar : ByteArray := prog_1_method_6_code
def yX11_bar : MethodName := ⟨RX11, "bar", "(II)I"⟩
abbrev cX11_pass : ByteArray := prog_1_method_7_code
def yX11_pass : MethodName := ⟨RX11, "pass", "(I)I"⟩
abbrev cX11_fill : ByteArray := prog_1_method_8_code
def yX11_fill : MethodName := ⟨RX11, "fill", "(II)I"⟩
abbrev cX11_credit : ByteArray := prog_1_method_9_code
def yX11_credit : MethodName := ⟨RX11, "credit", "(II)I"⟩
abbrev cX11_shift : ByteArray := prog_1_method_10_code
def yX11_shift : MethodName := ⟨RX11, "shift", "()I"⟩
abbrev cX11_win : ByteArray := prog_1_method_11_code
def yX11_win : MethodName := ⟨RX11, "win", "(I)I"⟩
abbrev cX11_rule : ByteArray := prog_1_method_12_code
def yX11_rule : MethodName := ⟨RX11, "rule", "(CZ)Z"⟩
abbrev cX11_lay : ByteArray := prog_1_method_13_code
def yX11_lay : MethodName := ⟨RX11, "lay", "(I)I"⟩
abbrev cX11_cut : ByteArray := prog_1_method_14_code
def yX11_cut : MethodName := ⟨RX11, "cut", "(I)I"⟩
abbrev cX11_riffle : ByteArray := prog_1_method_15_code
def yX11_riffle : MethodName := ⟨RX11, "riffle", "(Z)I"⟩
abbrev cX11_bet : ByteArray := prog_1_method_16_code
def yX11_bet : MethodName := ⟨RX11, "bet", "(III)I"⟩
abbrev cX11_deal : ByteArray := prog_1_method_17_code
def yX11_deal : MethodName := ⟨RX11, "deal", "()I"⟩
abbrev cX11_hit : ByteArray := prog_1_method_18_code
def yX11_hit : MethodName := ⟨RX11, "hit", "(I)I"⟩
abbrev cX11_stand : ByteArray := prog_1_method_19_code
def yX11_stand : MethodName := ⟨RX11, "stand", "(I)I"⟩
abbrev cX11_twice : ByteArray := prog_1_method_20_code
def yX11_twice : MethodName := ⟨RX11, "twice", "(I)I"⟩
abbrev cX11_split : ByteArray := prog_1_method_21_code
def yX11_split : MethodName := ⟨RX11, "split", "(I)I"⟩
abbrev cX11_surrender : ByteArray := prog_1_method_22_code
def yX11_surrender : MethodName := ⟨RX11, "surrender", "(I)I"⟩
abbrev cX11_cardAt : ByteArray := prog_1_method_23_code
def yX11_cardAt : MethodName := ⟨RX11, "cardAt", "(III)I"⟩
abbrev cX11_dealerAt : ByteArray := prog_1_method_24_code
def yX11_dealerAt : MethodName := ⟨RX11, "dealerAt", "(I)I"⟩
abbrev cX11_turn : ByteArray := prog_1_method_25_code
def yX11_turn : MethodName := ⟨RX11, "turn", "()I"⟩
abbrev cX11_left : ByteArray := prog_1_method_26_code
def yX11_left : MethodName := ⟨RX11, "left", "(I)I"⟩
abbrev cX11_bustOver : ByteArray := prog_1_method_27_code
def yX11_bustOver : MethodName := ⟨RX11, "bustOver", "(I)J"⟩
abbrev cX11_bustUnder : ByteArray := prog_1_method_28_code
def yX11_bustUnder : MethodName := ⟨RX11, "bustUnder", "(I)J"⟩
abbrev cX11_dealerEnds : ByteArray := prog_1_method_29_code
def yX11_dealerEnds : MethodName := ⟨RX11, "dealerEnds", "(I)D"⟩
abbrev cX11_weigh : ByteArray := prog_1_method_30_code
def yX11_weigh : MethodName := ⟨RX11, "weigh", "(II)I"⟩
abbrev cX11_count : ByteArray := prog_1_method_31_code
def yX11_count : MethodName := ⟨RX11, "count", "()I"⟩
abbrev cX11_trueCount : ByteArray := prog_1_method_32_code
def yX11_trueCount : MethodName := ⟨RX11, "trueCount", "()I"⟩
abbrev cX11_isSuspected : ByteArray := prog_1_method_33_code
def yX11_isSuspected : MethodName := ⟨RX11, "isSuspected", "(I)Z"⟩
abbrev cX11_broken : ByteArray := prog_1_method_34_code
def yX11_broken : MethodName := ⟨RX11, "broken", "()I"⟩
abbrev cX11_wager : ByteArray := prog_1_method_35_code
def yX11_wager : MethodName := ⟨RX11, "wager", "(ICII)I"⟩
abbrev cX11_spin : ByteArray := prog_1_method_36_code
def yX11_spin : MethodName := ⟨RX11, "spin", "(I)I"⟩
abbrev cX11_stops : ByteArray := prog_1_method_37_code
def yX11_stops : MethodName := ⟨RX11, "stops", "(II)I"⟩
abbrev cX11_pays : ByteArray := prog_1_method_38_code
def yX11_pays : MethodName := ⟨RX11, "pays", "(II)I"⟩
abbrev cX11_bound : ByteArray := prog_1_method_39_code
def yX11_bound : MethodName := ⟨RX11, "bound", "(I)I"⟩
abbrev cX11_pull : ByteArray := prog_1_method_40_code
def yX11_pull : MethodName := ⟨RX11, "pull", "(II)I"⟩
abbrev cX11_stop : ByteArray := prog_1_method_41_code
def yX11_stop : MethodName := ⟨RX11, "stop", "(I)I"⟩
abbrev cX11_tilt : ByteArray := prog_1_method_42_code
def yX11_tilt : MethodName := ⟨RX11, "tilt", "()I"⟩
abbrev cX11_recover : ByteArray := prog_1_method_43_code
def yX11_recover : MethodName := ⟨RX11, "recover", "()I"⟩
abbrev cX11_pot : ByteArray := prog_1_method_44_code
def yX11_pot : MethodName := ⟨RX11, "pot", "()I"⟩
abbrev cX11_returnOver : ByteArray := prog_1_method_45_code
def yX11_returnOver : MethodName := ⟨RX11, "returnOver", "()J"⟩
abbrev cX11_returnUnder : ByteArray := prog_1_method_46_code
def yX11_returnUnder : MethodName := ⟨RX11, "returnUnder", "()J"⟩
abbrev cX11_ticket : ByteArray := prog_1_method_47_code
def yX11_ticket : MethodName := ⟨RX11, "ticket", "(II)I"⟩
abbrev cX11_draw : ByteArray := prog_1_method_48_code
def yX11_draw : MethodName := ⟨RX11, "draw", "(I)I"⟩
abbrev cX11_confirm : ByteArray := prog_1_method_49_code
def yX11_confirm : MethodName := ⟨RX11, "confirm", "()I"⟩
abbrev cX11_claim : ByteArray := prog_1_method_50_code
def yX11_claim : MethodName := ⟨RX11, "claim", "(I)I"⟩
abbrev cX11_pool : ByteArray := prog_1_method_51_code
def yX11_pool : MethodName := ⟨RX11, "pool", "()I"⟩
abbrev cX11_day : ByteArray := prog_1_method_52_code
def yX11_day : MethodName := ⟨RX11, "day", "()I"⟩
abbrev cX11_money : ByteArray := prog_1_method_53_code
def yX11_money : MethodName := ⟨RX11, "money", "(I)I"⟩
abbrev cX11_chips : ByteArray := prog_1_method_54_code
def yX11_chips : MethodName := ⟨RX11, "chips", "(I)I"⟩
abbrev cX11_isBarred : ByteArray := prog_1_method_55_code
def yX11_isBarred : MethodName := ⟨RX11, "isBarred", "(I)Z"⟩
abbrev cX11_staked : ByteArray := prog_1_method_56_code
def yX11_staked : MethodName := ⟨RX11, "staked", "(I)I"⟩
abbrev cX11_reports : ByteArray := prog_1_method_57_code
def yX11_reports : MethodName := ⟨RX11, "reports", "(I)I"⟩
abbrev cX11_tray : ByteArray := prog_1_method_58_code
def yX11_tray : MethodName := ⟨RX11, "tray", "(I)I"⟩
abbrev cX11_vault : ByteArray := prog_1_method_59_code
def yX11_vault : MethodName := ⟨RX11, "vault", "()I"⟩
abbrev cX11_ruinOver : ByteArray := prog_1_method_60_code
def yX11_ruinOver : MethodName := ⟨RX11, "ruinOver", "(II)J"⟩
abbrev cX11_ruinUnder : ByteArray := prog_1_method_61_code
def yX11_ruinUnder : MethodName := ⟨RX11, "ruinUnder", "(II)J"⟩
abbrev cX11_checksum : ByteArray := prog_1_method_62_code
def yX11_checksum : MethodName := ⟨RX11, "checksum", "()J"⟩
abbrev cX11_vaultBits : ByteArray := prog_1_method_63_code
def yX11_vaultBits : MethodName := ⟨RX11, "vaultBits", "()I"⟩
abbrev cX11_barredShare : ByteArray := prog_1_method_64_code
def yX11_barredShare : MethodName := ⟨RX11, "barredShare", "()F"⟩
abbrev cX11_meanChips : ByteArray := prog_1_method_65_code
def yX11_meanChips : MethodName := ⟨RX11, "meanChips", "()D"⟩
abbrev cX11_isSound : ByteArray := prog_1_method_66_code
def yX11_isSound : MethodName := ⟨RX11, "isSound", "()Z"⟩
abbrev cX11_guestAt : ByteArray := prog_1_method_67_code
def yX11_guestAt : MethodName := ⟨RX11, "guestAt", "(I)LShoeHouse$Guest;"⟩
abbrev cX11_trayAt : ByteArray := prog_1_method_68_code
def yX11_trayAt : MethodName := ⟨RX11, "trayAt", "(I)LShoeHouse$Tray;"⟩
abbrev cX11_seatAt : ByteArray := prog_1_method_69_code
def yX11_seatAt : MethodName := ⟨RX11, "seatAt", "(I)LShoeHouse$Seat;"⟩
abbrev cX11_handInTurn : ByteArray := prog_1_method_70_code
def yX11_handInTurn : MethodName := ⟨RX11, "handInTurn", "(I)LShoeHouse$Hand;"⟩
abbrev cX11_playerAt : ByteArray := prog_1_method_71_code
def yX11_playerAt : MethodName := ⟨RX11, "playerAt", "(LShoeHouse$Seat;I)LShoeHouse$Guest;"⟩
abbrev cX11_needStake : ByteArray := prog_1_method_72_code
def yX11_needStake : MethodName := ⟨RX11, "needStake", "(LShoeHouse$Guest;I)V"⟩
abbrev cX11_needCards : ByteArray := prog_1_method_73_code
def yX11_needCards : MethodName := ⟨RX11, "needCards", "(I)V"⟩
abbrev cX11_needUnseen : ByteArray := prog_1_method_74_code
def yX11_needUnseen : MethodName := ⟨RX11, "needUnseen", "()V"⟩
abbrev cX11_needRound : ByteArray := prog_1_method_75_code
def yX11_needRound : MethodName := ⟨RX11, "needRound", "()V"⟩
abbrev cX11_needNoRound : ByteArray := prog_1_method_76_code
def yX11_needNoRound : MethodName := ⟨RX11, "needNoRound", "()V"⟩
abbrev cX11_needSpin : ByteArray := prog_1_method_77_code
def yX11_needSpin : MethodName := ⟨RX11, "needSpin", "()V"⟩
abbrev cX11_needNoSpin : ByteArray := prog_1_method_78_code
def yX11_needNoSpin : MethodName := ⟨RX11, "needNoSpin", "()V"⟩
abbrev cX11_needGuests : ByteArray := prog_1_method_79_code
def yX11_needGuests : MethodName := ⟨RX11, "needGuests", "()V"⟩
abbrev cX11_needThreeNumbers : ByteArray := prog_1_method_80_code
def yX11_needThreeNumbers : MethodName := ⟨RX11, "needThreeNumbers", "(I)V"⟩
abbrev cX11_needRuin : ByteArray := prog_1_method_81_code
def yX11_needRuin : MethodName := ⟨RX11, "needRuin", "(II)V"⟩
abbrev cX11_needRange : ByteArray := prog_1_method_82_code
def yX11_needRange : MethodName := ⟨RX11, "needRange", "(III)V"⟩
abbrev cX11_chipsOfGuests : ByteArray := prog_1_method_83_code
def yX11_chipsOfGuests : MethodName := ⟨RX11, "chipsOfGuests", "()I"⟩
abbrev cX11_areAllChipsHere : ByteArray := prog_1_method_84_code
def yX11_areAllChipsHere : MethodName := ⟨RX11, "areAllChipsHere", "()Z"⟩
abbrev cX11_stakesOf : ByteArray := prog_1_method_85_code
def yX11_stakesOf : MethodName := ⟨RX11, "stakesOf", "(LShoeHouse$Guest;)I"⟩
abbrev cX11_isNothingOfBarred : ByteArray := prog_1_method_86_code
def yX11_isNothingOfBarred : MethodName := ⟨RX11, "isNothingOfBarred", "()Z"⟩
abbrev cX11_areChancesSound : ByteArray := prog_1_method_87_code
def yX11_areChancesSound : MethodName := ⟨RX11, "areChancesSound", "()Z"⟩
abbrev cX11_lowestOver : ByteArray := prog_1_method_88_code
def yX11_lowestOver : MethodName := ⟨RX11, "lowestOver", "(JJ)J"⟩
abbrev cX11_lowestUnder : ByteArray := prog_1_method_89_code
def yX11_lowestUnder : MethodName := ⟨RX11, "lowestUnder", "(JJ)J"⟩
abbrev cX11_sharedDivisor : ByteArray := prog_1_method_90_code
def yX11_sharedDivisor : MethodName := ⟨RX11, "sharedDivisor", "(JJ)J"⟩
abbrev cX11_power : ByteArray := prog_1_method_91_code
def yX11_power : MethodName := ⟨RX11, "power", "(II)J"⟩
abbrev cX11_ruinPart : ByteArray := prog_1_method_92_code
def yX11_ruinPart : MethodName := ⟨RX11, "ruinPart", "(II)J"⟩
abbrev cX11_bitsOf : ByteArray := prog_1_method_93_code
def yX11_bitsOf : MethodName := ⟨RX11, "bitsOf", "(F)I"⟩
def RX12 : String := "ShoeHouseModel"
def TX12 : u_T := fun k => match k with
  | 0 => ("ShoeHouseModel", "money", "[I", true)
  | 1 => ("ShoeHouseModel", "chips", "[I", true)
  | 2 => ("ShoeHouseModel", "staked", "[I", true)
  | 3 => ("ShoeHouseModel", "brought", "[I", true)
  | 4 => ("ShoeHouseModel", "reports", "[I", true)
  | 5 => ("ShoeHouseModel", "limits", "[I", true)
  | 6 => ("ShoeHouseModel", "waiting", "[I", true)
  | 7 => ("ShoeHouseModel", "barred", "[I", true)
  | 8 => ("ShoeHouseModel", "betSums", "[[I", true)
  | 9 => ("ShoeHouseModel", "betMany", "[[I", true)
  | 10 => ("ShoeHouseModel", "trays", "[I", true)
  | 11 => ("ShoeHouseModel", "begun", "[I", true)
  | 12 => ("ShoeHouseModel", "fills", "[I", true)
  | 13 => ("ShoeHouseModel", "rules", "[Z", true)
  | 14 => ("ShoeHouseModel", "shoe", "[I", true)
  | 15 => ("ShoeHouseModel", "aside", "[I", true)
  | 16 => ("ShoeHouseModel", "lefts", "[I", true)
  | 17 => ("ShoeHouseModel", "weights", "[I", true)
  | 18 => ("ShoeHouseModel", "seatGuests", "[I", true)
  | 19 => ("ShoeHouseModel", "bets", "[I", true)
  | 20 => ("ShoeHouseModel", "handMany", "[I", true)
  | 21 => ("ShoeHouseModel", "hands", "[[[I", true)
  | 22 => ("ShoeHouseModel", "cardMany", "[[I", true)
  | 23 => ("ShoeHouseModel", "stakes", "[[I", true)
  | 24 => ("ShoeHouseModel", "states", "[[I", true)
  | 25 => ("ShoeHouseModel", "dealer", "[I", true)
  | 26 => ("ShoeHouseModel", "wagers", "[[I", true)
  | 27 => ("ShoeHouseModel", "symbols", "[[I", true)
  | 28 => ("ShoeHouseModel", "pays", "[I", true)
  | 29 => ("ShoeHouseModel", "tickets", "[[I", true)
  | 30 => ("ShoeHouseModel", "prizes", "[[I", true)
  | 31 => ("ShoeHouseModel", "guests", "I", false)
  | 32 => ("ShoeHouseModel", "vault", "I", false)
  | 33 => ("ShoeHouseModel", "day", "I", false)
  | 34 => ("ShoeHouseModel", "decks", "I", false)
  | 35 => ("ShoeHouseModel", "cards", "I", false)
  | 36 => ("ShoeHouseModel", "dealerMany", "I", false)
  | 37 => ("ShoeHouseModel", "isRound", "Z", false)
  | 38 => ("ShoeHouseModel", "broken", "I", false)
  | 39 => ("ShoeHouseModel", "wagerMany", "I", false)
  | 40 => ("ShoeHouseModel", "bound", "I", false)
  | 41 => ("ShoeHouseModel", "pot", "I", false)
  | 42 => ("ShoeHouseModel", "spinner", "I", false)
  | 43 => ("ShoeHouseModel", "spinStake", "I", false)
  | 44 => ("ShoeHouseModel", "isTilted", "Z", false)
  | 45 => ("ShoeHouseModel", "hasPot", "Z", false)
  | 46 => ("ShoeHouseModel", "ticketMany", "I", false)
  | 47 => ("ShoeHouseModel", "drawn", "I", false)
  | 48 => ("ShoeHouseModel", "pool", "I", false)
  | _ => ("ShoeHouseModel", "thrown", "I", false)
def tyX12 : Nat → FieldType := fun k => match k with
  | 0 => .array .int
  | 1 => .array .int
  | 2 => .array .int
  | 3 => .array .int
  | 4 => .array .int
  | 5 => .array .int
  | 6 => .array .int
  | 7 => .array .int
  | 8 => .array (.array .int)
  | 9 => .array (.array .int)
  | 10 => .array .int
  | 11 => .array .int
  | 12 => .array .int
  | 13 => .array .boolean
  | 14 => .array .int
  | 15 => .array .int
  | 16 => .array .int
  | 17 => .array .int
  | 18 => .array .int
  | 19 => .array .int
  | 20 => .array .int
  | 21 => .array (.array (.array .int))
  | 22 => .array (.array .int)
  | 23 => .array (.array .int)
  | 24 => .array (.array .int)
  | 25 => .array .int
  | 26 => .array (.array .int)
  | 27 => .array (.array .int)
  | 28 => .array .int
  | 29 => .array (.array .int)
  | 30 => .array (.array .int)
  | 31 => .int
  | 32 => .int
  | 33 => .int
  | 34 => .int
  | 35 => .int
  | 36 => .int
  | 37 => .boolean
  | 38 => .int
  | 39 => .int
  | 40 => .int
  | 41 => .int
  | 42 => .int
  | 43 => .int
  | 44 => .boolean
  | 45 => .boolean
  | 46 => .int
  | 47 => .int
  | 48 => .int
  | _ => .int
theorem nmX12 : ∀ a, a < 50 → ∀ b, b < 50 → a ≠ b → (TX12 a).2.1 ≠ (TX12 b).2.1 := by decide +kernel
theorem tyX12_ok : ∀ k, k < 50 → parseFieldDescriptor (TX12 k).2.2.1 = some (tyX12 k) := by decide +kernel
abbrev cX12_init : ByteArray := prog_14_method_1_code
def yX12_init : MethodName := ⟨RX12, "<init>", "()V"⟩
abbrev cX12_thrown : ByteArray := prog_14_method_2_code
def yX12_thrown : MethodName := ⟨RX12, "thrown", "()I"⟩
abbrev cX12_isThrown : ByteArray := prog_14_method_3_code
def yX12_isThrown : MethodName := ⟨RX12, "isThrown", "(ZI)Z"⟩
abbrev cX12_isIn : ByteArray := prog_14_method_4_code
def yX12_isIn : MethodName := ⟨RX12, "isIn", "(III)Z"⟩
abbrev cX12_isNobody : ByteArray := prog_14_method_5_code
def yX12_isNobody : MethodName := ⟨RX12, "isNobody", "(I)Z"⟩
abbrev cX12_guest : ByteArray := prog_14_method_6_code
def yX12_guest : MethodName := ⟨RX12, "guest", "(I)I"⟩
abbrev cX12_buyIn : ByteArray := prog_14_method_7_code
def yX12_buyIn : MethodName := ⟨RX12, "buyIn", "(II)I"⟩
abbrev cX12_cashOut : ByteArray := prog_14_method_8_code
def yX12_cashOut : MethodName := ⟨RX12, "cashOut", "(II)I"⟩
abbrev cX12_limit : ByteArray := prog_14_method_9_code
def yX12_limit : MethodName := ⟨RX12, "limit", "(II)I"⟩
abbrev cX12_isBarredNow : ByteArray := prog_14_method_10_code
def yX12_isBarredNow : MethodName := ⟨RX12, "isBarredNow", "(I)Z"⟩
abbrev cX12_mayStake : ByteArray := prog_14_method_11_code
def yX12_mayStake : MethodName := ⟨RX12, "mayStake", "(II)Z"⟩
abbrev cX12_stakes : ByteArray := prog_14_method_12_code
def yX12_stakes : MethodName := ⟨RX12, "stakes", "(II)V"⟩
abbrev cX12_pay : ByteArray := prog_14_method_13_code
def yX12_pay : MethodName := ⟨RX12, "pay", "(III)V"⟩
abbrev cX12_bar : ByteArray := prog_14_method_14_code
def yX12_bar : MethodName := ⟨RX12, "bar", "(II)I"⟩
abbrev cX12_pass : ByteArray := prog_14_method_15_code
def yX12_pass : MethodName := ⟨RX12, "pass", "(I)I"⟩
abbrev cX12_isNoTable : ByteArray := prog_14_method_16_code
def yX12_isNoTable : MethodName := ⟨RX12, "isNoTable", "(I)Z"⟩
abbrev cX12_fill : ByteArray := prog_14_method_17_code
def yX12_fill : MethodName := ⟨RX12, "fill", "(II)I"⟩
abbrev cX12_credit : ByteArray := prog_14_method_18_code
def yX12_credit : MethodName := ⟨RX12, "credit", "(II)I"⟩
abbrev cX12_winOf : ByteArray := prog_14_method_19_code
def yX12_winOf : MethodName := ⟨RX12, "winOf", "(I)I"⟩
abbrev cX12_shift : ByteArray := prog_14_method_20_code
def yX12_shift : MethodName := ⟨RX12, "shift", "()I"⟩
abbrev cX12_win : ByteArray := prog_14_method_21_code
def yX12_win : MethodName := ⟨RX12, "win", "(I)I"⟩
abbrev cX12_ruleOf : ByteArray := prog_14_method_22_code
def yX12_ruleOf : MethodName := ⟨RX12, "ruleOf", "(C)I"⟩
abbrev cX12_rule : ByteArray := prog_14_method_23_code
def yX12_rule : MethodName := ⟨RX12, "rule", "(CZ)Z"⟩
abbrev cX12_each : ByteArray := prog_14_method_24_code
def yX12_each : MethodName := ⟨RX12, "each", "(I)I"⟩
abbrev cX12_lay : ByteArray := prog_14_method_25_code
def yX12_lay : MethodName := ⟨RX12, "lay", "(I)I"⟩
abbrev cX12_cut : ByteArray := prog_14_method_26_code
def yX12_cut : MethodName := ⟨RX12, "cut", "(I)I"⟩
abbrev cX12_riffle : ByteArray := prog_14_method_27_code
def yX12_riffle : MethodName := ⟨RX12, "riffle", "(Z)I"⟩
abbrev cX12_next : ByteArray := prog_14_method_28_code
def yX12_next : MethodName := ⟨RX12, "next", "()I"⟩
abbrev cX12_valueOf : ByteArray := prog_14_method_29_code
def yX12_valueOf : MethodName := ⟨RX12, "valueOf", "(I[I)I"⟩
abbrev cX12_isSoft : ByteArray := prog_14_method_30_code
def yX12_isSoft : MethodName := ⟨RX12, "isSoft", "(I[I)Z"⟩
abbrev cX12_valueAt : ByteArray := prog_14_method_31_code
def yX12_valueAt : MethodName := ⟨RX12, "valueAt", "(II)I"⟩
abbrev cX12_isNaturalAt : ByteArray := prog_14_method_32_code
def yX12_isNaturalAt : MethodName := ⟨RX12, "isNaturalAt", "(I)Z"⟩
abbrev cX12_hasStake : ByteArray := prog_14_method_33_code
def yX12_hasStake : MethodName := ⟨RX12, "hasStake", "(I)Z"⟩
abbrev cX12_bet : ByteArray := prog_14_method_34_code
def yX12_bet : MethodName := ⟨RX12, "bet", "(III)I"⟩
abbrev cX12_take : ByteArray := prog_14_method_35_code
def yX12_take : MethodName := ⟨RX12, "take", "(II)V"⟩
abbrev cX12_deal : ByteArray := prog_14_method_36_code
def yX12_deal : MethodName := ⟨RX12, "deal", "()I"⟩
abbrev cX12_turnNow : ByteArray := prog_14_method_37_code
def yX12_turnNow : MethodName := ⟨RX12, "turnNow", "()I"⟩
abbrev cX12_lose : ByteArray := prog_14_method_38_code
def yX12_lose : MethodName := ⟨RX12, "lose", "(II)V"⟩
abbrev cX12_win_ : ByteArray := prog_14_method_39_code
def yX12_win_ : MethodName := ⟨RX12, "win", "(III)V"⟩
abbrev cX12_finish : ByteArray := prog_14_method_40_code
def yX12_finish : MethodName := ⟨RX12, "finish", "()V"⟩
abbrev cX12_isEnd : ByteArray := prog_14_method_41_code
def yX12_isEnd : MethodName := ⟨RX12, "isEnd", "(IZ)Z"⟩
abbrev cX12_settleAll : ByteArray := prog_14_method_42_code
def yX12_settleAll : MethodName := ⟨RX12, "settleAll", "(Z)V"⟩
abbrev cX12_settle : ByteArray := prog_14_method_43_code
def yX12_settle : MethodName := ⟨RX12, "settle", "(IIIZ)V"⟩
abbrev cX12_isNotTurn : ByteArray := prog_14_method_44_code
def yX12_isNotTurn : MethodName := ⟨RX12, "isNotTurn", "(I)Z"⟩
abbrev cX12_goesOn : ByteArray := prog_14_method_45_code
def yX12_goesOn : MethodName := ⟨RX12, "goesOn", "()V"⟩
abbrev cX12_looks : ByteArray := prog_14_method_46_code
def yX12_looks : MethodName := ⟨RX12, "looks", "(II)V"⟩
abbrev cX12_hit : ByteArray := prog_14_method_47_code
def yX12_hit : MethodName := ⟨RX12, "hit", "(I)I"⟩
abbrev cX12_stand : ByteArray := prog_14_method_48_code
def yX12_stand : MethodName := ⟨RX12, "stand", "(I)I"⟩
abbrev cX12_twice : ByteArray := prog_14_method_49_code
def yX12_twice : MethodName := ⟨RX12, "twice", "(I)I"⟩
abbrev cX12_split : ByteArray := prog_14_method_50_code
def yX12_split : MethodName := ⟨RX12, "split", "(I)I"⟩
abbrev cX12_surrender : ByteArray := prog_14_method_51_code
def yX12_surrender : MethodName := ⟨RX12, "surrender", "(I)I"⟩
abbrev cX12_cardAt : ByteArray := prog_14_method_52_code
def yX12_cardAt : MethodName := ⟨RX12, "cardAt", "(III)I"⟩
abbrev cX12_dealerAt : ByteArray := prog_14_method_53_code
def yX12_dealerAt : MethodName := ⟨RX12, "dealerAt", "(I)I"⟩
abbrev cX12_turn : ByteArray := prog_14_method_54_code
def yX12_turn : MethodName := ⟨RX12, "turn", "()I"⟩
abbrev cX12_leftOf : ByteArray := prog_14_method_55_code
def yX12_leftOf : MethodName := ⟨RX12, "leftOf", "(I)I"⟩
abbrev cX12_unseen : ByteArray := prog_14_method_56_code
def yX12_unseen : MethodName := ⟨RX12, "unseen", "()I"⟩
abbrev cX12_left : ByteArray := prog_14_method_57_code
def yX12_left : MethodName := ⟨RX12, "left", "(I)I"⟩
abbrev cX12_common : ByteArray := prog_14_method_58_code
def yX12_common : MethodName := ⟨RX12, "common", "(JJ)J"⟩
abbrev cX12_busting : ByteArray := prog_14_method_59_code
def yX12_busting : MethodName := ⟨RX12, "busting", "(I)I"⟩
abbrev cX12_bust : ByteArray := prog_14_method_60_code
def yX12_bust : MethodName := ⟨RX12, "bust", "(IZ)J"⟩
abbrev cX12_bustOver : ByteArray := prog_14_method_61_code
def yX12_bustOver : MethodName := ⟨RX12, "bustOver", "(I)J"⟩
abbrev cX12_bustUnder : ByteArray := prog_14_method_62_code
def yX12_bustUnder : MethodName := ⟨RX12, "bustUnder", "(I)J"⟩
abbrev cX12_ends : ByteArray := prog_14_method_63_code
def yX12_ends : MethodName := ⟨RX12, "ends", "(IZII)D"⟩
abbrev cX12_dealerEnds : ByteArray := prog_14_method_64_code
def yX12_dealerEnds : MethodName := ⟨RX12, "dealerEnds", "(I)D"⟩
abbrev cX12_weigh : ByteArray := prog_14_method_65_code
def yX12_weigh : MethodName := ⟨RX12, "weigh", "(II)I"⟩
abbrev cX12_counted : ByteArray := prog_14_method_66_code
def yX12_counted : MethodName := ⟨RX12, "counted", "()I"⟩
abbrev cX12_count : ByteArray := prog_14_method_67_code
def yX12_count : MethodName := ⟨RX12, "count", "()I"⟩
abbrev cX12_trueCount : ByteArray := prog_14_method_68_code
def yX12_trueCount : MethodName := ⟨RX12, "trueCount", "()I"⟩
abbrev cX12_isSuspected : ByteArray := prog_14_method_69_code
def yX12_isSuspected : MethodName := ⟨RX12, "isSuspected", "(I)Z"⟩
abbrev cX12_broken : ByteArray := prog_14_method_70_code
def yX12_broken : MethodName := ⟨RX12, "broken", "()I"⟩
abbrev cX12_wager : ByteArray := prog_14_method_71_code
def yX12_wager : MethodName := ⟨RX12, "wager", "(ICII)I"⟩
abbrev cX12_isRed : ByteArray := prog_14_method_72_code
def yX12_isRed : MethodName := ⟨RX12, "isRed", "(I)Z"⟩
abbrev cX12_times : ByteArray := prog_14_method_73_code
def yX12_times : MethodName := ⟨RX12, "times", "(III)I"⟩
abbrev cX12_spin : ByteArray := prog_14_method_74_code
def yX12_spin : MethodName := ⟨RX12, "spin", "(I)I"⟩
abbrev cX12_isSpinning : ByteArray := prog_14_method_75_code
def yX12_isSpinning : MethodName := ⟨RX12, "isSpinning", "()Z"⟩
abbrev cX12_digit : ByteArray := prog_14_method_76_code
def yX12_digit : MethodName := ⟨RX12, "digit", "(II)I"⟩
abbrev cX12_areDigits : ByteArray := prog_14_method_77_code
def yX12_areDigits : MethodName := ⟨RX12, "areDigits", "(III)Z"⟩
abbrev cX12_stops : ByteArray := prog_14_method_78_code
def yX12_stops : MethodName := ⟨RX12, "stops", "(II)I"⟩
abbrev cX12_pays : ByteArray := prog_14_method_79_code
def yX12_pays : MethodName := ⟨RX12, "pays", "(II)I"⟩
abbrev cX12_bound : ByteArray := prog_14_method_80_code
def yX12_bound : MethodName := ⟨RX12, "bound", "(I)I"⟩
abbrev cX12_pull : ByteArray := prog_14_method_81_code
def yX12_pull : MethodName := ⟨RX12, "pull", "(II)I"⟩
abbrev cX12_stop : ByteArray := prog_14_method_82_code
def yX12_stop : MethodName := ⟨RX12, "stop", "(I)I"⟩
abbrev cX12_tilt : ByteArray := prog_14_method_83_code
def yX12_tilt : MethodName := ⟨RX12, "tilt", "()I"⟩
abbrev cX12_recover : ByteArray := prog_14_method_84_code
def yX12_recover : MethodName := ⟨RX12, "recover", "()I"⟩
abbrev cX12_pot : ByteArray := prog_14_method_85_code
def yX12_pot : MethodName := ⟨RX12, "pot", "()I"⟩
abbrev cX12_returned : ByteArray := prog_14_method_86_code
def yX12_returned : MethodName := ⟨RX12, "returned", "(Z)J"⟩
abbrev cX12_returnOver : ByteArray := prog_14_method_87_code
def yX12_returnOver : MethodName := ⟨RX12, "returnOver", "()J"⟩
abbrev cX12_returnUnder : ByteArray := prog_14_method_88_code
def yX12_returnUnder : MethodName := ⟨RX12, "returnUnder", "()J"⟩
abbrev cX12_setOf : ByteArray := prog_14_method_89_code
def yX12_setOf : MethodName := ⟨RX12, "setOf", "(I)I"⟩
abbrev cX12_ticket : ByteArray := prog_14_method_90_code
def yX12_ticket : MethodName := ⟨RX12, "ticket", "(II)I"⟩
abbrev cX12_right : ByteArray := prog_14_method_91_code
def yX12_right : MethodName := ⟨RX12, "right", "(I)I"⟩
abbrev cX12_draw : ByteArray := prog_14_method_92_code
def yX12_draw : MethodName := ⟨RX12, "draw", "(I)I"⟩
abbrev cX12_confirm : ByteArray := prog_14_method_93_code
def yX12_confirm : MethodName := ⟨RX12, "confirm", "()I"⟩
abbrev cX12_claim : ByteArray := prog_14_method_94_code
def yX12_claim : MethodName := ⟨RX12, "claim", "(I)I"⟩
abbrev cX12_pool : ByteArray := prog_14_method_95_code
def yX12_pool : MethodName := ⟨RX12, "pool", "()I"⟩
abbrev cX12_day : ByteArray := prog_14_method_96_code
def yX12_day : MethodName := ⟨RX12, "day", "()I"⟩
abbrev cX12_money : ByteArray := prog_14_method_97_code
def yX12_money : MethodName := ⟨RX12, "money", "(I)I"⟩
abbrev cX12_chips : ByteArray := prog_14_method_98_code
def yX12_chips : MethodName := ⟨RX12, "chips", "(I)I"⟩
abbrev cX12_isBarred : ByteArray := prog_14_method_99_code
def yX12_isBarred : MethodName := ⟨RX12, "isBarred", "(I)Z"⟩
abbrev cX12_staked : ByteArray := prog_14_method_100_code
def yX12_staked : MethodName := ⟨RX12, "staked", "(I)I"⟩
abbrev cX12_reports : ByteArray := prog_14_method_101_code
def yX12_reports : MethodName := ⟨RX12, "reports", "(I)I"⟩
abbrev cX12_tray : ByteArray := prog_14_method_102_code
def yX12_tray : MethodName := ⟨RX12, "tray", "(I)I"⟩
abbrev cX12_vault : ByteArray := prog_14_method_103_code
def yX12_vault : MethodName := ⟨RX12, "vault", "()I"⟩
abbrev cX12_power : ByteArray := prog_14_method_104_code
def yX12_power : MethodName := ⟨RX12, "power", "(JI)J"⟩
abbrev cX12_ruin : ByteArray := prog_14_method_105_code
def yX12_ruin : MethodName := ⟨RX12, "ruin", "(IIZ)J"⟩
abbrev cX12_ruinOver : ByteArray := prog_14_method_106_code
def yX12_ruinOver : MethodName := ⟨RX12, "ruinOver", "(II)J"⟩
abbrev cX12_ruinUnder : ByteArray := prog_14_method_107_code
def yX12_ruinUnder : MethodName := ⟨RX12, "ruinUnder", "(II)J"⟩
abbrev cX12_checksum : ByteArray := prog_14_method_108_code
def yX12_checksum : MethodName := ⟨RX12, "checksum", "()J"⟩
abbrev cX12_vaultBits : ByteArray := prog_14_method_109_code
def yX12_vaultBits : MethodName := ⟨RX12, "vaultBits", "()I"⟩
abbrev cX12_barredShare : ByteArray := prog_14_method_110_code
def yX12_barredShare : MethodName := ⟨RX12, "barredShare", "()F"⟩
abbrev cX12_meanChips : ByteArray := prog_14_method_111_code
def yX12_meanChips : MethodName := ⟨RX12, "meanChips", "()D"⟩
abbrev cX12_isSound : ByteArray := prog_14_method_112_code
def yX12_isSound : MethodName := ⟨RX12, "isSound", "()Z"⟩
def RJx145de : String := "java/io/Serializable"
def RJx00060 : String := "java/lang/ArrayIndexOutOfBoundsException"
abbrev cJx00060_init_a7421 : ByteArray := prog_17_method_2_code
def yJx00060_init_a7421 : MethodName := ⟨RJx00060, "<init>", "(Ljava/lang/String;)V"⟩
def RJxb160c : String := "java/lang/Comparable"
def RJxf58ca : String := "java/lang/Float"
abbrev cJxf58ca_isNaN_12338 : ByteArray := prog_20_method_6_code
def yJxf58ca_isNaN_12338 : MethodName := ⟨RJxf58ca, "isNaN", "(F)Z"⟩
abbrev cJxf58ca_floatToIntBits_5c35a : ByteArray := prog_20_method_24_code
def yJxf58ca_floatToIntBits_5c35a : MethodName := ⟨RJxf58ca, "floatToIntBits", "(F)I"⟩
def RJ6 : String := "java/lang/Integer"
abbrev cJ6_bitCount_0f7a4 : ByteArray := prog_24_method_49_code
def yJ6_bitCount_0f7a4 : MethodName := ⟨RJ6, "bitCount", "(I)I"⟩
def RJ9 : String := "java/lang/Math"
abbrev cJ9_floorMod_7cf53 : ByteArray := prog_25_method_50_code
def yJ9_floorMod_7cf53 : MethodName := ⟨RJ9, "floorMod", "(II)I"⟩
abbrev cJ9_max_7cf53 : ByteArray := prog_25_method_65_code
def yJ9_max_7cf53 : MethodName := ⟨RJ9, "max", "(II)I"⟩
abbrev cJ9_min_7cf53 : ByteArray := prog_25_method_69_code
def yJ9_min_7cf53 : MethodName := ⟨RJ9, "min", "(II)I"⟩
def RJxd2413 : String := "java/lang/Number"
def RJ0 : String := "java/lang/String"
def RJ10 : String := "java/lang/System"
def RJxfd54e : String := "java/lang/constant/Constable"
def RJx3cf43 : String := "java/lang/constant/ConstantDesc"
def RJ7 : String := "java/util/Arrays"
abbrev cJ7_fill_53178 : ByteArray := prog_34_method_103_code
def yJ7_fill_53178 : MethodName := ⟨RJ7, "fill", "([II)V"⟩
def RL : String := "ShoeHouseLaw"
abbrev cL_guest : ByteArray := method_3_code
def yL_guest : MethodName := ⟨RL, "guest", "(LShoeHouse;I[J)I"⟩
abbrev cL_buyIn : ByteArray := method_4_code
def yL_buyIn : MethodName := ⟨RL, "buyIn", "(LShoeHouse;II[J)I"⟩
abbrev cL_cashOut : ByteArray := method_5_code
def yL_cashOut : MethodName := ⟨RL, "cashOut", "(LShoeHouse;II[J)I"⟩
abbrev cL_limit : ByteArray := method_6_code
def yL_limit : MethodName := ⟨RL, "limit", "(LShoeHouse;II[J)I"⟩
abbrev cL_bar : ByteArray := method_7_code
def yL_bar : MethodName := ⟨RL, "bar", "(LShoeHouse;II[J)I"⟩
abbrev cL_pass : ByteArray := method_8_code
def yL_pass : MethodName := ⟨RL, "pass", "(LShoeHouse;I[J)I"⟩
abbrev cL_fill : ByteArray := method_9_code
def yL_fill : MethodName := ⟨RL, "fill", "(LShoeHouse;II[J)I"⟩
abbrev cL_credit : ByteArray := method_10_code
def yL_credit : MethodName := ⟨RL, "credit", "(LShoeHouse;II[J)I"⟩
abbrev cL_win : ByteArray := method_11_code
def yL_win : MethodName := ⟨RL, "win", "(LShoeHouse;I[J)I"⟩
abbrev cL_rule : ByteArray := method_12_code
def yL_rule : MethodName := ⟨RL, "rule", "(LShoeHouse;CZ[J)I"⟩
abbrev cL_lay : ByteArray := method_13_code
def yL_lay : MethodName := ⟨RL, "lay", "(LShoeHouse;I[J)I"⟩
abbrev cL_cut : ByteArray := method_14_code
def yL_cut : MethodName := ⟨RL, "cut", "(LShoeHouse;I[J)I"⟩
abbrev cL_riffle : ByteArray := method_15_code
def yL_riffle : MethodName := ⟨RL, "riffle", "(LShoeHouse;Z[J)I"⟩
abbrev cL_bet : ByteArray := method_16_code
def yL_bet : MethodName := ⟨RL, "bet", "(LShoeHouse;III[J)I"⟩
abbrev cL_deal : ByteArray := method_17_code
def yL_deal : MethodName := ⟨RL, "deal", "(LShoeHouse;[J)I"⟩
abbrev cL_hit : ByteArray := method_18_code
def yL_hit : MethodName := ⟨RL, "hit", "(LShoeHouse;I[J)I"⟩
abbrev cL_stand : ByteArray := method_19_code
def yL_stand : MethodName := ⟨RL, "stand", "(LShoeHouse;I[J)I"⟩
abbrev cL_twice : ByteArray := method_20_code
def yL_twice : MethodName := ⟨RL, "twice", "(LShoeHouse;I[J)I"⟩
abbrev cL_split : ByteArray := method_21_code
def yL_split : MethodName := ⟨RL, "split", "(LShoeHouse;I[J)I"⟩
abbrev cL_surrender : ByteArray := method_22_code
def yL_surrender : MethodName := ⟨RL, "surrender", "(LShoeHouse;I[J)I"⟩
abbrev cL_cardAt : ByteArray := method_23_code
def yL_cardAt : MethodName := ⟨RL, "cardAt", "(LShoeHouse;III[J)I"⟩
abbrev cL_dealerAt : ByteArray := method_24_code
def yL_dealerAt : MethodName := ⟨RL, "dealerAt", "(LShoeHouse;I[J)I"⟩
abbrev cL_turn : ByteArray := method_25_code
def yL_turn : MethodName := ⟨RL, "turn", "(LShoeHouse;[J)I"⟩
abbrev cL_left : ByteArray := method_26_code
def yL_left : MethodName := ⟨RL, "left", "(LShoeHouse;I[J)I"⟩
abbrev cL_bustOver : ByteArray := method_27_code
def yL_bustOver : MethodName := ⟨RL, "bustOver", "(LShoeHouse;I[J)I"⟩
abbrev cL_bustUnder : ByteArray := method_28_code
def yL_bustUnder : MethodName := ⟨RL, "bustUnder", "(LShoeHouse;I[J)I"⟩
abbrev cL_dealerEnds : ByteArray := method_29_code
def yL_dealerEnds : MethodName := ⟨RL, "dealerEnds", "(LShoeHouse;I[D)I"⟩
abbrev cL_weigh : ByteArray := method_30_code
def yL_weigh : MethodName := ⟨RL, "weigh", "(LShoeHouse;II[J)I"⟩
abbrev cL_trueCount : ByteArray := method_31_code
def yL_trueCount : MethodName := ⟨RL, "trueCount", "(LShoeHouse;[J)I"⟩
abbrev cL_isSuspected : ByteArray := method_32_code
def yL_isSuspected : MethodName := ⟨RL, "isSuspected", "(LShoeHouse;I[J)I"⟩
abbrev cL_wager : ByteArray := method_33_code
def yL_wager : MethodName := ⟨RL, "wager", "(LShoeHouse;ICII[J)I"⟩
abbrev cL_spin : ByteArray := method_34_code
def yL_spin : MethodName := ⟨RL, "spin", "(LShoeHouse;I[J)I"⟩
abbrev cL_stops : ByteArray := method_35_code
def yL_stops : MethodName := ⟨RL, "stops", "(LShoeHouse;II[J)I"⟩
abbrev cL_pays : ByteArray := method_36_code
def yL_pays : MethodName := ⟨RL, "pays", "(LShoeHouse;II[J)I"⟩
abbrev cL_bound : ByteArray := method_37_code
def yL_bound : MethodName := ⟨RL, "bound", "(LShoeHouse;I[J)I"⟩
abbrev cL_pull : ByteArray := method_38_code
def yL_pull : MethodName := ⟨RL, "pull", "(LShoeHouse;II[J)I"⟩
abbrev cL_stop : ByteArray := method_39_code
def yL_stop : MethodName := ⟨RL, "stop", "(LShoeHouse;I[J)I"⟩
abbrev cL_tilt : ByteArray := method_40_code
def yL_tilt : MethodName := ⟨RL, "tilt", "(LShoeHouse;[J)I"⟩
abbrev cL_recover : ByteArray := method_41_code
def yL_recover : MethodName := ⟨RL, "recover", "(LShoeHouse;[J)I"⟩
abbrev cL_ticket : ByteArray := method_42_code
def yL_ticket : MethodName := ⟨RL, "ticket", "(LShoeHouse;II[J)I"⟩
abbrev cL_draw : ByteArray := method_43_code
def yL_draw : MethodName := ⟨RL, "draw", "(LShoeHouse;I[J)I"⟩
abbrev cL_confirm : ByteArray := method_44_code
def yL_confirm : MethodName := ⟨RL, "confirm", "(LShoeHouse;[J)I"⟩
abbrev cL_claim : ByteArray := method_45_code
def yL_claim : MethodName := ⟨RL, "claim", "(LShoeHouse;I[J)I"⟩
abbrev cL_money : ByteArray := method_46_code
def yL_money : MethodName := ⟨RL, "money", "(LShoeHouse;I[J)I"⟩
abbrev cL_chips : ByteArray := method_47_code
def yL_chips : MethodName := ⟨RL, "chips", "(LShoeHouse;I[J)I"⟩
abbrev cL_isBarred : ByteArray := method_48_code
def yL_isBarred : MethodName := ⟨RL, "isBarred", "(LShoeHouse;I[J)I"⟩
abbrev cL_staked : ByteArray := method_49_code
def yL_staked : MethodName := ⟨RL, "staked", "(LShoeHouse;I[J)I"⟩
abbrev cL_reports : ByteArray := method_50_code
def yL_reports : MethodName := ⟨RL, "reports", "(LShoeHouse;I[J)I"⟩
abbrev cL_tray : ByteArray := method_51_code
def yL_tray : MethodName := ⟨RL, "tray", "(LShoeHouse;I[J)I"⟩
abbrev cL_ruinOver : ByteArray := method_52_code
def yL_ruinOver : MethodName := ⟨RL, "ruinOver", "(LShoeHouse;II[J)I"⟩
abbrev cL_ruinUnder : ByteArray := method_53_code
def yL_ruinUnder : MethodName := ⟨RL, "ruinUnder", "(LShoeHouse;II[J)I"⟩
abbrev cL_barredShare : ByteArray := method_54_code
def yL_barredShare : MethodName := ⟨RL, "barredShare", "(LShoeHouse;[D)I"⟩
abbrev cL_meanChips : ByteArray := method_55_code
def yL_meanChips : MethodName := ⟨RL, "meanChips", "(LShoeHouse;[D)I"⟩
abbrev cL_law : ByteArray := code
def yL_law : MethodName := ⟨RL, "law", "([I)Z"⟩
/-! ===== the shape of this claim: classes, array types, texts ===== -/
abbrev zk_cl : List vw_C := [(RX0, TX0, 10), (RX1, TX1, 3), (RX2, TX2, 13), (RX3, TX3, 7), (RX4, TX4, 5), (RX5, TX5, 9), (RX6, TX6, 4), (RX7, TX7, 8), (RX8, TX8, 5), (RX9, TX9, 1), (RX10, TX10, 6), (RX11, TX11, 11), (RX12, TX12, 50)]
def zk_ty : Nat → Nat → FieldType := fun c j => match c with
  | 0 => tyX0 j
  | 1 => tyX1 j
  | 2 => tyX2 j
  | 3 => tyX3 j
  | 4 => tyX4 j
  | 5 => tyX5 j
  | 6 => tyX6 j
  | 7 => tyX7 j
  | 8 => tyX8 j
  | 9 => tyX9 j
  | 10 => tyX10 j
  | 11 => tyX11 j
  | _ => tyX12 j
abbrev zk_str : List (String × Nat × String) := [("ShoeHouse", 576, "a number is out of range"), ("ShoeHouse", 89, "there are as many guests as there can be"), ("ShoeHouse", 532, "no such guest"), ("ShoeHouse", 106, "not so much money, or not so many chips in the vault"), ("ShoeHouse", 114, "not so many chips"), ("ShoeHouse", 130, "no day to be barred until"), ("ShoeHouse", 153, "a round or a spin goes on"), ("ShoeHouse", 534, "no such table"), ("ShoeHouse", 169, "the vault has not so many chips"), ("ShoeHouse", 175, "the tray has not so many chips"), ("ShoeHouse", 187, "no such letter"), ("ShoeHouse", 566, "a round goes on"), ("ShoeHouse", 205, "not between the first and the last card"), ("ShoeHouse", 213, "the shoe has no cards"), ("ShoeHouse", 540, "no such seat"), ("ShoeHouse", 228, "the seat has a stake"), ("ShoeHouse", 555, "the guest may not stake that"), ("ShoeHouse", 250, "no stake, or too few cards"), ("ShoeHouse", 564, "no round goes on"), ("ShoeHouse", 546, "it is not the turn of this seat"), ("ShoeHouse", 557, "the shoe has not so many cards"), ("ShoeHouse", 282, "this hand is not doubled"), ("ShoeHouse", 294, "this hand is not split"), ("ShoeHouse", 309, "this hand is not surrendered"), ("ShoeHouse", 320, "no such hand"), ("ShoeHouse", 326, "no such card"), ("ShoeHouse", 332, "no such card, or it is hidden"), ("ShoeHouse", 561, "no cards are left"), ("ShoeHouse", 377, "no such wager"), ("ShoeHouse", 382, "there are as many wagers as there can be"), ("ShoeHouse", 392, "no such reel"), ("ShoeHouse", 398, "not eight symbols"), ("ShoeHouse", 570, "a spin goes on"), ("ShoeHouse", 416, "a spin goes on, or is to be recovered"), ("ShoeHouse", 424, "not three stops"), ("ShoeHouse", 568, "no spin goes on"), ("ShoeHouse", 436, "no spin is to be recovered"), ("ShoeHouse", 574, "not three unlike numbers"), ("ShoeHouse", 455, "no ticket is sold now"), ("ShoeHouse", 472, "no draw is to be confirmed"), ("ShoeHouse", 480, "no prizes"), ("ShoeHouse", 572, "there are no guests")]
abbrev zk_nc : List (String × String) := [("ShoeHouse", "java/lang/IllegalArgumentException"), ("ShoeHouse$Vault", "java/lang/IllegalArgumentException"), ("ShoeHouse$Shoe", "java/lang/IllegalArgumentException"), ("ShoeHouse$DealerOdds", "java/lang/IllegalArgumentException"), ("ShoeHouse$Lottery", "java/lang/IllegalArgumentException"), ("ShoeHouse$Guest", "java/lang/IllegalArgumentException"), ("ShoeHouse$Tray", "java/lang/IllegalArgumentException"), ("ShoeHouse$CardTable", "java/lang/IllegalArgumentException"), ("ShoeHouse$Hand", "java/lang/IllegalArgumentException"), ("ShoeHouse$Seat", "java/lang/IllegalArgumentException"), ("ShoeHouse$Wheel", "java/lang/IllegalArgumentException"), ("ShoeHouse$Machine", "java/lang/IllegalArgumentException"), ("ShoeHouseModel", "java/lang/IllegalArgumentException"), ("java/lang/IllegalStateException", "java/lang/IllegalArgumentException"), ("java/lang/ArrayIndexOutOfBoundsException", "java/lang/IllegalArgumentException"), ("java/lang/IndexOutOfBoundsException", "java/lang/IllegalArgumentException"), ("java/lang/UnsupportedOperationException", "java/lang/IllegalArgumentException"), ("java/util/NoSuchElementException", "java/lang/IllegalArgumentException"), ("java/lang/ArithmeticException", "java/lang/IllegalArgumentException"), ("ShoeHouse", "java/lang/IllegalStateException"), ("ShoeHouse$Vault", "java/lang/IllegalStateException"), ("ShoeHouse$Shoe", "java/lang/IllegalStateException"), ("ShoeHouse$DealerOdds", "java/lang/IllegalStateException"), ("ShoeHouse$Lottery", "java/lang/IllegalStateException"), ("ShoeHouse$Guest", "java/lang/IllegalStateException"), ("ShoeHouse$Tray", "java/lang/IllegalStateException"), ("ShoeHouse$CardTable", "java/lang/IllegalStateException"), ("ShoeHouse$Hand", "java/lang/IllegalStateException"), ("ShoeHouse$Seat", "java/lang/IllegalStateException"), ("ShoeHouse$Wheel", "java/lang/IllegalStateException"), ("ShoeHouse$Machine", "java/lang/IllegalStateException"), ("ShoeHouseModel", "java/lang/IllegalStateException"), ("java/lang/IllegalArgumentException", "java/lang/IllegalStateException"), ("java/lang/ArrayIndexOutOfBoundsException", "java/lang/IllegalStateException"), ("java/lang/IndexOutOfBoundsException", "java/lang/IllegalStateException"), ("java/lang/UnsupportedOperationException", "java/lang/IllegalStateException"), ("java/util/NoSuchElementException", "java/lang/IllegalStateException"), ("java/lang/ArithmeticException", "java/lang/IllegalStateException"), ("ShoeHouse", "java/lang/IndexOutOfBoundsException"), ("ShoeHouse$Vault", "java/lang/IndexOutOfBoundsException"), ("ShoeHouse$Shoe", "java/lang/IndexOutOfBoundsException"), ("ShoeHouse$DealerOdds", "java/lang/IndexOutOfBoundsException"), ("ShoeHouse$Lottery", "java/lang/IndexOutOfBoundsException"), ("ShoeHouse$Guest", "java/lang/IndexOutOfBoundsException"), ("ShoeHouse$Tray", "java/lang/IndexOutOfBoundsException"), ("ShoeHouse$CardTable", "java/lang/IndexOutOfBoundsException"), ("ShoeHouse$Hand", "java/lang/IndexOutOfBoundsException"), ("ShoeHouse$Seat", "java/lang/IndexOutOfBoundsException"), ("ShoeHouse$Wheel", "java/lang/IndexOutOfBoundsException"), ("ShoeHouse$Machine", "java/lang/IndexOutOfBoundsException"), ("ShoeHouseModel", "java/lang/IndexOutOfBoundsException"), ("java/lang/IllegalArgumentException", "java/lang/IndexOutOfBoundsException"), ("java/lang/IllegalStateException", "java/lang/IndexOutOfBoundsException"), ("java/lang/UnsupportedOperationException", "java/lang/IndexOutOfBoundsException"), ("java/util/NoSuchElementException", "java/lang/IndexOutOfBoundsException"), ("java/lang/ArithmeticException", "java/lang/IndexOutOfBoundsException"), ("ShoeHouse", "java/lang/UnsupportedOperationException"), ("ShoeHouse$Vault", "java/lang/UnsupportedOperationException"), ("ShoeHouse$Shoe", "java/lang/UnsupportedOperationException"), ("ShoeHouse$DealerOdds", "java/lang/UnsupportedOperationException"), ("ShoeHouse$Lottery", "java/lang/UnsupportedOperationException"), ("ShoeHouse$Guest", "java/lang/UnsupportedOperationException"), ("ShoeHouse$Tray", "java/lang/UnsupportedOperationException"), ("ShoeHouse$CardTable", "java/lang/UnsupportedOperationException"), ("ShoeHouse$Hand", "java/lang/UnsupportedOperationException"), ("ShoeHouse$Seat", "java/lang/UnsupportedOperationException"), ("ShoeHouse$Wheel", "java/lang/UnsupportedOperationException"), ("ShoeHouse$Machine", "java/lang/UnsupportedOperationException"), ("ShoeHouseModel", "java/lang/UnsupportedOperationException"), ("java/lang/IllegalArgumentException", "java/lang/UnsupportedOperationException"), ("java/lang/IllegalStateException", "java/lang/UnsupportedOperationException"), ("java/lang/ArrayIndexOutOfBoundsException", "java/lang/UnsupportedOperationException"), ("java/lang/IndexOutOfBoundsException", "java/lang/UnsupportedOperationException"), ("java/util/NoSuchElementException", "java/lang/UnsupportedOperationException"), ("java/lang/ArithmeticException", "java/lang/UnsupportedOperationException"), ("ShoeHouse", "java/util/NoSuchElementException"), ("ShoeHouse$Vault", "java/util/NoSuchElementException"), ("ShoeHouse$Shoe", "java/util/NoSuchElementException"), ("ShoeHouse$DealerOdds", "java/util/NoSuchElementException"), ("ShoeHouse$Lottery", "java/util/NoSuchElementException"), ("ShoeHouse$Guest", "java/util/NoSuchElementException"), ("ShoeHouse$Tray", "java/util/NoSuchElementException"), ("ShoeHouse$CardTable", "java/util/NoSuchElementException"), ("ShoeHouse$Hand", "java/util/NoSuchElementException"), ("ShoeHouse$Seat", "java/util/NoSuchElementException"), ("ShoeHouse$Wheel", "java/util/NoSuchElementException"), ("ShoeHouse$Machine", "java/util/NoSuchElementException"), ("ShoeHouseModel", "java/util/NoSuchElementException"), ("java/lang/IllegalArgumentException", "java/util/NoSuchElementException"), ("java/lang/IllegalStateException", "java/util/NoSuchElementException"), ("java/lang/ArrayIndexOutOfBoundsException", "java/util/NoSuchElementException"), ("java/lang/IndexOutOfBoundsException", "java/util/NoSuchElementException"), ("java/lang/UnsupportedOperationException", "java/util/NoSuchElementException"), ("java/lang/ArithmeticException", "java/util/NoSuchElementException"), ("ShoeHouse", "java/lang/ArithmeticException"), ("ShoeHouse$Vault", "java/lang/ArithmeticException"), ("ShoeHouse$Shoe", "java/lang/ArithmeticException"), ("ShoeHouse$DealerOdds", "java/lang/ArithmeticException"), ("ShoeHouse$Lottery", "java/lang/ArithmeticException"), ("ShoeHouse$Guest", "java/lang/ArithmeticException"), ("ShoeHouse$Tray", "java/lang/ArithmeticException"), ("ShoeHouse$CardTable", "java/lang/ArithmeticException"), ("ShoeHouse$Hand", "java/lang/ArithmeticException"), ("ShoeHouse$Seat", "java/lang/ArithmeticException"), ("ShoeHouse$Wheel", "java/lang/ArithmeticException"), ("ShoeHouse$Machine", "java/lang/ArithmeticException"), ("ShoeHouseModel", "java/lang/ArithmeticException"), ("java/lang/IllegalArgumentException", "java/lang/ArithmeticException"), ("java/lang/IllegalStateException", "java/lang/ArithmeticException"), ("java/lang/ArrayIndexOutOfBoundsException", "java/lang/ArithmeticException"), ("java/lang/IndexOutOfBoundsException", "java/lang/ArithmeticException"), ("java/lang/UnsupportedOperationException", "java/lang/ArithmeticException"), ("java/util/NoSuchElementException", "java/lang/ArithmeticException"), ("ShoeHouse", "ShoeHouse$Guest"), ("ShoeHouse$Vault", "ShoeHouse$Guest"), ("ShoeHouse$Shoe", "ShoeHouse$Guest"), ("ShoeHouse$DealerOdds", "ShoeHouse$Guest"), ("ShoeHouse$Lottery", "ShoeHouse$Guest"), ("ShoeHouse$Tray", "ShoeHouse$Guest"), ("ShoeHouse$CardTable", "ShoeHouse$Guest"), ("ShoeHouse$Hand", "ShoeHouse$Guest"), ("ShoeHouse$Seat", "ShoeHouse$Guest"), ("ShoeHouse$Wheel", "ShoeHouse$Guest"), ("ShoeHouse$Machine", "ShoeHouse$Guest"), ("ShoeHouseModel", "ShoeHouse$Guest"), ("java/lang/IllegalArgumentException", "ShoeHouse$Guest"), ("java/lang/IllegalStateException", "ShoeHouse$Guest"), ("java/lang/ArrayIndexOutOfBoundsException", "ShoeHouse$Guest"), ("java/lang/IndexOutOfBoundsException", "ShoeHouse$Guest"), ("java/lang/UnsupportedOperationException", "ShoeHouse$Guest"), ("java/util/NoSuchElementException", "ShoeHouse$Guest"), ("java/lang/ArithmeticException", "ShoeHouse$Guest"), ("java/lang/Throwable", "ShoeHouse$Guest"), ("java/lang/String", "ShoeHouse$Guest"), ("ShoeHouse", "ShoeHouse$Tray"), ("ShoeHouse$Vault", "ShoeHouse$Tray"), ("ShoeHouse$Shoe", "ShoeHouse$Tray"), ("ShoeHouse$DealerOdds", "ShoeHouse$Tray"), ("ShoeHouse$Lottery", "ShoeHouse$Tray"), ("ShoeHouse$Guest", "ShoeHouse$Tray"), ("ShoeHouse$CardTable", "ShoeHouse$Tray"), ("ShoeHouse$Hand", "ShoeHouse$Tray"), ("ShoeHouse$Seat", "ShoeHouse$Tray"), ("ShoeHouse$Wheel", "ShoeHouse$Tray"), ("ShoeHouse$Machine", "ShoeHouse$Tray"), ("ShoeHouseModel", "ShoeHouse$Tray"), ("java/lang/IllegalArgumentException", "ShoeHouse$Tray"), ("java/lang/IllegalStateException", "ShoeHouse$Tray"), ("java/lang/ArrayIndexOutOfBoundsException", "ShoeHouse$Tray"), ("java/lang/IndexOutOfBoundsException", "ShoeHouse$Tray"), ("java/lang/UnsupportedOperationException", "ShoeHouse$Tray"), ("java/util/NoSuchElementException", "ShoeHouse$Tray"), ("java/lang/ArithmeticException", "ShoeHouse$Tray"), ("java/lang/Throwable", "ShoeHouse$Tray"), ("java/lang/String", "ShoeHouse$Tray"), ("ShoeHouse", "ShoeHouse$Seat"), ("ShoeHouse$Vault", "ShoeHouse$Seat"), ("ShoeHouse$Shoe", "ShoeHouse$Seat"), ("ShoeHouse$DealerOdds", "ShoeHouse$Seat"), ("ShoeHouse$Lottery", "ShoeHouse$Seat"), ("ShoeHouse$Guest", "ShoeHouse$Seat"), ("ShoeHouse$Tray", "ShoeHouse$Seat"), ("ShoeHouse$CardTable", "ShoeHouse$Seat"), ("ShoeHouse$Hand", "ShoeHouse$Seat"), ("ShoeHouse$Wheel", "ShoeHouse$Seat"), ("ShoeHouse$Machine", "ShoeHouse$Seat"), ("ShoeHouseModel", "ShoeHouse$Seat"), ("java/lang/IllegalArgumentException", "ShoeHouse$Seat"), ("java/lang/IllegalStateException", "ShoeHouse$Seat"), ("java/lang/ArrayIndexOutOfBoundsException", "ShoeHouse$Seat"), ("java/lang/IndexOutOfBoundsException", "ShoeHouse$Seat"), ("java/lang/UnsupportedOperationException", "ShoeHouse$Seat"), ("java/util/NoSuchElementException", "ShoeHouse$Seat"), ("java/lang/ArithmeticException", "ShoeHouse$Seat"), ("java/lang/Throwable", "ShoeHouse$Seat"), ("java/lang/String", "ShoeHouse$Seat")]
abbrev zk_aty : List FieldType := [.int, .long, .double, .char, .boolean, .object "ShoeHouse$Guest", .object "ShoeHouse$Tray", .object "ShoeHouse$Seat", .array .int, .array (.array .int)]
def zTb : Nat → List Cond := fun j => match j with
  | 0 => k2_sels lw_privs
  | 1 => tables_1_1
  | 2 => tables_1_2
  | 3 => tables_1_3
  | 4 => tables_1_4
  | 5 => tables_1_5
  | 6 => tables_1_6
  | 7 => tables_1_7
  | 8 => tables_1_8
  | 9 => tables_1_9
  | 10 => tables_1_10
  | _ => []
theorem zTb_in {w : Cond} : ∀ j : Nat, w ∈ zTb j → w ∈ lw_tbl := by
  intro j h
  unfold lw_tbl tables_1
  unfold zTb at h
  split at h
  all_goals first | (simp only [List.mem_append]; simp [h]; done) | cases h
def zhas (p : Nat × Nat) (w : Cond) : Bool := decide ((zTb p.1)[p.2]? = some w) && zg_good w
theorem zhas_in {p : Nat × Nat} {w : Cond} (h : zhas p w = true) : w ∈ lw_g := by
  unfold zhas at h
  rw [Bool.and_eq_true] at h
  have h1 := of_decide_eq_true h.1
  exact lw_g_of (zTb_in _ (List.mem_of_getElem? h1)) h.2
def zhasL : List (Nat × Nat) → List Cond → Bool
  | _, [] => true
  | p :: ps, w :: ws => zhas p w && zhasL ps ws
  | [], _ :: _ => false
theorem zhasL_in : ∀ {ps : List (Nat × Nat)} {ws : List Cond}, zhasL ps ws = true → ∀ w ∈ ws, w ∈ lw_g
  | _, [], _, w, hw => nomatch hw
  | [], w0 :: ws, h, w, hw => by cases h
  | p :: ps, w0 :: ws, h, w, hw => by
    simp only [zhasL, Bool.and_eq_true] at h
    rcases List.mem_cons.mp hw with rfl | hw
    · exact zhas_in h.1
    · exact zhasL_in h.2 w hw
theorem zl_in0 : zhasL [(2, 57), (2, 59), (2, 61), (2, 63), (2, 65), (2, 67), (2, 69), (2, 71), (2, 73), (2, 75)] (u_ws RX0 TX0 10) = true := by decide +kernel
theorem zl_in1 : zhasL [(1, 97), (1, 99), (1, 101)] (u_ws RX1 TX1 3) = true := by decide +kernel
theorem zl_in2 : zhasL [(1, 157), (1, 159), (1, 161), (1, 163), (1, 165), (1, 167), (1, 169), (1, 171), (1, 173), (1, 175), (1, 177), (1, 179), (1, 181)] (u_ws RX2 TX2 13) = true := by decide +kernel
theorem zl_in3 : zhasL [(1, 236), (1, 238), (2, 0), (2, 2), (2, 4), (2, 6), (2, 8)] (u_ws RX3 TX3 7) = true := by decide +kernel
theorem zl_in4 : zhasL [(1, 119), (1, 121), (1, 123), (1, 125), (1, 127)] (u_ws RX4 TX4 5) = true := by decide +kernel
theorem zl_in5 : zhasL [(2, 129), (2, 131), (2, 133), (2, 135), (2, 137), (2, 139), (2, 141), (2, 143), (2, 145)] (u_ws RX5 TX5 9) = true := by decide +kernel
theorem zl_in6 : zhasL [(2, 29), (2, 31), (2, 33), (2, 35)] (u_ws RX6 TX6 4) = true := by decide +kernel
theorem zl_in7 : zhasL [(1, 70), (1, 72), (1, 74), (1, 76), (1, 78), (1, 80), (1, 82), (1, 84)] (u_ws RX7 TX7 8) = true := by decide +kernel
theorem zl_in8 : zhasL [(1, 195), (1, 197), (1, 199), (1, 201), (1, 203)] (u_ws RX8 TX8 5) = true := by decide +kernel
theorem zl_in9 : zhasL [(1, 53)] (u_ws RX9 TX9 1) = true := by decide +kernel
theorem zl_in10 : zhasL [(2, 92), (2, 94), (2, 96), (2, 98), (2, 100), (2, 102)] (u_ws RX10 TX10 6) = true := by decide +kernel
theorem zl_in11 : zhasL [(2, 159), (2, 161), (2, 163), (2, 165), (2, 167), (2, 169), (2, 171), (2, 173), (2, 175), (2, 177), (2, 179)] (u_ws RX11 TX11 11) = true := by decide +kernel
theorem zl_in12 : zhasL [(8, 8), (8, 10), (8, 12), (8, 14), (8, 16), (8, 18), (8, 20), (8, 22), (8, 24), (8, 26), (8, 28), (8, 30), (8, 32), (8, 34), (8, 36), (8, 38), (8, 40), (8, 42), (8, 44), (8, 46), (8, 48), (8, 50), (8, 52), (8, 54), (8, 56), (8, 58), (8, 60), (8, 62), (8, 64), (8, 66), (8, 68), (8, 70), (8, 72), (8, 74), (8, 76), (8, 78), (8, 80), (8, 82), (8, 84), (8, 86), (8, 88), (8, 90), (8, 92), (8, 94), (8, 96), (8, 98), (8, 100), (8, 102), (8, 104), (8, 106)] (u_ws RX12 TX12 50) = true := by decide +kernel
theorem zc_in : ∀ (ci : Nat) (q : vw_C), zk_cl[ci]? = some q → ∀ w ∈ u_ws q.1 q.2.1 q.2.2, w ∈ lw_g := fun ci q hq => match ci, hq with
  | 0, hq => by cases Option.some.inj hq; exact zhasL_in zl_in0
  | 1, hq => by cases Option.some.inj hq; exact zhasL_in zl_in1
  | 2, hq => by cases Option.some.inj hq; exact zhasL_in zl_in2
  | 3, hq => by cases Option.some.inj hq; exact zhasL_in zl_in3
  | 4, hq => by cases Option.some.inj hq; exact zhasL_in zl_in4
  | 5, hq => by cases Option.some.inj hq; exact zhasL_in zl_in5
  | 6, hq => by cases Option.some.inj hq; exact zhasL_in zl_in6
  | 7, hq => by cases Option.some.inj hq; exact zhasL_in zl_in7
  | 8, hq => by cases Option.some.inj hq; exact zhasL_in zl_in8
  | 9, hq => by cases Option.some.inj hq; exact zhasL_in zl_in9
  | 10, hq => by cases Option.some.inj hq; exact zhasL_in zl_in10
  | 11, hq => by cases Option.some.inj hq; exact zhasL_in zl_in11
  | 12, hq => by cases Option.some.inj hq; exact zhasL_in zl_in12
  | n + 13, hq => by simp [zk_cl] at hq
theorem zc_ty : ∀ (ci : Nat) (q : vw_C), zk_cl[ci]? = some q → ∀ k, k < q.2.2 → parseFieldDescriptor (q.2.1 k).2.2.1 = some (zk_ty ci k) := fun ci q hq => match ci, hq with
  | 0, hq => by cases Option.some.inj hq; exact tyX0_ok
  | 1, hq => by cases Option.some.inj hq; exact tyX1_ok
  | 2, hq => by cases Option.some.inj hq; exact tyX2_ok
  | 3, hq => by cases Option.some.inj hq; exact tyX3_ok
  | 4, hq => by cases Option.some.inj hq; exact tyX4_ok
  | 5, hq => by cases Option.some.inj hq; exact tyX5_ok
  | 6, hq => by cases Option.some.inj hq; exact tyX6_ok
  | 7, hq => by cases Option.some.inj hq; exact tyX7_ok
  | 8, hq => by cases Option.some.inj hq; exact tyX8_ok
  | 9, hq => by cases Option.some.inj hq; exact tyX9_ok
  | 10, hq => by cases Option.some.inj hq; exact tyX10_ok
  | 11, hq => by cases Option.some.inj hq; exact tyX11_ok
  | 12, hq => by cases Option.some.inj hq; exact tyX12_ok
  | n + 13, hq => by simp [zk_cl] at hq
theorem zc_nm : ∀ (ci : Nat) (q : vw_C), zk_cl[ci]? = some q → ∀ a, a < q.2.2 → ∀ b, b < q.2.2 → a ≠ b → (q.2.1 a).2.1 ≠ (q.2.1 b).2.1 := fun ci q hq => match ci, hq with
  | 0, hq => by cases Option.some.inj hq; exact nmX0
  | 1, hq => by cases Option.some.inj hq; exact nmX1
  | 2, hq => by cases Option.some.inj hq; exact nmX2
  | 3, hq => by cases Option.some.inj hq; exact nmX3
  | 4, hq => by cases Option.some.inj hq; exact nmX4
  | 5, hq => by cases Option.some.inj hq; exact nmX5
  | 6, hq => by cases Option.some.inj hq; exact nmX6
  | 7, hq => by cases Option.some.inj hq; exact nmX7
  | 8, hq => by cases Option.some.inj hq; exact nmX8
  | 9, hq => by cases Option.some.inj hq; exact nmX9
  | 10, hq => by cases Option.some.inj hq; exact nmX10
  | 11, hq => by cases Option.some.inj hq; exact nmX11
  | 12, hq => by cases Option.some.inj hq; exact nmX12
  | n + 13, hq => by simp [zk_cl] at hq
end
section
/-! ===== EV: a pure memory under the machine. Values, memory, world ===== -/
abbrev zv_V : Type := (Int ⊕ Int) ⊕ (Int ⊕ (UInt64 ⊕ UInt32))
abbrev zv_i (x : Int) : zv_V := .inl (.inl x)
abbrev zv_a (r : Int) : zv_V := .inl (.inr r)
abbrev zv_l (x : Int) : zv_V := .inr (.inl x)
abbrev zv_d (x : UInt64) : zv_V := .inr (.inr (.inl x))
abbrev zv_f (x : UInt32) : zv_V := .inr (.inr (.inr x))
/-- the fixed surroundings: base, script (cell, length, ints), classes, classes of arrays -/
abbrev ze_E : Type := (Nat × (Nat × (Nat × (Nat → Int32)))) × (va_G × (FieldType → ClassId))
def ze_o (E : ze_E) : Nat := E.1.1
def ze_b (E : ze_E) : Nat := E.1.2.1
def ze_L (E : ze_E) : Nat := E.1.2.2.1
def ze_x (E : ze_E) : Nat → Int32 := E.1.2.2.2
def ze_D (E : ze_E) : va_G := E.2.1
def ze_t (E : ze_E) : FieldType → ClassId := E.2.2
def ze_A (E : ze_E) : Nat → Prop := fun q => ze_o E ≤ q
def zv_ro (E : ze_E) (r : Int) : Option Nat := if r = 0 then none else if r < 0 then (if r = -1 then some (ze_b E) else some (-r - 2).toNat) else some (ze_o E + (r.toNat - 1))
def zv_c (E : ze_E) : zv_V → Value
  | .inl (.inl x) => .int (Int32.ofInt x)
  | .inl (.inr r) => va_rf (zv_ro E r)
  | .inr (.inl x) => .long (Int64.ofInt x)
  | .inr (.inr (.inl x)) => .double x
  | .inr (.inr (.inr x)) => .float x
def zv_k : zv_V → Nat
  | .inl _ => 1
  | .inr (.inl _) => 2
  | .inr (.inr (.inl _)) => 2
  | .inr (.inr (.inr _)) => 1
theorem va_rf_cat (r : Option Nat) : (va_rf r).category = 1 := by cases r <;> rfl
theorem zv_cat (E : ze_E) (v : zv_V) : (zv_c E v).category = zv_k v := by
  rcases v with (x | r) | (x | (x | x)) <;> first | rfl | exact va_rf_cat _
def zv_fv (E : ze_E) (ty : FieldType) (z : Int) : Value := match ty with
  | .object _ => va_rf (zv_ro E z)
  | .array _ => va_rf (zv_ro E z)
  | .long => .long (Int64.ofInt z)
  | .double => .double (UInt64.ofNat z.toNat)
  | .float => .float (UInt32.ofNat z.toNat)
  | _ => .int (Int32.ofInt z)
def zv_of (ty : FieldType) (z : Int) : zv_V := match ty with
  | .object _ => zv_a z
  | .array _ => zv_a z
  | .long => zv_l z
  | .double => zv_d (UInt64.ofNat z.toNat)
  | .float => zv_f (UInt32.ofNat z.toNat)
  | _ => zv_i z
theorem zv_of_c (E : ze_E) (ty : FieldType) (z : Int) : zv_c E (zv_of ty z) = zv_fv E ty z := by cases ty <;> rfl
/-- memory: by object and place -/
abbrev zm_D : Type := Int → Int → Int
def zm_u (d : zm_D) (r j v : Int) : zm_D := fun a k => if a = r ∧ k = j then v else d a k
/-- what lies at an address: an object of a class, an array of a type and length -/
abbrev zk_K : Type := Option (Nat ⊕ (FieldType × Nat))
abbrev zk_S : Type := Int → zk_K
def zw_at (E : ze_E) (d : zm_D) (H : Heap) (r : Nat) : zk_K → Prop
  | none => True
  | some (.inl ci) => ∃ q, zk_cl[ci]? = some q ∧ t_OB (ze_o E + (r - 1)) ((ze_D E).1 ci) q.2.2 ((ze_D E).2 ci) H (fun j => zv_fv E (zk_ty ci j) (d r j))
  | some (.inr (ty, N)) => H[ze_o E + (r - 1)]? = some (arrV (ze_t E ty) N (fun j => zv_fv E ty (d r j))) ∧ ty ∈ zk_aty
def zw_H (E : ze_E) (n : Nat) (sh : zk_S) (d : zm_D) (H : Heap) : Prop := H.size = ze_o E + n ∧ ∀ r : Nat, 1 ≤ r → zw_at E d H r (sh r)
/-- what the tables say, wherever the machine stands -/
def zw_T (E : ze_E) (U : State) : Prop :=
  (∀ (c : Nat) (q : vw_C), zk_cl[c]? = some q → u_Kn U q.1 q.2.1 q.2.2 ((ze_D E).1 c) ((ze_D E).2 c)) ∧
  (∀ ty ∈ zk_aty, ArrOfT U (ze_t E ty) ty ∧ va_RA U (ze_t E ty) ty) ∧
  (∀ q ∈ zk_str, ∃ sa, vk_R q.1 q.2.1 q.2.2 sa U) ∧
  (∀ q ∈ zk_nc, va_Nc q.1 q.2 U)
theorem zw_T.moved {E : ze_E} {s U : State} (hW : s.WarmedH U.vm) (h : zw_T E s) : zw_T E U :=
  ⟨fun c q hq => u_Kn_moved hW.alike (h.1 c q hq), fun ty ht => ⟨arrOfT_moved hW.alike (h.2.1 ty ht).1, (h.2.1 ty ht).2.moved hW.alike⟩,
   fun q hq => by obtain ⟨sa, hs⟩ := h.2.2.1 q hq; exact ⟨sa, vk_R.warm hW hs⟩, fun q hq => va_Nc.moved hW.alike (h.2.2.2 q hq)⟩
/-- the script, and Throwable's two statics: below the base -/
def zw_X (E : ze_E) (U : State) (H : Heap) : Prop :=
  va_X (ze_b E) (ze_L E) (ze_x E) U H ∧ ze_b E < ze_o E ∧ ze_o E ≤ H.size ∧ vx_Zq Bundle.tN "UNASSIGNED_STACK" Bundle.steD (ze_A E) U H ∧ vx_Zq Bundle.tN "SUPPRESSED_SENTINEL" Bundle.listD (ze_A E) U H
theorem zw_X.moved {E : ze_E} {s U : State} {H : Heap} (hW : s.vm.Alike U.vm) (h : zw_X E s H) : zw_X E U H :=
  ⟨h.1.moved hW, h.2.1, h.2.2.1, h.2.2.2.1.moved hW, h.2.2.2.2.moved hW⟩
theorem zw_X.kept {E : ze_E} {s : State} {H0 H : Heap} {locs : List Loc} (hS : va_S (ze_A E) H0 H locs) (h : zw_X E s H0) : zw_X E s H :=
  ⟨h.1.kept (hS.2.1 _ (Nat.lt_of_lt_of_le h.2.1 h.2.2.1) (Nat.not_le.mpr h.2.1)), h.2.1, Nat.le_trans h.2.2.1 hS.1, h.2.2.2.1.kept hS.2.1, h.2.2.2.2.kept hS.2.1⟩
/-! ===== EV: locals, methods, the judgement ===== -/
theorem zn_beq {a b : Nat} (h : ¬ a = b) : Nat.beq a b = false := by
  cases hh : Nat.beq a b with
  | false => rfl
  | true => exact absurd (Nat.eq_of_beq_eq_true hh) h
theorem zn_beqs (a : Nat) : Nat.beq a a = true := Nat.beq_refl a
abbrev zl_L : Type := List (Nat × Option zv_V)
def zl_get : zl_L → Nat → Option zv_V
  | [], _ => none
  | (k, v) :: r, i => cond (Nat.beq k i) v (zl_get r i)
def zl_has (E : ze_E) (ls : Array Slot) (nL : Nat) (L : zl_L) : Prop := ls.size = nL ∧ lv_wf ls ∧ ∀ (i : Nat) (v : zv_V), zl_get L i = some v → ls[i]? = some (.val (zv_c E v))
def zl_lv (E : ze_E) (L : zl_L) : List (Nat × Value) := (L.map (·.1)).filterMap (fun i => (zl_get L i).map (fun v => (i, zv_c E v)))
theorem zl_key : ∀ {L : zl_L} {i : Nat} {v : zv_V}, zl_get L i = some v → i ∈ L.map (·.1)
  | [], _, _, h => by simp [zl_get] at h
  | (k, w) :: r, i, v, h => by
    by_cases e : k = i
    · subst e; simp
    · have hb : Nat.beq k i = false := zn_beq e
      simp only [zl_get, hb, cond_false] at h
      exact List.mem_cons_of_mem _ (zl_key h)
theorem zl_lv_mem {E : ze_E} {L : zl_L} {i : Nat} {v : zv_V} (h : zl_get L i = some v) : (i, zv_c E v) ∈ zl_lv E L :=
  List.mem_filterMap.mpr ⟨i, zl_key h, by simp [h]⟩
theorem zl_lv_has {E : ze_E} {ls : Array Slot} {nL : Nat} {L : zl_L} (h : zl_has E ls nL L) : lv_has ls nL (zl_lv E L) := by
  refine ⟨h.1, h.2.1, fun q hq => ?_⟩
  obtain ⟨i, -, hi⟩ := List.mem_filterMap.mp hq
  cases hg : zl_get L i with
  | none => rw [hg] at hi; cases hi
  | some v =>
    rw [hg] at hi
    cases hi
    exact h.2.2 i v hg
/-- nothing of two places ends at i -/
def zl_o (L : zl_L) : Nat → Bool
  | 0 => true
  | j + 1 => match zl_get L j with
    | some w => Nat.beq (zv_k w) 1
    | none => true
theorem zl_o_spec {L : zl_L} {i j : Nat} {w : zv_V} (ho : zl_o L i = true) (hj : j + 1 = i) (hw : zl_get L j = some w) : ¬ zv_k w = 2 := by
  subst hj
  simp only [zl_o, hw] at ho
  have := Nat.eq_of_beq_eq_true ho
  omega
theorem zl_store1 {E : ze_E} {ls' : Array Slot} {nL i : Nat} {L : zl_L} {v : zv_V} (ho : zl_o L i = true)
    (h' : lv_has ls' nL ((i, zv_c E v) :: (zl_lv E L).filter (fun q => !(q.1 == i) && !(q.1 + 1 == i && q.2.category == 2)))) : zl_has E ls' nL ((i, some v) :: L) := by
  refine ⟨h'.1, h'.2.1, fun j w hw => ?_⟩
  by_cases e : i = j
  · subst e
    have hb : Nat.beq i i = true := zn_beqs i
    simp only [zl_get, hb, cond_true] at hw
    cases hw
    exact h'.2.2 _ List.mem_cons_self
  · have hb : Nat.beq i j = false := zn_beq e
    simp only [zl_get, hb, cond_false] at hw
    refine h'.2.2 (j, zv_c E w) (List.mem_cons_of_mem _ (List.mem_filter.mpr ⟨zl_lv_mem hw, ?_⟩))
    have e2 : ¬ j = i := fun q => e q.symm
    by_cases e3 : j + 1 = i
    · have := zl_o_spec ho e3 hw
      rw [← zv_cat E] at this
      simp [e2, this]
    · simp [e2, e3]
theorem zl_store2 {E : ze_E} {ls' : Array Slot} {nL i : Nat} {L : zl_L} {v : zv_V} (ho : zl_o L i = true)
    (h' : lv_has ls' nL ((i, zv_c E v) :: (zl_lv E L).filter (fun q => !(q.1 == i) && (!(q.1 == i + 1) && !(q.1 + 1 == i && q.2.category == 2))))) : zl_has E ls' nL ((i, some v) :: (i + 1, none) :: L) := by
  refine ⟨h'.1, h'.2.1, fun j w hw => ?_⟩
  by_cases e : i = j
  · subst e
    have hb : Nat.beq i i = true := zn_beqs i
    simp only [zl_get, hb, cond_true] at hw
    cases hw
    exact h'.2.2 _ List.mem_cons_self
  · have hb : Nat.beq i j = false := zn_beq e
    simp only [zl_get, hb, cond_false] at hw
    by_cases e1 : i + 1 = j
    · have hb1 : Nat.beq (i + 1) j = true := by rw [e1]; exact zn_beqs j
      simp only [hb1, cond_true] at hw
      cases hw
    · have hb1 : Nat.beq (i + 1) j = false := zn_beq e1
      simp only [hb1, cond_false] at hw
      refine h'.2.2 (j, zv_c E w) (List.mem_cons_of_mem _ (List.mem_filter.mpr ⟨zl_lv_mem hw, ?_⟩))
      have e2 : ¬ j = i := fun q => e q.symm
      have e4 : ¬ j = i + 1 := fun q => e1 q.symm
      by_cases e3 : j + 1 = i
      · have := zl_o_spec ho e3 hw
        rw [← zv_cat E] at this
        simp [e2, e4, this]
      · simp [e2, e3, e4]
/-- fewer locals -/
def zl_sub (L : zl_L) : zl_L → Prop
  | [] => True
  | (i, v) :: r => (match v with | none => True | some w => zl_get L i = some w) ∧ zl_sub L r
theorem zl_sub_get {L : zl_L} : ∀ {L' : zl_L}, zl_sub L L' → ∀ {i : Nat} {v : zv_V}, zl_get L' i = some v → zl_get L i = some v
  | [], _, i, v, h => by simp [zl_get] at h
  | (k, w) :: r, hs, i, v, h => by
    by_cases e : k = i
    · subst e
      have hb : Nat.beq k k = true := zn_beqs k
      simp only [zl_get, hb, cond_true] at h
      subst h
      exact hs.1
    · have hb : Nat.beq k i = false := zn_beq e
      simp only [zl_get, hb, cond_false] at h
      exact zl_sub_get hs.2 h
theorem zl_sub_has {E : ze_E} {ls : Array Slot} {nL : Nat} {L L' : zl_L} (h : zl_has E ls nL L) (hs : zl_sub L L') : zl_has E ls nL L' :=
  ⟨h.1, h.2.1, fun _ _ hv => h.2.2 _ _ (zl_sub_get hs hv)⟩
def zl_args : Nat → List zv_V → zl_L
  | _, [] => []
  | i, v :: vs => (i, some v) :: zl_args (if zv_k v = 2 then i + 2 else i + 1) vs
theorem zl_args_lv (E : ze_E) : ∀ (vs : List zv_V) (i j : Nat) (v : zv_V), zl_get (zl_args i vs) j = some v → (j, zv_c E v) ∈ lv_args i (vs.map (zv_c E))
  | [], _, _, _, h => by simp [zl_args, zl_get] at h
  | w :: vs, i, j, v, h => by
    by_cases e : i = j
    · subst e
      have hb : Nat.beq i i = true := zn_beqs i
      simp only [zl_args, zl_get, hb, cond_true] at h
      cases h
      exact List.mem_cons_self
    · have hb : Nat.beq i j = false := zn_beq e
      simp only [zl_args, zl_get, hb, cond_false] at h
      simp only [List.map_cons, lv_args]
      rw [zv_cat]
      exact List.mem_cons_of_mem _ (zl_args_lv E vs _ j v h)
/-- a method: name, bytes, locals, answer, table -/
abbrev zm_M : Type := MethodName × (ByteArray × (Nat × (Option FieldType × List (Nat × Nat × Nat × Nat))))
def zm_y (M : zm_M) : MethodName := M.1
def zm_c (M : zm_M) : ByteArray := M.2.1
def zm_n (M : zm_M) : Nat := M.2.2.1
def zm_r (M : zm_M) : Option FieldType := M.2.2.2.1
def zm_h (M : zm_M) : List (Nat × Nat × Nat × Nat) := M.2.2.2.2
def zm_o (M : zm_M) : String := M.1.cls
def zm_cw (M : zm_M) : Cond := match zm_h M with
  | [] => .code (zm_y M) (zm_c M) (zm_n M) (zm_r M)
  | h :: t => .codeWith (zm_y M) (zm_c M) (zm_n M) (zm_r M) (h :: t)
def zm_w (M : zm_M) : List Cond := zm_cw M :: lw_g
abbrev ev_Q : Type := (Option zv_V ⊕ String) → Nat → zk_S → zm_D → Prop
def ev_C (E : ze_E) (M : zm_M) (p : Program) (s : State) (m : MethodId) (args : Array Value) (meth : Method) (c : Code) : Prop :=
  p.tables.exec = Jvm.exec ∧ c.code = zm_c M ∧ meth.sig.returnType = zm_r M ∧ c.maxLocals = zm_n M ∧ s.vm.findClass (zm_o M) = some m.cls ∧ (∀ w ∈ lw_g, w.before args s = true) ∧ meth.locks = false ∧ c.exceptionTable.toList = tableOf (zm_h M) ∧ meth.name = (zm_y M).name ∧ zw_T E s ∧ zw_X E s s.heap
def ev_Qc (E : ze_E) (Q : ev_Q) : Array Value → State → Outcome → State → Prop := fun _ st o t =>
  (∃ (v : Option zv_V) (n : Nat) (sh : zk_S) (d : zm_D), o = .returned (v.map (zv_c E)) ∧ Q (.inl v) n sh d ∧ zw_H E n sh d t.heap) ∧ va_F (ze_A E) st t
def ev_XC (E : ze_E) (Q : ev_Q) : String → State → State → Prop := fun x st t => ∃ (n : Nat) (sh : zk_S) (d : zm_D), Q (.inr x) n sh d ∧ zw_H E n sh d t.heap ∧ va_F (ze_A E) st t
def ev_X (E : ze_E) (M : zm_M) (D n : Nat) (sh : zk_S) (d : zm_D) (kc ks : Nat) (L : zl_L) (p : Program) (R : Room) (s : State) (m : MethodId) (args : Array Value) (meth : Method) (c : Code) (H : Heap) (locs : List Loc) (cells slots mc ms : Nat) (ls : Array Slot) : Prop :=
  ev_C E M p s m args meth c ∧ zw_H E n sh d H ∧ va_S (ze_A E) s.heap H locs ∧ zl_has E ls (zm_n M) L ∧ (D ≤ R.frames ∧ 64 * D ≤ R.locals ∧ cells + kc ≤ mc ∧ slots + ks ≤ ms ∧ mc ≤ R.cells ∧ ms ≤ R.slots)
/-- from here the method comes to an end with Q -/
def ev (E : ze_E) (l : Launch) (M : zm_M) (D n : Nat) (sh : zk_S) (d : zm_D) (kc ks : Nat) (pc : Nat) (L : zl_L) (st : List zv_V) (Q : ev_Q) : Prop :=
  ∀ (p : Program) (e : Env) (R : Room) (s : State) (m : MethodId) (args : Array Value) (below : List Frame) (meth : Method) (c : Code) (H : Heap) (locs : List Loc) (cells slots mc ms : Nat) (ls : Array Slot),
    ev_X E M D n sh d kc ks L p R s m args meth c H locs cells slots mc ms ls →
    W p l e R s m args below meth c H locs cells slots (vx_MQ below (ev_Qc E Q) (ev_XC E Q) args s mc ms (ze_A E)) (F0 m pc ls (st.map (zv_c E)))
def mt_P (E : ze_E) (n : Nat) (sh : zk_S) (d : zm_D) (As : List zv_V) : Array Value → State → Prop := fun v U => v = (As.map (zv_c E)).toArray ∧ zw_H E n sh d U.heap ∧ zw_T E U ∧ zw_X E U U.heap
/-- a method's contract -/
def mt (E : ze_E) (l : Launch) (M : zm_M) (D kc ks n : Nat) (sh : zk_S) (d : zm_D) (As : List zv_V) (Q : ev_Q) : Prop :=
  vx_Met l (zm_y M) (zm_w M) ({ frames := D, cells := kc, slots := ks, locals := 64 * D } : Room) (mt_P E n sh d As) (ev_Qc E Q) (ev_XC E Q) kc ks (ze_A E)
/-! ===== EV: one instruction ===== -/
def zi (x : Int) : Prop := -2147483648 ≤ x ∧ x ≤ 2147483647
def zj (x : Int) : Prop := -9223372036854775808 ≤ x ∧ x ≤ 9223372036854775807
theorem zi_t {x : Int} (h : zi x) : (Int32.ofInt x).toInt = x := by
  have hz : ((Int32.size : Nat) : Int) = 4294967296 := rfl
  rw [Int32.toInt_ofInt]
  exact Int.bmod_eq_of_le (by have := h.1; omega) (by have := h.2; omega)
theorem zj_t {x : Int} (h : zj x) : (Int64.ofInt x).toInt = x := by
  have hz : ((Int64.size : Nat) : Int) = 18446744073709551616 := rfl
  rw [Int64.toInt_ofInt]
  exact Int.bmod_eq_of_le (by have := h.1; omega) (by have := h.2; omega)
theorem zi_lt {x y : Int} (hx : zi x) (hy : zi y) : Int32.ofInt x < Int32.ofInt y ↔ x < y := by rw [Int32.lt_iff_toInt_lt, zi_t hx, zi_t hy]
theorem zi_le {x y : Int} (hx : zi x) (hy : zi y) : Int32.ofInt x ≤ Int32.ofInt y ↔ x ≤ y := by rw [Int32.le_iff_toInt_le, zi_t hx, zi_t hy]
theorem zi_eq {x y : Int} (hx : zi x) (hy : zi y) : Int32.ofInt x = Int32.ofInt y ↔ x = y := by rw [← Int32.toInt_inj, zi_t hx, zi_t hy]
theorem zi_0 : zi 0 := by unfold zi; omega
theorem zi_ofInt (a : Int32) : Int32.ofInt a.toInt = a := Int32.ofInt_toInt a
theorem zj_ofInt (a : Int64) : Int64.ofInt a.toInt = a := Int64.ofInt_toInt a
theorem zi_l {x : Int} (h : zi x) : (Int32.ofInt x).toInt64 = Int64.ofInt x := by
  rw [← Int64.toInt_inj, Int32.toInt_toInt64, zi_t h, zj_t ⟨by have := h.1; omega, by have := h.2; omega⟩]
theorem zj_i (x : Int) : (Int64.ofInt x).toInt32 = Int32.ofInt x := by
  rw [← Int32.toInt_inj, Int64.toInt_toInt32, Int64.toInt_ofInt, Int32.toInt_ofInt]
  exact Int.bmod_bmod_of_dvd (by decide)
theorem zi_div {x y : Int} (hx : zi x) (hy : zi y) : Int32.ofInt x / Int32.ofInt y = Int32.ofInt (x.tdiv y) := by
  rw [← Int32.toInt_inj, Int32.toInt_div, zi_t hx, zi_t hy, Int32.toInt_ofInt]
theorem zi_rem {x y : Int} (hx : zi x) (hy : zi y) : Int32.ofInt x - Int32.ofInt x / Int32.ofInt y * Int32.ofInt y = Int32.ofInt (x.tmod y) := by
  rw [zi_div hx hy, ← Int32.ofInt_mul, ← Int32.ofInt_sub]
  congr 1
  rw [Int.tmod_def, Int.mul_comm]
theorem zj_div {x y : Int} (hx : zj x) (hy : zj y) : Int64.ofInt x / Int64.ofInt y = Int64.ofInt (x.tdiv y) := by
  rw [← Int64.toInt_inj, Int64.toInt_div, zj_t hx, zj_t hy, Int64.toInt_ofInt]
theorem zj_rem {x y : Int} (hx : zj x) (hy : zj y) : Int64.ofInt x - Int64.ofInt x / Int64.ofInt y * Int64.ofInt y = Int64.ofInt (x.tmod y) := by
  rw [zj_div hx hy, ← Int64.ofInt_mul, ← Int64.ofInt_sub]
  congr 1
  rw [Int.tmod_def, Int.mul_comm]
theorem zi_ne0 {y : Int} (hy : zi y) (h : y ≠ 0) : ¬ Int32.ofInt y = 0 := fun q => h ((zi_eq hy zi_0).mp q)
theorem zj_ne0 {y : Int} (hy : zj y) (h : y ≠ 0) : ¬ Int64.ofInt y = 0 := by
  intro q
  have h2 := congrArg Int64.toInt q
  rw [zj_t hy] at h2
  exact h h2
def zb_and (x y : Int) : Int := (Int32.ofInt x &&& Int32.ofInt y).toInt
def zb_or (x y : Int) : Int := (Int32.ofInt x ||| Int32.ofInt y).toInt
def zb_xor (x y : Int) : Int := (Int32.ofInt x ^^^ Int32.ofInt y).toInt
def zb_shl (x y : Int) : Int := (Int32.ofInt x <<< (Int32.ofInt y &&& 31)).toInt
def zb_shr (x y : Int) : Int := (Int32.ofInt x >>> (Int32.ofInt y &&& 31)).toInt
def zb_ushr (x y : Int) : Int := ((Int32.ofInt x).toUInt32 >>> ((Int32.ofInt y).toUInt32 &&& Int32.toUInt32 31)).toInt32.toInt
def zb_cmp (x y : Int) : Int := (lg_cmp (Int64.ofInt x) (Int64.ofInt y)).toInt
section EV3
variable {E : ze_E} {l : Launch} {M : zm_M} {D n : Nat} {sh : zk_S} {d : zm_D} {kc ks pc : Nat} {L : zl_L} {st : List zv_V} {Q : ev_Q}
theorem ev_X.loc {L' : zl_L} {p : Program} {R : Room} {s : State} {m : MethodId} {args : Array Value} {meth : Method} {c : Code} {H : Heap} {locs : List Loc} {cells slots mc ms : Nat} {ls ls' : Array Slot} (X : ev_X E M D n sh d kc ks L p R s m args meth c H locs cells slots mc ms ls) (h : zl_has E ls' (zm_n M) L') : ev_X E M D n sh d kc ks L' p R s m args meth c H locs cells slots mc ms ls' := ⟨X.1, X.2.1, X.2.2.1, h, X.2.2.2.2⟩
theorem ev_sub {L' : zl_L} (h : zl_sub L L') (kk : ev E l M D n sh d kc ks pc L' st Q) : ev E l M D n sh d kc ks pc L st Q := by
  intro p e R s m args below meth c H locs cells slots mc ms ls X
  exact kk p e R s m args below meth c H locs cells slots mc ms ls (X.loc (zl_sub_has X.2.2.2.1 h))

theorem ev_iconst {k : Int} (hd : decode (zm_c M) pc = .ok (.iconst k, 1)) (kk : ev E l M D n sh d kc ks (pc + 1) L (zv_i k :: st) Q) : ev E l M D n sh d kc ks pc L (st) Q := by
  intro p e R s m args below meth c H locs cells slots mc ms ls X
  exact lv_iconst X.1.1 X.1.2.1 hd rfl (kk p e R s m args below meth c H locs cells slots mc ms ls X)
theorem ev_bipush {k : Int} (hd : decode (zm_c M) pc = .ok (.bipush k, 2)) (hk : (Int8.ofInt k).toInt32 = Int32.ofInt k) (kk : ev E l M D n sh d kc ks (pc + 2) L (zv_i k :: st) Q) : ev E l M D n sh d kc ks pc L (st) Q := by
  intro p e R s m args below meth c H locs cells slots mc ms ls X
  exact lv_bipush X.1.1 X.1.2.1 hd hk (kk p e R s m args below meth c H locs cells slots mc ms ls X)
theorem ev_sipush {k : Int} (hd : decode (zm_c M) pc = .ok (.sipush k, 3)) (hk : (Int16.ofInt k).toInt32 = Int32.ofInt k) (kk : ev E l M D n sh d kc ks (pc + 3) L (zv_i k :: st) Q) : ev E l M D n sh d kc ks pc L (st) Q := by
  intro p e R s m args below meth c H locs cells slots mc ms ls X
  exact lv_sipush X.1.1 X.1.2.1 hd hk (kk p e R s m args below meth c H locs cells slots mc ms ls X)
theorem ev_lconst {k : Fin 2} {z : Int} (hd : decode (zm_c M) pc = .ok (.lconst k, 1)) (hk : Int64.ofNat (k : Nat) = Int64.ofInt z) (kk : ev E l M D n sh d kc ks (pc + 1) L (zv_l z :: st) Q) : ev E l M D n sh d kc ks pc L (st) Q := by
  intro p e R s m args below meth c H locs cells slots mc ms ls X
  exact lv_lconst X.1.1 X.1.2.1 hd hk (kk p e R s m args below meth c H locs cells slots mc ms ls X)
theorem ev_fconst0 (hd : decode (zm_c M) pc = .ok (.fconst 0, 1)) (kk : ev E l M D n sh d kc ks (pc + 1) L (zv_f FP.fconst0 :: st) Q) : ev E l M D n sh d kc ks pc L (st) Q := by
  intro p e R s m args below meth c H locs cells slots mc ms ls X
  exact lv_fconst0 X.1.1 X.1.2.1 hd (kk p e R s m args below meth c H locs cells slots mc ms ls X)
theorem ev_fconst1 (hd : decode (zm_c M) pc = .ok (.fconst 1, 1)) (kk : ev E l M D n sh d kc ks (pc + 1) L (zv_f FP.fconst1 :: st) Q) : ev E l M D n sh d kc ks pc L (st) Q := by
  intro p e R s m args below meth c H locs cells slots mc ms ls X
  exact lv_fconst1 X.1.1 X.1.2.1 hd (kk p e R s m args below meth c H locs cells slots mc ms ls X)
theorem ev_dconst0 (hd : decode (zm_c M) pc = .ok (.dconst 0, 1)) (kk : ev E l M D n sh d kc ks (pc + 1) L (zv_d FP.dconst0 :: st) Q) : ev E l M D n sh d kc ks pc L (st) Q := by
  intro p e R s m args below meth c H locs cells slots mc ms ls X
  exact lv_dconst0 X.1.1 X.1.2.1 hd (kk p e R s m args below meth c H locs cells slots mc ms ls X)
theorem ev_dconst1 (hd : decode (zm_c M) pc = .ok (.dconst 1, 1)) (kk : ev E l M D n sh d kc ks (pc + 1) L (zv_d FP.dconst1 :: st) Q) : ev E l M D n sh d kc ks pc L (st) Q := by
  intro p e R s m args below meth c H locs cells slots mc ms ls X
  exact lv_dconst1 X.1.1 X.1.2.1 hd (kk p e R s m args below meth c H locs cells slots mc ms ls X)
theorem ev_fconst2 (hd : decode (zm_c M) pc = .ok (.fconst 2, 1)) (kk : ev E l M D n sh d kc ks (pc + 1) L (zv_f FP.fconst2 :: st) Q) : ev E l M D n sh d kc ks pc L (st) Q := by
  intro p e R s m args below meth c H locs cells slots mc ms ls X
  exact lv_fconst2 X.1.1 X.1.2.1 hd (kk p e R s m args below meth c H locs cells slots mc ms ls X)
theorem lv_null9 {p : Program} {l : Launch} {e : Env} {R : Room} {s : State} {m : MethodId} {args : Array Value} {below : List Frame} {meth : Method} {c : Code} {H : Heap} {locs : List Loc} {cells slots : Nat} {Q : State → Prop} {cc : ByteArray} {pc : Nat} {ls : Array Slot} {rest : List Value} (hexec : p.tables.exec = Jvm.exec) (hb : c.code = cc) (hdg : decode cc pc = .ok (.aconst_null, 1)) (k : W p l e R s m args below meth c H locs cells slots Q (F0 m (pc + 1) ls (va_rf none :: rest))) : W p l e R s m args below meth c H locs cells slots Q (F0 m pc ls rest) := lv_null hexec hb hdg k
theorem ev_null (hd : decode (zm_c M) pc = .ok (.aconst_null, 1)) (kk : ev E l M D n sh d kc ks (pc + 1) L (zv_a 0 :: st) Q) : ev E l M D n sh d kc ks pc L (st) Q := by
  intro p e R s m args below meth c H locs cells slots mc ms ls X
  exact lv_null9 X.1.1 X.1.2.1 hd (kk p e R s m args below meth c H locs cells slots mc ms ls X)
theorem ev_ldc {index : Nat} {z : Int} (hd : decode (zm_c M) pc = .ok (.ldc index, 2)) (hw : Cond.constant (zm_o M) index (Int32.ofInt z) ∈ lw_g) (kk : ev E l M D n sh d kc ks (pc + 2) L (zv_i z :: st) Q) : ev E l M D n sh d kc ks pc L (st) Q := by
  intro p e R s m args below meth c H locs cells slots mc ms ls X
  exact lv_ldc X.1.1 X.1.2.1 X.1.2.2.2.2.1 (X.1.2.2.2.2.2.1 _ hw) hd (kk p e R s m args below meth c H locs cells slots mc ms ls X)
theorem ev_ldcw {index : Nat} {z : Int} (hd : decode (zm_c M) pc = .ok (.ldc_w index, 3)) (hw : Cond.constant (zm_o M) index (Int32.ofInt z) ∈ lw_g) (kk : ev E l M D n sh d kc ks (pc + 3) L (zv_i z :: st) Q) : ev E l M D n sh d kc ks pc L (st) Q := by
  intro p e R s m args below meth c H locs cells slots mc ms ls X
  exact lv_ldcw X.1.1 X.1.2.1 X.1.2.2.2.2.1 (X.1.2.2.2.2.2.1 _ hw) hd (kk p e R s m args below meth c H locs cells slots mc ms ls X)
theorem ev_ldc2 {index : Nat} {z : Int} (hd : decode (zm_c M) pc = .ok (.ldc2_w index, 3)) (hw : Cond.constantLong (zm_o M) index (Int64.ofInt z) ∈ lw_g) (kk : ev E l M D n sh d kc ks (pc + 3) L (zv_l z :: st) Q) : ev E l M D n sh d kc ks pc L (st) Q := by
  intro p e R s m args below meth c H locs cells slots mc ms ls X
  exact lv_ldc2 X.1.1 X.1.2.1 X.1.2.2.2.2.1 (X.1.2.2.2.2.2.1 _ hw) hd (kk p e R s m args below meth c H locs cells slots mc ms ls X)
theorem ev_ldcf {index : Nat} {z : UInt32} (hd : decode (zm_c M) pc = .ok (.ldc index, 2)) (hw : Cond.constantFloat (zm_o M) index z ∈ lw_g) (kk : ev E l M D n sh d kc ks (pc + 2) L (zv_f z :: st) Q) : ev E l M D n sh d kc ks pc L (st) Q := by
  intro p e R s m args below meth c H locs cells slots mc ms ls X
  exact lv_ldcf X.1.1 X.1.2.1 X.1.2.2.2.2.1 (X.1.2.2.2.2.2.1 _ hw) hd (kk p e R s m args below meth c H locs cells slots mc ms ls X)
theorem ev_ldc2d {index : Nat} {z : UInt64} (hd : decode (zm_c M) pc = .ok (.ldc2_w index, 3)) (hw : Cond.constantDouble (zm_o M) index z ∈ lw_g) (kk : ev E l M D n sh d kc ks (pc + 3) L (zv_d z :: st) Q) : ev E l M D n sh d kc ks pc L (st) Q := by
  intro p e R s m args below meth c H locs cells slots mc ms ls X
  exact lv_ldc2d X.1.1 X.1.2.1 X.1.2.2.2.2.1 (X.1.2.2.2.2.2.1 _ hw) hd (kk p e R s m args below meth c H locs cells slots mc ms ls X)
theorem ev_iload_n {k : Fin 4} {x : Int} (hd : decode (zm_c M) pc = .ok (.iload_n k, 1)) (hl : zl_get L (k : Nat) = some (zv_i x)) (kk : ev E l M D n sh d kc ks (pc + 1) L (zv_i x :: st) Q) : ev E l M D n sh d kc ks pc L (st) Q := by
  intro p e R s m args below meth c H locs cells slots mc ms ls X
  exact lv_iload_n X.1.1 X.1.2.1 hd rfl (X.2.2.2.1.2.2 _ _ hl) (kk p e R s m args below meth c H locs cells slots mc ms ls X)
theorem ev_iload {i : Nat} {x : Int} (hd : decode (zm_c M) pc = .ok (.iload i, 2)) (hl : zl_get L i = some (zv_i x)) (kk : ev E l M D n sh d kc ks (pc + 2) L (zv_i x :: st) Q) : ev E l M D n sh d kc ks pc L (st) Q := by
  intro p e R s m args below meth c H locs cells slots mc ms ls X
  exact lv_iload X.1.1 X.1.2.1 hd (X.2.2.2.1.2.2 _ _ hl) (kk p e R s m args below meth c H locs cells slots mc ms ls X)
theorem ev_lload_n {k : Fin 4} {x : Int} (hd : decode (zm_c M) pc = .ok (.lload_n k, 1)) (hl : zl_get L (k : Nat) = some (zv_l x)) (kk : ev E l M D n sh d kc ks (pc + 1) L (zv_l x :: st) Q) : ev E l M D n sh d kc ks pc L (st) Q := by
  intro p e R s m args below meth c H locs cells slots mc ms ls X
  exact lv_lload_n X.1.1 X.1.2.1 hd rfl (X.2.2.2.1.2.2 _ _ hl) (kk p e R s m args below meth c H locs cells slots mc ms ls X)
theorem ev_lload {i : Nat} {x : Int} (hd : decode (zm_c M) pc = .ok (.lload i, 2)) (hl : zl_get L i = some (zv_l x)) (kk : ev E l M D n sh d kc ks (pc + 2) L (zv_l x :: st) Q) : ev E l M D n sh d kc ks pc L (st) Q := by
  intro p e R s m args below meth c H locs cells slots mc ms ls X
  exact lv_lload X.1.1 X.1.2.1 hd (X.2.2.2.1.2.2 _ _ hl) (kk p e R s m args below meth c H locs cells slots mc ms ls X)
theorem ev_dload_n {k : Fin 4} {x : UInt64} (hd : decode (zm_c M) pc = .ok (.dload_n k, 1)) (hl : zl_get L (k : Nat) = some (zv_d x)) (kk : ev E l M D n sh d kc ks (pc + 1) L (zv_d x :: st) Q) : ev E l M D n sh d kc ks pc L (st) Q := by
  intro p e R s m args below meth c H locs cells slots mc ms ls X
  exact lv_dload_n X.1.1 X.1.2.1 hd rfl (X.2.2.2.1.2.2 _ _ hl) (kk p e R s m args below meth c H locs cells slots mc ms ls X)
theorem ev_dload {i : Nat} {x : UInt64} (hd : decode (zm_c M) pc = .ok (.dload i, 2)) (hl : zl_get L i = some (zv_d x)) (kk : ev E l M D n sh d kc ks (pc + 2) L (zv_d x :: st) Q) : ev E l M D n sh d kc ks pc L (st) Q := by
  intro p e R s m args below meth c H locs cells slots mc ms ls X
  exact lv_dload X.1.1 X.1.2.1 hd (X.2.2.2.1.2.2 _ _ hl) (kk p e R s m args below meth c H locs cells slots mc ms ls X)
theorem ev_fload_n {k : Fin 4} {x : UInt32} (hd : decode (zm_c M) pc = .ok (.fload_n k, 1)) (hl : zl_get L (k : Nat) = some (zv_f x)) (kk : ev E l M D n sh d kc ks (pc + 1) L (zv_f x :: st) Q) : ev E l M D n sh d kc ks pc L (st) Q := by
  intro p e R s m args below meth c H locs cells slots mc ms ls X
  exact lv_fload_n X.1.1 X.1.2.1 hd rfl (X.2.2.2.1.2.2 _ _ hl) (kk p e R s m args below meth c H locs cells slots mc ms ls X)
theorem ev_fload {i : Nat} {x : UInt32} (hd : decode (zm_c M) pc = .ok (.fload i, 2)) (hl : zl_get L i = some (zv_f x)) (kk : ev E l M D n sh d kc ks (pc + 2) L (zv_f x :: st) Q) : ev E l M D n sh d kc ks pc L (st) Q := by
  intro p e R s m args below meth c H locs cells slots mc ms ls X
  exact lv_fload X.1.1 X.1.2.1 hd (X.2.2.2.1.2.2 _ _ hl) (kk p e R s m args below meth c H locs cells slots mc ms ls X)
theorem ev_aload_n {k : Fin 4} {x : Int} (hd : decode (zm_c M) pc = .ok (.aload_n k, 1)) (hl : zl_get L (k : Nat) = some (zv_a x)) (kk : ev E l M D n sh d kc ks (pc + 1) L (zv_a x :: st) Q) : ev E l M D n sh d kc ks pc L st Q := by
  intro p e R s m args below meth c H locs cells slots mc ms ls X
  have h := X.2.2.2.1.2.2 _ _ hl
  have k2 := kk p e R s m args below meth c H locs cells slots mc ms ls X
  simp only [List.map_cons, zv_c] at k2 h
  cases hr : zv_ro E x with
  | none => rw [hr] at h k2; exact lv_aload_nN X.1.1 X.1.2.1 hd rfl h k2
  | some a => rw [hr] at h k2; exact lv_aload_n X.1.1 X.1.2.1 hd rfl h k2
theorem ev_aload {i : Nat} {x : Int} (hd : decode (zm_c M) pc = .ok (.aload i, 2)) (hl : zl_get L i = some (zv_a x)) (kk : ev E l M D n sh d kc ks (pc + 2) L (zv_a x :: st) Q) : ev E l M D n sh d kc ks pc L st Q := by
  intro p e R s m args below meth c H locs cells slots mc ms ls X
  have h := X.2.2.2.1.2.2 _ _ hl
  have k2 := kk p e R s m args below meth c H locs cells slots mc ms ls X
  simp only [List.map_cons, zv_c] at k2 h
  cases hr : zv_ro E x with
  | none => rw [hr] at h k2; exact lv_aloadN X.1.1 X.1.2.1 hd h k2
  | some a => rw [hr] at h k2; exact lv_aload X.1.1 X.1.2.1 hd h k2
theorem ev_istore_n {k : Fin 4} {x : Int} (hd : decode (zm_c M) pc = .ok (.istore_n k, 1)) (hn : (k : Nat) < zm_n M) (ho : zl_o L (k : Nat) = true) (kk : ev E l M D n sh d kc ks (pc + 1) (((k : Nat), some (zv_i x)) :: L) st Q) : ev E l M D n sh d kc ks pc L (zv_i x :: st) Q := by
  intro p e R s m args below meth c H locs cells slots mc ms ls X
  exact lv_istore_n X.1.1 X.1.2.1 hd rfl (zl_lv_has X.2.2.2.1) hn rfl (fun ls' h => kk p e R s m args below meth c H locs cells slots mc ms ls' (X.loc (zl_store1 (v := zv_i x) ho h)))
theorem ev_istore {i : Nat} {x : Int} (hd : decode (zm_c M) pc = .ok (.istore i, 2)) (hn : i < zm_n M) (ho : zl_o L i = true) (kk : ev E l M D n sh d kc ks (pc + 2) ((i, some (zv_i x)) :: L) st Q) : ev E l M D n sh d kc ks pc L (zv_i x :: st) Q := by
  intro p e R s m args below meth c H locs cells slots mc ms ls X
  exact lv_istore X.1.1 X.1.2.1 hd (zl_lv_has X.2.2.2.1) hn rfl (fun ls' h => kk p e R s m args below meth c H locs cells slots mc ms ls' (X.loc (zl_store1 (v := zv_i x) ho h)))
theorem ev_lstore_n {k : Fin 4} {x : Int} (hd : decode (zm_c M) pc = .ok (.lstore_n k, 1)) (hn : (k : Nat) + 1 < zm_n M) (ho : zl_o L (k : Nat) = true) (kk : ev E l M D n sh d kc ks (pc + 1) (((k : Nat), some (zv_l x)) :: ((k : Nat) + 1, none) :: L) st Q) : ev E l M D n sh d kc ks pc L (zv_l x :: st) Q := by
  intro p e R s m args below meth c H locs cells slots mc ms ls X
  exact lv_lstore_n X.1.1 X.1.2.1 hd rfl (zl_lv_has X.2.2.2.1) hn rfl (fun ls' h => kk p e R s m args below meth c H locs cells slots mc ms ls' (X.loc (zl_store2 (v := zv_l x) ho h)))
theorem ev_lstore {i : Nat} {x : Int} (hd : decode (zm_c M) pc = .ok (.lstore i, 2)) (hn : i + 1 < zm_n M) (ho : zl_o L i = true) (kk : ev E l M D n sh d kc ks (pc + 2) ((i, some (zv_l x)) :: (i + 1, none) :: L) st Q) : ev E l M D n sh d kc ks pc L (zv_l x :: st) Q := by
  intro p e R s m args below meth c H locs cells slots mc ms ls X
  exact lv_lstore X.1.1 X.1.2.1 hd (zl_lv_has X.2.2.2.1) hn rfl (fun ls' h => kk p e R s m args below meth c H locs cells slots mc ms ls' (X.loc (zl_store2 (v := zv_l x) ho h)))
theorem ev_dstore_n {k : Fin 4} {x : UInt64} (hd : decode (zm_c M) pc = .ok (.dstore_n k, 1)) (hn : (k : Nat) + 1 < zm_n M) (ho : zl_o L (k : Nat) = true) (kk : ev E l M D n sh d kc ks (pc + 1) (((k : Nat), some (zv_d x)) :: ((k : Nat) + 1, none) :: L) st Q) : ev E l M D n sh d kc ks pc L (zv_d x :: st) Q := by
  intro p e R s m args below meth c H locs cells slots mc ms ls X
  exact lv_dstore_n X.1.1 X.1.2.1 hd rfl (zl_lv_has X.2.2.2.1) hn rfl (fun ls' h => kk p e R s m args below meth c H locs cells slots mc ms ls' (X.loc (zl_store2 (v := zv_d x) ho h)))
theorem ev_dstore {i : Nat} {x : UInt64} (hd : decode (zm_c M) pc = .ok (.dstore i, 2)) (hn : i + 1 < zm_n M) (ho : zl_o L i = true) (kk : ev E l M D n sh d kc ks (pc + 2) ((i, some (zv_d x)) :: (i + 1, none) :: L) st Q) : ev E l M D n sh d kc ks pc L (zv_d x :: st) Q := by
  intro p e R s m args below meth c H locs cells slots mc ms ls X
  exact lv_dstore X.1.1 X.1.2.1 hd (zl_lv_has X.2.2.2.1) hn rfl (fun ls' h => kk p e R s m args below meth c H locs cells slots mc ms ls' (X.loc (zl_store2 (v := zv_d x) ho h)))
theorem ev_fstore_n {k : Fin 4} {x : UInt32} (hd : decode (zm_c M) pc = .ok (.fstore_n k, 1)) (hn : (k : Nat) < zm_n M) (ho : zl_o L (k : Nat) = true) (kk : ev E l M D n sh d kc ks (pc + 1) (((k : Nat), some (zv_f x)) :: L) st Q) : ev E l M D n sh d kc ks pc L (zv_f x :: st) Q := by
  intro p e R s m args below meth c H locs cells slots mc ms ls X
  exact lv_fstore_n X.1.1 X.1.2.1 hd rfl (zl_lv_has X.2.2.2.1) hn rfl (fun ls' h => kk p e R s m args below meth c H locs cells slots mc ms ls' (X.loc (zl_store1 (v := zv_f x) ho h)))
theorem ev_fstore {i : Nat} {x : UInt32} (hd : decode (zm_c M) pc = .ok (.fstore i, 2)) (hn : i < zm_n M) (ho : zl_o L i = true) (kk : ev E l M D n sh d kc ks (pc + 2) ((i, some (zv_f x)) :: L) st Q) : ev E l M D n sh d kc ks pc L (zv_f x :: st) Q := by
  intro p e R s m args below meth c H locs cells slots mc ms ls X
  exact lv_fstore X.1.1 X.1.2.1 hd (zl_lv_has X.2.2.2.1) hn rfl (fun ls' h => kk p e R s m args below meth c H locs cells slots mc ms ls' (X.loc (zl_store1 (v := zv_f x) ho h)))
theorem ev_astore_n {k : Fin 4} {x : Int} (hd : decode (zm_c M) pc = .ok (.astore_n k, 1)) (hn : (k : Nat) < zm_n M) (ho : zl_o L (k : Nat) = true) (kk : ev E l M D n sh d kc ks (pc + 1) (((k : Nat), some (zv_a x)) :: L) st Q) : ev E l M D n sh d kc ks pc L (zv_a x :: st) Q := by
  intro p e R s m args below meth c H locs cells slots mc ms ls X
  have k2 := fun ls' h => kk p e R s m args below meth c H locs cells slots mc ms ls' (X.loc (zl_store1 (v := zv_a x) ho h))
  simp only [List.map_cons, zv_c] at k2 ⊢
  cases hr : zv_ro E x with
  | none => rw [hr] at k2; exact lv_astore_nN X.1.1 X.1.2.1 hd rfl (zl_lv_has X.2.2.2.1) hn rfl k2
  | some a => rw [hr] at k2; exact lv_astore_n X.1.1 X.1.2.1 hd rfl (zl_lv_has X.2.2.2.1) hn rfl k2
theorem ev_astore {i : Nat} {x : Int} (hd : decode (zm_c M) pc = .ok (.astore i, 2)) (hn : i < zm_n M) (ho : zl_o L i = true) (kk : ev E l M D n sh d kc ks (pc + 2) ((i, some (zv_a x)) :: L) st Q) : ev E l M D n sh d kc ks pc L (zv_a x :: st) Q := by
  intro p e R s m args below meth c H locs cells slots mc ms ls X
  have k2 := fun ls' h => kk p e R s m args below meth c H locs cells slots mc ms ls' (X.loc (zl_store1 (v := zv_a x) ho h))
  simp only [List.map_cons, zv_c] at k2 ⊢
  cases hr : zv_ro E x with
  | none => rw [hr] at k2; exact lv_astoreN X.1.1 X.1.2.1 hd (zl_lv_has X.2.2.2.1) hn rfl k2
  | some a => rw [hr] at k2; exact lv_astore X.1.1 X.1.2.1 hd (zl_lv_has X.2.2.2.1) hn rfl k2
theorem ev_iinc {i : Nat} {z x : Int} (hd : decode (zm_c M) pc = .ok (.iinc i z, 3)) (hl : zl_get L i = some (zv_i x)) (hn : i < zm_n M) (ho : zl_o L i = true) (kk : ev E l M D n sh d kc ks (pc + 3) ((i, some (zv_i (x + z))) :: L) st Q) : ev E l M D n sh d kc ks pc L st Q := by
  intro p e R s m args below meth c H locs cells slots mc ms ls X
  obtain ⟨k, hk⟩ := List.getElem?_of_mem (zl_lv_mem (E := E) hl)
  exact lv_iinc (v := Int32.ofInt (x + z)) X.1.1 X.1.2.1 hd (zl_lv_has X.2.2.2.1) (k := k) hk (Int32.ofInt_add x z).symm hn rfl (fun ls' h => kk p e R s m args below meth c H locs cells slots mc ms ls' (X.loc (zl_store1 (v := zv_i (x + z)) ho h)))
theorem ev_iadd {x y : Int} (hd : decode (zm_c M) pc = .ok (.iadd, 1)) (kk : ev E l M D n sh d kc ks (pc + 1) L (zv_i (x + y) :: st) Q) : ev E l M D n sh d kc ks pc L (zv_i y :: zv_i x :: st) Q := by
  intro p e R s m args below meth c H locs cells slots mc ms ls X
  refine lv_iadd X.1.1 X.1.2.1 hd ?_
  rw [← Int32.ofInt_add]
  exact (kk p e R s m args below meth c H locs cells slots mc ms ls X)
theorem ev_isub {x y : Int} (hd : decode (zm_c M) pc = .ok (.isub, 1)) (kk : ev E l M D n sh d kc ks (pc + 1) L (zv_i (x - y) :: st) Q) : ev E l M D n sh d kc ks pc L (zv_i y :: zv_i x :: st) Q := by
  intro p e R s m args below meth c H locs cells slots mc ms ls X
  refine lv_isub X.1.1 X.1.2.1 hd ?_
  rw [← Int32.ofInt_sub]
  exact (kk p e R s m args below meth c H locs cells slots mc ms ls X)
theorem ev_imul {x y : Int} (hd : decode (zm_c M) pc = .ok (.imul, 1)) (kk : ev E l M D n sh d kc ks (pc + 1) L (zv_i (x * y) :: st) Q) : ev E l M D n sh d kc ks pc L (zv_i y :: zv_i x :: st) Q := by
  intro p e R s m args below meth c H locs cells slots mc ms ls X
  refine lv_imul X.1.1 X.1.2.1 hd ?_
  rw [← Int32.ofInt_mul]
  exact (kk p e R s m args below meth c H locs cells slots mc ms ls X)
theorem ev_ineg {x : Int} (hd : decode (zm_c M) pc = .ok (.ineg, 1)) (kk : ev E l M D n sh d kc ks (pc + 1) L (zv_i (-x) :: st) Q) : ev E l M D n sh d kc ks pc L (zv_i x :: st) Q := by
  intro p e R s m args below meth c H locs cells slots mc ms ls X
  refine lv_ineg X.1.1 X.1.2.1 hd ?_
  rw [← Int32.ofInt_neg]
  exact (kk p e R s m args below meth c H locs cells slots mc ms ls X)
theorem ev_ladd {x y : Int} (hd : decode (zm_c M) pc = .ok (.ladd, 1)) (kk : ev E l M D n sh d kc ks (pc + 1) L (zv_l (x + y) :: st) Q) : ev E l M D n sh d kc ks pc L (zv_l y :: zv_l x :: st) Q := by
  intro p e R s m args below meth c H locs cells slots mc ms ls X
  refine lv_ladd X.1.1 X.1.2.1 hd ?_
  rw [← Int64.ofInt_add]
  exact (kk p e R s m args below meth c H locs cells slots mc ms ls X)
theorem ev_lsub {x y : Int} (hd : decode (zm_c M) pc = .ok (.lsub, 1)) (kk : ev E l M D n sh d kc ks (pc + 1) L (zv_l (x - y) :: st) Q) : ev E l M D n sh d kc ks pc L (zv_l y :: zv_l x :: st) Q := by
  intro p e R s m args below meth c H locs cells slots mc ms ls X
  refine lv_lsub X.1.1 X.1.2.1 hd ?_
  rw [← Int64.ofInt_sub]
  exact (kk p e R s m args below meth c H locs cells slots mc ms ls X)
theorem ev_lmul {x y : Int} (hd : decode (zm_c M) pc = .ok (.lmul, 1)) (kk : ev E l M D n sh d kc ks (pc + 1) L (zv_l (x * y) :: st) Q) : ev E l M D n sh d kc ks pc L (zv_l y :: zv_l x :: st) Q := by
  intro p e R s m args below meth c H locs cells slots mc ms ls X
  refine lv_lmul X.1.1 X.1.2.1 hd ?_
  rw [← Int64.ofInt_mul]
  exact (kk p e R s m args below meth c H locs cells slots mc ms ls X)
theorem ev_idiv {x y : Int} (hd : decode (zm_c M) pc = .ok (.idiv, 1)) (hx : zi x) (hy : zi y) (h0 : y ≠ 0) (kk : ev E l M D n sh d kc ks (pc + 1) L (zv_i (x.tdiv y) :: st) Q) : ev E l M D n sh d kc ks pc L (zv_i y :: zv_i x :: st) Q := by
  intro p e R s m args below meth c H locs cells slots mc ms ls X
  refine lv_idiv X.1.1 X.1.2.1 hd (zi_ne0 hy h0) ?_
  rw [zi_div hx hy]
  exact (kk p e R s m args below meth c H locs cells slots mc ms ls X)
theorem ev_irem {x y : Int} (hd : decode (zm_c M) pc = .ok (.irem, 1)) (hx : zi x) (hy : zi y) (h0 : y ≠ 0) (kk : ev E l M D n sh d kc ks (pc + 1) L (zv_i (x.tmod y) :: st) Q) : ev E l M D n sh d kc ks pc L (zv_i y :: zv_i x :: st) Q := by
  intro p e R s m args below meth c H locs cells slots mc ms ls X
  refine lv_irem X.1.1 X.1.2.1 hd (zi_ne0 hy h0) ?_
  rw [zi_rem hx hy]
  exact (kk p e R s m args below meth c H locs cells slots mc ms ls X)
theorem ev_ldiv {x y : Int} (hd : decode (zm_c M) pc = .ok (.ldiv, 1)) (hx : zj x) (hy : zj y) (h0 : y ≠ 0) (kk : ev E l M D n sh d kc ks (pc + 1) L (zv_l (x.tdiv y) :: st) Q) : ev E l M D n sh d kc ks pc L (zv_l y :: zv_l x :: st) Q := by
  intro p e R s m args below meth c H locs cells slots mc ms ls X
  refine lv_ldiv X.1.1 X.1.2.1 hd (zj_ne0 hy h0) ?_
  rw [zj_div hx hy]
  exact (kk p e R s m args below meth c H locs cells slots mc ms ls X)
theorem ev_lrem {x y : Int} (hd : decode (zm_c M) pc = .ok (.lrem, 1)) (hx : zj x) (hy : zj y) (h0 : y ≠ 0) (kk : ev E l M D n sh d kc ks (pc + 1) L (zv_l (x.tmod y) :: st) Q) : ev E l M D n sh d kc ks pc L (zv_l y :: zv_l x :: st) Q := by
  intro p e R s m args below meth c H locs cells slots mc ms ls X
  refine lv_lrem X.1.1 X.1.2.1 hd (zj_ne0 hy h0) ?_
  rw [zj_rem hx hy]
  exact (kk p e R s m args below meth c H locs cells slots mc ms ls X)
theorem ev_iand {x y : Int} (hd : decode (zm_c M) pc = .ok (.iand, 1)) (kk : ev E l M D n sh d kc ks (pc + 1) L (zv_i (zb_and x y) :: st) Q) : ev E l M D n sh d kc ks pc L (zv_i y :: zv_i x :: st) Q := by
  intro p e R s m args below meth c H locs cells slots mc ms ls X
  have k2 := (kk p e R s m args below meth c H locs cells slots mc ms ls X)
  simp only [List.map_cons, zv_c, zb_and, zi_ofInt] at k2
  exact lv_iand X.1.1 X.1.2.1 hd k2
theorem ev_ior {x y : Int} (hd : decode (zm_c M) pc = .ok (.ior, 1)) (kk : ev E l M D n sh d kc ks (pc + 1) L (zv_i (zb_or x y) :: st) Q) : ev E l M D n sh d kc ks pc L (zv_i y :: zv_i x :: st) Q := by
  intro p e R s m args below meth c H locs cells slots mc ms ls X
  have k2 := (kk p e R s m args below meth c H locs cells slots mc ms ls X)
  simp only [List.map_cons, zv_c, zb_or, zi_ofInt] at k2
  exact lv_ior X.1.1 X.1.2.1 hd k2
theorem ev_ixor {x y : Int} (hd : decode (zm_c M) pc = .ok (.ixor, 1)) (kk : ev E l M D n sh d kc ks (pc + 1) L (zv_i (zb_xor x y) :: st) Q) : ev E l M D n sh d kc ks pc L (zv_i y :: zv_i x :: st) Q := by
  intro p e R s m args below meth c H locs cells slots mc ms ls X
  have k2 := (kk p e R s m args below meth c H locs cells slots mc ms ls X)
  simp only [List.map_cons, zv_c, zb_xor, zi_ofInt] at k2
  exact lv_ixor X.1.1 X.1.2.1 hd k2
theorem ev_ishl {x y : Int} (hd : decode (zm_c M) pc = .ok (.ishl, 1)) (kk : ev E l M D n sh d kc ks (pc + 1) L (zv_i (zb_shl x y) :: st) Q) : ev E l M D n sh d kc ks pc L (zv_i y :: zv_i x :: st) Q := by
  intro p e R s m args below meth c H locs cells slots mc ms ls X
  have k2 := (kk p e R s m args below meth c H locs cells slots mc ms ls X)
  simp only [List.map_cons, zv_c, zb_shl, zi_ofInt] at k2
  exact lv_ishl X.1.1 X.1.2.1 hd k2
theorem ev_ishr {x y : Int} (hd : decode (zm_c M) pc = .ok (.ishr, 1)) (kk : ev E l M D n sh d kc ks (pc + 1) L (zv_i (zb_shr x y) :: st) Q) : ev E l M D n sh d kc ks pc L (zv_i y :: zv_i x :: st) Q := by
  intro p e R s m args below meth c H locs cells slots mc ms ls X
  have k2 := (kk p e R s m args below meth c H locs cells slots mc ms ls X)
  simp only [List.map_cons, zv_c, zb_shr, zi_ofInt] at k2
  exact lv_ishr X.1.1 X.1.2.1 hd k2
theorem ev_iushr {x y : Int} (hd : decode (zm_c M) pc = .ok (.iushr, 1)) (kk : ev E l M D n sh d kc ks (pc + 1) L (zv_i (zb_ushr x y) :: st) Q) : ev E l M D n sh d kc ks pc L (zv_i y :: zv_i x :: st) Q := by
  intro p e R s m args below meth c H locs cells slots mc ms ls X
  have k2 := (kk p e R s m args below meth c H locs cells slots mc ms ls X)
  simp only [List.map_cons, zv_c, zb_ushr, zi_ofInt] at k2
  exact lv_iushr X.1.1 X.1.2.1 hd rfl k2
theorem ev_lcmp {x y : Int} (hd : decode (zm_c M) pc = .ok (.lcmp, 1)) (kk : ev E l M D n sh d kc ks (pc + 1) L (zv_i (zb_cmp x y) :: st) Q) : ev E l M D n sh d kc ks pc L (zv_l y :: zv_l x :: st) Q := by
  intro p e R s m args below meth c H locs cells slots mc ms ls X
  have k2 := (kk p e R s m args below meth c H locs cells slots mc ms ls X)
  simp only [List.map_cons, zv_c, zb_cmp, zi_ofInt] at k2
  exact W.lcmp X.1.1 X.1.2.1 hd k2
theorem ev_i2l {x : Int} (hd : decode (zm_c M) pc = .ok (.i2l, 1)) (hx : zi x) (kk : ev E l M D n sh d kc ks (pc + 1) L (zv_l x :: st) Q) : ev E l M D n sh d kc ks pc L (zv_i x :: st) Q := by
  intro p e R s m args below meth c H locs cells slots mc ms ls X
  exact lv_i2l X.1.1 X.1.2.1 hd (zi_l hx) (kk p e R s m args below meth c H locs cells slots mc ms ls X)
theorem ev_l2i {x : Int} (hd : decode (zm_c M) pc = .ok (.l2i, 1)) (kk : ev E l M D n sh d kc ks (pc + 1) L (zv_i x :: st) Q) : ev E l M D n sh d kc ks pc L (zv_l x :: st) Q := by
  intro p e R s m args below meth c H locs cells slots mc ms ls X
  exact lv_l2i X.1.1 X.1.2.1 hd (zj_i x) (kk p e R s m args below meth c H locs cells slots mc ms ls X)
theorem ev_i2c {x y : Int} (hd : decode (zm_c M) pc = .ok (.i2c, 1)) (hv : ((Int32.ofInt x).toUInt32 % 65536).toInt32 = Int32.ofInt y) (kk : ev E l M D n sh d kc ks (pc + 1) L (zv_i y :: st) Q) : ev E l M D n sh d kc ks pc L (zv_i x :: st) Q := by
  intro p e R s m args below meth c H locs cells slots mc ms ls X
  exact lv_i2c X.1.1 X.1.2.1 hd hv (kk p e R s m args below meth c H locs cells slots mc ms ls X)
theorem ev_dadd {x y : UInt64} (hd : decode (zm_c M) pc = .ok (.dadd, 1)) (hq : vf_n64 (FP.dadd x y)) (kk : ev E l M D n sh d kc ks (pc + 1) L (zv_d (FP.dadd x y) :: st) Q) : ev E l M D n sh d kc ks pc L (zv_d y :: zv_d x :: st) Q := by
  intro p e R s m args below meth c H locs cells slots mc ms ls X
  exact lv_dadd X.1.1 X.1.2.1 hd hq (kk p e R s m args below meth c H locs cells slots mc ms ls X)
theorem ev_dsub {x y : UInt64} (hd : decode (zm_c M) pc = .ok (.dsub, 1)) (hq : vf_n64 (FP.dsub x y)) (kk : ev E l M D n sh d kc ks (pc + 1) L (zv_d (FP.dsub x y) :: st) Q) : ev E l M D n sh d kc ks pc L (zv_d y :: zv_d x :: st) Q := by
  intro p e R s m args below meth c H locs cells slots mc ms ls X
  exact lv_dsub X.1.1 X.1.2.1 hd hq (kk p e R s m args below meth c H locs cells slots mc ms ls X)
theorem ev_dmul {x y : UInt64} (hd : decode (zm_c M) pc = .ok (.dmul, 1)) (hq : vf_n64 (FP.dmul x y)) (kk : ev E l M D n sh d kc ks (pc + 1) L (zv_d (FP.dmul x y) :: st) Q) : ev E l M D n sh d kc ks pc L (zv_d y :: zv_d x :: st) Q := by
  intro p e R s m args below meth c H locs cells slots mc ms ls X
  exact lv_dmul X.1.1 X.1.2.1 hd hq (kk p e R s m args below meth c H locs cells slots mc ms ls X)
theorem ev_ddiv {x y : UInt64} (hd : decode (zm_c M) pc = .ok (.ddiv, 1)) (hq : vf_n64 (FP.ddiv x y)) (kk : ev E l M D n sh d kc ks (pc + 1) L (zv_d (FP.ddiv x y) :: st) Q) : ev E l M D n sh d kc ks pc L (zv_d y :: zv_d x :: st) Q := by
  intro p e R s m args below meth c H locs cells slots mc ms ls X
  exact lv_ddiv X.1.1 X.1.2.1 hd hq (kk p e R s m args below meth c H locs cells slots mc ms ls X)
theorem ev_dneg {x : UInt64} (hd : decode (zm_c M) pc = .ok (.dneg, 1)) (kk : ev E l M D n sh d kc ks (pc + 1) L (zv_d (FP.dneg x) :: st) Q) : ev E l M D n sh d kc ks pc L (zv_d x :: st) Q := by
  intro p e R s m args below meth c H locs cells slots mc ms ls X
  exact lv_dneg X.1.1 X.1.2.1 hd (kk p e R s m args below meth c H locs cells slots mc ms ls X)
theorem ev_dcmp {x y : UInt64} {op : CmpOp} (hd : decode (zm_c M) pc = .ok (.dcmp op, 1)) (kk : ev E l M D n sh d kc ks (pc + 1) L (zv_i (Op.cmpValue (FP.dcmp x y) op).toInt :: st) Q) : ev E l M D n sh d kc ks pc L (zv_d y :: zv_d x :: st) Q := by
  intro p e R s m args below meth c H locs cells slots mc ms ls X
  have k2 := (kk p e R s m args below meth c H locs cells slots mc ms ls X)
  simp only [List.map_cons, zv_c, zi_ofInt] at k2
  exact lv_dcmp X.1.1 X.1.2.1 hd k2
theorem ev_i2d {x : Int} (hd : decode (zm_c M) pc = .ok (.i2d, 1)) (kk : ev E l M D n sh d kc ks (pc + 1) L (zv_d (FP.i2d (Int32.ofInt x)) :: st) Q) : ev E l M D n sh d kc ks pc L (zv_i x :: st) Q := by
  intro p e R s m args below meth c H locs cells slots mc ms ls X
  exact lv_i2d X.1.1 X.1.2.1 hd (kk p e R s m args below meth c H locs cells slots mc ms ls X)
theorem ev_d2i {x : UInt64} (hd : decode (zm_c M) pc = .ok (.d2i, 1)) (kk : ev E l M D n sh d kc ks (pc + 1) L (zv_i (FP.d2i x).toInt :: st) Q) : ev E l M D n sh d kc ks pc L (zv_d x :: st) Q := by
  intro p e R s m args below meth c H locs cells slots mc ms ls X
  have k2 := (kk p e R s m args below meth c H locs cells slots mc ms ls X)
  simp only [List.map_cons, zv_c, zi_ofInt] at k2
  exact lv_d2i X.1.1 X.1.2.1 hd k2
theorem ev_fadd {x y : UInt32} (hd : decode (zm_c M) pc = .ok (.fadd, 1)) (hq : vf_n32 (FP.fadd x y)) (kk : ev E l M D n sh d kc ks (pc + 1) L (zv_f (FP.fadd x y) :: st) Q) : ev E l M D n sh d kc ks pc L (zv_f y :: zv_f x :: st) Q := by
  intro p e R s m args below meth c H locs cells slots mc ms ls X
  exact lv_fadd X.1.1 X.1.2.1 hd hq (kk p e R s m args below meth c H locs cells slots mc ms ls X)
theorem ev_fsub {x y : UInt32} (hd : decode (zm_c M) pc = .ok (.fsub, 1)) (hq : vf_n32 (FP.fsub x y)) (kk : ev E l M D n sh d kc ks (pc + 1) L (zv_f (FP.fsub x y) :: st) Q) : ev E l M D n sh d kc ks pc L (zv_f y :: zv_f x :: st) Q := by
  intro p e R s m args below meth c H locs cells slots mc ms ls X
  exact lv_fsub X.1.1 X.1.2.1 hd hq (kk p e R s m args below meth c H locs cells slots mc ms ls X)
theorem ev_fmul {x y : UInt32} (hd : decode (zm_c M) pc = .ok (.fmul, 1)) (hq : vf_n32 (FP.fmul x y)) (kk : ev E l M D n sh d kc ks (pc + 1) L (zv_f (FP.fmul x y) :: st) Q) : ev E l M D n sh d kc ks pc L (zv_f y :: zv_f x :: st) Q := by
  intro p e R s m args below meth c H locs cells slots mc ms ls X
  exact lv_fmul X.1.1 X.1.2.1 hd hq (kk p e R s m args below meth c H locs cells slots mc ms ls X)
theorem ev_fdiv {x y : UInt32} (hd : decode (zm_c M) pc = .ok (.fdiv, 1)) (hq : vf_n32 (FP.fdiv x y)) (kk : ev E l M D n sh d kc ks (pc + 1) L (zv_f (FP.fdiv x y) :: st) Q) : ev E l M D n sh d kc ks pc L (zv_f y :: zv_f x :: st) Q := by
  intro p e R s m args below meth c H locs cells slots mc ms ls X
  exact lv_fdiv X.1.1 X.1.2.1 hd hq (kk p e R s m args below meth c H locs cells slots mc ms ls X)
theorem ev_fneg {x : UInt32} (hd : decode (zm_c M) pc = .ok (.fneg, 1)) (kk : ev E l M D n sh d kc ks (pc + 1) L (zv_f (FP.fneg x) :: st) Q) : ev E l M D n sh d kc ks pc L (zv_f x :: st) Q := by
  intro p e R s m args below meth c H locs cells slots mc ms ls X
  exact lv_fneg X.1.1 X.1.2.1 hd (kk p e R s m args below meth c H locs cells slots mc ms ls X)
theorem ev_fcmp {x y : UInt32} {op : CmpOp} (hd : decode (zm_c M) pc = .ok (.fcmp op, 1)) (kk : ev E l M D n sh d kc ks (pc + 1) L (zv_i (Op.cmpValue (FP.fcmp x y) op).toInt :: st) Q) : ev E l M D n sh d kc ks pc L (zv_f y :: zv_f x :: st) Q := by
  intro p e R s m args below meth c H locs cells slots mc ms ls X
  have k2 := (kk p e R s m args below meth c H locs cells slots mc ms ls X)
  simp only [List.map_cons, zv_c, zi_ofInt] at k2
  exact lv_fcmp X.1.1 X.1.2.1 hd k2
theorem ev_i2f {x : Int} (hd : decode (zm_c M) pc = .ok (.i2f, 1)) (kk : ev E l M D n sh d kc ks (pc + 1) L (zv_f (FP.i2f (Int32.ofInt x)) :: st) Q) : ev E l M D n sh d kc ks pc L (zv_i x :: st) Q := by
  intro p e R s m args below meth c H locs cells slots mc ms ls X
  exact lv_i2f X.1.1 X.1.2.1 hd (kk p e R s m args below meth c H locs cells slots mc ms ls X)
theorem ev_f2i {x : UInt32} (hd : decode (zm_c M) pc = .ok (.f2i, 1)) (kk : ev E l M D n sh d kc ks (pc + 1) L (zv_i (FP.f2i x).toInt :: st) Q) : ev E l M D n sh d kc ks pc L (zv_f x :: st) Q := by
  intro p e R s m args below meth c H locs cells slots mc ms ls X
  have k2 := (kk p e R s m args below meth c H locs cells slots mc ms ls X)
  simp only [List.map_cons, zv_c, zi_ofInt] at k2
  exact lv_f2i X.1.1 X.1.2.1 hd k2
theorem ev_f2d {x : UInt32} (hd : decode (zm_c M) pc = .ok (.f2d, 1)) (hq : vf_n64 (FP.f2d x)) (kk : ev E l M D n sh d kc ks (pc + 1) L (zv_d (FP.f2d x) :: st) Q) : ev E l M D n sh d kc ks pc L (zv_f x :: st) Q := by
  intro p e R s m args below meth c H locs cells slots mc ms ls X
  exact lv_f2d X.1.1 X.1.2.1 hd hq (kk p e R s m args below meth c H locs cells slots mc ms ls X)
theorem ev_dup {a : zv_V} (hd : decode (zm_c M) pc = .ok (.dup, 1)) (ha : zv_k a = 1) (kk : ev E l M D n sh d kc ks (pc + 1) L (a :: a :: st) Q) : ev E l M D n sh d kc ks pc L (a :: st) Q := by
  intro p e R s m args below meth c H locs cells slots mc ms ls X
  exact lv_dup X.1.1 X.1.2.1 hd ((zv_cat E a).trans ha) (kk p e R s m args below meth c H locs cells slots mc ms ls X)
theorem ev_pop {a : zv_V} (hd : decode (zm_c M) pc = .ok (.pop, 1)) (ha : zv_k a = 1) (kk : ev E l M D n sh d kc ks (pc + 1) L (st) Q) : ev E l M D n sh d kc ks pc L (a :: st) Q := by
  intro p e R s m args below meth c H locs cells slots mc ms ls X
  exact lv_pop X.1.1 X.1.2.1 hd ((zv_cat E a).trans ha) (kk p e R s m args below meth c H locs cells slots mc ms ls X)
theorem ev_dup_x1 {a b : zv_V} (hd : decode (zm_c M) pc = .ok (.dup_x1, 1)) (ha : zv_k a = 1) (hb : zv_k b = 1) (kk : ev E l M D n sh d kc ks (pc + 1) L (a :: b :: a :: st) Q) : ev E l M D n sh d kc ks pc L (a :: b :: st) Q := by
  intro p e R s m args below meth c H locs cells slots mc ms ls X
  exact lv_dup_x1 X.1.1 X.1.2.1 hd ((zv_cat E a).trans ha) ((zv_cat E b).trans hb) (kk p e R s m args below meth c H locs cells slots mc ms ls X)
theorem ev_dup2 {a b : zv_V} (hd : decode (zm_c M) pc = .ok (.dup2, 1)) (ha : zv_k a = 1) (hb : zv_k b = 1) (kk : ev E l M D n sh d kc ks (pc + 1) L (a :: b :: a :: b :: st) Q) : ev E l M D n sh d kc ks pc L (a :: b :: st) Q := by
  intro p e R s m args below meth c H locs cells slots mc ms ls X
  exact lv_dup2_11 X.1.1 X.1.2.1 hd ((zv_cat E a).trans ha) ((zv_cat E b).trans hb) (kk p e R s m args below meth c H locs cells slots mc ms ls X)
end EV3
section EV4
variable {E : ze_E} {l : Launch} {M : zm_M} {D n : Nat} {sh : zk_S} {d : zm_D} {kc ks pc : Nat} {L : zl_L} {st : List zv_V} {Q : ev_Q}
theorem ev_icmp_eq {x y off : Int} {tgt : Nat} (hd : decode (zm_c M) pc = .ok (.if_icmp .eq off, 3)) (ht : (pc : Int) + off = (tgt : Int)) (hx : zi x) (hy : zi y) (kt : x = y → ev E l M D n sh d kc ks tgt L st Q) (kf : ¬ x = y → ev E l M D n sh d kc ks (pc + 3) L st Q) : ev E l M D n sh d kc ks pc L (zv_i y :: zv_i x :: st) Q := by
  intro p e R s m args below meth c H locs cells slots mc ms ls X
  exact lv_icmp_eq X.1.1 X.1.2.1 hd ht (fun q => kt ((zi_eq hx hy).mp q) p e R s m args below meth c H locs cells slots mc ms ls X) (fun q => kf ((not_congr (zi_eq hx hy)).mp q) p e R s m args below meth c H locs cells slots mc ms ls X)
theorem ev_if_eq {x off : Int} {tgt : Nat} (hd : decode (zm_c M) pc = .ok (.ifCond .eq off, 3)) (ht : (pc : Int) + off = (tgt : Int)) (hx : zi x) (kt : x = 0 → ev E l M D n sh d kc ks tgt L st Q) (kf : ¬ x = 0 → ev E l M D n sh d kc ks (pc + 3) L st Q) : ev E l M D n sh d kc ks pc L (zv_i x :: st) Q := by
  intro p e R s m args below meth c H locs cells slots mc ms ls X
  exact lv_if_eq X.1.1 X.1.2.1 hd ht (fun q => kt ((zi_eq hx zi_0).mp q) p e R s m args below meth c H locs cells slots mc ms ls X) (fun q => kf ((not_congr (zi_eq hx zi_0)).mp q) p e R s m args below meth c H locs cells slots mc ms ls X)
theorem ev_icmp_ne {x y off : Int} {tgt : Nat} (hd : decode (zm_c M) pc = .ok (.if_icmp .ne off, 3)) (ht : (pc : Int) + off = (tgt : Int)) (hx : zi x) (hy : zi y) (kt : ¬ x = y → ev E l M D n sh d kc ks tgt L st Q) (kf : x = y → ev E l M D n sh d kc ks (pc + 3) L st Q) : ev E l M D n sh d kc ks pc L (zv_i y :: zv_i x :: st) Q := by
  intro p e R s m args below meth c H locs cells slots mc ms ls X
  exact lv_icmp_ne X.1.1 X.1.2.1 hd ht (fun q => kt ((not_congr (zi_eq hx hy)).mp q) p e R s m args below meth c H locs cells slots mc ms ls X) (fun q => kf ((zi_eq hx hy).mp q) p e R s m args below meth c H locs cells slots mc ms ls X)
theorem ev_if_ne {x off : Int} {tgt : Nat} (hd : decode (zm_c M) pc = .ok (.ifCond .ne off, 3)) (ht : (pc : Int) + off = (tgt : Int)) (hx : zi x) (kt : ¬ x = 0 → ev E l M D n sh d kc ks tgt L st Q) (kf : x = 0 → ev E l M D n sh d kc ks (pc + 3) L st Q) : ev E l M D n sh d kc ks pc L (zv_i x :: st) Q := by
  intro p e R s m args below meth c H locs cells slots mc ms ls X
  exact lv_if_ne X.1.1 X.1.2.1 hd ht (fun q => kt ((not_congr (zi_eq hx zi_0)).mp q) p e R s m args below meth c H locs cells slots mc ms ls X) (fun q => kf ((zi_eq hx zi_0).mp q) p e R s m args below meth c H locs cells slots mc ms ls X)
theorem ev_icmp_lt {x y off : Int} {tgt : Nat} (hd : decode (zm_c M) pc = .ok (.if_icmp .lt off, 3)) (ht : (pc : Int) + off = (tgt : Int)) (hx : zi x) (hy : zi y) (kt : x < y → ev E l M D n sh d kc ks tgt L st Q) (kf : ¬ x < y → ev E l M D n sh d kc ks (pc + 3) L st Q) : ev E l M D n sh d kc ks pc L (zv_i y :: zv_i x :: st) Q := by
  intro p e R s m args below meth c H locs cells slots mc ms ls X
  exact lv_icmp_lt X.1.1 X.1.2.1 hd ht (fun q => kt ((zi_lt hx hy).mp q) p e R s m args below meth c H locs cells slots mc ms ls X) (fun q => kf ((not_congr (zi_lt hx hy)).mp q) p e R s m args below meth c H locs cells slots mc ms ls X)
theorem ev_if_lt {x off : Int} {tgt : Nat} (hd : decode (zm_c M) pc = .ok (.ifCond .lt off, 3)) (ht : (pc : Int) + off = (tgt : Int)) (hx : zi x) (kt : x < 0 → ev E l M D n sh d kc ks tgt L st Q) (kf : ¬ x < 0 → ev E l M D n sh d kc ks (pc + 3) L st Q) : ev E l M D n sh d kc ks pc L (zv_i x :: st) Q := by
  intro p e R s m args below meth c H locs cells slots mc ms ls X
  exact lv_if_lt X.1.1 X.1.2.1 hd ht (fun q => kt ((zi_lt hx zi_0).mp q) p e R s m args below meth c H locs cells slots mc ms ls X) (fun q => kf ((not_congr (zi_lt hx zi_0)).mp q) p e R s m args below meth c H locs cells slots mc ms ls X)
theorem ev_icmp_ge {x y off : Int} {tgt : Nat} (hd : decode (zm_c M) pc = .ok (.if_icmp .ge off, 3)) (ht : (pc : Int) + off = (tgt : Int)) (hx : zi x) (hy : zi y) (kt : y ≤ x → ev E l M D n sh d kc ks tgt L st Q) (kf : ¬ y ≤ x → ev E l M D n sh d kc ks (pc + 3) L st Q) : ev E l M D n sh d kc ks pc L (zv_i y :: zv_i x :: st) Q := by
  intro p e R s m args below meth c H locs cells slots mc ms ls X
  exact lv_icmp_ge X.1.1 X.1.2.1 hd ht (fun q => kt ((zi_le hy hx).mp q) p e R s m args below meth c H locs cells slots mc ms ls X) (fun q => kf ((not_congr (zi_le hy hx)).mp q) p e R s m args below meth c H locs cells slots mc ms ls X)
theorem ev_if_ge {x off : Int} {tgt : Nat} (hd : decode (zm_c M) pc = .ok (.ifCond .ge off, 3)) (ht : (pc : Int) + off = (tgt : Int)) (hx : zi x) (kt : 0 ≤ x → ev E l M D n sh d kc ks tgt L st Q) (kf : ¬ 0 ≤ x → ev E l M D n sh d kc ks (pc + 3) L st Q) : ev E l M D n sh d kc ks pc L (zv_i x :: st) Q := by
  intro p e R s m args below meth c H locs cells slots mc ms ls X
  exact lv_if_ge X.1.1 X.1.2.1 hd ht (fun q => kt ((zi_le zi_0 hx).mp q) p e R s m args below meth c H locs cells slots mc ms ls X) (fun q => kf ((not_congr (zi_le zi_0 hx)).mp q) p e R s m args below meth c H locs cells slots mc ms ls X)
theorem ev_icmp_gt {x y off : Int} {tgt : Nat} (hd : decode (zm_c M) pc = .ok (.if_icmp .gt off, 3)) (ht : (pc : Int) + off = (tgt : Int)) (hx : zi x) (hy : zi y) (kt : y < x → ev E l M D n sh d kc ks tgt L st Q) (kf : ¬ y < x → ev E l M D n sh d kc ks (pc + 3) L st Q) : ev E l M D n sh d kc ks pc L (zv_i y :: zv_i x :: st) Q := by
  intro p e R s m args below meth c H locs cells slots mc ms ls X
  exact lv_icmp_gt X.1.1 X.1.2.1 hd ht (fun q => kt ((zi_lt hy hx).mp q) p e R s m args below meth c H locs cells slots mc ms ls X) (fun q => kf ((not_congr (zi_lt hy hx)).mp q) p e R s m args below meth c H locs cells slots mc ms ls X)
theorem ev_if_gt {x off : Int} {tgt : Nat} (hd : decode (zm_c M) pc = .ok (.ifCond .gt off, 3)) (ht : (pc : Int) + off = (tgt : Int)) (hx : zi x) (kt : 0 < x → ev E l M D n sh d kc ks tgt L st Q) (kf : ¬ 0 < x → ev E l M D n sh d kc ks (pc + 3) L st Q) : ev E l M D n sh d kc ks pc L (zv_i x :: st) Q := by
  intro p e R s m args below meth c H locs cells slots mc ms ls X
  exact lv_if_gt X.1.1 X.1.2.1 hd ht (fun q => kt ((zi_lt zi_0 hx).mp q) p e R s m args below meth c H locs cells slots mc ms ls X) (fun q => kf ((not_congr (zi_lt zi_0 hx)).mp q) p e R s m args below meth c H locs cells slots mc ms ls X)
theorem ev_icmp_le {x y off : Int} {tgt : Nat} (hd : decode (zm_c M) pc = .ok (.if_icmp .le off, 3)) (ht : (pc : Int) + off = (tgt : Int)) (hx : zi x) (hy : zi y) (kt : x ≤ y → ev E l M D n sh d kc ks tgt L st Q) (kf : ¬ x ≤ y → ev E l M D n sh d kc ks (pc + 3) L st Q) : ev E l M D n sh d kc ks pc L (zv_i y :: zv_i x :: st) Q := by
  intro p e R s m args below meth c H locs cells slots mc ms ls X
  exact lv_icmp_le X.1.1 X.1.2.1 hd ht (fun q => kt ((zi_le hx hy).mp q) p e R s m args below meth c H locs cells slots mc ms ls X) (fun q => kf ((not_congr (zi_le hx hy)).mp q) p e R s m args below meth c H locs cells slots mc ms ls X)
theorem ev_if_le {x off : Int} {tgt : Nat} (hd : decode (zm_c M) pc = .ok (.ifCond .le off, 3)) (ht : (pc : Int) + off = (tgt : Int)) (hx : zi x) (kt : x ≤ 0 → ev E l M D n sh d kc ks tgt L st Q) (kf : ¬ x ≤ 0 → ev E l M D n sh d kc ks (pc + 3) L st Q) : ev E l M D n sh d kc ks pc L (zv_i x :: st) Q := by
  intro p e R s m args below meth c H locs cells slots mc ms ls X
  exact lv_if_le X.1.1 X.1.2.1 hd ht (fun q => kt ((zi_le hx zi_0).mp q) p e R s m args below meth c H locs cells slots mc ms ls X) (fun q => kf ((not_congr (zi_le hx zi_0)).mp q) p e R s m args below meth c H locs cells slots mc ms ls X)
theorem ev_goto {off : Int} {tgt : Nat} (hd : decode (zm_c M) pc = .ok (.goto off, 3)) (ht : (pc : Int) + off = (tgt : Int)) (kk : ev E l M D n sh d kc ks tgt L st Q) : ev E l M D n sh d kc ks pc L st Q := by
  intro p e R s m args below meth c H locs cells slots mc ms ls X
  exact lv_goto X.1.1 X.1.2.1 hd ht (kk p e R s m args below meth c H locs cells slots mc ms ls X)
theorem ev_ifnull {r off : Int} {tgt : Nat} (hd : decode (zm_c M) pc = .ok (.ifnull off, 3)) (ht : (pc : Int) + off = (tgt : Int)) (kt : r = 0 → ev E l M D n sh d kc ks tgt L st Q) (kf : ¬ r = 0 → ev E l M D n sh d kc ks (pc + 3) L st Q) : ev E l M D n sh d kc ks pc L (zv_a r :: st) Q := by
  intro p e R s m args below meth c H locs cells slots mc ms ls X
  by_cases h : r = 0
  · have e9 : zv_ro E r = none := by unfold zv_ro; rw [if_pos h]
    simp only [List.map_cons, zv_c, e9]
    exact lv_ifnullN X.1.1 X.1.2.1 hd ht (kt h p e R s m args below meth c H locs cells slots mc ms ls X)
  · obtain ⟨a, e9⟩ : ∃ a, zv_ro E r = some a := by unfold zv_ro; rw [if_neg h]; split <;> (first | exact ⟨_, rfl⟩ | (split <;> exact ⟨_, rfl⟩))
    simp only [List.map_cons, zv_c, e9]
    exact lv_ifnull X.1.1 X.1.2.1 hd (kf h p e R s m args below meth c H locs cells slots mc ms ls X)
theorem ev_ifnonnull {r off : Int} {tgt : Nat} (hd : decode (zm_c M) pc = .ok (.ifnonnull off, 3)) (ht : (pc : Int) + off = (tgt : Int)) (kt : ¬ r = 0 → ev E l M D n sh d kc ks tgt L st Q) (kf : r = 0 → ev E l M D n sh d kc ks (pc + 3) L st Q) : ev E l M D n sh d kc ks pc L (zv_a r :: st) Q := by
  intro p e R s m args below meth c H locs cells slots mc ms ls X
  by_cases h : r = 0
  · have e9 : zv_ro E r = none := by unfold zv_ro; rw [if_pos h]
    simp only [List.map_cons, zv_c, e9]
    exact lv_ifnonnullN X.1.1 X.1.2.1 hd (kf h p e R s m args below meth c H locs cells slots mc ms ls X)
  · obtain ⟨a, e9⟩ : ∃ a, zv_ro E r = some a := by unfold zv_ro; rw [if_neg h]; split <;> (first | exact ⟨_, rfl⟩ | (split <;> exact ⟨_, rfl⟩))
    simp only [List.map_cons, zv_c, e9]
    exact lv_ifnonnull X.1.1 X.1.2.1 hd ht (kt h p e R s m args below meth c H locs cells slots mc ms ls X)
theorem zv_ro_inj {r r' : Int} (h : 0 ≤ r) (h' : 0 ≤ r') : zv_ro E r = zv_ro E r' ↔ r = r' := by
  constructor
  · intro q
    unfold zv_ro at q
    by_cases a : r = 0 <;> by_cases b : r' = 0
    · omega
    · rw [if_pos a, if_neg b, if_neg (by omega)] at q; cases q
    · rw [if_neg a, if_pos b, if_neg (by omega)] at q; cases q
    · rw [if_neg a, if_neg b, if_neg (by omega), if_neg (by omega)] at q
      have := Option.some.inj q; omega
  · intro q; rw [q]
theorem ev_acmp_eq {x y off : Int} {tgt : Nat} (hd : decode (zm_c M) pc = .ok (.if_acmp .eq off, 3)) (ht : (pc : Int) + off = (tgt : Int)) (hx : 0 ≤ x) (hy : 0 ≤ y) (kt : x = y → ev E l M D n sh d kc ks tgt L st Q) (kf : ¬ x = y → ev E l M D n sh d kc ks (pc + 3) L st Q) : ev E l M D n sh d kc ks pc L (zv_a y :: zv_a x :: st) Q := by
  intro p e R s m args below meth c H locs cells slots mc ms ls X
  exact lv_acmp_eq X.1.1 X.1.2.1 hd ht (fun q => kt ((zv_ro_inj hx hy).mp q) p e R s m args below meth c H locs cells slots mc ms ls X) (fun q => kf ((not_congr (zv_ro_inj hx hy)).mp q) p e R s m args below meth c H locs cells slots mc ms ls X)
theorem ev_acmp_ne {x y off : Int} {tgt : Nat} (hd : decode (zm_c M) pc = .ok (.if_acmp .ne off, 3)) (ht : (pc : Int) + off = (tgt : Int)) (hx : 0 ≤ x) (hy : 0 ≤ y) (kt : ¬ x = y → ev E l M D n sh d kc ks tgt L st Q) (kf : x = y → ev E l M D n sh d kc ks (pc + 3) L st Q) : ev E l M D n sh d kc ks pc L (zv_a y :: zv_a x :: st) Q := by
  intro p e R s m args below meth c H locs cells slots mc ms ls X
  exact lv_acmp_ne X.1.1 X.1.2.1 hd ht (fun q => kt ((not_congr (zv_ro_inj hx hy)).mp q) p e R s m args below meth c H locs cells slots mc ms ls X) (fun q => kf ((zv_ro_inj hx hy).mp q) p e R s m args below meth c H locs cells slots mc ms ls X)
theorem ev_tableOut {dflt lo hi x : Int} {offs : Array Int} {len tgt : Nat} (hd : decode (zm_c M) pc = .ok (.tableswitch dflt lo hi offs, len)) (hx : zi x) (h : x < lo ∨ hi < x) (ht : (pc : Int) + dflt = (tgt : Int)) (kk : ev E l M D n sh d kc ks tgt L st Q) : ev E l M D n sh d kc ks pc L (zv_i x :: st) Q := by
  intro p e R s m args below meth c H locs cells slots mc ms ls X
  exact lv_tableOut X.1.1 X.1.2.1 hd (by rw [zi_t hx]; exact h) ht (kk p e R s m args below meth c H locs cells slots mc ms ls X)
theorem ev_tableIn {dflt lo hi x off : Int} {offs : Array Int} {len tgt : Nat} (hd : decode (zm_c M) pc = .ok (.tableswitch dflt lo hi offs, len)) (hx : zi x) (h1 : ¬ x < lo) (h2 : ¬ hi < x) (ho : offs[(x - lo).toNat]? = some off) (ht : (pc : Int) + off = (tgt : Int)) (kk : ev E l M D n sh d kc ks tgt L st Q) : ev E l M D n sh d kc ks pc L (zv_i x :: st) Q := by
  intro p e R s m args below meth c H locs cells slots mc ms ls X
  exact lv_tableIn X.1.1 X.1.2.1 hd (by rw [zi_t hx]; exact h1) (by rw [zi_t hx]; exact h2) (by rw [zi_t hx]; exact ho) ht (kk p e R s m args below meth c H locs cells slots mc ms ls X)
end EV4
/-! ===== EV: fields and arrays ===== -/
theorem zv_ro_pos {E : ze_E} {r : Int} (h : 0 < r) : zv_ro E r = some (ze_o E + (r.toNat - 1)) := by
  unfold zv_ro
  rw [if_neg (by omega), if_neg (by omega)]
theorem zv_ro_0 {E : ze_E} : zv_ro E 0 = none := by unfold zv_ro; rw [if_pos rfl]
theorem zm_us {d : zm_D} {r j v : Int} : zm_u d r j v r j = v := by unfold zm_u; rw [if_pos ⟨rfl, rfl⟩]
theorem zm_ur {d : zm_D} {r j v a k : Int} (h : a ≠ r) : zm_u d r j v a k = d a k := by unfold zm_u; rw [if_neg (fun q => h q.1)]
theorem zm_uj {d : zm_D} {r j v a k : Int} (h : k ≠ j) : zm_u d r j v a k = d a k := by unfold zm_u; rw [if_neg (fun q => h q.2)]
theorem zw_at_kept {E : ze_E} {d d' : zm_D} {H H1 : Heap} {r : Nat} {k : zk_K} (h : zw_at E d H r k) (hq : H1[ze_o E + (r - 1)]? = H[ze_o E + (r - 1)]?) (hd : ∀ j, d' r j = d r j) : zw_at E d' H1 r k := by
  rcases k with _ | ci | ⟨ty, N⟩
  · trivial
  · obtain ⟨q, h1, h2⟩ := h
    refine ⟨q, h1, ?_⟩
    simp only [hd]
    exact h2.kept hq
  · obtain ⟨h1, h2⟩ := h
    refine ⟨?_, h2⟩
    simp only [hd]
    exact hq.trans h1
theorem zw_H_set {E : ze_E} {n : Nat} {sh : zk_S} {d d' : zm_D} {H H1 : Heap} {r : Int} (h : zw_H E n sh d H) (h0 : 0 < r) (hz : H1.size = H.size) (oq : ∀ q, q ≠ ze_o E + (r.toNat - 1) → H1[q]? = H[q]?)
    (hd : ∀ a k, a ≠ r → d' a k = d a k) (hn : zw_at E d' H1 r.toNat (sh r)) : zw_H E n sh d' H1 := by
  refine ⟨hz.trans h.1, fun r' hr' => ?_⟩
  by_cases e : (r' : Int) = r
  · subst e
    simpa using hn
  · exact zw_at_kept (h.2 r' hr') (oq _ (by omega)) (fun j => hd _ _ e)
theorem zw_obj {E : ze_E} {n : Nat} {sh : zk_S} {d : zm_D} {H : Heap} {r : Int} {ci : Nat} (h : zw_H E n sh d H) (hr : sh r = some (.inl ci)) (h0 : 0 < r) :
    ∃ q, zk_cl[ci]? = some q ∧ t_OB (ze_o E + (r.toNat - 1)) ((ze_D E).1 ci) q.2.2 ((ze_D E).2 ci) H (fun j => zv_fv E (zk_ty ci j) (d r j)) := by
  have h1 := h.2 r.toNat (by omega)
  have e : ((r.toNat : Nat) : Int) = r := by omega
  rw [e, hr] at h1
  simp only [zw_at, e] at h1
  exact h1
theorem zw_arr {E : ze_E} {n : Nat} {sh : zk_S} {d : zm_D} {H : Heap} {r : Int} {ty : FieldType} {N : Nat} (h : zw_H E n sh d H) (hr : sh r = some (.inr (ty, N))) (h0 : 0 < r) :
    H[ze_o E + (r.toNat - 1)]? = some (arrV (ze_t E ty) N (fun j => zv_fv E ty (d r j))) ∧ ty ∈ zk_aty := by
  have h1 := h.2 r.toNat (by omega)
  have e : ((r.toNat : Nat) : Int) = r := by omega
  rw [e, hr] at h1
  simp only [zw_at, e] at h1
  exact h1
/-- a field's entry: its class, its place, the link -/
def zf_l (M : zm_M) (idx ci j : Nat) : Prop := ∃ q : vw_C, zk_cl[ci]? = some q ∧ j < q.2.2 ∧
  (Cond.fieldLink (zm_o M) idx (q.2.1 j).1 (q.2.1 j).2.1 (q.2.1 j).2.2.1 ∈ lw_g ∨ ∃ host, Cond.fieldLinkNest (zm_o M) idx (q.2.1 j).1 (q.2.1 j).2.1 (q.2.1 j).2.2.1 host ∈ lw_g)
def zf_n (M : zm_M) (ci j : Nat) : Prop := ∃ q : vw_C, zk_cl[ci]? = some q ∧ ((q.2.1 j).2.2.2 = false ∨ ((q.2.1 j).2.2.2 = true ∧ (zm_y M).name = "<init>" ∧ (q.2.1 j).1 = zm_o M))
section EV5
variable {E : ze_E} {l : Launch} {M : zm_M} {D n : Nat} {sh : zk_S} {d : zm_D} {kc ks pc : Nat} {L : zl_L} {st : List zv_V} {Q : ev_Q}
theorem ev_get {idx ci j : Nat} {r : Int} (hd : decode (zm_c M) pc = .ok (.getfield idx, 3)) (hf : zf_l M idx ci j) (hr : sh r = some (.inl ci)) (h0 : 0 < r)
    (kk : ev E l M D n sh d kc ks (pc + 3) L (zv_of (zk_ty ci j) (d r j) :: st) Q) : ev E l M D n sh d kc ks pc L (zv_a r :: st) Q := by
  intro p e R s m args below meth c H locs cells slots mc ms ls X
  obtain ⟨q, hq, hj, hlink⟩ := hf
  obtain ⟨q', hq', cell, q1, q2, q3, q4⟩ := zw_obj X.2.1 hr h0
  cases Option.some.inj (hq.symm.trans hq')
  have hts := X.1.2.2.2.2.2.1
  have hown := X.1.2.2.2.2.1
  obtain ⟨hS, hfc, kC, hkC, hkind⟩ := X.1.2.2.2.2.2.2.2.2.2.1.1 ci _ hq
  obtain ⟨cf, kf, fi, f, hi, hsl⟩ := hS j hj
  have hst := (u_facts hfc hkC (u_lays hts (zc_in ci q hq) hj) hi).1
  have k2 := kk p e R s m args below meth c H locs cells slots mc ms ls X
  simp only [List.map_cons, zv_of_c] at k2 ⊢
  simp only [zv_c, zv_ro_pos h0]
  rcases hlink with hl | ⟨host, hl⟩
  · exact W.getf X.1.1 X.1.2.1 hown (hts _ hl) hi hst q1 (by rw [q3]; exact fun h => by cases h) (v := zv_fv E (zk_ty ci j) (d r j)) (by rw [hsl]; exact q4 j hj) rfl rfl hd k2
  · exact va_Wgetf X.1.1 X.1.2.1 hown (hts _ hl) hi hst q1 (by rw [q3]; exact fun h => by cases h) (v := zv_fv E (zk_ty ci j) (d r j)) (by rw [hsl]; exact q4 j hj) rfl rfl hd k2
theorem ev_put {idx ci j : Nat} {r x : Int} {v : zv_V} (hd : decode (zm_c M) pc = .ok (.putfield idx, 3)) (hf : zf_l M idx ci j) (hfin : zf_n M ci j) (hr : sh r = some (.inl ci)) (h0 : 0 < r) (hv : zv_c E v = zv_fv E (zk_ty ci j) x) (hn : narrow (zk_ty ci j) (zv_fv E (zk_ty ci j) x) = zv_fv E (zk_ty ci j) x) (hfit : fits (zk_ty ci j) (zv_fv E (zk_ty ci j) x) = true)
    (kk : ev E l M D n sh (zm_u d r j x) kc ks (pc + 3) L st Q) : ev E l M D n sh d kc ks pc L (v :: zv_a r :: st) Q := by
  intro p e R s m args below meth c H locs cells slots mc ms ls X
  obtain ⟨q, hq, hj, hlink⟩ := hf
  obtain ⟨q', hq', cell, q1, q2, q3, q4⟩ := zw_obj X.2.1 hr h0
  cases Option.some.inj (hq.symm.trans hq')
  have hts := X.1.2.2.2.2.2.1
  have hown := X.1.2.2.2.2.1
  obtain ⟨hS, hfc, kC, hkC, hkind⟩ := X.1.2.2.2.2.2.2.2.2.2.1.1 ci _ hq
  have hin := zc_in ci q hq
  have hap : ∀ x y, x < q.2.2 → y < q.2.2 → x ≠ y → (ze_D E).2 ci x ≠ (ze_D E).2 ci y := by
    intro x y hx hy hne
    obtain ⟨_, _, _, fa, hia, ea⟩ := hS x hx
    obtain ⟨_, _, _, fb, hib, eb⟩ := hS y hy
    rw [← ea, ← eb]
    refine u_apart (u_lays hts hin hx) (u_lays hts hin hy) hia hib ?_
    rw [(State.fieldFound?_type hia (zc_ty ci q hq x hx)).1, (State.fieldFound?_type hib (zc_ty ci q hq y hy)).1]
    exact zc_nm ci q hq x hx y hy hne
  obtain ⟨cf, kf, fi, f, hi, hsl⟩ := hS j hj
  have hst := (u_facts hfc hkC (u_lays hts hin hj) hi).1
  have hpar := zc_ty ci q hq j hj
  have hlay := hts _ (hin _ (u_in_lay hj))
  unfold u_lay at hlay
  have fin : ∀ (H' : Heap), H'[ze_o E + (r.toNat - 1)]? = some (cell.setSlot f.slot (zv_fv E (zk_ty ci j) x)) → H'.size = H.size → (∀ q, q ≠ ze_o E + (r.toNat - 1) → H'[q]? = H[q]?) →
      W p l e R s m args below meth c H' (locs ++ [⟨ze_o E + (r.toNat - 1), f.slot⟩]) cells slots (vx_MQ below (ev_Qc E Q) (ev_XC E Q) args s mc ms (ze_A E)) (F0 m (pc + 3) ls (st.map (zv_c E))) := by
    intro H' e1 e2 e3
    refine kk p e R s m args below meth c H' _ cells slots mc ms ls ⟨X.1, ?_, X.2.2.1.put e2 e3 (Nat.le_add_right _ _), X.2.2.2⟩
    refine zw_H_set X.2.1 h0 e2 e3 (fun a k ha => zm_ur ha) ?_
    rw [hr]
    have er : ((r.toNat : Nat) : Int) = r := by omega
    refine ⟨q, hq, ?_⟩
    rw [hsl] at e1
    refine ⟨_, e1, q2, q3, fun k hk => ?_⟩
    rw [t_set q4 hap hj _ k hk]
    rw [er]
    by_cases hkj : k = j
    · subst hkj
      simp [updV, zm_us]
    · have e7 : zm_u d r (j : Int) x r (k : Int) = d r (k : Int) := zm_uj (by omega)
      simp [updV, hkj, e7]
  have h6 : fits (zk_ty ci j) (zv_fv E (zk_ty ci j) x) = true := hfit
  simp only [List.map_cons, hv]
  simp only [zv_c, zv_ro_pos h0]
  obtain ⟨q', hq', hfin⟩ := hfin
  cases Option.some.inj (hq.symm.trans hq')
  rcases hfin with hfin | ⟨hfin, hini, hdecl⟩
  · rw [if_neg (by rw [hfin]; decide)] at hlay
    have h6 := u_store hfc hkC hkind hlay hi hpar hn hfit
    rcases hlink with hl | ⟨host, hl⟩
    · exact W.putK X.1.1 X.1.2.1 (f := f) ⟨hown, hts _ hl, ⟨_, _, _, hi⟩, hst⟩ (by rw [q2]; exact h6) q1 q3 (by rw [hsl]; exact k2_hasslot (q4 j hj)) rfl rfl hd fin
    · exact va_WputK X.1.1 X.1.2.1 (f := f) hown (hts _ hl) hi hst (by rw [q2]; exact h6) q1 q3 (by rw [hsl]; exact k2_hasslot (q4 j hj)) rfl rfl hd fin
  · rw [if_pos hfin] at hlay
    have hcf : m.cls = cf := by
      obtain ⟨_, _, c', _, _, _, -, -, hf', -, -, -, hown2, -⟩ := Cond.laysFinal_spec hlay
      have e1 : c' = cf := by have := hi.symm.trans hf'; simp at this; exact this.1.symm
      rw [hdecl] at hown2
      rw [← e1]; exact Option.some.inj (hown.symm.trans hown2)
    have h6 := u_fits hfc hkC hkind (Or.inr hlay) hi hpar hn hfit
    have hname : meth.name = "<init>" := X.1.2.2.2.2.2.2.2.2.1.trans hini
    rcases hlink with hl | ⟨host, hl⟩
    · exact W.putFinK X.1.1 X.1.2.1 hown (hts _ hl) hi hst hcf hname (by rw [q2]; exact h6) q1 q3 (by rw [hsl]; exact k2_hasslot (q4 j hj)) rfl rfl hd fin
    · refine va_Wputf X.1.1 X.1.2.1 hown (hts _ hl) hi hst (Or.inr ⟨hcf, hname⟩) q1 (by rw [q3]; exact fun h => by cases h) (by rw [hsl]; exact k2_hasslot (q4 j hj)) h6.1 (by rw [q3, q2]; exact h6.2) rfl rfl hd ?_
      have ha := (Array.getElem?_eq_some_iff.mp q1).1
      refine fin _ ?_ ?_ ?_
      · simp [Array.getElem?_setIfInBounds, ha]
      · simp
      · intro q hq
        simp [Array.getElem?_setIfInBounds, Ne.symm hq]
end EV5
/-! ===== EV: arrays ===== -/
theorem zi_nat {i : Int} {N : Nat} (h0 : 0 ≤ i) (h1 : i < N) (hN : N ≤ 1000000) : (Int32.ofInt i).toNatClampNeg = i.toNat := by
  have h : zi i := ⟨by omega, by omega⟩
  show (Int32.ofInt i).toInt.toNat = i.toNat
  rw [zi_t h]
theorem zi_idx {i : Int} {N : Nat} (h0 : 0 ≤ i) (h1 : i < N) (hN : N ≤ 1000000) : ¬ (Int32.ofInt i < 0 ∨ N ≤ (Int32.ofInt i).toNatClampNeg) := by
  have h : zi i := ⟨by omega, by omega⟩
  rw [zi_nat h0 h1 hN]
  rintro (q | q)
  · have := (zi_lt h zi_0).mp q
    omega
  · omega
theorem zw_arr_set {E : ze_E} {n : Nat} {sh : zk_S} {d : zm_D} {H H1 : Heap} {r i x : Int} {ty : FieldType} {N : Nat} (h : zw_H E n sh d H) (hr : sh r = some (.inr (ty, N))) (h0 : 0 < r) (hi0 : 0 ≤ i) (hi1 : i < N) (hN : N ≤ 1000000) (hz : H1.size = H.size) (oq : ∀ q, q ≠ ze_o E + (r.toNat - 1) → H1[q]? = H[q]?)
    (e1 : H1[ze_o E + (r.toNat - 1)]? = some ((arrV (ze_t E ty) N (fun j => zv_fv E ty (d r j))).setSlot (Int32.ofInt i).toNatClampNeg (zv_fv E ty x))) : zw_H E n sh (zm_u d r i x) H1 := by
  refine zw_H_set h h0 hz oq (fun a k ha => zm_ur ha) ?_
  rw [hr]
  have er : ((r.toNat : Nat) : Int) = r := by omega
  refine ⟨?_, (zw_arr h hr h0).2⟩
  rw [e1, arrV_store, zi_nat hi0 hi1 hN, er]
  congr 2
  funext j
  by_cases hj : j = i.toNat
  · subst hj
    have e2 : ((i.toNat : Nat) : Int) = i := by omega
    simp [updV, e2, zm_us]
  · have e2 : zm_u d r i x r (j : Int) = d r (j : Int) := zm_uj (by omega)
    simp [updV, hj, e2]
section EV6
variable {E : ze_E} {l : Launch} {M : zm_M} {D n : Nat} {sh : zk_S} {d : zm_D} {kc ks pc : Nat} {L : zl_L} {st : List zv_V} {Q : ev_Q}
theorem ev_iald {r i : Int} {N : Nat} (hd : decode (zm_c M) pc = .ok (.iaload, 1)) (hr : sh r = some (.inr (.int, N))) (h0 : 0 < r) (hN : N ≤ 1000000) (hi0 : 0 ≤ i) (hi1 : i < N)
    (kk : ev E l M D n sh d kc ks (pc + 1) L (zv_i (d r i) :: st) Q) : ev E l M D n sh d kc ks pc L (zv_i i :: zv_a r :: st) Q := by
  intro p e R s m args below meth c H locs cells slots mc ms ls X
  obtain ⟨q1, q2⟩ := zw_arr X.2.1 hr h0
  have hA := (X.1.2.2.2.2.2.2.2.2.2.1.2.1 _ q2).1 N (fun j => zv_fv E .int (d r j))
  have k2 := kk p e R s m args below meth c H locs cells slots mc ms ls X
  simp only [List.map_cons, zv_c] at k2 ⊢
  simp only [zv_ro_pos h0]
  have e2 : ((i.toNat : Nat) : Int) = i := by omega
  exact W.iald (v := zv_fv E .int (d r i)) X.1.1 X.1.2.1 q1 hA (fun q => by cases q) (by rw [arrV_size]; exact zi_idx hi0 hi1 hN) (by rw [zi_nat hi0 hi1 hN, arrV_read _ _ (show i.toNat < N by omega)]; show some (zv_fv E .int (d r ((i.toNat : Nat) : Int))) = _; rw [e2]) rfl rfl hd k2
theorem ev_cald {r i : Int} {N : Nat} (hd : decode (zm_c M) pc = .ok (.caload, 1)) (hr : sh r = some (.inr (.char, N))) (h0 : 0 < r) (hN : N ≤ 1000000) (hi0 : 0 ≤ i) (hi1 : i < N)
    (kk : ev E l M D n sh d kc ks (pc + 1) L (zv_i (d r i) :: st) Q) : ev E l M D n sh d kc ks pc L (zv_i i :: zv_a r :: st) Q := by
  intro p e R s m args below meth c H locs cells slots mc ms ls X
  obtain ⟨q1, q2⟩ := zw_arr X.2.1 hr h0
  have hA := (X.1.2.2.2.2.2.2.2.2.2.1.2.1 _ q2).1 N (fun j => zv_fv E .char (d r j))
  have k2 := kk p e R s m args below meth c H locs cells slots mc ms ls X
  simp only [List.map_cons, zv_c] at k2 ⊢
  simp only [zv_ro_pos h0]
  have e2 : ((i.toNat : Nat) : Int) = i := by omega
  exact W.cald (v := zv_fv E .char (d r i)) X.1.1 X.1.2.1 q1 hA (fun q => by cases q) (by rw [arrV_size]; exact zi_idx hi0 hi1 hN) (by rw [zi_nat hi0 hi1 hN, arrV_read _ _ (show i.toNat < N by omega)]; show some (zv_fv E .char (d r ((i.toNat : Nat) : Int))) = _; rw [e2]) rfl rfl hd k2
theorem ev_zald {r i : Int} {N : Nat} (hd : decode (zm_c M) pc = .ok (.baload, 1)) (hr : sh r = some (.inr (.boolean, N))) (h0 : 0 < r) (hN : N ≤ 1000000) (hi0 : 0 ≤ i) (hi1 : i < N)
    (kk : ev E l M D n sh d kc ks (pc + 1) L (zv_i (d r i) :: st) Q) : ev E l M D n sh d kc ks pc L (zv_i i :: zv_a r :: st) Q := by
  intro p e R s m args below meth c H locs cells slots mc ms ls X
  obtain ⟨q1, q2⟩ := zw_arr X.2.1 hr h0
  have hA := (X.1.2.2.2.2.2.2.2.2.2.1.2.1 _ q2).1 N (fun j => zv_fv E .boolean (d r j))
  have k2 := kk p e R s m args below meth c H locs cells slots mc ms ls X
  simp only [List.map_cons, zv_c] at k2 ⊢
  simp only [zv_ro_pos h0]
  have e2 : ((i.toNat : Nat) : Int) = i := by omega
  exact W.zald (v := zv_fv E .boolean (d r i)) X.1.1 X.1.2.1 q1 hA (fun q => by cases q) (by rw [arrV_size]; exact zi_idx hi0 hi1 hN) (by rw [zi_nat hi0 hi1 hN, arrV_read _ _ (show i.toNat < N by omega)]; show some (zv_fv E .boolean (d r ((i.toNat : Nat) : Int))) = _; rw [e2]) rfl rfl hd k2
theorem ev_lald {r i : Int} {N : Nat} (hd : decode (zm_c M) pc = .ok (.laload, 1)) (hr : sh r = some (.inr (.long, N))) (h0 : 0 < r) (hN : N ≤ 1000000) (hi0 : 0 ≤ i) (hi1 : i < N)
    (kk : ev E l M D n sh d kc ks (pc + 1) L (zv_l (d r i) :: st) Q) : ev E l M D n sh d kc ks pc L (zv_i i :: zv_a r :: st) Q := by
  intro p e R s m args below meth c H locs cells slots mc ms ls X
  obtain ⟨q1, q2⟩ := zw_arr X.2.1 hr h0
  have hA := (X.1.2.2.2.2.2.2.2.2.2.1.2.1 _ q2).1 N (fun j => zv_fv E .long (d r j))
  have k2 := kk p e R s m args below meth c H locs cells slots mc ms ls X
  simp only [List.map_cons, zv_c] at k2 ⊢
  simp only [zv_ro_pos h0]
  have e2 : ((i.toNat : Nat) : Int) = i := by omega
  exact W.lald (v := zv_fv E .long (d r i)) X.1.1 X.1.2.1 q1 hA (fun q => by cases q) (by rw [arrV_size]; exact zi_idx hi0 hi1 hN) (by rw [zi_nat hi0 hi1 hN, arrV_read _ _ (show i.toNat < N by omega)]; show some (zv_fv E .long (d r ((i.toNat : Nat) : Int))) = _; rw [e2]) rfl rfl hd k2
theorem ev_dald {r i : Int} {N : Nat} (hd : decode (zm_c M) pc = .ok (.daload, 1)) (hr : sh r = some (.inr (.double, N))) (h0 : 0 < r) (hN : N ≤ 1000000) (hi0 : 0 ≤ i) (hi1 : i < N)
    (kk : ev E l M D n sh d kc ks (pc + 1) L (zv_d (UInt64.ofNat (d r i).toNat) :: st) Q) : ev E l M D n sh d kc ks pc L (zv_i i :: zv_a r :: st) Q := by
  intro p e R s m args below meth c H locs cells slots mc ms ls X
  obtain ⟨q1, q2⟩ := zw_arr X.2.1 hr h0
  have hA := (X.1.2.2.2.2.2.2.2.2.2.1.2.1 _ q2).1 N (fun j => zv_fv E .double (d r j))
  have k2 := kk p e R s m args below meth c H locs cells slots mc ms ls X
  simp only [List.map_cons, zv_c] at k2 ⊢
  simp only [zv_ro_pos h0]
  have e2 : ((i.toNat : Nat) : Int) = i := by omega
  exact W.dald (v := zv_fv E .double (d r i)) X.1.1 X.1.2.1 q1 hA (fun q => by cases q) (by rw [arrV_size]; exact zi_idx hi0 hi1 hN) (by rw [zi_nat hi0 hi1 hN, arrV_read _ _ (show i.toNat < N by omega)]; show some (zv_fv E .double (d r ((i.toNat : Nat) : Int))) = _; rw [e2]) rfl rfl hd k2
theorem ev_aald {r i : Int} {N : Nat} {ty : FieldType} (hd : decode (zm_c M) pc = .ok (.aaload, 1)) (hr : sh r = some (.inr (ty, N))) (h0 : 0 < r) (hty : ty.isReference = true) (hN : N ≤ 1000000) (hi0 : 0 ≤ i) (hi1 : i < N)
    (kk : ev E l M D n sh d kc ks (pc + 1) L (zv_a (d r i) :: st) Q) : ev E l M D n sh d kc ks pc L (zv_i i :: zv_a r :: st) Q := by
  intro p e R s m args below meth c H locs cells slots mc ms ls X
  obtain ⟨q1, q2⟩ := zw_arr X.2.1 hr h0
  have hA := (X.1.2.2.2.2.2.2.2.2.2.1.2.1 _ q2).1 N (fun j => zv_fv E ty (d r j))
  have k2 := kk p e R s m args below meth c H locs cells slots mc ms ls X
  simp only [List.map_cons, zv_c] at k2 ⊢
  simp only [zv_ro_pos h0]
  have e2 : ((i.toNat : Nat) : Int) = i := by omega
  have e3 : zv_fv E ty (d r i) = va_rf (zv_ro E (d r i)) := by cases ty <;> first | rfl | cases hty
  exact W.aald (v := va_rf (zv_ro E (d r i))) X.1.1 X.1.2.1 q1 hA hty (fun q => by cases q) (by rw [arrV_size]; exact zi_idx hi0 hi1 hN) (by rw [zi_nat hi0 hi1 hN, arrV_read _ _ (show i.toNat < N by omega)]; show some (zv_fv E ty (d r ((i.toNat : Nat) : Int))) = _; rw [e2, e3]) rfl rfl hd k2
theorem zn_z {x : Int} (h : x = 0 ∨ x = 1) : narrow .boolean (.int (Int32.ofInt x)) = .int (Int32.ofInt x) := by rcases h with rfl | rfl <;> decide +kernel
theorem zn_c {x : Int} (h : 0 ≤ x ∧ x < 65536) : narrow .char (.int (Int32.ofInt x)) = .int (Int32.ofInt x) := by
  obtain ⟨k, rfl⟩ : ∃ k : Nat, x = k := ⟨x.toNat, by omega⟩
  exact (pk_charN (q := k) (by omega)).1
theorem ev_iast {r i : Int} {x : Int} {N : Nat} (hd : decode (zm_c M) pc = .ok (.iastore, 1)) (hr : sh r = some (.inr (.int, N))) (h0 : 0 < r) (hN : N ≤ 1000000) (hi0 : 0 ≤ i) (hi1 : i < N) 
    (kk : ev E l M D n sh (zm_u d r i x) kc ks (pc + 1) L st Q) : ev E l M D n sh d kc ks pc L (zv_i x :: zv_i i :: zv_a r :: st) Q := by
  intro p e R s m args below meth c H locs cells slots mc ms ls X
  obtain ⟨q1, q2⟩ := zw_arr X.2.1 hr h0
  have hA := (X.1.2.2.2.2.2.2.2.2.2.1.2.1 _ q2).1 N (fun j => zv_fv E .int (d r j))
  simp only [List.map_cons, zv_c]
  simp only [zv_ro_pos h0]
  refine W.iast X.1.1 X.1.2.1 q1 hA (fun q => by cases q) (by rw [arrV_size]; exact zi_idx hi0 hi1 hN) rfl rfl hd fun H1 e1 z oq => ?_
  exact kk p e R s m args below meth c H1 _ cells slots mc ms ls ⟨X.1, zw_arr_set X.2.1 hr h0 hi0 hi1 hN z oq e1, X.2.2.1.put z oq (Nat.le_add_right _ _), X.2.2.2⟩
theorem ev_last {r i : Int} {x : Int} {N : Nat} (hd : decode (zm_c M) pc = .ok (.lastore, 1)) (hr : sh r = some (.inr (.long, N))) (h0 : 0 < r) (hN : N ≤ 1000000) (hi0 : 0 ≤ i) (hi1 : i < N) 
    (kk : ev E l M D n sh (zm_u d r i x) kc ks (pc + 1) L st Q) : ev E l M D n sh d kc ks pc L (zv_l x :: zv_i i :: zv_a r :: st) Q := by
  intro p e R s m args below meth c H locs cells slots mc ms ls X
  obtain ⟨q1, q2⟩ := zw_arr X.2.1 hr h0
  have hA := (X.1.2.2.2.2.2.2.2.2.2.1.2.1 _ q2).1 N (fun j => zv_fv E .long (d r j))
  simp only [List.map_cons, zv_c]
  simp only [zv_ro_pos h0]
  refine W.last X.1.1 X.1.2.1 q1 hA (fun q => by cases q) (by rw [arrV_size]; exact zi_idx hi0 hi1 hN) rfl rfl hd fun H1 e1 z oq => ?_
  exact kk p e R s m args below meth c H1 _ cells slots mc ms ls ⟨X.1, zw_arr_set X.2.1 hr h0 hi0 hi1 hN z oq e1, X.2.2.1.put z oq (Nat.le_add_right _ _), X.2.2.2⟩
theorem ev_dast {r i : Int} {x : UInt64} {N : Nat} (hd : decode (zm_c M) pc = .ok (.dastore, 1)) (hr : sh r = some (.inr (.double, N))) (h0 : 0 < r) (hN : N ≤ 1000000) (hi0 : 0 ≤ i) (hi1 : i < N) 
    (kk : ev E l M D n sh (zm_u d r i x.toNat) kc ks (pc + 1) L st Q) : ev E l M D n sh d kc ks pc L (zv_d x :: zv_i i :: zv_a r :: st) Q := by
  intro p e R s m args below meth c H locs cells slots mc ms ls X
  obtain ⟨q1, q2⟩ := zw_arr X.2.1 hr h0
  have hA := (X.1.2.2.2.2.2.2.2.2.2.1.2.1 _ q2).1 N (fun j => zv_fv E .double (d r j))
  simp only [List.map_cons, zv_c]
  simp only [zv_ro_pos h0]
  refine W.dast X.1.1 X.1.2.1 q1 hA (fun q => by cases q) (by rw [arrV_size]; exact zi_idx hi0 hi1 hN) rfl rfl hd fun H1 e1 z oq => ?_
  exact kk p e R s m args below meth c H1 _ cells slots mc ms ls ⟨X.1, zw_arr_set X.2.1 hr h0 hi0 hi1 hN z oq (by rw [e1]; show some (Cell.setSlot _ _ _) = some (Cell.setSlot _ _ (.double (UInt64.ofNat ((x.toNat : Nat) : Int).toNat))); rw [Int.toNat_natCast, UInt64.ofNat_toNat]), X.2.2.1.put z oq (Nat.le_add_right _ _), X.2.2.2⟩
theorem ev_zast {r i : Int} {x : Int} {N : Nat} (hd : decode (zm_c M) pc = .ok (.bastore, 1)) (hr : sh r = some (.inr (.boolean, N))) (h0 : 0 < r) (hN : N ≤ 1000000) (hi0 : 0 ≤ i) (hi1 : i < N) (hx : x = 0 ∨ x = 1) 
    (kk : ev E l M D n sh (zm_u d r i x) kc ks (pc + 1) L st Q) : ev E l M D n sh d kc ks pc L (zv_i x :: zv_i i :: zv_a r :: st) Q := by
  intro p e R s m args below meth c H locs cells slots mc ms ls X
  obtain ⟨q1, q2⟩ := zw_arr X.2.1 hr h0
  have hA := (X.1.2.2.2.2.2.2.2.2.2.1.2.1 _ q2).1 N (fun j => zv_fv E .boolean (d r j))
  simp only [List.map_cons, zv_c]
  simp only [zv_ro_pos h0]
  refine W.zast X.1.1 X.1.2.1 q1 hA (fun q => by cases q) (by rw [arrV_size]; exact zi_idx hi0 hi1 hN) rfl rfl hd fun H1 e1 z oq => ?_
  rw [zn_z hx] at e1
  exact kk p e R s m args below meth c H1 _ cells slots mc ms ls ⟨X.1, zw_arr_set X.2.1 hr h0 hi0 hi1 hN z oq e1, X.2.2.1.put z oq (Nat.le_add_right _ _), X.2.2.2⟩
theorem ev_cast {r i : Int} {x : Int} {N : Nat} (hd : decode (zm_c M) pc = .ok (.castore, 1)) (hr : sh r = some (.inr (.char, N))) (h0 : 0 < r) (hN : N ≤ 1000000) (hi0 : 0 ≤ i) (hi1 : i < N) (hx : 0 ≤ x ∧ x < 65536) 
    (kk : ev E l M D n sh (zm_u d r i x) kc ks (pc + 1) L st Q) : ev E l M D n sh d kc ks pc L (zv_i x :: zv_i i :: zv_a r :: st) Q := by
  intro p e R s m args below meth c H locs cells slots mc ms ls X
  obtain ⟨q1, q2⟩ := zw_arr X.2.1 hr h0
  have hA := (X.1.2.2.2.2.2.2.2.2.2.1.2.1 _ q2).1 N (fun j => zv_fv E .char (d r j))
  simp only [List.map_cons, zv_c]
  simp only [zv_ro_pos h0]
  refine W.cast X.1.1 X.1.2.1 q1 hA (fun q => by cases q) (by rw [arrV_size]; exact zi_idx hi0 hi1 hN) rfl rfl hd fun H1 e1 z oq => ?_
  rw [zn_c hx] at e1
  exact kk p e R s m args below meth c H1 _ cells slots mc ms ls ⟨X.1, zw_arr_set X.2.1 hr h0 hi0 hi1 hN z oq e1, X.2.2.1.put z oq (Nat.le_add_right _ _), X.2.2.2⟩
theorem ev_aast {r i v : Int} {N ci : Nat} {q : vw_C} (hd : decode (zm_c M) pc = .ok (.aastore, 1)) (hr : sh r = some (.inr (.object q.1, N))) (h0 : 0 < r) (hN : N ≤ 1000000) (hi0 : 0 ≤ i) (hi1 : i < N) (hv : sh v = some (.inl ci)) (hv0 : 0 < v) (hc : zk_cl[ci]? = some q)
    (kk : ev E l M D n sh (zm_u d r i v) kc ks (pc + 1) L st Q) : ev E l M D n sh d kc ks pc L (zv_a v :: zv_i i :: zv_a r :: st) Q := by
  intro p e R s m args below meth c H locs cells slots mc ms ls X
  obtain ⟨q1, q2⟩ := zw_arr X.2.1 hr h0
  obtain ⟨q', hq', cell, g1, g2, g3, -⟩ := zw_obj X.2.1 hv hv0
  cases Option.some.inj (hc.symm.trans hq')
  have hcls := (X.1.2.2.2.2.2.2.2.2.2.1.1 ci q hc).2
  obtain ⟨kA, comp, k1, k2, k3, -⟩ := (X.1.2.2.2.2.2.2.2.2.2.1.2.1 _ q2).2
  have hcomp : comp = (ze_D E).1 ci := Option.some.inj (k3.symm.trans hcls.1)
  subst hcomp
  obtain ⟨kC, hkC, -⟩ := hcls.2
  simp only [List.map_cons, zv_c]
  simp only [zv_ro_pos h0, zv_ro_pos hv0]
  refine W.aast X.1.1 X.1.2.1 q1 (fun q h => by cases h) (fun h => by cases h) k1 k2 rfl hkC ⟨fun q9 => zi_idx hi0 hi1 hN (Or.inl q9), by rw [arrV_size]; exact Nat.not_le.mp fun q9 => zi_idx hi0 hi1 hN (Or.inr q9)⟩ g1 (fun q h => by rw [g3] at h; cases h) (by rw [g2]; exact hkC) (by rw [g2]; exact va_assign hcls) rfl rfl hd fun H1 e1 z oq => ?_
  refine kk p e R s m args below meth c H1 _ cells slots mc ms ls ⟨X.1, zw_arr_set X.2.1 hr h0 hi0 hi1 hN z oq ?_, X.2.2.1.put z oq (Nat.le_add_right _ _), X.2.2.2⟩
  rw [e1]
  show _ = some (Cell.setSlot _ _ (va_rf (zv_ro E v)))
  rw [zv_ro_pos hv0]
  rfl
theorem ev_aastN {r i : Int} {N : Nat} {C : String} (hd : decode (zm_c M) pc = .ok (.aastore, 1)) (hr : sh r = some (.inr (.object C, N))) (h0 : 0 < r) (hN : N ≤ 1000000) (hi0 : 0 ≤ i) (hi1 : i < N)
    (kk : ev E l M D n sh (zm_u d r i 0) kc ks (pc + 1) L st Q) : ev E l M D n sh d kc ks pc L (zv_a 0 :: zv_i i :: zv_a r :: st) Q := by
  intro p e R s m args below meth c H locs cells slots mc ms ls X
  obtain ⟨q1, q2⟩ := zw_arr X.2.1 hr h0
  have hA := (X.1.2.2.2.2.2.2.2.2.2.1.2.1 _ q2).1 N (fun j => zv_fv E (.object C) (d r j))
  simp only [List.map_cons, zv_c]
  simp only [zv_ro_pos h0, zv_ro_0]
  refine va_WaastN X.1.1 X.1.2.1 q1 hA (fun q => by cases q) (by rw [arrV_size]; exact zi_idx hi0 hi1 hN) rfl rfl hd fun H1 e1 z oq => ?_
  refine kk p e R s m args below meth c H1 _ cells slots mc ms ls ⟨X.1, zw_arr_set X.2.1 hr h0 hi0 hi1 hN z oq ?_, X.2.2.1.put z oq (Nat.le_add_right _ _), X.2.2.2⟩
  rw [e1]
  show _ = some (Cell.setSlot _ _ (va_rf (zv_ro E 0)))
  rw [zv_ro_0]
  rfl
theorem ev_alen {r : Int} {N : Nat} {ty : FieldType} (hd : decode (zm_c M) pc = .ok (.arraylength, 1)) (hr : sh r = some (.inr (ty, N))) (h0 : 0 < r)
    (kk : ev E l M D n sh d kc ks (pc + 1) L (zv_i (N : Int) :: st) Q) : ev E l M D n sh d kc ks pc L (zv_a r :: st) Q := by
  intro p e R s m args below meth c H locs cells slots mc ms ls X
  obtain ⟨q1, q2⟩ := zw_arr X.2.1 hr h0
  have hA := (X.1.2.2.2.2.2.2.2.2.2.1.2.1 _ q2).1 N (fun j => zv_fv E ty (d r j))
  have k2 := kk p e R s m args below meth c H locs cells slots mc ms ls X
  simp only [List.map_cons, zv_c] at k2 ⊢
  simp only [zv_ro_pos h0]
  exact W.alen (n := Int32.ofInt (N : Int)) X.1.1 X.1.2.1 q1 hA (by rw [arrV_size] <;> rfl) rfl rfl hd k2
/-- the script itself, as the object -1 -/
theorem zv_ro_m : zv_ro E (-1) = some (ze_b E) := by unfold zv_ro; rw [if_neg (by omega), if_pos (by omega), if_pos rfl]
theorem ev_slen (hd : decode (zm_c M) pc = .ok (.arraylength, 1)) (kk : ev E l M D n sh d kc ks (pc + 1) L (zv_i (ze_L E : Int) :: st) Q) : ev E l M D n sh d kc ks pc L (zv_a (-1) :: st) Q := by
  intro p e R s m args below meth c H locs cells slots mc ms ls X
  have k2 := kk p e R s m args below meth c H locs cells slots mc ms ls X
  simp only [List.map_cons, zv_c] at k2 ⊢
  simp only [zv_ro_m]
  obtain ⟨hX, hb1, hb2, -⟩ := X.1.2.2.2.2.2.2.2.2.2.2
  exact va_slen X.1.1 X.1.2.1 hX (Nat.lt_of_lt_of_le hb1 hb2) (Nat.not_le.mpr hb1) X.2.2.1 hd k2
theorem ev_sald {i : Int} (hd : decode (zm_c M) pc = .ok (.iaload, 1)) (hN : ze_L E ≤ 1000000) (hi0 : 0 ≤ i) (hi1 : i < ze_L E) (kk : ev E l M D n sh d kc ks (pc + 1) L (zv_i (ze_x E i.toNat).toInt :: st) Q) : ev E l M D n sh d kc ks pc L (zv_i i :: zv_a (-1) :: st) Q := by
  intro p e R s m args below meth c H locs cells slots mc ms ls X
  have k2 := kk p e R s m args below meth c H locs cells slots mc ms ls X
  simp only [List.map_cons, zv_c, zi_ofInt] at k2 ⊢
  simp only [zv_ro_m]
  obtain ⟨hX, hb1, hb2, -⟩ := X.1.2.2.2.2.2.2.2.2.2.2
  refine va_sld X.1.1 X.1.2.1 hX (Nat.lt_of_lt_of_le hb1 hb2) (Nat.not_le.mpr hb1) X.2.2.1 (zi_idx hi0 hi1 hN) hd ?_
  rw [zi_nat hi0 hi1 hN]
  exact k2
end EV6
/-! ===== EV: ends, throws, new things. vx_throwS9 and vx_throwSW9 are vx_throwS and vx_throwSW of kit/laws/EXCEPTIONS with the size of the heap told exactly ===== -/
section VX9
variable {p : Program} {l : Launch} {e : Env} {R : Room} {s : State} {m : MethodId} {args : Array Value} {below : List Frame} {meth : Method} {c : Code} {H : Heap} {locs : List Loc} {cells slots : Nat} {Q : State → Prop}
variable {mc ms : Nat} {free : Addr → Prop} {A0 A1 : Nat → Prop} {H0 : Heap} {a : Array Value} {ls : Array Slot} {st0 rest : List Value}
variable {Qc : Array Value → State → Outcome → State → Prop} {XC : String → State → State → Prop}
theorem vx_throwS9 {cc : ByteArray} {pc : Nat} (hexec : p.tables.exec = Jvm.exec) (hb : c.code = cc) (hl : l.stackTraces = false) {own cls text : String} {names : List String} {ik is ic mc ms sa : Nat} {A : Nat → Prop}
    (hown : s.vm.findClass own = some m.cls) (hcls : Bundle.fit cls = true) (hnames : ∀ n ∈ names, Bundle.fit n = true)
    (hk : (Cond.classLink own ik cls).before args s = true) (hini : (Cond.initialized cls).before args s = true) (hstr : vk_R own is text sa s) (hat : ∀ w ∈ vx_atS own ic cls names, w.before args s = true)
    (hgood : ∀ w ∈ Cond.classLink own ik cls :: Cond.initialized cls :: vx_atS own ic cls names, vx_ot w = true)
    (hU : vx_Zq Bundle.tN "UNASSIGNED_STACK" Bundle.steD A s s.heap) (hN : vx_Zq Bundle.tN "SUPPRESSED_SENTINEL" Bundle.listD A s s.heap) (hS : va_S A s.heap H locs) (hsize : ls.size = c.maxLocals)
    (d0 : decode cc pc = .ok (.new ik, 3)) (d3 : decode cc (pc + 3) = .ok (.dup, 1)) (d4 : decode cc (pc + 4) = .ok (.ldc is, 2)) (d6 : decode cc (pc + 6) = .ok (.invokespecial ic, 3)) (d9 : decode cc (pc + 9) = .ok (.athrow, 1))
    (hout : ∀ x ∈ c.exceptionTable.toList, covers x (pc + 9) = false)
    (hRframes : names.length + 3 < R.frames) (hRlocals : (rest.map fun v => v.category).sum + (13 * (names.length + 1) + 43) ≤ R.locals) (hRcells : cells + 1 ≤ R.cells) (hRslots : slots + 6 ≤ R.slots) (hlocks : meth.locks = false)
    (hx : ∀ t : State, s.vm.Alike t.vm → t.heap.size = H.size + 1 → (∀ q : Nat, q < H.size → t.heap[q]? = H[q]?) → XC cls s t)
    (hf : ∀ z ∈ locs, free z.base) (hc : cells + 1 ≤ mc) (hs : slots + 6 ≤ ms) :
    W p l e R s m args below meth c H locs cells slots (vx_MQ below Qc XC args s mc ms free) (F0 m pc ls rest) := by
  intro T hT X
  have htr : e.platform.stackTraces = false := (show e.platform.stackTraces = l.stackTraces by rw [X.admits.platform]).trans hl
  have Y := vx_rebase X (R' := { frames := R.frames, locals := R.locals, cells := 1, slots := 6 }) (Nat.le_refl _) (Nat.le_refl _) hRcells hRslots
  obtain ⟨s', hA⟩ : ∃ z, z = (T.setVm s.vm).setFrames (.invoking m args :: below) := ⟨_, rfl⟩
  rw [← hA] at Y
  have hvm : s'.vm = s.vm := by rw [hA]; rfl
  have hhp : s'.heap = H := by rw [hA]; exact hT
  have hW0 : s.WarmedH s'.vm := by rw [hvm]; exact State.WarmedH.refl s
  have hat' : ∀ w ∈ vx_atS own ic cls names, w.before args s' = true := fun w hw => vx_ot_at hW0 hvm.symm (hgood w (List.mem_cons_of_mem _ (List.mem_cons_of_mem _ hw))) (hat w hw)
  have hk' : (Cond.classLink own ik cls).before args s' = true := vx_ot_at hW0 hvm.symm (hgood _ List.mem_cons_self) hk
  have hini' : (Cond.initialized cls).before args s' = true := vx_ot_at hW0 hvm.symm (hgood _ (List.mem_cons_of_mem _ List.mem_cons_self)) hini
  have hU' : vx_Zq Bundle.tN "UNASSIGNED_STACK" Bundle.steD A s' s'.heap := by rw [hhp]; exact vx_Zq.moved hW0.alike (hU.kept hS.2.1)
  have hN' : vx_Zq Bundle.tN "SUPPRESSED_SENTINEL" Bundle.listD A s' s'.heap := by rw [hhp]; exact vx_Zq.moved hW0.alike (hN.kept hS.2.1)
  have h : ∀ w ∈ Bundle.ownAtoms own ic cls names, w.before args s' = true := vx_own hat' (vx_isRefq hU'.1) (vx_isRefq hN'.1) hU'.2.word hN'.2.word
  have hown' : s'.vm.findClass own = some m.cls := by rw [hvm]; exact hown
  have hins : (Cond.instantiable cls 6).before args s' = true := h _ (by simp [Bundle.ownAtoms])
  obtain ⟨vm₁, cX, kX, hfX, hkX, -, -, X₁, st1⟩ := Y.newCold hexec (own := own) (C := cls) (index := ik) (n := 6) hown' hk' hins hini'
    (g := F0 m pc ls rest) rfl (by rw [hb]; exact d0) (Nat.le_refl _) (Nat.le_refl _)
  generalize hT1 : (T.setVm vm₁).pushCell { cls := cX, slots := kX.instanceTypes.map defaultValue, vm := .none } = T1 at X₁ st1
  have hcat : (Value.ref T.heap.size).category = 1 := rfl
  have hcellA : T1.heap[T.heap.size]? = some (freshCell cX kX) := by rw [← hT1]; exact State.heap_pushCell_size _ _
  have d3' : decode c.code (pc + 3) = .ok (.dup, 1) := by rw [hb]; exact d3
  have d4' : decode c.code (pc + 4) = .ok (.ldc is, 2) := by rw [hb]; exact d4
  have hstr' : vk_R own is text sa s' := vk_R.warm hW0 hstr
  obtain ⟨U, hsteps, hrun, hend, hW, hsame, ce, hce, hO⟩ := X₁.ctorThrowS hexec htr (own := own) (cls := cls) (names := names) (ic := ic) hown' hcls hnames h (fun x hx => nomatch hx) hfX hkX hcellA (by rw [hhp, hT]; exact Nat.le_refl _) (msg := .ref sa) rfl
    (g := { method := m, pc := pc + 6, locals := ls, stack := .ref sa :: .ref T.heap.size :: .ref T.heap.size :: rest, locked := none }) rfl hsize rfl rfl (rest := rest) rfl
    (by rw [hb]; exact d6) (by rw [hb]; exact d9) hout hRframes (by simp only [List.map_cons, List.sum_cons, hcat]; omega) hlocks
  obtain ⟨f1, f2⟩ := vx_frame hsame
  rw [hhp] at f1 f2
  have f9 : U.heap.size = H.size + 1 := by
    have g1 : U.heap.size ≤ s'.heap.size + 1 := hsame.2.2.1
    have g2 := (Array.getElem?_eq_some_iff.mp hce).1
    rw [hhp] at g1
    rw [hT] at g2
    omega
  have hWs : s.WarmedH U.vm := State.WarmedH.trans hW0 hW
  have hcl : s.vm.findClass cls = some ce.cls := by
    have h9 := hO.cls
    rw [hvm] at h9
    exact h9
  have hall : s.sameButNew ({ U with vm := s.vm } : State) locs mc ms := by
    subst hA
    obtain ⟨e1, e2⟩ := hsame
    rw [State.setFrames_setFrames] at e1
    have h2 : (T.setVm s.vm).sameButNew ({ U with vm := s.vm } : State) [] (0 + 1) (0 + 6) := ⟨e1, e2⟩
    have h3 := X.same.trans h2
    rw [List.append_nil] at h3
    exact h3.mono hc hs
  refine ⟨U, ?_, .threw T.heap.size, hrun, hend, Or.inr ⟨T.heap.size, rfl, cls, ce, locs, hx U hWs.alike f9 (fun q hq => f2 q hq (fun z hz => nomatch hz)), hce, hO.vm, hcl, hWs, hall, hf⟩⟩
  refine st1 _ ?_
  show Steps p.tables e below (T1.setTop { method := m, pc := pc + 3, locals := ls, stack := .ref T.heap.size :: rest, locked := none }) _
  jvm_step X₁.here [X₁.here.top, hexec, d3', Value.category]
  exact X₁.ldcString hexec (own := own) (text := text) (index := is) (a := sa) hown' hstr'.1 hstr'.2
    (g := { method := m, pc := pc + 4, locals := ls, stack := .ref T.heap.size :: .ref T.heap.size :: rest, locked := none }) rfl d4' _ hsteps
theorem vx_throwSW9 {cc : ByteArray} {pc : Nat} (hexec : p.tables.exec = Jvm.exec) (hb : c.code = cc) (hl : l.stackTraces = false) {own cls text : String} {names : List String} {ik is ic mc ms sa : Nat} {A : Nat → Prop}
    (hown : s.vm.findClass own = some m.cls) (hcls : Bundle.fit cls = true) (hnames : ∀ n ∈ names, Bundle.fit n = true)
    (hk : (Cond.classLink own ik cls).before args s = true) (hini : (Cond.initialized cls).before args s = true) (hstr : vk_R own is text sa s) (hat : ∀ w ∈ vx_atS own ic cls names, w.before args s = true)
    (hgood : ∀ w ∈ Cond.classLink own ik cls :: Cond.initialized cls :: vx_atS own ic cls names, vx_ot w = true)
    (hU : vx_Zq Bundle.tN "UNASSIGNED_STACK" Bundle.steD A s s.heap) (hN : vx_Zq Bundle.tN "SUPPRESSED_SENTINEL" Bundle.listD A s s.heap) (hS : va_S A s.heap H locs) (hsize : ls.size = c.maxLocals)
    (d0 : decode cc pc = .ok (.new ik, 3)) (d3 : decode cc (pc + 3) = .ok (.dup, 1)) (d4 : decode cc (pc + 4) = .ok (.ldc_w is, 3)) (d7 : decode cc (pc + 7) = .ok (.invokespecial ic, 3)) (d10 : decode cc (pc + 10) = .ok (.athrow, 1))
    (hout : ∀ x ∈ c.exceptionTable.toList, covers x (pc + 10) = false)
    (hRframes : names.length + 3 < R.frames) (hRlocals : (rest.map fun v => v.category).sum + (13 * (names.length + 1) + 43) ≤ R.locals) (hRcells : cells + 1 ≤ R.cells) (hRslots : slots + 6 ≤ R.slots) (hlocks : meth.locks = false)
    (hx : ∀ t : State, s.vm.Alike t.vm → t.heap.size = H.size + 1 → (∀ q : Nat, q < H.size → t.heap[q]? = H[q]?) → XC cls s t)
    (hf : ∀ z ∈ locs, free z.base) (hc : cells + 1 ≤ mc) (hs : slots + 6 ≤ ms) :
    W p l e R s m args below meth c H locs cells slots (vx_MQ below Qc XC args s mc ms free) (F0 m pc ls rest) := by
  intro T hT X
  have htr : e.platform.stackTraces = false := (show e.platform.stackTraces = l.stackTraces by rw [X.admits.platform]).trans hl
  have Y := vx_rebase X (R' := { frames := R.frames, locals := R.locals, cells := 1, slots := 6 }) (Nat.le_refl _) (Nat.le_refl _) hRcells hRslots
  obtain ⟨s', hA⟩ : ∃ z, z = (T.setVm s.vm).setFrames (.invoking m args :: below) := ⟨_, rfl⟩
  rw [← hA] at Y
  have hvm : s'.vm = s.vm := by rw [hA]; rfl
  have hhp : s'.heap = H := by rw [hA]; exact hT
  have hW0 : s.WarmedH s'.vm := by rw [hvm]; exact State.WarmedH.refl s
  have hat' : ∀ w ∈ vx_atS own ic cls names, w.before args s' = true := fun w hw => vx_ot_at hW0 hvm.symm (hgood w (List.mem_cons_of_mem _ (List.mem_cons_of_mem _ hw))) (hat w hw)
  have hk' : (Cond.classLink own ik cls).before args s' = true := vx_ot_at hW0 hvm.symm (hgood _ List.mem_cons_self) hk
  have hini' : (Cond.initialized cls).before args s' = true := vx_ot_at hW0 hvm.symm (hgood _ (List.mem_cons_of_mem _ List.mem_cons_self)) hini
  have hU' : vx_Zq Bundle.tN "UNASSIGNED_STACK" Bundle.steD A s' s'.heap := by rw [hhp]; exact vx_Zq.moved hW0.alike (hU.kept hS.2.1)
  have hN' : vx_Zq Bundle.tN "SUPPRESSED_SENTINEL" Bundle.listD A s' s'.heap := by rw [hhp]; exact vx_Zq.moved hW0.alike (hN.kept hS.2.1)
  have h : ∀ w ∈ Bundle.ownAtoms own ic cls names, w.before args s' = true := vx_own hat' (vx_isRefq hU'.1) (vx_isRefq hN'.1) hU'.2.word hN'.2.word
  have hown' : s'.vm.findClass own = some m.cls := by rw [hvm]; exact hown
  have hins : (Cond.instantiable cls 6).before args s' = true := h _ (by simp [Bundle.ownAtoms])
  obtain ⟨vm₁, cX, kX, hfX, hkX, -, -, X₁, st1⟩ := Y.newCold hexec (own := own) (C := cls) (index := ik) (n := 6) hown' hk' hins hini'
    (g := F0 m pc ls rest) rfl (by rw [hb]; exact d0) (Nat.le_refl _) (Nat.le_refl _)
  generalize hT1 : (T.setVm vm₁).pushCell { cls := cX, slots := kX.instanceTypes.map defaultValue, vm := .none } = T1 at X₁ st1
  have hcat : (Value.ref T.heap.size).category = 1 := rfl
  have hcellA : T1.heap[T.heap.size]? = some (freshCell cX kX) := by rw [← hT1]; exact State.heap_pushCell_size _ _
  have d3' : decode c.code (pc + 3) = .ok (.dup, 1) := by rw [hb]; exact d3
  have d4' : decode c.code (pc + 4) = .ok (.ldc_w is, 3) := by rw [hb]; exact d4
  have hstr' : vk_R own is text sa s' := vk_R.warm hW0 hstr
  obtain ⟨U, hsteps, hrun, hend, hW, hsame, ce, hce, hO⟩ := X₁.ctorThrowS hexec htr (own := own) (cls := cls) (names := names) (ic := ic) hown' hcls hnames h (fun x hx => nomatch hx) hfX hkX hcellA (by rw [hhp, hT]; exact Nat.le_refl _) (msg := .ref sa) rfl
    (g := { method := m, pc := pc + 7, locals := ls, stack := .ref sa :: .ref T.heap.size :: .ref T.heap.size :: rest, locked := none }) rfl hsize rfl rfl (rest := rest) rfl
    (by rw [hb]; exact d7) (by rw [hb]; exact d10) hout hRframes (by simp only [List.map_cons, List.sum_cons, hcat]; omega) hlocks
  obtain ⟨f1, f2⟩ := vx_frame hsame
  rw [hhp] at f1 f2
  have f9 : U.heap.size = H.size + 1 := by
    have g1 : U.heap.size ≤ s'.heap.size + 1 := hsame.2.2.1
    have g2 := (Array.getElem?_eq_some_iff.mp hce).1
    rw [hhp] at g1
    rw [hT] at g2
    omega
  have hWs : s.WarmedH U.vm := State.WarmedH.trans hW0 hW
  have hcl : s.vm.findClass cls = some ce.cls := by
    have h9 := hO.cls
    rw [hvm] at h9
    exact h9
  have hall : s.sameButNew ({ U with vm := s.vm } : State) locs mc ms := by
    subst hA
    obtain ⟨e1, e2⟩ := hsame
    rw [State.setFrames_setFrames] at e1
    have h2 : (T.setVm s.vm).sameButNew ({ U with vm := s.vm } : State) [] (0 + 1) (0 + 6) := ⟨e1, e2⟩
    have h3 := X.same.trans h2
    rw [List.append_nil] at h3
    exact h3.mono hc hs
  refine ⟨U, ?_, .threw T.heap.size, hrun, hend, Or.inr ⟨T.heap.size, rfl, cls, ce, locs, hx U hWs.alike f9 (fun q hq => f2 q hq (fun z hz => nomatch hz)), hce, hO.vm, hcl, hWs, hall, hf⟩⟩
  refine st1 _ ?_
  show Steps p.tables e below (T1.setTop { method := m, pc := pc + 3, locals := ls, stack := .ref T.heap.size :: rest, locked := none }) _
  jvm_step X₁.here [X₁.here.top, hexec, d3', Value.category]
  exact X₁.ldcStringW hexec (own := own) (text := text) (index := is) (a := sa) hown' hstr'.1 hstr'.2
    (g := { method := m, pc := pc + 4, locals := ls, stack := .ref T.heap.size :: .ref T.heap.size :: rest, locked := none }) rfl d4' _ hsteps
end VX9
theorem zg_ot {w : Cond} (h : zg_good w = true) (h2 : zg_arr w = false) : vx_ot w = true := by
  simp only [zg_good, Bool.or_eq_true, Bool.and_eq_true, h2] at h
  simp only [vx_ot, Bool.or_eq_true]
  rcases h with h | h | h
  · exact Or.inr h
  · exact Or.inl h.1
  · cases h
theorem va_rf_or9 (r : Option Nat) : va_rf r = .null ∨ ∃ a, va_rf r = .ref a := by cases r with
  | none => exact Or.inl rfl
  | some a => exact Or.inr ⟨a, rfl⟩
def zk_u (sh : zk_S) (r : Int) (k : zk_K) : zk_S := fun a => if a = r then k else sh a
theorem zw_H_old {E : ze_E} {n : Nat} {sh : zk_S} {d : zm_D} {H H1 : Heap} (h : zw_H E n sh d H) (hk : ∀ q, q < H.size → H1[q]? = H[q]?) (r : Nat) (hr : 1 ≤ r) : zw_at E d H1 r (sh r) := by
  have h1 := h.2 r hr
  rcases hs : sh r with _ | ci | ⟨ty, N⟩
  · trivial
  · rw [hs] at h1
    obtain ⟨q, g1, g2⟩ := h1
    obtain ⟨cell, g3, -⟩ := id g2
    exact ⟨q, g1, g2.kept (hk _ (Array.getElem?_eq_some_iff.mp g3).1)⟩
  · rw [hs] at h1
    exact ⟨(hk _ (Array.getElem?_eq_some_iff.mp h1.1).1).trans h1.1, h1.2⟩
theorem zw_H_grow {E : ze_E} {n : Nat} {sh : zk_S} {d : zm_D} {H H1 : Heap} (h : zw_H E n sh d H) (hz : H1.size = H.size + 1) (hk : ∀ q, q < H.size → H1[q]? = H[q]?) : zw_H E (n + 1) sh d H1 :=
  ⟨by rw [hz, h.1]; omega, fun r hr => zw_H_old h hk r hr⟩
theorem zw_H_new {E : ze_E} {n : Nat} {sh : zk_S} {d : zm_D} {H H1 : Heap} {k : zk_K} (h : zw_H E n sh d H) (hz : H1.size = H.size + 1) (hk : ∀ q, q < H.size → H1[q]? = H[q]?) (hn : zw_at E d H1 (n + 1) k) : zw_H E (n + 1) (zk_u sh ((n : Int) + 1) k) d H1 := by
  refine ⟨by rw [hz, h.1]; omega, fun r hr => ?_⟩
  unfold zk_u
  by_cases e : (r : Int) = (n : Int) + 1
  · rw [if_pos e]
    have e2 : r = n + 1 := by omega
    subst e2
    exact hn
  · rw [if_neg e]
    exact zw_H_old h hk r hr
theorem zv_def (E : ze_E) (ty : FieldType) : defaultValue ty = zv_fv E ty 0 := by
  have h0 : zv_ro E 0 = none := zv_ro_0
  cases ty <;> first | rfl | (simp only [zv_fv, h0]; rfl)
section EV7
variable {E : ze_E} {l : Launch} {M : zm_M} {D n : Nat} {sh : zk_S} {d : zm_D} {kc ks pc : Nat} {L : zl_L} {st : List zv_V} {Q : ev_Q}
theorem ev_iret {x : Int} {ty : FieldType} (hd : decode (zm_c M) pc = .ok (.ireturn, 1)) (hr : zm_r M = some ty) (hn : narrow ty (.int (Int32.ofInt x)) = .int (Int32.ofInt x)) (hq : Q (.inl (some (zv_i x))) n sh d) : ev E l M D n sh d kc ks pc L ([(zv_i x)]) Q := by
  intro p e R s m args below meth c H locs cells slots mc ms ls X
  obtain ⟨-, -, h1, h2, -, -⟩ := X.2.2.2.2
  refine W.widen (k := mc) (n := ms) (by omega) (by omega) (vx_ret ?_)
  exact W.zret X.1.1 X.1.2.1 (X.1.2.2.1.trans hr) hn (fun t ht hW => ⟨⟨(some (zv_i x)), n, sh, d, rfl, hq, by rw [ht]; exact X.2.1⟩, X.2.2.1.F ht⟩) X.2.2.1.2.2 hd X.1.2.2.2.2.2.2.1
theorem ev_lret {x : Int} (hd : decode (zm_c M) pc = .ok (.lreturn, 1)) (hr : zm_r M = some .long) (hq : Q (.inl (some (zv_l x))) n sh d) : ev E l M D n sh d kc ks pc L ([(zv_l x)]) Q := by
  intro p e R s m args below meth c H locs cells slots mc ms ls X
  obtain ⟨-, -, h1, h2, -, -⟩ := X.2.2.2.2
  refine W.widen (k := mc) (n := ms) (by omega) (by omega) (vx_ret ?_)
  exact W.lret X.1.1 X.1.2.1 (X.1.2.2.1.trans hr) (fun t ht hW => ⟨⟨(some (zv_l x)), n, sh, d, rfl, hq, by rw [ht]; exact X.2.1⟩, X.2.2.1.F ht⟩) X.2.2.1.2.2 hd X.1.2.2.2.2.2.2.1
theorem ev_dret {x : UInt64} (hd : decode (zm_c M) pc = .ok (.dreturn, 1)) (hr : zm_r M = some .double) (hq : Q (.inl (some (zv_d x))) n sh d) : ev E l M D n sh d kc ks pc L ([(zv_d x)]) Q := by
  intro p e R s m args below meth c H locs cells slots mc ms ls X
  obtain ⟨-, -, h1, h2, -, -⟩ := X.2.2.2.2
  refine W.widen (k := mc) (n := ms) (by omega) (by omega) (vx_ret ?_)
  exact W.dret X.1.1 X.1.2.1 (X.1.2.2.1.trans hr) (fun t ht hW => ⟨⟨(some (zv_d x)), n, sh, d, rfl, hq, by rw [ht]; exact X.2.1⟩, X.2.2.1.F ht⟩) X.2.2.1.2.2 hd X.1.2.2.2.2.2.2.1
theorem ev_fret {x : UInt32} (hd : decode (zm_c M) pc = .ok (.freturn, 1)) (hr : zm_r M = some .float) (hq : Q (.inl (some (zv_f x))) n sh d) : ev E l M D n sh d kc ks pc L ([(zv_f x)]) Q := by
  intro p e R s m args below meth c H locs cells slots mc ms ls X
  obtain ⟨-, -, h1, h2, -, -⟩ := X.2.2.2.2
  refine W.widen (k := mc) (n := ms) (by omega) (by omega) (vx_ret ?_)
  exact W.fret X.1.1 X.1.2.1 (X.1.2.2.1.trans hr) (fun t ht hW => ⟨⟨(some (zv_f x)), n, sh, d, rfl, hq, by rw [ht]; exact X.2.1⟩, X.2.2.1.F ht⟩) X.2.2.1.2.2 hd X.1.2.2.2.2.2.2.1
theorem ev_vret (hd : decode (zm_c M) pc = .ok (.return_, 1)) (hr : zm_r M = none) (hq : Q (.inl none) n sh d) : ev E l M D n sh d kc ks pc L ([]) Q := by
  intro p e R s m args below meth c H locs cells slots mc ms ls X
  obtain ⟨-, -, h1, h2, -, -⟩ := X.2.2.2.2
  refine W.widen (k := mc) (n := ms) (by omega) (by omega) (vx_ret ?_)
  exact W.vret X.1.1 X.1.2.1 (X.1.2.2.1.trans hr) (fun t ht hW => ⟨⟨none, n, sh, d, rfl, hq, by rw [ht]; exact X.2.1⟩, X.2.2.1.F ht⟩) X.2.2.1.2.2 hd X.1.2.2.2.2.2.2.1
theorem ev_aret {x : Int} {rt : FieldType} (hd : decode (zm_c M) pc = .ok (.areturn, 1)) (hr : zm_r M = some rt) (hrt : (∃ n, rt = .object n) ∨ ∃ t, rt = .array t) (hq : Q (.inl (some (zv_a x))) n sh d) : ev E l M D n sh d kc ks pc L [zv_a x] Q := by
  intro p e R s m args below meth c H locs cells slots mc ms ls X
  obtain ⟨-, -, h1, h2, -, -⟩ := X.2.2.2.2
  refine W.widen (k := mc) (n := ms) (by omega) (by omega) (vx_ret ?_)
  exact W.aret X.1.1 X.1.2.1 (X.1.2.2.1.trans hr) hrt (va_rf_or9 (zv_ro E x)) (fun t ht hW => ⟨⟨some (zv_a x), n, sh, d, rfl, hq, by rw [ht]; exact X.2.1⟩, X.2.2.1.F ht⟩) X.2.2.1.2.2 hd X.1.2.2.2.2.2.2.1
/-- what 'throw new X("text")' rests on -/
def zt_ok (M : zm_M) (ik is ic : Nat) (text cls : String) (names : List String) : Prop :=
  Bundle.fit cls = true ∧ (∀ n ∈ names, Bundle.fit n = true) ∧ Cond.classLink (zm_o M) ik cls ∈ lw_g ∧ Cond.initialized cls ∈ lw_g ∧ (zm_o M, is, text) ∈ zk_str ∧ ∀ w ∈ vx_atS (zm_o M) ic cls names, w ∈ lw_g ∧ zg_arr w = false
theorem ev_throwS {ik is ic : Nat} {text cls : String} {names : List String} (d0 : decode (zm_c M) pc = .ok (.new ik, 3)) (d3 : decode (zm_c M) (pc + 3) = .ok (.dup, 1)) (d4 : decode (zm_c M) (pc + 4) = .ok (.ldc is, 2)) (d6 : decode (zm_c M) (pc + 6) = .ok (.invokespecial ic, 3)) (d9 : decode (zm_c M) (pc + 9) = .ok (.athrow, 1))
    (hz : zt_ok M ik is ic text cls names) (hl : l.stackTraces = false) (hh : zm_h M = []) (hD : names.length + 6 ≤ D) (hst : st.length ≤ 8) (hkc : 1 ≤ kc) (hks : 6 ≤ ks) (hq : Q (.inr cls) (n + 1) sh d) : ev E l M D n sh d kc ks pc L st Q := by
  intro p e R s m args below meth c H locs cells slots mc ms ls X
  obtain ⟨z1, z2, z3, z4, z5, z6⟩ := hz
  obtain ⟨r1, r2, h1, h2, r3, r4⟩ := X.2.2.2.2
  have hts := X.1.2.2.2.2.2.1
  obtain ⟨sa, hstr⟩ := X.1.2.2.2.2.2.2.2.2.2.1.2.2.1 _ z5
  obtain ⟨-, -, -, hU, hN⟩ := X.1.2.2.2.2.2.2.2.2.2.2
  have hsum : ∀ l9 : List zv_V, ((l9.map (zv_c E)).map fun v => v.category).sum ≤ 2 * l9.length := by
    intro l9
    induction l9 with
    | nil => simp
    | cons a t ih =>
      have h9 := zv_cat E a
      have h8 : zv_k a ≤ 2 := by rcases a with (x | r) | (x | (x | x)) <;> simp [zv_k]
      simp only [List.map_cons, List.sum_cons, List.length_cons]
      omega
  have hs9 := hsum st
  refine vx_throwS9 X.1.1 X.1.2.1 hl X.1.2.2.2.2.1 z1 z2 (hts _ z3) (hts _ z4) hstr (fun w hw => hts w (z6 w hw).1) ?_ hU hN X.2.2.1 (X.2.2.2.1.1.trans X.1.2.2.2.1.symm) d0 d3 d4 d6 d9 ?_ (by omega) (by omega) (by omega) (by omega) X.1.2.2.2.2.2.2.1 ?_ X.2.2.1.2.2 (by omega) (by omega)
  · intro w hw
    rcases List.mem_cons.mp hw with rfl | hw
    · exact zg_ot (lw_g_ok z3) rfl
    · rcases List.mem_cons.mp hw with rfl | hw
      · exact zg_ot (lw_g_ok z4) rfl
      · exact zg_ot (lw_g_ok (z6 w hw).1) (z6 w hw).2
  · intro x hx
    rw [X.1.2.2.2.2.2.2.2.1, hh] at hx
    cases hx
  · intro t hA hz hk
    refine ⟨n + 1, sh, d, hq, zw_H_grow X.2.1 hz hk, ?_⟩
    refine ⟨by rw [hz]; exact Nat.le_trans X.2.2.1.1 (Nat.le_succ _), fun q g1 g2 => ?_⟩
    rw [hk q (Nat.lt_of_lt_of_le g1 X.2.2.1.1)]
    exact X.2.2.1.2.1 q g1 g2
theorem ev_throwSW {ik is ic : Nat} {text cls : String} {names : List String} (d0 : decode (zm_c M) pc = .ok (.new ik, 3)) (d3 : decode (zm_c M) (pc + 3) = .ok (.dup, 1)) (d4 : decode (zm_c M) (pc + 4) = .ok (.ldc_w is, 3)) (d6 : decode (zm_c M) (pc + 7) = .ok (.invokespecial ic, 3)) (d9 : decode (zm_c M) (pc + 10) = .ok (.athrow, 1))
    (hz : zt_ok M ik is ic text cls names) (hl : l.stackTraces = false) (hh : zm_h M = []) (hD : names.length + 6 ≤ D) (hst : st.length ≤ 8) (hkc : 1 ≤ kc) (hks : 6 ≤ ks) (hq : Q (.inr cls) (n + 1) sh d) : ev E l M D n sh d kc ks pc L st Q := by
  intro p e R s m args below meth c H locs cells slots mc ms ls X
  obtain ⟨z1, z2, z3, z4, z5, z6⟩ := hz
  obtain ⟨r1, r2, h1, h2, r3, r4⟩ := X.2.2.2.2
  have hts := X.1.2.2.2.2.2.1
  obtain ⟨sa, hstr⟩ := X.1.2.2.2.2.2.2.2.2.2.1.2.2.1 _ z5
  obtain ⟨-, -, -, hU, hN⟩ := X.1.2.2.2.2.2.2.2.2.2.2
  have hsum : ∀ l9 : List zv_V, ((l9.map (zv_c E)).map fun v => v.category).sum ≤ 2 * l9.length := by
    intro l9
    induction l9 with
    | nil => simp
    | cons a t ih =>
      have h9 := zv_cat E a
      have h8 : zv_k a ≤ 2 := by rcases a with (x | r) | (x | (x | x)) <;> simp [zv_k]
      simp only [List.map_cons, List.sum_cons, List.length_cons]
      omega
  have hs9 := hsum st
  refine vx_throwSW9 X.1.1 X.1.2.1 hl X.1.2.2.2.2.1 z1 z2 (hts _ z3) (hts _ z4) hstr (fun w hw => hts w (z6 w hw).1) ?_ hU hN X.2.2.1 (X.2.2.2.1.1.trans X.1.2.2.2.1.symm) d0 d3 d4 d6 d9 ?_ (by omega) (by omega) (by omega) (by omega) X.1.2.2.2.2.2.2.1 ?_ X.2.2.1.2.2 (by omega) (by omega)
  · intro w hw
    rcases List.mem_cons.mp hw with rfl | hw
    · exact zg_ot (lw_g_ok z3) rfl
    · rcases List.mem_cons.mp hw with rfl | hw
      · exact zg_ot (lw_g_ok z4) rfl
      · exact zg_ot (lw_g_ok (z6 w hw).1) (z6 w hw).2
  · intro x hx
    rw [X.1.2.2.2.2.2.2.2.1, hh] at hx
    cases hx
  · intro t hA hz hk
    refine ⟨n + 1, sh, d, hq, zw_H_grow X.2.1 hz hk, ?_⟩
    refine ⟨by rw [hz]; exact Nat.le_trans X.2.2.1.1 (Nat.le_succ _), fun q g1 g2 => ?_⟩
    rw [hk q (Nat.lt_of_lt_of_le g1 X.2.2.1.1)]
    exact X.2.2.1.2.1 q g1 g2
/-- the next thing that is made -/
theorem ev_new {idx ci kc2 ks2 : Nat} {q : vw_C} (hd : decode (zm_c M) pc = .ok (.new idx, 3)) (hc : zk_cl[ci]? = some q) (hl : Cond.classLink (zm_o M) idx q.1 ∈ lw_g) (hi : Cond.instantiable q.1 q.2.2 ∈ lw_g) (hi2 : Cond.initialized q.1 ∈ lw_g) (h0 : ∀ j, d ((n : Int) + 1) j = 0) (hkc : 1 + kc2 ≤ kc) (hks : q.2.2 + ks2 ≤ ks)
    (kk : ev E l M D (n + 1) (zk_u sh ((n : Int) + 1) (some (.inl ci))) d kc2 ks2 (pc + 3) L (zv_a ((n : Int) + 1) :: st) Q) : ev E l M D n sh d kc ks pc L st Q := by
  intro p e R s m args below meth c H locs cells slots mc ms ls X
  obtain ⟨r1, r2, h1, h2, r3, r4⟩ := X.2.2.2.2
  have hts := X.1.2.2.2.2.2.1
  have hKn := X.1.2.2.2.2.2.2.2.2.2.1.1 ci q hc
  have hsz := X.2.1.1
  refine W.newcK X.1.1 X.1.2.1 X.1.2.2.2.2.1 (hts _ hl) (hts _ hi) (hts _ hi2) rfl hd (by omega) (by omega) hKn.2.1 hsz fun H1 kC hkC e1 z1 o1 => ?_
  have hro : zv_c E (zv_a ((n : Int) + 1)) = .ref (ze_o E + n) := by
    show va_rf (zv_ro E ((n : Int) + 1)) = _
    rw [zv_ro_pos (by omega)]
    show Value.ref _ = _
    congr 2
  have k2 := kk p e R s m args below meth c H1 locs (cells + 1) (slots + q.2.2) mc ms ls ⟨X.1, zw_H_new X.2.1 (by rw [z1, hsz]) (fun q9 h9 => o1 q9 (by omega)) ⟨q, hc, ?_⟩, ⟨Nat.le_trans X.2.2.1.1 (by omega), fun x g1 g2 => (o1 x (by have := X.2.2.1.1; omega)).trans (X.2.2.1.2.1 x g1 g2), X.2.2.1.2.2⟩, X.2.2.2.1, r1, r2, by omega, by omega, r3, r4⟩
  · simp only [List.map_cons, hro] at k2
    exact k2
  · have e2 : (((n + 1 : Nat) : Int)) = (n : Int) + 1 := by omega
    refine (u_born (zk_ty ci) hts (zc_in ci q hc) hKn hkC e1 (zc_ty ci q hc)).to (fun j hj => ?_)
    rw [e2, h0 j, zv_def E]
theorem ev_newa {N kc2 ks2 : Nat} {atype : ArrayType} {ty : FieldType} (hd : decode (zm_c M) pc = .ok (.newarray atype, 2)) (hty : newarray.typeOf atype = ty) (ha : Cond.arrayClass ty ∈ lw_g) (hin : ty ∈ zk_aty) (hprim : ty.isReference = false) (h0 : ∀ j, d ((n : Int) + 1) j = 0) (hN : N ≤ 65536) (hkc : 1 + kc2 ≤ kc) (hks : N + ks2 ≤ ks)
    (kk : ev E l M D (n + 1) (zk_u sh ((n : Int) + 1) (some (.inr (ty, N)))) d kc2 ks2 (pc + 2) L (zv_a ((n : Int) + 1) :: st) Q) : ev E l M D n sh d kc ks pc L (zv_i (N : Int) :: st) Q := by
  intro p e R s m args below meth c H locs cells slots mc ms ls X
  obtain ⟨r1, r2, h1, h2, r3, r4⟩ := X.2.2.2.2
  have hts := X.1.2.2.2.2.2.1
  have hsz := X.2.1.1
  subst hty
  have hzN : zi (N : Int) := ⟨by omega, by omega⟩
  have hNN : (Int32.ofInt (N : Int)).toNatClampNeg = N := by
    show (Int32.ofInt (N : Int)).toInt.toNat = N
    rw [zi_t hzN]; rfl
  have hcb : componentBytes (newarray.typeOf atype) ≤ 8 := by cases atype <;> decide
  refine va_newaK X.1.1 X.1.2.1 (hts _ ha) rfl hd rfl (fun q => by have := (zi_lt hzN zi_0).mp q; omega) hNN (by have : N * componentBytes (newarray.typeOf atype) ≤ 65536 * 8 := Nat.mul_le_mul hN hcb; omega) (by omega) (by omega) hsz fun H1 cA e1 z1 o1 hAr hNm => ?_
  have hro : zv_c E (zv_a ((n : Int) + 1)) = .ref (ze_o E + n) := by
    show va_rf (zv_ro E ((n : Int) + 1)) = _
    rw [zv_ro_pos (by omega)]
    show Value.ref _ = _
    congr 2
  have hcA : cA = ze_t E (newarray.typeOf atype) := by
    have hra := (X.1.2.2.2.2.2.2.2.2.2.1.2.1 _ hin).2
    have : s.vm.findClass ("[" ++ (newarray.typeOf atype).toString) = some (ze_t E (newarray.typeOf atype)) := by
      cases atype <;> exact hra
    exact Option.some.inj (hNm.symm.trans this)
  have k2 := kk p e R s m args below meth c H1 locs (cells + 1) (slots + N) mc ms ls ⟨X.1, zw_H_new X.2.1 (by rw [z1, hsz]) (fun q9 h9 => o1 q9 (by omega)) ⟨?_, hin⟩, ⟨Nat.le_trans X.2.2.1.1 (by omega), fun x g1 g2 => (o1 x (by have := X.2.2.1.1; omega)).trans (X.2.2.1.2.1 x g1 g2), X.2.2.1.2.2⟩, X.2.2.2.1, r1, r2, by omega, by omega, r3, r4⟩
  · simp only [List.map_cons, hro] at k2
    exact k2
  · have e2 : (((n + 1 : Nat) : Int)) = (n : Int) + 1 := by omega
    show H1[ze_o E + n]? = _
    rw [e1, hcA]
    simp only [e2, h0, ← zv_def E]
end EV7
/-! ===== EV: methods and calls ===== -/
def zs_w (st : List zv_V) : Nat := (st.map zv_k).sum
theorem zs_cat (E : ze_E) : ∀ st : List zv_V, ((st.map (zv_c E)).map fun v => v.category).sum = zs_w st
  | [] => rfl
  | a :: t => by
    have := zs_cat E t
    simp only [List.map_cons, List.sum_cons, zs_w, zv_cat] at this ⊢
    rw [this]
theorem lg_sl_len (E : ze_E) : ∀ As : List zv_V, (lg_sl (As.map (zv_c E))).length = zs_w As
  | [] => rfl
  | a :: t => by
    have ih := lg_sl_len E t
    have h := zv_cat E a
    simp only [List.map_cons, zs_w, List.sum_cons] at ih ⊢
    rw [← ih]
    rcases a with (x | r) | (x | (x | x)) <;> simp only [zv_k] at h ⊢ <;> simp [lg_sl, h] <;> omega
theorem zv_ad (E : ze_E) (q : Nat) : zv_c E (zv_a (-(q : Int) - 2)) = .ref q ∧ -(q : Int) - 2 < 0 := by
  refine ⟨?_, by omega⟩
  show va_rf (zv_ro E _) = _
  unfold zv_ro
  rw [if_neg (by omega), if_pos (by omega), if_neg (by omega), show (-(-(q : Int) - 2) - 2).toNat = q by omega]
  rfl
section EV8
variable {E : ze_E} {l : Launch} {M M' : zm_M} {D n : Nat} {sh : zk_S} {d : zm_D} {kc ks pc : Nat} {L : zl_L} {st : List zv_V} {Q Q' : ev_Q}
theorem mt_blind {As : List zv_V} : FrameBlind (mt_P E n sh d As) := fun a U g mk q => ⟨q.1, q.2.1, q.2.2.1, q.2.2.2⟩
theorem mt_of {As : List zv_V} (hy : plainFor (zm_y M) = true) (hh : zm_h M = []) (hn : zs_w As ≤ zm_n M) (kk : ev E l M D n sh d kc ks 0 (zl_args 0 As) [] Q) : mt E l M D kc ks n sh d As Q := by
  have hcw : zm_cw M = .code (zm_y M) (zm_c M) (zm_n M) (zm_r M) := by unfold zm_cw; rw [hh]
  refine vx_ofWF (cc := zm_c M) (maxL := zm_n M) (ret := zm_r M) (ws' := lw_g) hy (by unfold zm_w; rw [hcw]) ?_
  intro p e s m args below meth c s₁ B hml htab hv
  obtain ⟨rfl, hH, hT, hX⟩ := hv
  have hts := atoms_spec (ws := zm_w M) B.pre
  have htab2 : c.exceptionTable.toList = tableOf (zm_h M) := by
    rw [hh]
    cases hq : c.exceptionTable.toList with
    | nil => rfl
    | cons a t => exact (htab a (by rw [hq]; exact List.mem_cons_self)).elim
  have C : ev_C E M p s m ((As.map (zv_c E)).toArray) meth c := ⟨B.exec, B.bytes, B.returns, hml, findClass_of_methodNamed B.named, fun w hw => hts w (List.mem_cons_of_mem _ hw), B.notSynchronized, htab2, (name_of_methodNamed B.named B.method).1, hT, hX⟩
  have hl := lv_entry (As.map (zv_c E)) (n := zm_n M) (by rw [lg_sl_len]; exact hn)
  rw [lg_entry_eq]
  refine kk p e _ s m _ below meth c s.heap [] 0 0 kc ks _ ⟨C, hH, va_S.rf, ⟨hl.1, hl.2.1, fun i v hv => ?_⟩, Nat.le_refl _, Nat.le_refl _, by omega, by omega, Nat.le_refl _, Nat.le_refl _⟩
  exact hl.2.2 _ (zl_args_lv E As 0 i v hv)
theorem mt_ofH {As : List zv_V} {h : Nat × Nat × Nat × Nat} {t : List (Nat × Nat × Nat × Nat)} (hy : plainName (zm_y M).cls = true) (hh : zm_h M = h :: t) (hn : zs_w As ≤ zm_n M) (kk : ev E l M D n sh d kc ks 0 (zl_args 0 As) [] Q) : mt E l M D kc ks n sh d As Q := by
  have hcw : zm_cw M = .codeWith (zm_y M) (zm_c M) (zm_n M) (zm_r M) (h :: t) := by unfold zm_cw; rw [hh]
  refine vx_ofWH (cc := zm_c M) (maxL := zm_n M) (ret := zm_r M) (hh := h :: t) (ws' := lw_g) hy (by unfold zm_w; rw [hcw]) ?_
  intro p e s m args below meth c s₁ B hml hv
  obtain ⟨rfl, hH, hT, hX⟩ := hv
  have hts := atoms_spec (ws := zm_w M) B.pre
  have htab2 : c.exceptionTable.toList = tableOf (zm_h M) := by
    have h1 := hts _ (show zm_cw M ∈ zm_w M from List.mem_cons_self)
    rw [hcw] at h1
    rw [hh]
    exact vx_table (x := zm_y M) B h1
  have C : ev_C E M p s m ((As.map (zv_c E)).toArray) meth c := ⟨B.exec, B.bytes, B.returns, hml, findClass_of_methodNamed B.named, fun w hw => hts w (List.mem_cons_of_mem _ hw), B.notSynchronized, htab2, (name_of_methodNamed B.named B.method).1, hT, hX⟩
  have hl := lv_entry (As.map (zv_c E)) (n := zm_n M) (by rw [lg_sl_len]; exact hn)
  rw [lg_entry_eq]
  refine kk p e _ s m _ below meth c s.heap [] 0 0 kc ks _ ⟨C, hH, va_S.rf, ⟨hl.1, hl.2.1, fun i v hv => ?_⟩, Nat.le_refl _, Nat.le_refl _, by omega, by omega, Nat.le_refl _, Nat.le_refl _⟩
  exact hl.2.2 _ (zl_args_lv E As 0 i v hv)
/-- x is thrown at pc -/
def ev_t (E : ze_E) (l : Launch) (M : zm_M) (D n : Nat) (sh : zk_S) (d : zm_D) (kc ks : Nat) (pc : Nat) (L : zl_L) (rest : List zv_V) (x : String) (Q : ev_Q) : Prop :=
  ∀ (p : Program) (e : Env) (R : Room) (s : State) (m : MethodId) (args : Array Value) (below : List Frame) (meth : Method) (c : Code) (H : Heap) (locs : List Loc) (cells slots mc ms : Nat) (ls : Array Slot) (q : Addr) (ce : Cell),
    ev_X E M D n sh d kc ks L p R s m args meth c H locs cells slots mc ms ls → H[q]? = some ce → ce.vm = .none → s.vm.findClass x = some ce.cls →
    vx_W p l e R s m args below meth c H locs cells slots (vx_MQ below (ev_Qc E Q) (ev_XC E Q) args s mc ms (ze_A E)) (F0 m pc ls (rest.map (zv_c E))) q
theorem ev_out {x : String} (hh : ∀ z ∈ tableOf (zm_h M), covers z pc = false) (hq : Q (.inr x) n sh d) : ev_t E l M D n sh d kc ks pc L st x Q := by
  intro p e R s m args below meth c H locs cells slots mc ms ls q ce X hce hv hcl
  obtain ⟨r1, r2, h1, h2, r3, r4⟩ := X.2.2.2.2
  exact vx_out (by rw [X.1.2.2.2.2.2.2.2.1]; exact hh) X.1.2.2.2.2.2.2.1 hce hv hcl (fun t ht hA => ⟨n, sh, d, hq, by rw [ht]; exact X.2.1, X.2.2.1.F ht⟩) X.2.2.1.2.2 (by omega) (by omega)
theorem ev_catch {x nm : String} {pre suf : List ExceptionTableEntry} {z : ExceptionTableEntry} (hs : tableOf (zm_h M) = pre ++ z :: suf) (hp : ∀ y ∈ pre, covers y pc = false ∨ (y.catchType ≠ 0 ∧ ∃ nm : String, Cond.classLink (zm_o M) y.catchType nm ∈ lw_g ∧ (x, nm) ∈ zk_nc)) (hc : covers z pc = true) (h0 : z.catchType ≠ 0)
    (hl : Cond.classLink (zm_o M) z.catchType nm ∈ lw_g) (hca : Cond.castable x nm ∈ lw_g) (kk : ∀ r : Int, r < 0 → ev E l M D n sh d kc ks z.handlerPc L [zv_a r] Q) : ev_t E l M D n sh d kc ks pc L st x Q := by
  intro p e R s m args below meth c H locs cells slots mc ms ls q ce X hce hv hcl
  have hts := X.1.2.2.2.2.2.1
  refine vx_catch X.1.2.2.2.2.1 pre z suf (by rw [X.1.2.2.2.2.2.2.2.1]; exact hs) (fun y hy => ?_) hc h0 (hts _ hl) (hts _ hca) hce hv hcl ?_
  · rcases hp y hy with h | ⟨h, nm9, h2, h3⟩
    · exact Or.inl h
    · exact Or.inr ⟨h, nm9, hts _ h2, X.1.2.2.2.2.2.2.2.2.2.1.2.2.2 _ h3⟩
  · have k2 := kk (-(((q : Nat)) : Int) - 2) (zv_ad E q).2 p e R s m args below meth c H locs cells slots mc ms ls X
    simp only [List.map_cons, List.map_nil, (zv_ad E q).1] at k2
    exact k2
/-- behind a call -/
theorem ev_run {kc' ks' kc2 ks2 : Nat} {a : Array Value} {st0 rest : List zv_V}
    (hr : ∀ (p : Program) (e : Env) (R : Room) (s : State) (m : MethodId) (args : Array Value) (below : List Frame) (meth : Method) (c : Code) (H : Heap) (locs : List Loc) (cells slots mc ms : Nat) (ls : Array Slot), ev_X E M D n sh d kc ks L p R s m args meth c H locs cells slots mc ms ls →
      vx_Run p l e R s m args below meth c H locs cells slots kc' ks' (F0 m pc ls (st0.map (zv_c E))) (rest.map (zv_c E)) (ev_Qc E Q' a) (ev_XC E Q') (ze_A E))
    (hkc : kc' + kc2 ≤ kc) (hks : ks' + ks2 ≤ ks)
    (kx : ∀ (x : String) (n' : Nat) (sh' : zk_S) (d' : zm_D), Q' (.inr x) n' sh' d' → ev_t E l M D n' sh' d' kc2 ks2 pc L rest x Q)
    (kk : ∀ (v : Option zv_V) (n' : Nat) (sh' : zk_S) (d' : zm_D), Q' (.inl v) n' sh' d' → ev E l M D n' sh' d' kc2 ks2 (pc + 3) L (v.toList ++ rest) Q) : ev E l M D n sh d kc ks pc L st0 Q := by
  intro p e R s m args below meth c H locs cells slots mc ms ls X T hT XS
  obtain ⟨r1, r2, h1, h2, r3, r4⟩ := X.2.2.2.2
  rcases hr p e R s m args below meth c H locs cells slots mc ms ls X T hT XS with ⟨v, st₀, t, T', Lc, h0, X', hL, e1, e2, ⟨⟨v', n', sh', d', hv, hq, hH'⟩, hF⟩, stp⟩ | ⟨q, st₀, t, T', Lc, x, ce, h0, X', hL, e1, e2, ⟨n', sh', d', hq, hH', hF⟩, hce, hcv, hcl, stp⟩
  · obtain ⟨-, -, k3⟩ := vx_keep h0 e1 X.2.2.1 (fun _ _ h => h) (fun _ h => h) hL hF
    have hv2 : v = v'.map (zv_c E) := by injection hv
    subst hv2
    have hmap : (v'.toList ++ rest).map (zv_c E) = (v'.map (zv_c E)).toList ++ rest.map (zv_c E) := by cases v' <;> rfl
    obtain ⟨t2, a1, b1⟩ := kk v' n' sh' d' hq p e R s m args below meth c T'.heap (locs ++ Lc) (cells + kc') (slots + ks') mc ms ls ⟨X.1, by rw [e1]; exact hH', k3, X.2.2.2.1, r1, r2, by omega, by omega, r3, r4⟩ T' rfl X'
    rw [hmap] at a1
    exact ⟨t2, stp t2 a1, b1⟩
  · obtain ⟨-, -, k3⟩ := vx_keep h0 e1 X.2.2.1 (fun _ _ h => h) (fun _ h => h) hL hF
    obtain ⟨t2, a1, b1⟩ := kx x n' sh' d' hq p e R s m args below meth c T'.heap (locs ++ Lc) (cells + kc') (slots + ks') mc ms ls q ce ⟨X.1, by rw [e1]; exact hH', k3, X.2.2.2.1, r1, r2, by omega, by omega, r3, r4⟩ (by rw [e1]; exact hce) hcv hcl T' rfl X'
    exact ⟨t2, stp.trans a1, b1⟩
/-- what is fixed of a method that is called -/
def zm_ok (M : zm_M) (k : Nat) : Prop := zm_cw M ∈ lw_g ∧ Cond.initialized (zm_o M) ∈ lw_g ∧ (zm_o M ≠ "java/lang/invoke/MethodHandle" ∧ zm_o M ≠ "java/lang/invoke/VarHandle") ∧ (parseMethodDescriptor (zm_y M).desc).map (fun d => d.parameters.length) = some k ∧ zm_n M ≤ 40
theorem zm_ws {s : State} {args : Array Value} (hts : ∀ w ∈ lw_g, w.before args s = true) (h : zm_cw M ∈ lw_g) : ∀ w ∈ zm_w M, ∀ (a' : Array Value) (U : State), s.WarmedH U.vm → w.before a' U = true := by
  intro w hw a' U hW
  rcases List.mem_cons.mp hw with rfl | hw
  · exact zg_warm (lw_g_ok h) hW (hts _ h)
  · exact zg_warm (lw_g_ok hw) hW (hts _ hw)
theorem zm_callB {k D' kc' ks' idx : Nat} {R : Room} {s : State} {args : Array Value} (hts : ∀ w ∈ lw_g, w.before args s = true) (ho : zm_ok M' k) (hh : zm_h M' = []) (hl : Cond.methodLink (zm_o M) idx (zm_y M') ∈ lw_g) (hD : D' + 1 ≤ D) (hR : D ≤ R.frames) (hR2 : 64 * D ≤ R.locals) :
    CallB R s args (zm_o M) idx (zm_y M') (zm_c M') (zm_n M') (zm_r M') (zm_w M') ({ frames := D', cells := kc', slots := ks', locals := 64 * D' } : Room) kc' ks' k := by
  obtain ⟨o1, o2, o3, o4, o5⟩ := ho
  have hcw : zm_cw M' = .code (zm_y M') (zm_c M') (zm_n M') (zm_r M') := by unfold zm_cw; rw [hh]
  refine ⟨rfl, rfl, by show D' + 1 ≤ R.frames; omega, by show 8 + (zm_n M' + 11) + 64 * D' ≤ R.locals; omega, zm_ws hts o1, by rw [← hcw]; exact List.mem_cons_self, by rw [← hcw]; exact hts _ o1, hts _ o2, o3, fun sig h => ?_, hts _ hl⟩
  rw [h] at o4
  exact (Option.some.inj o4).symm
theorem zm_fix {s : State} {p : Program} {m : MethodId} {args : Array Value} {meth : Method} {c : Code} (C : ev_C E M p s m args meth c) : CallFix p m c (zm_c M) (zm_n M) s args lw_g (zm_o M) := ⟨C.1, C.2.1, C.2.2.2.1, C.2.2.2.2.1, C.2.2.2.2.2.1⟩
theorem mt_pre {As : List zv_V} {p : Program} {R : Room} {s : State} {m : MethodId} {args : Array Value} {meth : Method} {c : Code} {H : Heap} {locs : List Loc} {cells slots mc ms : Nat} {ls : Array Slot} (X : ev_X E M D n sh d kc ks L p R s m args meth c H locs cells slots mc ms ls) : PreS s H (mt_P E n sh d As) (As.map (zv_c E)) :=
  ⟨mt_blind, fun U hU hW => ⟨rfl, by rw [hU]; exact X.2.1, X.1.2.2.2.2.2.2.2.2.2.1.moved hW, by rw [hU]; exact (X.1.2.2.2.2.2.2.2.2.2.2.kept X.2.2.1).moved hW.alike⟩⟩
theorem mt_room {st : List zv_V} {m : MethodId} {pc : Nat} {ls : Array Slot} {g : List Value} (h : zs_w st ≤ 8) : 2 * (F0 m pc ls g).monitorRoom + ((st.map (zv_c E)).map fun v => v.category).sum ≤ 8 := lv_room (by rw [zs_cat]; exact h)
theorem mt_recv {r : Int} {ci : Nat} {q : vw_C} {p : Program} {R : Room} {s : State} {m : MethodId} {args : Array Value} {meth : Method} {c : Code} {H : Heap} {locs : List Loc} {cells slots mc ms : Nat} {ls : Array Slot} (X : ev_X E M D n sh d kc ks L p R s m args meth c H locs cells slots mc ms ls) (hr : sh r = some (.inl ci)) (h0 : 0 < r) (hc : zk_cl[ci]? = some q) :
    ∃ cellB : Cell, H[ze_o E + (r.toNat - 1)]? = some cellB ∧ cellB.vm.isStatics = false ∧ s.vm.findClass q.1 = some cellB.cls := by
  obtain ⟨q', hq', cell, g1, g2, g3, -⟩ := zw_obj X.2.1 hr h0
  cases Option.some.inj (hc.symm.trans hq')
  exact ⟨cell, g1, by rw [g3]; rfl, by rw [g2]; exact (X.1.2.2.2.2.2.2.2.2.2.1.1 ci q hc).2.1⟩
/-- invokestatic -/
theorem ev_callS {k idx D' kc' ks' kc2 ks2 : Nat} {As st0 rest : List zv_V} (hd : decode (zm_c M) pc = .ok (.invokestatic idx, 3)) (hM : mt E l M' D' kc' ks' n sh d As Q') (hst : st0 = As.reverse ++ rest) (ho : zm_ok M' k) (hh : zm_h M' = []) (hk : As.length = k) (hl : Cond.methodLink (zm_o M) idx (zm_y M') ∈ lw_g) (hs : Cond.static (zm_y M') ∈ lw_g) (hD : D' + 1 ≤ D) (hw : zs_w rest ≤ 8) (hkc : kc' + kc2 ≤ kc) (hks : ks' + ks2 ≤ ks)
    (kx : ∀ (x : String) (n' : Nat) (sh' : zk_S) (d' : zm_D), Q' (.inr x) n' sh' d' → ev_t E l M D n' sh' d' kc2 ks2 pc L rest x Q)
    (kk : ∀ (v : Option zv_V) (n' : Nat) (sh' : zk_S) (d' : zm_D), Q' (.inl v) n' sh' d' → ev E l M D n' sh' d' kc2 ks2 (pc + 3) L (v.toList ++ rest) Q) : ev E l M D n sh d kc ks pc L st0 Q := by
  refine ev_run (a := (As.map (zv_c E)).toArray) (kc' := kc') (ks' := ks') (fun p e R s m args below meth c H locs cells slots mc ms ls X => ?_) hkc hks kx kk
  obtain ⟨r1, r2, h1, h2, r3, r4⟩ := X.2.2.2.2
  have hts := X.1.2.2.2.2.2.1
  exact vx_runS (zm_fix X.1) hM ⟨zm_callB hts ho hh hl hD r1 r2, hts _ hs⟩ (mt_pre X) rfl (by rw [List.length_map]; exact hk) X.2.2.2.1.1 (by rw [hst]; simp) (mt_room hw) hd ⟨by omega, by omega⟩
/-- invokevirtual of an object of the class of the method -/
theorem ev_callV {k idx D' kc' ks' kc2 ks2 ci : Nat} {r : Int} {q : vw_C} {As st0 rest : List zv_V} (hd : decode (zm_c M) pc = .ok (.invokevirtual idx, 3)) (hM : mt E l M' D' kc' ks' n sh d (zv_a r :: As) Q') (hst : st0 = As.reverse ++ zv_a r :: rest) (hr : sh r = some (.inl ci)) (h0 : 0 < r) (hc : zk_cl[ci]? = some q) (ho : zm_ok M' k) (hh : zm_h M' = []) (hk : As.length = k) (hl : Cond.methodLink (zm_o M) idx (zm_y M') ∈ lw_g) (hs : Cond.instanceMethod (zm_y M') ∈ lw_g) (hs2 : Cond.selects q.1 (zm_y M') (zm_y M') ∈ lw_g) (hD : D' + 1 ≤ D) (hw : zs_w rest ≤ 8) (hkc : kc' + kc2 ≤ kc) (hks : ks' + ks2 ≤ ks)
    (kx : ∀ (x : String) (n' : Nat) (sh' : zk_S) (d' : zm_D), Q' (.inr x) n' sh' d' → ev_t E l M D n' sh' d' kc2 ks2 pc L rest x Q)
    (kk : ∀ (v : Option zv_V) (n' : Nat) (sh' : zk_S) (d' : zm_D), Q' (.inl v) n' sh' d' → ev E l M D n' sh' d' kc2 ks2 (pc + 3) L (v.toList ++ rest) Q) : ev E l M D n sh d kc ks pc L st0 Q := by
  refine ev_run (a := (Value.ref (ze_o E + (r.toNat - 1)) :: As.map (zv_c E)).toArray) (kc' := kc') (ks' := ks') (fun p e R s m args below meth c H locs cells slots mc ms ls X => ?_) hkc hks kx kk
  obtain ⟨r1, r2, h1, h2, r3, r4⟩ := X.2.2.2.2
  have hts := X.1.2.2.2.2.2.1
  have hp := mt_pre (As := zv_a r :: As) X
  have hro : zv_c E (zv_a r) = .ref (ze_o E + (r.toNat - 1)) := by show va_rf (zv_ro E r) = _; rw [zv_ro_pos h0]; rfl
  simp only [List.map_cons, hro] at hp
  exact vx_runV (zm_fix X.1) hM ⟨zm_callB hts ho hh hl hD r1 r2, hts _ hs, hts _ hs2⟩ ⟨hp.1, mt_recv X hr h0 hc, hp.2⟩ rfl (by rw [List.length_map]; exact hk) X.2.2.2.1.1 (by rw [hst]; simp [hro]) (mt_room hw) hd ⟨by omega, by omega⟩
/-- a constructor -/
theorem ev_callI {k idx D' kc' ks' kc2 ks2 : Nat} {r : Int} {As st0 rest : List zv_V} (hd : decode (zm_c M) pc = .ok (.invokespecial idx, 3)) (hM : mt E l M' D' kc' ks' n sh d (zv_a r :: As) Q') (hst : st0 = As.reverse ++ zv_a r :: rest) (h0 : 0 < r) (hnm : (zm_y M').name = "<init>") (hrn : zm_r M' = none) (ho : zm_ok M' k) (hh : zm_h M' = []) (hk : As.length = k) (hl : Cond.methodLink (zm_o M) idx (zm_y M') ∈ lw_g) (hs : Cond.instanceMethod (zm_y M') ∈ lw_g) (hD : D' + 1 ≤ D) (hw : zs_w rest ≤ 8) (hkc : kc' + kc2 ≤ kc) (hks : ks' + ks2 ≤ ks)
    (kx : ∀ (x : String) (n' : Nat) (sh' : zk_S) (d' : zm_D), Q' (.inr x) n' sh' d' → ev_t E l M D n' sh' d' kc2 ks2 pc L rest x Q)
    (kk : ∀ (v : Option zv_V) (n' : Nat) (sh' : zk_S) (d' : zm_D), Q' (.inl v) n' sh' d' → ev E l M D n' sh' d' kc2 ks2 (pc + 3) L (v.toList ++ rest) Q) : ev E l M D n sh d kc ks pc L st0 Q := by
  refine ev_run (a := (Value.ref (ze_o E + (r.toNat - 1)) :: As.map (zv_c E)).toArray) (kc' := kc') (ks' := ks') (fun p e R s m args below meth c H locs cells slots mc ms ls X => ?_) hkc hks kx kk
  obtain ⟨r1, r2, h1, h2, r3, r4⟩ := X.2.2.2.2
  have hts := X.1.2.2.2.2.2.1
  have hp := mt_pre (As := zv_a r :: As) X
  have hro : zv_c E (zv_a r) = .ref (ze_o E + (r.toNat - 1)) := by show va_rf (zv_ro E r) = _; rw [zv_ro_pos h0]; rfl
  simp only [List.map_cons, hro] at hp
  have hcb := zm_callB (kc' := kc') (ks' := ks') hts ho hh hl hD r1 r2
  rw [hrn] at hcb
  exact vx_runI (zm_fix X.1) hM ⟨hcb, hnm, hts _ hs⟩ hp rfl (by rw [List.length_map]; exact hk) X.2.2.2.1.1 (by rw [hst]; simp [hro]) (mt_room hw) hd ⟨by omega, by omega⟩
end EV8
/-! ===== EV: what was wanting ===== -/
section EV9
variable {E : ze_E} {l : Launch} {M M' : zm_M} {D n : Nat} {sh : zk_S} {d : zm_D} {kc ks pc : Nat} {L : zl_L} {st : List zv_V} {Q Q' : ev_Q}
theorem ev_st {st' : List zv_V} (h : st.map (zv_c E) = st'.map (zv_c E)) (kk : ev E l M D n sh d kc ks pc L st' Q) : ev E l M D n sh d kc ks pc L st Q := by
  intro p e R s m args below meth c H locs cells slots mc ms ls X
  rw [h]
  exact kk p e R s m args below meth c H locs cells slots mc ms ls X
theorem ev_subg {L' : zl_L} (h : ∀ i v, zl_get L' i = some v → zl_get L i = some v) (kk : ev E l M D n sh d kc ks pc L' st Q) : ev E l M D n sh d kc ks pc L st Q := by
  intro p e R s m args below meth c H locs cells slots mc ms ls X
  exact kk p e R s m args below meth c H locs cells slots mc ms ls (X.loc ⟨X.2.2.2.1.1, X.2.2.2.1.2.1, fun i v hv => X.2.2.2.1.2.2 i v (h i v hv)⟩)
theorem zw_H_dz {d' : zm_D} {H : Heap} (h : zw_H E n sh d H) (hd : ∀ r : Nat, 1 ≤ r → r ≤ n → ∀ j, d' r j = d r j) : zw_H E n sh d' H := by
  refine ⟨h.1, fun r hr => ?_⟩
  by_cases e : r ≤ n
  · exact zw_at_kept (h.2 r hr) rfl (hd r hr e)
  · have h1 := h.2 r hr
    have hsz := h.1
    rcases hs : sh r with _ | ci | ⟨ty, N⟩
    · trivial
    · rw [hs] at h1
      obtain ⟨q, g1, cell, g3, -⟩ := h1
      have := (Array.getElem?_eq_some_iff.mp g3).1
      omega
    · rw [hs] at h1
      have := (Array.getElem?_eq_some_iff.mp h1.1).1
      omega
theorem ev_dz {d' : zm_D} (hd : ∀ r : Nat, 1 ≤ r → r ≤ n → ∀ j, d' r j = d r j) (kk : ev E l M D n sh d' kc ks pc L st Q) : ev E l M D n sh d kc ks pc L st Q := by
  intro p e R s m args below meth c H locs cells slots mc ms ls X
  exact kk p e R s m args below meth c H locs cells slots mc ms ls ⟨X.1, zw_H_dz X.2.1 hd, X.2.2⟩
theorem zs_w_le : ∀ l9 : List zv_V, zs_w l9 ≤ 2 * l9.length
  | [] => by simp [zs_w]
  | a :: t => by
    have ih := zs_w_le t
    have h8 : zv_k a ≤ 2 := by rcases a with (x | r) | (x | (x | x)) <;> simp [zv_k]
    simp only [zs_w, List.map_cons, List.sum_cons, List.length_cons] at ih ⊢
    omega
theorem ev_objinit {idx : Nat} {r : Int} (hd : decode (zm_c M) pc = .ok (.invokespecial idx, 3)) (h1 : Cond.methodLink (zm_o M) idx Lib.objectInit ∈ lw_g) (h2 : Cond.instanceMethod Lib.objectInit ∈ lw_g) (h3 : Cond.code Lib.objectInit ⟨#[0xb1]⟩ 1 none ∈ lw_g) (h0 : 0 < r) (hw : st.length ≤ 4) (hD : 0 < D)
    (kk : ev E l M D n sh d kc ks (pc + 3) L st Q) : ev E l M D n sh d kc ks pc L (zv_a r :: st) Q := by
  intro p e R s m args below meth c H locs cells slots mc ms ls X
  have k2 := kk p e R s m args below meth c H locs cells slots mc ms ls X
  have hts := X.1.2.2.2.2.2.1
  obtain ⟨r1, r2, -, -, -, -⟩ := X.2.2.2.2
  have hs := zs_cat E st
  have hs2 := zs_w_le st
  simp only [List.map_cons, zv_c, zv_ro_pos h0]
  exact W.objInit X.1.1 X.1.2.1 X.1.2.2.2.2.1 (hts _ h1) (hts _ h2) (hts _ h3) rfl (X.2.2.2.1.1.trans X.1.2.2.2.1.symm) rfl hd (by omega) (by rw [hs]; show 2 * 0 + _ + _ ≤ _; omega) k2
theorem ev_f2bits {idx : Nat} {b : UInt32} (hd : decode (zm_c M) pc = .ok (.invokestatic idx, 3)) (h1 : Cond.methodLink (zm_o M) idx ⟨"java/lang/Float", "floatToRawIntBits", "(F)I"⟩ ∈ lw_g) (h2 : Cond.native ⟨"java/lang/Float", "floatToRawIntBits", "(F)I"⟩ ∈ lw_g) (h3 : Cond.static ⟨"java/lang/Float", "floatToRawIntBits", "(F)I"⟩ ∈ lw_g) (h4 : Cond.initialized "java/lang/Float" ∈ lw_g) (hw : st.length ≤ 4) (hD : 0 < D)
    (kk : ev E l M D n sh d kc ks (pc + 3) L (zv_i b.toInt32.toInt :: st) Q) : ev E l M D n sh d kc ks pc L (zv_f b :: st) Q := by
  intro p e R s m args below meth c H locs cells slots mc ms ls X
  have k2 := kk p e R s m args below meth c H locs cells slots mc ms ls X
  have hts := X.1.2.2.2.2.2.1
  obtain ⟨r1, r2, -, -, -, -⟩ := X.2.2.2.2
  have hs := zs_cat E st
  have hs2 := zs_w_le st
  simp only [List.map_cons, zv_c, zi_ofInt] at k2 ⊢
  exact vn_f2i X.1.1 X.1.2.1 (X.1.2.2.2.1.trans X.2.2.2.1.1.symm) X.1.2.2.2.2.1 (hts _ h1) (hts _ h2) (hts _ h3) (hts _ h4) (by omega) (by rw [hs]; omega) hd k2
/-- a private constructor of a nest mate -/
theorem ev_callIN {k idx D' kc' ks' kc2 ks2 : Nat} {r : Int} {host : String} {As st0 rest : List zv_V} (hd : decode (zm_c M) pc = .ok (.invokespecial idx, 3)) (hM : mt E l M' D' kc' ks' n sh d (zv_a r :: As) Q') (hst : st0 = As.reverse ++ zv_a r :: rest) (h0 : 0 < r) (hnm : (zm_y M').name = "<init>") (hrn : zm_r M' = none) (ho : zm_ok M' k) (hh : zm_h M' = []) (hk : As.length = k) (hl : Cond.methodLinkNest (zm_o M) idx (zm_y M') host ∈ lw_g) (hs : Cond.instanceMethod (zm_y M') ∈ lw_g) (hD : D' + 1 ≤ D) (hw : zs_w rest ≤ 8) (hkc : kc' + kc2 ≤ kc) (hks : ks' + ks2 ≤ ks)
    (kx : ∀ (x : String) (n' : Nat) (sh' : zk_S) (d' : zm_D), Q' (.inr x) n' sh' d' → ev_t E l M D n' sh' d' kc2 ks2 pc L rest x Q)
    (kk : ∀ (v : Option zv_V) (n' : Nat) (sh' : zk_S) (d' : zm_D), Q' (.inl v) n' sh' d' → ev E l M D n' sh' d' kc2 ks2 (pc + 3) L (v.toList ++ rest) Q) : ev E l M D n sh d kc ks pc L st0 Q := by
  refine ev_run (a := (Value.ref (ze_o E + (r.toNat - 1)) :: As.map (zv_c E)).toArray) (kc' := kc') (ks' := ks') (fun p e R s m args below meth c H locs cells slots mc ms ls X => ?_) hkc hks kx kk
  obtain ⟨r1, r2, h1, h2, r3, r4⟩ := X.2.2.2.2
  have hts := X.1.2.2.2.2.2.1
  have hp := mt_pre (As := zv_a r :: As) X
  have hro : zv_c E (zv_a r) = .ref (ze_o E + (r.toNat - 1)) := by show va_rf (zv_ro E r) = _; rw [zv_ro_pos h0]; rfl
  simp only [List.map_cons, hro] at hp
  obtain ⟨o1, o2, o3, o4, o5⟩ := ho
  have hcw : zm_cw M' = .code (zm_y M') (zm_c M') (zm_n M') (zm_r M') := by unfold zm_cw; rw [hh]
  have hcb : va_CN R s args (zm_o M) idx (zm_y M') host (zm_c M') (zm_n M') none (zm_w M') ({ frames := D', cells := kc', slots := ks', locals := 64 * D' } : Room) kc' ks' k := by
    rw [hrn] at hcw
    refine ⟨⟨rfl, rfl, by show D' + 1 ≤ R.frames; omega, by show 8 + (zm_n M' + 11) + 64 * D' ≤ R.locals; omega, zm_ws hts o1, by rw [← hcw]; exact List.mem_cons_self⟩, by rw [← hcw]; exact hts _ o1, hts _ o2, o3, fun sig h => ?_, hts _ hl⟩
    rw [h] at o4
    exact (Option.some.inj o4).symm
  exact vx_runIN (zm_fix X.1) hM ⟨hcb, hnm, hts _ hs⟩ hp rfl (by rw [List.length_map]; exact hk) X.2.2.2.1.1 (by rw [hst]; simp [hro]) (mt_room hw) hd ⟨by omega, by omega⟩
/-- invokestatic of a method with a table of its own -/
theorem ev_callSX {k idx D' kc' ks' kc2 ks2 : Nat} {As st0 rest : List zv_V} {h9 : Nat × Nat × Nat × Nat} {t9 : List (Nat × Nat × Nat × Nat)} (hd : decode (zm_c M) pc = .ok (.invokestatic idx, 3)) (hM : mt E l M' D' kc' ks' n sh d As Q') (hst : st0 = As.reverse ++ rest) (ho : zm_ok M' k) (hh : zm_h M' = h9 :: t9) (hk : As.length = k) (hl : Cond.methodLink (zm_o M) idx (zm_y M') ∈ lw_g) (hs : Cond.static (zm_y M') ∈ lw_g) (hD : D' + 1 ≤ D) (hw : zs_w rest ≤ 8) (hkc : kc' + kc2 ≤ kc) (hks : ks' + ks2 ≤ ks)
    (kx : ∀ (x : String) (n' : Nat) (sh' : zk_S) (d' : zm_D), Q' (.inr x) n' sh' d' → ev_t E l M D n' sh' d' kc2 ks2 pc L rest x Q)
    (kk : ∀ (v : Option zv_V) (n' : Nat) (sh' : zk_S) (d' : zm_D), Q' (.inl v) n' sh' d' → ev E l M D n' sh' d' kc2 ks2 (pc + 3) L (v.toList ++ rest) Q) : ev E l M D n sh d kc ks pc L st0 Q := by
  refine ev_run (a := (As.map (zv_c E)).toArray) (kc' := kc') (ks' := ks') (fun p e R s m args below meth c H locs cells slots mc ms ls X => ?_) hkc hks kx kk
  obtain ⟨r1, r2, h1, h2, r3, r4⟩ := X.2.2.2.2
  have hts := X.1.2.2.2.2.2.1
  obtain ⟨o1, o2, o3, o4, o5⟩ := ho
  have hcw : zm_cw M' = .codeWith (zm_y M') (zm_c M') (zm_n M') (zm_r M') (h9 :: t9) := by unfold zm_cw; rw [hh]
  have hcb : vx_CSW R s args (zm_o M) idx (zm_y M') (zm_c M') (zm_n M') (zm_r M') (h9 :: t9) (zm_w M') ({ frames := D', cells := kc', slots := ks', locals := 64 * D' } : Room) kc' ks' k := by
    refine ⟨⟨rfl, rfl, by show D' + 1 ≤ R.frames; omega, by show 8 + (zm_n M' + 11) + 64 * D' ≤ R.locals; omega, zm_ws hts o1, by rw [← hcw]; exact List.mem_cons_self⟩, by rw [← hcw]; exact hts _ o1, hts _ o2, o3, fun sig h => ?_, hts _ hl, hts _ hs⟩
    rw [h] at o4
    exact (Option.some.inj o4).symm
  exact vx_runSX (zm_fix X.1) hM hcb (mt_pre X) rfl (by rw [List.length_map]; exact hk) X.2.2.2.1.1 (by rw [hst]; simp) (mt_room hw) hd ⟨by omega, by omega⟩
end EV9
/-- System.arraycopy of ints -/
def zm_cp (d : zm_D) (r1 p r2 q x : Int) : zm_D := fun a k => if a = r2 ∧ (q ≤ k ∧ k < q + x) then d r1 (p + (k - q)) else d a k
/-! ===== EV: arrays of references, System.arraycopy ===== -/
section EV10
variable {E : ze_E} {l : Launch} {M : zm_M} {D n : Nat} {sh : zk_S} {d : zm_D} {kc ks pc : Nat} {L : zl_L} {st : List zv_V} {Q : ev_Q}
theorem ev_anew {N kc2 ks2 idx : Nat} {C : String} (hd : decode (zm_c M) pc = .ok (.anewarray idx, 3)) (hl : Cond.classLink (zm_o M) idx C ∈ lw_g) (ha : Cond.arrayOver (.object C) ∈ lw_g) (hin : FieldType.object C ∈ zk_aty) (h0 : ∀ j, d ((n : Int) + 1) j = 0) (hN : N ≤ 65536) (hkc : 1 + kc2 ≤ kc) (hks : N + ks2 ≤ ks)
    (kk : ev E l M D (n + 1) (zk_u sh ((n : Int) + 1) (some (.inr (.object C, N)))) d kc2 ks2 (pc + 3) L (zv_a ((n : Int) + 1) :: st) Q) : ev E l M D n sh d kc ks pc L (zv_i (N : Int) :: st) Q := by
  intro p e R s m args below meth c H locs cells slots mc ms ls X
  obtain ⟨r1, r2, h1, h2, r3, r4⟩ := X.2.2.2.2
  have hts := X.1.2.2.2.2.2.1
  have hsz := X.2.1.1
  have hzN : zi (N : Int) := ⟨by omega, by omega⟩
  have hNN : (Int32.ofInt (N : Int)).toNatClampNeg = N := by
    show (Int32.ofInt (N : Int)).toInt.toNat = N
    rw [zi_t hzN]; rfl
  refine W.anew X.1.1 X.1.2.1 X.1.2.2.2.2.1 (hts _ hl) (hts _ ha) rfl hd rfl (fun q => by have := (zi_lt hzN zi_0).mp q; omega) (by rw [hNN]; omega) (by omega) (by rw [hNN]; omega) fun cA kA comp f1 f2 f3 f4 => ?_
  rw [hNN]
  generalize hH1 : H.push ({ cls := cA, slots := Array.replicate N .null, vm := .none } : Cell) = H1
  have z1 : H1.size = H.size + 1 := by rw [← hH1, Array.size_push]
  have e1 : H1[H.size]? = some (arrV cA N (fun _ => .null)) := by rw [← hH1, Array.getElem?_push_size, ← arrV_new]
  have o1 : ∀ q : Nat, q < H.size → H1[q]? = H[q]? := fun q hq => by rw [← hH1, Array.getElem?_push, if_neg (Nat.ne_of_lt hq)]
  have hro : zv_c E (zv_a ((n : Int) + 1)) = .ref (ze_o E + n) := by
    show va_rf (zv_ro E ((n : Int) + 1)) = _
    rw [zv_ro_pos (by omega)]
    show Value.ref _ = _
    congr 2
  have hcA : cA = ze_t E (.object C) := by
    obtain ⟨kA9, comp9, -, -, -, g⟩ := (X.1.2.2.2.2.2.2.2.2.2.1.2.1 _ hin).2
    exact Option.some.inj (f1.symm.trans g)
  have k2 := kk p e R s m args below meth c H1 locs (cells + 1) (slots + N) mc ms ls ⟨X.1, zw_H_new X.2.1 z1 o1 ⟨?_, hin⟩, ⟨Nat.le_trans X.2.2.1.1 (by omega), fun x g1 g2 => (o1 x (Nat.lt_of_lt_of_le g1 X.2.2.1.1)).trans (X.2.2.1.2.1 x g1 g2), X.2.2.1.2.2⟩, X.2.2.2.1, r1, r2, by omega, by omega, r3, r4⟩
  · simp only [List.map_cons, hro] at k2
    rw [hsz]
    exact k2
  · have e2 : (((n + 1 : Nat) : Int)) = (n : Int) + 1 := by omega
    show H1[ze_o E + n]? = _
    rw [← hsz, e1, hcA]
    simp only [e2, h0, ← zv_def E]
    rfl
theorem ev_acopy {idx N1 N2 : Nat} {r1 r2 p9 q9 x9 : Int} (hd : decode (zm_c M) pc = .ok (.invokestatic idx, 3)) (w1 : Cond.methodLink (zm_o M) idx arraycopyName ∈ lw_g) (w2 : Cond.native arraycopyName ∈ lw_g) (w3 : Cond.static arraycopyName ∈ lw_g) (w4 : Cond.initialized "java/lang/System" ∈ lw_g)
    (hr1 : sh r1 = some (.inr (.int, N1))) (hr2 : sh r2 = some (.inr (.int, N2))) (h01 : 0 < r1) (h02 : 0 < r2) (hN1 : N1 ≤ 1000000) (hN2 : N2 ≤ 1000000) (hp : 0 ≤ p9) (hq : 0 ≤ q9) (hx : 0 ≤ x9) (hs1 : p9 + x9 ≤ N1) (hs2 : q9 + x9 ≤ N2) (hw : st.length ≤ 4) (hD : 0 < D)
    (kk : ev E l M D n sh (zm_cp d r1 p9 r2 q9 x9) kc ks (pc + 3) L st Q) : ev E l M D n sh d kc ks pc L (zv_i x9 :: zv_i q9 :: zv_a r2 :: zv_i p9 :: zv_a r1 :: st) Q := by
  intro p e R s m args below meth c H locs cells slots mc ms ls X
  have hts := X.1.2.2.2.2.2.1
  obtain ⟨q1, hty⟩ := zw_arr X.2.1 hr1 h01
  obtain ⟨q2, -⟩ := zw_arr X.2.1 hr2 h02
  obtain ⟨g1, g2, -, -, -, -⟩ := X.2.2.2.2
  have hs := zs_cat E st
  have hsl := zs_w_le st
  obtain ⟨-, k0, hk0, cm0, hkk0⟩ := (X.1.2.2.2.2.2.2.2.2.2.1.2.1 _ hty).1 N1 (fun j => zv_fv E .int (d r1 j))
  obtain ⟨-, k1, hk1, cm1, hkk1⟩ := (X.1.2.2.2.2.2.2.2.2.2.1.2.1 _ hty).1 N2 (fun j => zv_fv E .int (d r2 j))
  have zp : zi p9 := ⟨by omega, by omega⟩
  have zq : zi q9 := ⟨by omega, by omega⟩
  have zx : zi x9 := ⟨by omega, by omega⟩
  have np : (Int32.ofInt p9).toNatClampNeg = p9.toNat := by show (Int32.ofInt p9).toInt.toNat = _; rw [zi_t zp]
  have nq : (Int32.ofInt q9).toNatClampNeg = q9.toNat := by show (Int32.ofInt q9).toInt.toNat = _; rw [zi_t zq]
  have nx : (Int32.ofInt x9).toNatClampNeg = x9.toNat := by show (Int32.ofInt x9).toInt.toNat = _; rw [zi_t zx]
  simp only [List.map_cons, zv_c, zv_ro_pos h01, zv_ro_pos h02]
  intro T hT XS
  obtain ⟨vm', X', step⟩ := XS.arraycopy X.1.1 X.1.2.2.2.2.1 (hts _ w1) (hts _ w2) (hts _ w3) (hts _ w4) (src := ze_o E + (r1.toNat - 1)) (dst := ze_o E + (r2.toNat - 1)) (srcPos := Int32.ofInt p9) (destPos := Int32.ofInt q9) (n := Int32.ofInt x9) (by rw [hT]; exact q1) (by rw [hT]; exact q2)
    (fun _ h => by cases h) (fun _ h => by cases h) (fun h => by cases h) (fun h => by cases h) hk0 hk1 hkk0 hkk1 rfl (fun q => by have := (zi_lt zp zi_0).mp q; omega) (fun q => by have := (zi_lt zq zi_0).mp q; omega) (fun q => by have := (zi_lt zx zi_0).mp q; omega)
    (by rw [zi_t zp, zi_t zx, arrV_size]; omega) (by rw [zi_t zq, zi_t zx, arrV_size]; omega)
    (fun vm₁ _ i hi => by
      rw [nx] at hi
      have e9 : (arrV (ze_t E .int) N1 (fun j => zv_fv E .int (d r1 j))).slots.getD ((Int32.ofInt p9).toNatClampNeg + i) .null = zv_fv E .int (d r1 ((p9.toNat + i : Nat) : Int)) := by
        rw [np, Array.getD_eq_getD_getElem?, arrV_read _ _ (by omega)]
        rfl
      rw [e9]
      exact ⟨rfl, trivial⟩)
    (g := F0 m pc ls _) rfl (X.2.2.2.1.1.trans X.1.2.2.2.1.symm) (rest := st.map (zv_c E)) rfl (by rw [X.1.2.1]; exact hd) (by omega) (by rw [hs]; have : nativeFrameWords "java/lang/System" "arraycopy" 5 ≤ 40 := (by decide); show 2 * 0 + _ + _ ≤ _; omega)
  have ecp : copied (arrV (ze_t E .int) N1 (fun j => zv_fv E .int (d r1 j))) (arrV (ze_t E .int) N2 (fun j => zv_fv E .int (d r2 j))) (Int32.ofInt p9) (Int32.ofInt q9) (Int32.ofInt x9) = arrV (ze_t E .int) N2 (fun j => zv_fv E .int (zm_cp d r1 p9 r2 q9 x9 r2 j)) := by
    have h9 := va_copied (fun z : Int => zv_fv E .int z) (ze_t E .int) (ze_t E .int) (n0 := N1) (n1 := N2) (sp := (Int32.ofInt p9).toNatClampNeg) (dp := (Int32.ofInt q9).toNatClampNeg) (n := (Int32.ofInt x9).toNatClampNeg) (fun j => d r1 j) (fun j => d r2 j) (by rw [np, nx]; omega)
    refine h9.trans ?_
    congr 1
    funext j
    congr 1
    simp only [va_cpy, np, nq, nx, zm_cp]
    by_cases hj : q9.toNat ≤ j ∧ j < q9.toNat + x9.toNat
    · rw [if_pos hj, if_pos ⟨trivial, by omega, by omega⟩]
      congr 1
      omega
    · rw [if_neg hj, if_neg (fun q => hj ⟨by omega, by omega⟩)]
  rw [ecp] at X' step
  have hl : ze_o E + (r2.toNat - 1) < H.size := (Array.getElem?_eq_some_iff.mp q2).1
  generalize hcell : arrV (ze_t E .int) N2 (fun j => zv_fv E .int (zm_cp d r1 p9 r2 q9 x9 r2 j)) = cell at X' step
  have hheap : ((T.setVm vm').setCell (ze_o E + (r2.toNat - 1)) cell).heap = H.setIfInBounds (ze_o E + (r2.toNat - 1)) cell := by rw [← hT]; rfl
  have oq : ∀ q : Nat, q ≠ ze_o E + (r2.toNat - 1) → (H.setIfInBounds (ze_o E + (r2.toNat - 1)) cell)[q]? = H[q]? := fun q hq => by simp [Array.getElem?_setIfInBounds, Ne.symm hq]
  have hz : (H.setIfInBounds (ze_o E + (r2.toNat - 1)) cell).size = H.size := by simp
  have k1 : zw_H E n sh (zm_cp d r1 p9 r2 q9 x9) (H.setIfInBounds (ze_o E + (r2.toNat - 1)) cell) := by
    refine zw_H_set X.2.1 h02 hz oq (fun a k ha => ?_) ?_
    · unfold zm_cp
      rw [if_neg (fun q => ha q.1)]
    · rw [hr2]
      have er : ((r2.toNat : Nat) : Int) = r2 := by omega
      refine ⟨?_, hty⟩
      rw [er, hcell]
      simp [Array.getElem?_setIfInBounds, hl]
  have k2 : va_S (ze_A E) s.heap (H.setIfInBounds (ze_o E + (r2.toNat - 1)) cell) (locs ++ (Cell.stretch (arrV (ze_t E .int) N1 (fun j => zv_fv E .int (d r1 j))) (Int32.ofInt p9).toNatClampNeg (Int32.ofInt x9).toNatClampNeg).zipIdx.map fun q => ⟨ze_o E + (r2.toNat - 1), (Int32.ofInt q9).toNatClampNeg + q.2⟩) := by
    refine ⟨by rw [hz]; exact X.2.2.1.1, fun q g1 g2 => ?_, fun q hq9 => ?_⟩
    · rw [oq q (fun e9 => g2 (by rw [e9]; exact Nat.le_add_right _ _))]
      exact X.2.2.1.2.1 q g1 g2
    · rcases List.mem_append.mp hq9 with h | h
      · exact X.2.2.1.2.2 q h
      · obtain ⟨z, -, hz9⟩ := List.mem_map.mp h
        rw [← hz9]
        exact Nat.le_add_right _ _
  obtain ⟨t, a1, b1⟩ := kk p e R s m args below meth c _ _ cells slots mc ms ls ⟨X.1, k1, k2, X.2.2.2⟩ _ hheap X'
  exact ⟨t, step t a1, b1⟩
end EV10
end
section
/-! ===== CODE: methods, rows of links, blocks: printed by a program out of the listing ===== -/
set_option maxRecDepth 100000 in
def zMM0 : List zm_M := [(yX0_init, (cX0_init, (4, (none, [])))),
  (yX0_tellRule, (cX0_tellRule, (4, ((some .boolean), [])))),
  (yX0_hasStakes, (cX0_hasStakes, (5, ((some .boolean), [])))),
  (yX0_stakesOf, (cX0_stakesOf, (7, ((some .int), [])))),
  (yX0_takeAway, (cX0_takeAway, (7, ((some .int), [])))),
  (yX0_forgetCards, (cX0_forgetCards, (5, (none, [])))),
  (yX0_seatInTurn, (cX0_seatInTurn, (2, ((some .int), [])))),
  (yX0_dealRound, (cX0_dealRound, (5, ((some .int), [])))),
  (yX0_dealToSeats, (cX0_dealToSeats, (5, (none, [])))),
  (yX0_giveCard, (cX0_giveCard, (3, ((some .int), [])))),
  (yX0_giveUp, (cX0_giveUp, (5, ((some .int), [])))),
  (yX0_finishIfNobodyPlays, (cX0_finishIfNobodyPlays, (5, (none, [])))),
  (yX0_drawForDealer, (cX0_drawForDealer, (6, (none, [])))),
  (yX0_drawsAgain, (cX0_drawsAgain, (2, ((some .boolean), [])))),
  (yX0_settle, (cX0_settle, (6, (none, [])))),
  (yX0_gainOf, (cX0_gainOf, (5, ((some .int), [])))),
  (yX0_payForNatural, (cX0_payForNatural, (2, ((some .int), [])))),
  (yX1_init, (cX1_init, (1, (none, [])))),
  (yX1_chanceOf, (cX1_chanceOf, (5, ((some .double), [])))),
  (yX1_chanceFrom, (cX1_chanceFrom, (11, ((some .double), [])))),
  (yX2_init, (cX2_init, (1, (none, [])))),
  (yX2_isBarredOn, (cX2_isBarredOn, (2, ((some .boolean), [])))),
  (yX2_mayStake, (cX2_mayStake, (3, ((some .boolean), [])))),
  (yX2_putStake, (cX2_putStake, (2, (none, [])))),
  (yX2_bringMoney, (cX2_bringMoney, (2, (none, [])))),
  (yX2_tellLimit, (cX2_tellLimit, (2, (none, [])))),
  (yX2_beginDay, (cX2_beginDay, (1, (none, [])))),
  (yX2_noteBet, (cX2_noteBet, (3, (none, [])))),
  (yX2_isBettingByCount, (cX2_isBettingByCount, (1, ((some .boolean), [])))),
  (yX2_addPrize, (cX2_addPrize, (4, (none, [])))),
  (yX2_dropPrizesOf, (cX2_dropPrizesOf, (4, ((some .int), [])))),
  (yX2_allPrizes, (cX2_allPrizes, (6, ((some .int), [])))),
  (yX2_dropAllPrizes, (cX2_dropAllPrizes, (1, (none, [])))),
  (yX3_init, (cX3_init, (1, (none, [])))),
  (yX3_add, (cX3_add, (2, (none, [])))),
  (yX3_forgetCards, (cX3_forgetCards, (1, (none, [])))),
  (yX3_rankAt, (cX3_rankAt, (2, ((some .int), [])))),
  (yX3_value, (cX3_value, (1, ((some .int), [])))),
  (yX3_isSoft, (cX3_isSoft, (1, ((some .boolean), [])))),
  (yX3_isPair, (cX3_isPair, (1, ((some .boolean), [])))),
  (yX3_isNatural, (cX3_isNatural, (1, ((some .boolean), [])))),
  (yX3_settle, (cX3_settle, (2, ((some .int), [])))),
  (yX3_takeBack, (cX3_takeBack, (3, ((some .int), [])))),
  (yX4_init, (cX4_init, (1, (none, [])))),
  (yX4_setOf, (cX4_setOf, (2, ((some .int), [])))),
  (yX4_isSoldOut, (cX4_isSoldOut, (1, ((some .boolean), [])))),
  (yX4_isDrawn, (cX4_isDrawn, (1, ((some .boolean), [])))),
  (yX4_sell, (cX4_sell, (3, (none, [])))),
  (yX4_rightNumbers, (cX4_rightNumbers, (2, ((some .int), [])))),
  (yX4_ticketsWithRight, (cX4_ticketsWithRight, (4, ((some .int), [])))),
  (yX4_giveOut, (cX4_giveOut, (3, ((some .int), [])))),
  (yX4_giveTier, (cX4_giveTier, (8, ((some .int), [])))),
  (yX4_takeAway, (cX4_takeAway, (3, (none, [])))),
  (yX5_init, (cX5_init, (2, (none, [])))),
  (yX5_areSymbols, (cX5_areSymbols, (1, ((some .boolean), [])))),
  (yX5_areStops, (cX5_areStops, (1, ((some .boolean), [])))),
  (yX5_areDigits, (cX5_areDigits, (5, ((some .boolean), [])))),
  (yX5_isSpinning, (cX5_isSpinning, (1, ((some .boolean), [])))),
  (yX5_stakeOf, (cX5_stakeOf, (2, ((some .int), [])))),
  (yX5_symbolAt, (cX5_symbolAt, (4, ((some .int), [])))),
  (yX5_timesOf, (cX5_timesOf, (2, ((some .int), [])))),
  (yX5_tellSymbols, (cX5_tellSymbols, (7, ((some .int), [])))),
  (yX5_tellTimes, (cX5_tellTimes, (4, ((some .int), [])))),
  (yX5_begin, (cX5_begin, (3, (none, [])))),
  (yX5_settleAt, (cX5_settleAt, (6, ((some .int), [])))),
  (yX5_takeAway, (cX5_takeAway, (3, ((some .int), [])))),
  (yX5_paidByAllStops, (cX5_paidByAllStops, (5, ((some .int), [])))),
  (yX5_stopsWith, (cX5_stopsWith, (5, ((some .int), [])))),
  (yX6_init, (cX6_init, (1, (none, [])))),
  (yX6_hasStake, (cX6_hasStake, (1, ((some .boolean), [])))),
  (yX6_stakes, (cX6_stakes, (1, ((some .int), [])))),
  (yX6_take, (cX6_take, (3, (none, [])))),
  (yX6_handAt, (cX6_handAt, (3, ((some (.object "ShoeHouse$Hand")), [])))),
  (yX6_handThatPlays, (cX6_handThatPlays, (1, ((some (.object "ShoeHouse$Hand")), [])))),
  (yX6_part, (cX6_part, (2, (none, [])))),
  (yX6_isNatural, (cX6_isNatural, (1, ((some .boolean), [])))),
  (yX6_needsDealer, (cX6_needsDealer, (1, ((some .boolean), [])))),
  (yX6_forgetCards, (cX6_forgetCards, (1, (none, [])))),
  (yX6_forgetStakes, (cX6_forgetStakes, (1, (none, [])))),
  (yX6_takeAway, (cX6_takeAway, (2, ((some .int), [])))),
  (yX7_init, (cX7_init, (1, (none, [])))),
  (yX7_cardsInDeck, (cX7_cardsInDeck, (1, ((some .int), [])))),
  (yX7_size, (cX7_size, (1, ((some .int), [])))),
  (yX7_rankAt, (cX7_rankAt, (3, ((some .int), [])))),
  (yX7_layDecks, (cX7_layDecks, (4, (none, [])))),
  (yX7_bringBehind, (cX7_bringBehind, (5, (none, [])))),
  (yX7_mixHalves, (cX7_mixHalves, (6, (none, [])))),
  (yX7_layMixed, (cX7_layMixed, (3, (none, [])))),
  (yX7_takeCard, (cX7_takeCard, (2, ((some .int), [])))),
  (yX7_see, (cX7_see, (2, (none, [])))),
  (yX7_takeSeen, (cX7_takeSeen, (2, ((some .int), [])))),
  (yX7_takeHidden, (cX7_takeHidden, (1, ((some .int), [])))),
  (yX7_showHidden, (cX7_showHidden, (1, (none, [])))),
  (yX7_unseenOf, (cX7_unseenOf, (2, ((some .int), [])))),
  (yX7_unseenAbove, (cX7_unseenAbove, (4, ((some .int), [])))),
  (yX7_unseen, (cX7_unseen, (1, ((some .int), [])))),
  (yX7_tellWeight, (cX7_tellWeight, (4, ((some .int), [])))),
  (yX7_countSeen, (cX7_countSeen, (3, ((some .int), [])))),
  (yX7_countByDeck, (cX7_countByDeck, (2, ((some .int), [])))),
  (yX7_isWhole, (cX7_isWhole, (4, ((some .boolean), [])))),
  (yX8_init, (cX8_init, (2, (none, [])))),
  (yX8_takeFromVault, (cX8_takeFromVault, (2, (none, [])))),
  (yX8_bringToVault, (cX8_bringToVault, (2, (none, [])))),
  (yX8_collect, (cX8_collect, (2, (none, [])))),
  (yX8_payOut, (cX8_payOut, (2, (none, [])))),
  (yX8_winOfShift, (cX8_winOfShift, (1, ((some .int), [])))),
  (yX8_beginShift, (cX8_beginShift, (1, (none, [])))),
  (yX9_init, (cX9_init, (1, (none, [])))),
  (yX10_init, (cX10_init, (2, (none, [])))),
  (yX10_isWager, (cX10_isWager, (2, ((some .boolean), [])))),
  (yX10_isRed, (cX10_isRed, (3, ((some .boolean), [])))),
  (yX10_timesPaid, (cX10_timesPaid, (3, ((some .int), [])))),
  (yX10_isFull, (cX10_isFull, (1, ((some .boolean), [])))),
  (yX10_add, (cX10_add, (5, (none, [])))),
  (yX10_settleAll, (cX10_settleAll, (6, ((some .int), [])))),
  (yX10_stakesOf, (cX10_stakesOf, (4, ((some .int), [])))),
  (yX10_takeAway, (cX10_takeAway, (6, ((some .int), [])))),
  (yX11_init, (cX11_init, (2, (none, [])))),
  (yX11_guest, (cX11_guest, (2, ((some .int), [])))),
  (yX11_buyIn, (cX11_buyIn, (4, ((some .int), [])))),
  (yX11_cashOut, (cX11_cashOut, (4, ((some .int), [])))),
  (yX11_limit, (cX11_limit, (4, ((some .int), [])))),
  (yX11_bar, (cX11_bar, (5, ((some .int), [])))),
  (yX11_pass, (cX11_pass, (7, ((some .int), [])))),
  (yX11_fill, (cX11_fill, (4, ((some .int), [])))),
  (yX11_credit, (cX11_credit, (4, ((some .int), [])))),
  (yX11_shift, (cX11_shift, (6, ((some .int), [])))),
  (yX11_win, (cX11_win, (2, ((some .int), [])))),
  (yX11_rule, (cX11_rule, (3, ((some .boolean), [])))),
  (yX11_lay, (cX11_lay, (2, ((some .int), [])))),
  (yX11_cut, (cX11_cut, (2, ((some .int), [])))),
  (yX11_riffle, (cX11_riffle, (2, ((some .int), [])))),
  (yX11_bet, (cX11_bet, (6, ((some .int), [])))),
  (yX11_deal, (cX11_deal, (2, ((some .int), [])))),
  (yX11_hit, (cX11_hit, (4, ((some .int), [])))),
  (yX11_stand, (cX11_stand, (3, ((some .int), [])))),
  (yX11_twice, (cX11_twice, (6, ((some .int), [])))),
  (yX11_split, (cX11_split, (6, ((some .int), [])))),
  (yX11_surrender, (cX11_surrender, (5, ((some .int), [])))),
  (yX11_cardAt, (cX11_cardAt, (6, ((some .int), [])))),
  (yX11_dealerAt, (cX11_dealerAt, (3, ((some .int), [])))),
  (yX11_turn, (cX11_turn, (1, ((some .int), [])))),
  (yX11_left, (cX11_left, (2, ((some .int), [])))),
  (yX11_bustOver, (cX11_bustOver, (2, ((some .long), [])))),
  (yX11_bustUnder, (cX11_bustUnder, (2, ((some .long), [])))),
  (yX11_dealerEnds, (cX11_dealerEnds, (2, ((some .double), [])))),
  (yX11_weigh, (cX11_weigh, (3, ((some .int), [])))),
  (yX11_count, (cX11_count, (1, ((some .int), [])))),
  (yX11_trueCount, (cX11_trueCount, (1, ((some .int), [])))),
  (yX11_isSuspected, (cX11_isSuspected, (2, ((some .boolean), [])))),
  (yX11_broken, (cX11_broken, (1, ((some .int), [])))),
  (yX11_wager, (cX11_wager, (6, ((some .int), [])))),
  (yX11_spin, (cX11_spin, (2, ((some .int), [])))),
  (yX11_stops, (cX11_stops, (3, ((some .int), [])))),
  (yX11_pays, (cX11_pays, (3, ((some .int), [])))),
  (yX11_bound, (cX11_bound, (3, ((some .int), [])))),
  (yX11_pull, (cX11_pull, (4, ((some .int), [])))),
  (yX11_stop, (cX11_stop, (2, ((some .int), [])))),
  (yX11_tilt, (cX11_tilt, (1, ((some .int), [])))),
  (yX11_recover, (cX11_recover, (2, ((some .int), [])))),
  (yX11_pot, (cX11_pot, (1, ((some .int), [])))),
  (yX11_returnOver, (cX11_returnOver, (1, ((some .long), [])))),
  (yX11_returnUnder, (cX11_returnUnder, (1, ((some .long), [])))),
  (yX11_ticket, (cX11_ticket, (4, ((some .int), [])))),
  (yX11_draw, (cX11_draw, (2, ((some .int), [])))),
  (yX11_confirm, (cX11_confirm, (1, ((some .int), [])))),
  (yX11_claim, (cX11_claim, (4, ((some .int), [])))),
  (yX11_pool, (cX11_pool, (1, ((some .int), [])))),
  (yX11_day, (cX11_day, (1, ((some .int), [])))),
  (yX11_money, (cX11_money, (2, ((some .int), [])))),
  (yX11_chips, (cX11_chips, (2, ((some .int), [])))),
  (yX11_isBarred, (cX11_isBarred, (2, ((some .boolean), [])))),
  (yX11_staked, (cX11_staked, (2, ((some .int), [])))),
  (yX11_reports, (cX11_reports, (2, ((some .int), [])))),
  (yX11_tray, (cX11_tray, (2, ((some .int), [])))),
  (yX11_vault, (cX11_vault, (1, ((some .int), [])))),
  (yX11_ruinOver, (cX11_ruinOver, (3, ((some .long), [])))),
  (yX11_ruinUnder, (cX11_ruinUnder, (3, ((some .long), [])))),
  (yX11_checksum, (cX11_checksum, (7, ((some .long), [])))),
  (yX11_vaultBits, (cX11_vaultBits, (1, ((some .int), [])))),
  (yX11_barredShare, (cX11_barredShare, (3, ((some .float), [])))),
  (yX11_meanChips, (cX11_meanChips, (1, ((some .double), [])))),
  (yX11_isSound, (cX11_isSound, (1, ((some .boolean), [])))),
  (yX11_guestAt, (cX11_guestAt, (2, ((some (.object "ShoeHouse$Guest")), [])))),
  (yX11_trayAt, (cX11_trayAt, (2, ((some (.object "ShoeHouse$Tray")), [])))),
  (yX11_seatAt, (cX11_seatAt, (2, ((some (.object "ShoeHouse$Seat")), [])))),
  (yX11_handInTurn, (cX11_handInTurn, (4, ((some (.object "ShoeHouse$Hand")), [])))),
  (yX11_playerAt, (cX11_playerAt, (4, ((some (.object "ShoeHouse$Guest")), [])))),
  (yX11_needStake, (cX11_needStake, (3, (none, [])))),
  (yX11_needCards, (cX11_needCards, (2, (none, [])))),
  (yX11_needUnseen, (cX11_needUnseen, (1, (none, [])))),
  (yX11_needRound, (cX11_needRound, (1, (none, [])))),
  (yX11_needNoRound, (cX11_needNoRound, (1, (none, [])))),
  (yX11_needSpin, (cX11_needSpin, (1, (none, [])))),
  (yX11_needNoSpin, (cX11_needNoSpin, (1, (none, [])))),
  (yX11_needGuests, (cX11_needGuests, (1, (none, [])))),
  (yX11_needThreeNumbers, (cX11_needThreeNumbers, (1, (none, [])))),
  (yX11_needRuin, (cX11_needRuin, (2, (none, [])))),
  (yX11_needRange, (cX11_needRange, (3, (none, [])))),
  (yX11_chipsOfGuests, (cX11_chipsOfGuests, (3, ((some .int), [])))),
  (yX11_areAllChipsHere, (cX11_areAllChipsHere, (6, ((some .boolean), [])))),
  (yX11_stakesOf, (cX11_stakesOf, (2, ((some .int), [])))),
  (yX11_isNothingOfBarred, (cX11_isNothingOfBarred, (5, ((some .boolean), [])))),
  (yX11_areChancesSound, (cX11_areChancesSound, (4, ((some .boolean), [])))),
  (yX11_lowestOver, (cX11_lowestOver, (6, ((some .long), [])))),
  (yX11_lowestUnder, (cX11_lowestUnder, (6, ((some .long), [])))),
  (yX11_sharedDivisor, (cX11_sharedDivisor, (11, ((some .long), [])))),
  (yX11_power, (cX11_power, (5, ((some .long), [])))),
  (yX11_ruinPart, (cX11_ruinPart, (2, ((some .long), [])))),
  (yX11_bitsOf, (cX11_bitsOf, (5, ((some .int), [])))),
  (yX12_init, (cX12_init, (6, (none, [])))),
  (yX12_thrown, (cX12_thrown, (1, ((some .int), [])))),
  (yX12_isThrown, (cX12_isThrown, (3, ((some .boolean), [])))),
  (yX12_isIn, (cX12_isIn, (3, ((some .boolean), [])))),
  (yX12_isNobody, (cX12_isNobody, (2, ((some .boolean), [])))),
  (yX12_guest, (cX12_guest, (2, ((some .int), [])))),
  (yX12_buyIn, (cX12_buyIn, (3, ((some .int), [])))),
  (yX12_cashOut, (cX12_cashOut, (3, ((some .int), [])))),
  (yX12_limit, (cX12_limit, (3, ((some .int), [])))),
  (yX12_isBarredNow, (cX12_isBarredNow, (2, ((some .boolean), [])))),
  (yX12_mayStake, (cX12_mayStake, (3, ((some .boolean), [])))),
  (yX12_stakes, (cX12_stakes, (3, (none, [])))),
  (yX12_pay, (cX12_pay, (5, (none, [])))),
  (yX12_bar, (cX12_bar, (6, ((some .int), [])))),
  (yX12_pass, (cX12_pass, (4, ((some .int), [])))),
  (yX12_isNoTable, (cX12_isNoTable, (1, ((some .boolean), [])))),
  (yX12_fill, (cX12_fill, (3, ((some .int), [])))),
  (yX12_credit, (cX12_credit, (3, ((some .int), [])))),
  (yX12_winOf, (cX12_winOf, (2, ((some .int), [])))),
  (yX12_shift, (cX12_shift, (3, ((some .int), [])))),
  (yX12_win, (cX12_win, (2, ((some .int), [])))),
  (yX12_ruleOf, (cX12_ruleOf, (1, ((some .int), [])))),
  (yX12_rule, (cX12_rule, (4, ((some .boolean), [])))),
  (yX12_each, (cX12_each, (1, ((some .int), [])))),
  (yX12_lay, (cX12_lay, (4, ((some .int), [])))),
  (yX12_cut, (cX12_cut, (3, ((some .int), [])))),
  (yX12_riffle, (cX12_riffle, (5, ((some .int), [])))),
  (yX12_next, (cX12_next, (2, ((some .int), [])))),
  (yX12_valueOf, (cX12_valueOf, (5, ((some .int), [])))),
  (yX12_isSoft, (cX12_isSoft, (4, ((some .boolean), [])))),
  (yX12_valueAt, (cX12_valueAt, (3, ((some .int), [])))),
  (yX12_isNaturalAt, (cX12_isNaturalAt, (2, ((some .boolean), [])))),
  (yX12_hasStake, (cX12_hasStake, (2, ((some .boolean), [])))),
  (yX12_bet, (cX12_bet, (6, ((some .int), [])))),
  (yX12_take, (cX12_take, (3, (none, [])))),
  (yX12_deal, (cX12_deal, (4, ((some .int), [])))),
  (yX12_turnNow, (cX12_turnNow, (3, ((some .int), [])))),
  (yX12_lose, (cX12_lose, (3, (none, [])))),
  (yX12_win_, (cX12_win_, (5, (none, [])))),
  (yX12_finish, (cX12_finish, (4, (none, [])))),
  (yX12_isEnd, (cX12_isEnd, (3, ((some .boolean), [])))),
  (yX12_settleAll, (cX12_settleAll, (5, (none, [])))),
  (yX12_settle, (cX12_settle, (8, (none, [])))),
  (yX12_isNotTurn, (cX12_isNotTurn, (2, ((some .boolean), [])))),
  (yX12_goesOn, (cX12_goesOn, (1, (none, [])))),
  (yX12_looks, (cX12_looks, (4, (none, [])))),
  (yX12_hit, (cX12_hit, (4, ((some .int), [])))),
  (yX12_stand, (cX12_stand, (3, ((some .int), [])))),
  (yX12_twice, (cX12_twice, (6, ((some .int), [])))),
  (yX12_split, (cX12_split, (5, ((some .int), [])))),
  (yX12_surrender, (cX12_surrender, (3, ((some .int), [])))),
  (yX12_cardAt, (cX12_cardAt, (4, ((some .int), [])))),
  (yX12_dealerAt, (cX12_dealerAt, (2, ((some .int), [])))),
  (yX12_turn, (cX12_turn, (1, ((some .int), [])))),
  (yX12_leftOf, (cX12_leftOf, (4, ((some .int), [])))),
  (yX12_unseen, (cX12_unseen, (1, ((some .int), [])))),
  (yX12_left, (cX12_left, (2, ((some .int), [])))),
  (yX12_common, (cX12_common, (10, ((some .long), [])))),
  (yX12_busting, (cX12_busting, (4, ((some .int), [])))),
  (yX12_bust, (cX12_bust, (4, ((some .long), [])))),
  (yX12_bustOver, (cX12_bustOver, (2, ((some .long), [])))),
  (yX12_bustUnder, (cX12_bustUnder, (2, ((some .long), [])))),
  (yX12_ends, (cX12_ends, (12, ((some .double), [])))),
  (yX12_dealerEnds, (cX12_dealerEnds, (3, ((some .double), [])))),
  (yX12_weigh, (cX12_weigh, (4, ((some .int), [])))),
  (yX12_counted, (cX12_counted, (3, ((some .int), [])))),
  (yX12_count, (cX12_count, (1, ((some .int), [])))),
  (yX12_trueCount, (cX12_trueCount, (1, ((some .int), [])))),
  (yX12_isSuspected, (cX12_isSuspected, (4, ((some .boolean), [])))),
  (yX12_broken, (cX12_broken, (1, ((some .int), [])))),
  (yX12_wager, (cX12_wager, (7, ((some .int), [])))),
  (yX12_isRed, (cX12_isRed, (3, ((some .boolean), [])))),
  (yX12_times, (cX12_times, (3, ((some .int), [])))),
  (yX12_spin, (cX12_spin, (6, ((some .int), [])))),
  (yX12_isSpinning, (cX12_isSpinning, (1, ((some .boolean), [])))),
  (yX12_digit, (cX12_digit, (4, ((some .int), [])))),
  (yX12_areDigits, (cX12_areDigits, (5, ((some .boolean), [])))),
  (yX12_stops, (cX12_stops, (6, ((some .int), [])))),
  (yX12_pays, (cX12_pays, (4, ((some .int), [])))),
  (yX12_bound, (cX12_bound, (3, ((some .int), [])))),
  (yX12_pull, (cX12_pull, (3, ((some .int), [])))),
  (yX12_stop, (cX12_stop, (5, ((some .int), [])))),
  (yX12_tilt, (cX12_tilt, (1, ((some .int), [])))),
  (yX12_recover, (cX12_recover, (2, ((some .int), [])))),
  (yX12_pot, (cX12_pot, (1, ((some .int), [])))),
  (yX12_returned, (cX12_returned, (16, ((some .long), [])))),
  (yX12_returnOver, (cX12_returnOver, (1, ((some .long), [])))),
  (yX12_returnUnder, (cX12_returnUnder, (1, ((some .long), [])))),
  (yX12_setOf, (cX12_setOf, (2, ((some .int), [])))),
  (yX12_ticket, (cX12_ticket, (3, ((some .int), [])))),
  (yX12_right, (cX12_right, (4, ((some .int), [])))),
  (yX12_draw, (cX12_draw, (2, ((some .int), [])))),
  (yX12_confirm, (cX12_confirm, (7, ((some .int), [])))),
  (yX12_claim, (cX12_claim, (4, ((some .int), [])))),
  (yX12_pool, (cX12_pool, (1, ((some .int), [])))),
  (yX12_day, (cX12_day, (1, ((some .int), [])))),
  (yX12_money, (cX12_money, (2, ((some .int), [])))),
  (yX12_chips, (cX12_chips, (2, ((some .int), [])))),
  (yX12_isBarred, (cX12_isBarred, (2, ((some .boolean), [])))),
  (yX12_staked, (cX12_staked, (2, ((some .int), [])))),
  (yX12_reports, (cX12_reports, (2, ((some .int), [])))),
  (yX12_tray, (cX12_tray, (2, ((some .int), [])))),
  (yX12_vault, (cX12_vault, (1, ((some .int), [])))),
  (yX12_power, (cX12_power, (6, ((some .long), [])))),
  (yX12_ruin, (cX12_ruin, (8, ((some .long), [])))),
  (yX12_ruinOver, (cX12_ruinOver, (3, ((some .long), [])))),
  (yX12_ruinUnder, (cX12_ruinUnder, (3, ((some .long), [])))),
  (yX12_checksum, (cX12_checksum, (7, ((some .long), [])))),
  (yX12_vaultBits, (cX12_vaultBits, (1, ((some .int), [])))),
  (yX12_barredShare, (cX12_barredShare, (3, ((some .float), [])))),
  (yX12_meanChips, (cX12_meanChips, (3, ((some .double), [])))),
  (yX12_isSound, (cX12_isSound, (1, ((some .boolean), [])))),
  (yJxf58ca_isNaN_12338, (cJxf58ca_isNaN_12338, (1, ((some .boolean), [])))),
  (yJxf58ca_floatToIntBits_5c35a, (cJxf58ca_floatToIntBits_5c35a, (1, ((some .int), [])))),
  (yJ6_bitCount_0f7a4, (cJ6_bitCount_0f7a4, (1, ((some .int), [])))),
  (yJ9_floorMod_7cf53, (cJ9_floorMod_7cf53, (3, ((some .int), [])))),
  (yJ9_max_7cf53, (cJ9_max_7cf53, (2, ((some .int), [])))),
  (yJ9_min_7cf53, (cJ9_min_7cf53, (2, ((some .int), [])))),
  (yJ7_fill_53178, (cJ7_fill_53178, (4, (none, [])))),
  (yL_guest, (cL_guest, (4, ((some .int), [(0, 9, 12, 13), (0, 9, 15, 15)])))),
  (yL_buyIn, (cL_buyIn, (5, ((some .int), [(0, 10, 13, 21), (0, 10, 17, 13), (0, 10, 21, 23)])))),
  (yL_cashOut, (cL_cashOut, (5, ((some .int), [(0, 10, 13, 21), (0, 10, 17, 13), (0, 10, 21, 23)])))),
  (yL_limit, (cL_limit, (5, ((some .int), [(0, 10, 13, 21), (0, 10, 17, 13)])))),
  (yL_bar, (cL_bar, (5, ((some .int), [(0, 10, 13, 21), (0, 10, 17, 13)])))),
  (yL_pass, (cL_pass, (4, ((some .int), [(0, 9, 12, 13), (0, 9, 15, 15)])))),
  (yL_fill, (cL_fill, (5, ((some .int), [(0, 10, 13, 21), (0, 10, 17, 13), (0, 10, 21, 23)])))),
  (yL_credit, (cL_credit, (5, ((some .int), [(0, 10, 13, 21), (0, 10, 17, 13), (0, 10, 21, 23)])))),
  (yL_win, (cL_win, (4, ((some .int), [(0, 9, 12, 21)])))),
  (yL_rule, (cL_rule, (5, ((some .int), [(0, 17, 20, 13), (0, 17, 24, 15)])))),
  (yL_lay, (cL_lay, (4, ((some .int), [(0, 9, 12, 13), (0, 9, 15, 15)])))),
  (yL_cut, (cL_cut, (4, ((some .int), [(0, 9, 12, 13), (0, 9, 15, 15)])))),
  (yL_riffle, (cL_riffle, (4, ((some .int), [(0, 9, 12, 23), (0, 9, 15, 15)])))),
  (yL_bet, (cL_bet, (6, ((some .int), [(0, 12, 15, 21), (0, 12, 19, 13), (0, 12, 23, 23), (0, 12, 27, 15)])))),
  (yL_deal, (cL_deal, (3, ((some .int), [(0, 8, 11, 23), (0, 8, 14, 15)])))),
  (yL_hit, (cL_hit, (4, ((some .int), [(0, 9, 12, 21), (0, 9, 15, 15), (0, 9, 18, 23)])))),
  (yL_stand, (cL_stand, (4, ((some .int), [(0, 9, 12, 21), (0, 9, 15, 15), (0, 9, 18, 23)])))),
  (yL_twice, (cL_twice, (4, ((some .int), [(0, 9, 12, 21), (0, 9, 15, 15), (0, 9, 18, 23)])))),
  (yL_split, (cL_split, (4, ((some .int), [(0, 9, 12, 21), (0, 9, 15, 15), (0, 9, 18, 23)])))),
  (yL_surrender, (cL_surrender, (4, ((some .int), [(0, 9, 12, 21), (0, 9, 15, 15), (0, 9, 18, 23)])))),
  (yL_cardAt, (cL_cardAt, (6, ((some .int), [(0, 12, 15, 21), (0, 12, 19, 86)])))),
  (yL_dealerAt, (cL_dealerAt, (4, ((some .int), [(0, 9, 12, 86)])))),
  (yL_turn, (cL_turn, (3, ((some .int), [(0, 8, 11, 15)])))),
  (yL_left, (cL_left, (4, ((some .int), [(0, 9, 12, 13)])))),
  (yL_bustOver, (cL_bustOver, (4, ((some .int), [(0, 8, 11, 13), (0, 8, 14, 101)])))),
  (yL_bustUnder, (cL_bustUnder, (4, ((some .int), [(0, 8, 11, 13), (0, 8, 14, 101)])))),
  (yL_dealerEnds, (cL_dealerEnds, (4, ((some .int), [(0, 8, 11, 13), (0, 8, 14, 15)])))),
  (yL_weigh, (cL_weigh, (5, ((some .int), [(0, 10, 13, 13)])))),
  (yL_trueCount, (cL_trueCount, (3, ((some .int), [(0, 8, 11, 101)])))),
  (yL_isSuspected, (cL_isSuspected, (4, ((some .int), [(0, 16, 19, 21)])))),
  (yL_wager, (cL_wager, (7, ((some .int), [(0, 14, 17, 21), (0, 14, 21, 13), (0, 14, 25, 23), (0, 14, 29, 15)])))),
  (yL_spin, (cL_spin, (4, ((some .int), [(0, 9, 12, 13)])))),
  (yL_stops, (cL_stops, (5, ((some .int), [(0, 10, 13, 21), (0, 10, 17, 13), (0, 10, 21, 15)])))),
  (yL_pays, (cL_pays, (5, ((some .int), [(0, 10, 13, 13), (0, 10, 17, 15)])))),
  (yL_bound, (cL_bound, (4, ((some .int), [(0, 9, 12, 13), (0, 9, 15, 15)])))),
  (yL_pull, (cL_pull, (5, ((some .int), [(0, 10, 13, 21), (0, 10, 17, 13), (0, 10, 21, 23), (0, 10, 25, 15)])))),
  (yL_stop, (cL_stop, (4, ((some .int), [(0, 9, 12, 13), (0, 9, 15, 15)])))),
  (yL_tilt, (cL_tilt, (3, ((some .int), [(0, 8, 11, 15)])))),
  (yL_recover, (cL_recover, (3, ((some .int), [(0, 8, 11, 15)])))),
  (yL_ticket, (cL_ticket, (5, ((some .int), [(0, 10, 13, 21), (0, 10, 17, 13), (0, 10, 21, 23), (0, 10, 25, 15)])))),
  (yL_draw, (cL_draw, (4, ((some .int), [(0, 9, 12, 13)])))),
  (yL_confirm, (cL_confirm, (3, ((some .int), [(0, 8, 11, 15)])))),
  (yL_claim, (cL_claim, (4, ((some .int), [(0, 9, 12, 21), (0, 9, 15, 86)])))),
  (yL_money, (cL_money, (4, ((some .int), [(0, 9, 12, 21)])))),
  (yL_chips, (cL_chips, (4, ((some .int), [(0, 9, 12, 21)])))),
  (yL_isBarred, (cL_isBarred, (4, ((some .int), [(0, 16, 19, 21)])))),
  (yL_staked, (cL_staked, (4, ((some .int), [(0, 9, 12, 21)])))),
  (yL_reports, (cL_reports, (4, ((some .int), [(0, 9, 12, 21)])))),
  (yL_tray, (cL_tray, (4, ((some .int), [(0, 9, 12, 21)])))),
  (yL_ruinOver, (cL_ruinOver, (5, ((some .int), [(0, 9, 12, 13)])))),
  (yL_ruinUnder, (cL_ruinUnder, (5, ((some .int), [(0, 9, 12, 13)])))),
  (yL_barredShare, (cL_barredShare, (3, ((some .int), [(0, 8, 11, 101)])))),
  (yL_meanChips, (cL_meanChips, (3, ((some .int), [(0, 7, 10, 101)]))))]
def zMMl : List zm_M := zMM0 ++ [(yL_law, (cL_law, (9, (ret, []))))]
def zMM (m : Nat) : zm_M := zMMl.getD m (yL_law, (cL_law, (9, (ret, []))))
def znA9 : Nat → FieldType
  | 0 => .int
  | 1 => .long
  | 2 => .double
  | 3 => .char
  | _ => .boolean
def zcn (c : Nat) : String := (zk_cl.getD c (RX0, TX0, 10)).1
def zxn : Nat → String
  | 0 => "java/lang/IllegalArgumentException"
  | 1 => "java/lang/IllegalStateException"
  | 2 => "java/lang/IndexOutOfBoundsException"
  | 3 => "java/lang/UnsupportedOperationException"
  | 4 => "java/util/NoSuchElementException"
  | _ => "java/lang/ArithmeticException"
abbrev zI0 : Type := Nat × (Nat × (Nat × (Nat × Int)))
abbrev zb_0_0 : List zI0 := [(0, 0, 1, 0, 0), (108, 0, 0, 0, 1), (0, 0, 1, 0, 0), (3, 0, 0, 0, 3), (59, 6, 0, 0, 0), (13, 0, 2, 0, 2), (0, 0, 1, 0, 0), (57, 3, 7, 1, 0), (47, 0, 0, 0, 0), (7, 33, 0, 3, 0), (13, 0, 3, 1, 3), (0, 0, 1, 0, 0), (0, 1, 1, 0, 0), (13, 0, 0, 2, 0), (0, 0, 1, 0, 0), (0, 2, 1, 0, 0), (13, 0, 1, 3, 1), (3, 0, 0, 0, 0), (30, 3, 1, 0, 0), (111, 1, 0, 0, 0)]
abbrev zb_0_1 : List zI0 := [(4, 3, 1, 0, 0), (0, 0, 1, 0, 0), (2, 0, 2, 0, 2), (36, 0, 0, 0, 0), (23, 2, 0, 0, 0), (0, 0, 1, 0, 0), (2, 0, 2, 0, 2), (4, 3, 1, 0, 0), (57, 6, 4, 2, 0), (47, 0, 0, 0, 0), (7, 68, 0, 6, 1), (62, 0, 0, 0, 0), (32, 3, 0, 0, 1), (10, 1, 0, 0, 0)]
abbrev zb_0_2 : List zI0 := [(50, 0, 0, 0, 0)]
abbrev zc_0 : List (List zI0) := [zb_0_0, zb_0_1, zb_0_2]
abbrev zb_1_0 : List zI0 := [(4, 1, 1, 0, 0), (3, 1, 0, 0, 100), (21, 1, 0, 0, 0), (0, 0, 1, 0, 0), (1, 0, 5, 4, 5), (30, 3, 1, 0, 0), (0, 0, 1, 0, 0), (4, 2, 1, 0, 0), (12, 0, 5, 4, 5), (10, 4, 0, 0, 0)]
abbrev zb_1_1 : List zI0 := [(4, 1, 1, 0, 0), (3, 1, 0, 0, 117), (21, 2, 0, 0, 0), (0, 0, 1, 0, 0), (1, 0, 6, 5, 6), (30, 3, 1, 0, 0), (0, 0, 1, 0, 0), (4, 2, 1, 0, 0), (12, 0, 6, 5, 6), (10, 4, 0, 0, 0)]
abbrev zb_1_2 : List zI0 := [(4, 1, 1, 0, 0), (3, 1, 0, 0, 115), (21, 3, 0, 0, 0), (0, 0, 1, 0, 0), (1, 0, 7, 6, 7), (30, 3, 1, 0, 0), (0, 0, 1, 0, 0), (4, 2, 1, 0, 0), (12, 0, 7, 6, 7), (10, 4, 0, 0, 0)]
abbrev zb_1_3 : List zI0 := [(0, 0, 1, 0, 0), (1, 0, 8, 7, 8), (30, 3, 1, 0, 0), (0, 0, 1, 0, 0), (4, 2, 1, 0, 0), (12, 0, 8, 7, 8), (111, 4, 0, 0, 0)]
abbrev zb_1_4 : List zI0 := [(4, 3, 1, 0, 0), (9, 0, 0, 0, 0)]
abbrev zc_1 : List (List zI0) := [zb_1_0, zb_1_1, zb_1_2, zb_1_3, zb_1_4]
abbrev zb_2_0 : List zI0 := [(0, 0, 1, 0, 0), (2, 0, 2, 0, 2), (31, 1, 1, 0, 0), (0, 1, 1, 0, 0), (36, 0, 0, 0, 0), (30, 2, 1, 0, 0), (3, 0, 0, 0, 0), (30, 3, 1, 0, 0), (111, 1, 0, 0, 0)]
abbrev zb_2_1 : List zI0 := [(4, 3, 1, 0, 0), (4, 2, 1, 0, 0), (23, 3, 0, 0, 0), (0, 1, 1, 0, 0), (4, 3, 1, 0, 0), (34, 0, 0, 0, 0), (31, 4, 0, 0, 0), (0, 4, 0, 0, 0), (6, 69, 0, 6, 2), (14, 2, 0, 0, 0), (3, 0, 0, 0, 1), (9, 0, 0, 0, 0)]
abbrev zb_2_2 : List zI0 := [(32, 3, 0, 0, 1), (10, 1, 0, 0, 0)]
abbrev zb_2_3 : List zI0 := [(3, 0, 0, 0, 0), (9, 0, 0, 0, 0)]
abbrev zc_2 : List (List zI0) := [zb_2_0, zb_2_1, zb_2_2, zb_2_3]
abbrev zb_3_0 : List zI0 := [(3, 0, 0, 0, 0), (30, 2, 1, 0, 0), (0, 0, 1, 0, 0), (2, 0, 2, 0, 2), (31, 3, 1, 0, 0), (0, 3, 1, 0, 0), (36, 0, 0, 0, 0), (30, 4, 0, 0, 0), (3, 0, 0, 0, 0), (30, 5, 0, 0, 0), (111, 1, 0, 0, 0)]
abbrev zb_3_1 : List zI0 := [(4, 5, 0, 0, 0), (4, 4, 0, 0, 0), (23, 3, 0, 0, 0), (0, 3, 1, 0, 0), (4, 5, 0, 0, 0), (34, 0, 0, 0, 0), (31, 6, 0, 0, 0), (0, 6, 0, 0, 0), (2, 6, 2, 8, 2), (0, 1, 1, 0, 0), (29, 2, 0, 0, 0), (4, 2, 1, 0, 0), (0, 6, 0, 0, 0), (6, 70, 0, 6, 3), (37, 0, 0, 0, 0), (30, 2, 1, 0, 0), (111, 2, 0, 0, 0)]
abbrev zb_3_2 : List zI0 := [(32, 5, 0, 0, 1), (10, 1, 0, 0, 0)]
abbrev zb_3_3 : List zI0 := [(4, 2, 1, 0, 0), (8, 0, 0, 0, 0)]
abbrev zc_3 : List (List zI0) := [zb_3_0, zb_3_1, zb_3_2, zb_3_3]
abbrev zb_4_0 : List zI0 := [(3, 0, 0, 0, 0), (30, 2, 1, 0, 0), (0, 0, 1, 0, 0), (2, 0, 2, 0, 2), (31, 3, 1, 0, 0), (0, 3, 1, 0, 0), (36, 0, 0, 0, 0), (30, 4, 0, 0, 0), (3, 0, 0, 0, 0), (30, 5, 0, 0, 0), (111, 1, 0, 0, 0)]
abbrev zb_4_1 : List zI0 := [(4, 5, 0, 0, 0), (4, 4, 0, 0, 0), (23, 3, 0, 0, 0), (0, 3, 1, 0, 0), (4, 5, 0, 0, 0), (34, 0, 0, 0, 0), (31, 6, 0, 0, 0), (0, 6, 0, 0, 0), (2, 6, 2, 8, 2), (0, 1, 1, 0, 0), (29, 2, 0, 0, 0), (4, 2, 1, 0, 0), (0, 6, 0, 0, 0), (0, 0, 1, 0, 0), (1, 0, 4, 9, 4), (6, 79, 1, 6, 4), (37, 0, 0, 0, 0), (30, 2, 1, 0, 0), (111, 2, 0, 0, 0)]
abbrev zb_4_2 : List zI0 := [(32, 5, 0, 0, 1), (10, 1, 0, 0, 0)]
abbrev zb_4_3 : List zI0 := [(4, 2, 1, 0, 0), (8, 0, 0, 0, 0)]
abbrev zc_4 : List (List zI0) := [zb_4_0, zb_4_1, zb_4_2, zb_4_3]
abbrev zb_5_0 : List zI0 := [(0, 0, 1, 0, 0), (2, 0, 2, 0, 2), (31, 1, 1, 0, 0), (0, 1, 1, 0, 0), (36, 0, 0, 0, 0), (30, 2, 1, 0, 0), (3, 0, 0, 0, 0), (30, 3, 1, 0, 0), (111, 1, 0, 0, 0)]
abbrev zb_5_1 : List zI0 := [(4, 3, 1, 0, 0), (4, 2, 1, 0, 0), (23, 2, 0, 0, 0), (0, 1, 1, 0, 0), (4, 3, 1, 0, 0), (34, 0, 0, 0, 0), (31, 4, 0, 0, 0), (0, 4, 0, 0, 0), (6, 77, 0, 6, 5), (32, 3, 0, 0, 1), (10, 1, 0, 0, 0)]
abbrev zb_5_2 : List zI0 := [(0, 0, 1, 0, 0), (2, 0, 3, 1, 3), (6, 35, 0, 3, 6), (50, 0, 0, 0, 0)]
abbrev zc_5 : List (List zI0) := [zb_5_0, zb_5_1, zb_5_2]
abbrev zb_6_0 : List zI0 := [(3, 0, 0, 0, 0), (30, 1, 1, 0, 0), (111, 1, 0, 0, 0)]
abbrev zb_6_1 : List zI0 := [(4, 1, 1, 0, 0), (0, 0, 1, 0, 0), (2, 0, 2, 0, 2), (36, 0, 0, 0, 0), (23, 3, 0, 0, 0), (0, 0, 1, 0, 0), (2, 0, 2, 0, 2), (4, 1, 1, 0, 0), (34, 0, 0, 0, 0), (6, 73, 0, 6, 7), (26, 2, 0, 0, 0), (4, 1, 1, 0, 0), (8, 0, 0, 0, 0)]
abbrev zb_6_2 : List zI0 := [(32, 1, 0, 0, 1), (10, 1, 0, 0, 0)]
abbrev zb_6_3 : List zI0 := [(3, 0, 0, 0, (-1)), (8, 0, 0, 0, 0)]
abbrev zc_6 : List (List zI0) := [zb_6_0, zb_6_1, zb_6_2, zb_6_3]
abbrev zb_7_0 : List zI0 := [(0, 0, 1, 0, 0), (6, 5, 0, 0, 8), (0, 0, 1, 0, 0), (3, 0, 0, 0, 1), (12, 0, 4, 9, 4), (0, 0, 1, 0, 0), (6, 8, 0, 0, 9), (0, 0, 1, 0, 0), (2, 0, 3, 1, 3), (0, 0, 1, 0, 0), (2, 0, 0, 2, 0), (6, 90, 0, 7, 10), (6, 34, 1, 3, 11), (0, 0, 1, 0, 0), (6, 8, 0, 0, 9), (0, 0, 1, 0, 0), (2, 0, 3, 1, 3), (0, 0, 1, 0, 0), (2, 0, 0, 2, 0), (6, 91, 0, 7, 12), (6, 34, 1, 3, 11), (0, 0, 1, 0, 0), (2, 0, 2, 0, 2), (31, 1, 1, 0, 0), (0, 1, 1, 0, 0), (36, 0, 0, 0, 0), (30, 2, 1, 0, 0), (3, 0, 0, 0, 0), (30, 3, 1, 0, 0), (111, 1, 0, 0, 0)]
abbrev zb_7_1 : List zI0 := [(4, 3, 1, 0, 0), (4, 2, 1, 0, 0), (23, 4, 0, 0, 0), (0, 1, 1, 0, 0), (4, 3, 1, 0, 0), (34, 0, 0, 0, 0), (31, 4, 0, 0, 0), (0, 4, 0, 0, 0), (2, 6, 0, 10, 0), (0, 4, 0, 0, 0), (6, 70, 0, 6, 3), (19, 2, 0, 0, 0), (0, 4, 0, 0, 0), (6, 75, 0, 6, 13), (15, 2, 0, 0, 0), (0, 0, 1, 0, 0), (2, 0, 3, 1, 3), (6, 40, 0, 3, 14), (15, 2, 0, 0, 0), (3, 0, 0, 0, 1), (10, 3, 0, 0, 0)]
abbrev zb_7_2 : List zI0 := [(3, 0, 0, 0, 0), (111, 3, 0, 0, 0)]
abbrev zb_7_3 : List zI0 := [(12, 3, 5, 11, 5), (32, 3, 0, 0, 1), (10, 1, 0, 0, 0)]
abbrev zb_7_4 : List zI0 := [(0, 0, 1, 0, 0), (2, 0, 3, 1, 3), (3, 0, 0, 0, 0), (6, 36, 1, 3, 15), (8, 0, 0, 0, 0)]
abbrev zc_7 : List (List zI0) := [zb_7_0, zb_7_1, zb_7_2, zb_7_3, zb_7_4]
abbrev zb_8_0 : List zI0 := [(0, 0, 1, 0, 0), (2, 0, 2, 0, 2), (31, 1, 1, 0, 0), (0, 1, 1, 0, 0), (36, 0, 0, 0, 0), (30, 2, 1, 0, 0), (3, 0, 0, 0, 0), (30, 3, 1, 0, 0), (111, 1, 0, 0, 0)]
abbrev zb_8_1 : List zI0 := [(4, 3, 1, 0, 0), (4, 2, 1, 0, 0), (23, 3, 0, 0, 0), (0, 1, 1, 0, 0), (4, 3, 1, 0, 0), (34, 0, 0, 0, 0), (31, 4, 0, 0, 0), (0, 4, 0, 0, 0), (6, 70, 0, 6, 3), (19, 2, 0, 0, 0), (0, 4, 0, 0, 0), (2, 6, 0, 10, 0), (0, 0, 1, 0, 0), (2, 0, 0, 2, 0), (6, 90, 0, 7, 10), (6, 34, 1, 3, 11), (111, 2, 0, 0, 0)]
abbrev zb_8_2 : List zI0 := [(32, 3, 0, 0, 1), (10, 1, 0, 0, 0)]
abbrev zb_8_3 : List zI0 := [(50, 0, 0, 0, 0)]
abbrev zc_8 : List (List zI0) := [zb_8_0, zb_8_1, zb_8_2, zb_8_3]
abbrev zb_9_0 : List zI0 := [(0, 1, 1, 0, 0), (0, 0, 1, 0, 0), (2, 0, 0, 2, 0), (6, 90, 0, 7, 10), (6, 34, 1, 3, 11), (0, 1, 1, 0, 0), (6, 37, 0, 3, 16), (30, 2, 1, 0, 0), (4, 2, 1, 0, 0), (3, 1, 0, 0, 21), (25, 1, 0, 0, 0), (0, 0, 1, 0, 0), (2, 0, 1, 3, 1), (0, 1, 1, 0, 0), (6, 41, 0, 3, 17), (6, 103, 1, 8, 18), (10, 2, 0, 0, 0)]
abbrev zb_9_1 : List zI0 := [(4, 2, 1, 0, 0), (3, 1, 0, 0, 21), (21, 2, 0, 0, 0), (0, 1, 1, 0, 0), (3, 0, 0, 0, 0), (12, 3, 5, 11, 5), (111, 2, 0, 0, 0)]
abbrev zb_9_2 : List zI0 := [(4, 2, 1, 0, 0), (8, 0, 0, 0, 0)]
abbrev zc_9 : List (List zI0) := [zb_9_0, zb_9_1, zb_9_2]
abbrev zb_10_0 : List zI0 := [(0, 2, 1, 0, 0), (6, 41, 0, 3, 17), (30, 3, 1, 0, 0), (4, 3, 1, 0, 0), (3, 0, 0, 0, 2), (40, 0, 0, 0, 0), (30, 4, 0, 0, 0), (0, 0, 1, 0, 0), (2, 0, 1, 3, 1), (4, 3, 1, 0, 0), (4, 4, 0, 0, 0), (38, 0, 0, 0, 0), (6, 103, 1, 8, 18), (0, 1, 1, 0, 0), (2, 6, 2, 8, 2), (26, 1, 0, 0, 0), (0, 1, 1, 0, 0), (2, 6, 2, 8, 2), (47, 0, 0, 0, 0), (1, 2, 2, 12, 2), (4, 4, 0, 0, 0), (37, 0, 0, 0, 0), (11, 2, 2, 12, 2), (111, 1, 0, 0, 0)]
abbrev zb_10_1 : List zI0 := [(4, 4, 0, 0, 0), (8, 0, 0, 0, 0)]
abbrev zc_10 : List (List zI0) := [zb_10_0, zb_10_1]
abbrev zb_11_0 : List zI0 := [(0, 0, 1, 0, 0), (1, 0, 4, 9, 4), (14, 1, 0, 0, 0), (0, 0, 1, 0, 0), (6, 6, 0, 0, 19), (16, 2, 0, 0, 0), (111, 1, 0, 0, 0)]
abbrev zb_11_1 : List zI0 := [(50, 0, 0, 0, 0)]
abbrev zb_11_2 : List zI0 := [(0, 0, 1, 0, 0), (2, 0, 0, 2, 0), (6, 92, 0, 7, 20), (0, 0, 1, 0, 0), (6, 12, 0, 0, 21), (0, 0, 1, 0, 0), (2, 0, 2, 0, 2), (31, 1, 1, 0, 0), (0, 1, 1, 0, 0), (36, 0, 0, 0, 0), (30, 2, 1, 0, 0), (3, 0, 0, 0, 0), (30, 3, 1, 0, 0), (111, 3, 0, 0, 0)]
abbrev zb_11_3 : List zI0 := [(4, 3, 1, 0, 0), (4, 2, 1, 0, 0), (23, 4, 0, 0, 0), (0, 1, 1, 0, 0), (4, 3, 1, 0, 0), (34, 0, 0, 0, 0), (31, 4, 0, 0, 0), (0, 0, 1, 0, 0), (0, 4, 0, 0, 0), (0, 4, 0, 0, 0), (2, 6, 0, 10, 0), (6, 14, 2, 0, 22), (0, 0, 1, 0, 0), (0, 4, 0, 0, 0), (0, 4, 0, 0, 0), (2, 6, 1, 13, 1), (6, 14, 2, 0, 22), (0, 4, 0, 0, 0), (6, 78, 0, 6, 23), (32, 3, 0, 0, 1), (10, 3, 0, 0, 0)]
abbrev zb_11_4 : List zI0 := [(0, 0, 1, 0, 0), (3, 0, 0, 0, 0), (12, 0, 4, 9, 4), (50, 0, 0, 0, 0)]
abbrev zc_11 : List (List zI0) := [zb_11_0, zb_11_1, zb_11_2, zb_11_3, zb_11_4]
abbrev zb_12_0 : List zI0 := [(3, 0, 0, 0, 0), (30, 1, 1, 0, 0), (0, 0, 1, 0, 0), (2, 0, 2, 0, 2), (31, 2, 1, 0, 0), (0, 2, 1, 0, 0), (36, 0, 0, 0, 0), (30, 3, 1, 0, 0), (3, 0, 0, 0, 0), (30, 4, 0, 0, 0), (111, 1, 0, 0, 0)]
abbrev zb_12_1 : List zI0 := [(4, 4, 0, 0, 0), (4, 3, 1, 0, 0), (23, 5, 0, 0, 0), (0, 2, 1, 0, 0), (4, 4, 0, 0, 0), (34, 0, 0, 0, 0), (31, 5, 0, 0, 0), (4, 1, 1, 0, 0), (15, 2, 0, 0, 0), (0, 5, 0, 0, 0), (6, 76, 0, 6, 24), (14, 3, 0, 0, 0), (111, 2, 0, 0, 0)]
abbrev zb_12_2 : List zI0 := [(3, 0, 0, 0, 1), (10, 4, 0, 0, 0)]
abbrev zb_12_3 : List zI0 := [(3, 0, 0, 0, 0), (111, 4, 0, 0, 0)]
abbrev zb_12_4 : List zI0 := [(30, 1, 1, 0, 0), (32, 4, 0, 0, 1), (10, 1, 0, 0, 0)]
abbrev zb_12_5 : List zI0 := [(3, 0, 0, 0, 0), (30, 2, 1, 0, 0), (111, 6, 0, 0, 0)]
abbrev zb_12_6 : List zI0 := [(4, 2, 1, 0, 0), (3, 1, 0, 0, 104), (23, 7, 0, 0, 0), (4, 1, 1, 0, 0), (14, 7, 0, 0, 0), (0, 0, 1, 0, 0), (6, 13, 0, 0, 25), (14, 7, 0, 0, 0), (0, 0, 1, 0, 0), (2, 0, 0, 2, 0), (6, 82, 0, 7, 26), (19, 7, 0, 0, 0), (0, 0, 1, 0, 0), (2, 0, 3, 1, 3), (0, 0, 1, 0, 0), (2, 0, 0, 2, 0), (6, 90, 0, 7, 10), (6, 34, 1, 3, 11), (32, 2, 0, 0, 1), (10, 6, 0, 0, 0)]
abbrev zb_12_7 : List zI0 := [(50, 0, 0, 0, 0)]
abbrev zc_12 : List (List zI0) := [zb_12_0, zb_12_1, zb_12_2, zb_12_3, zb_12_4, zb_12_5, zb_12_6, zb_12_7]
abbrev zb_13_0 : List zI0 := [(0, 0, 1, 0, 0), (2, 0, 3, 1, 3), (6, 37, 0, 3, 16), (30, 1, 1, 0, 0), (4, 1, 1, 0, 0), (3, 1, 0, 0, 17), (22, 1, 0, 0, 0), (4, 1, 1, 0, 0), (3, 1, 0, 0, 17), (21, 2, 0, 0, 0), (0, 0, 1, 0, 0), (1, 0, 7, 6, 7), (14, 2, 0, 0, 0), (0, 0, 1, 0, 0), (2, 0, 3, 1, 3), (6, 38, 0, 3, 27), (14, 2, 0, 0, 0), (111, 1, 0, 0, 0)]
abbrev zb_13_1 : List zI0 := [(3, 0, 0, 0, 1), (10, 3, 0, 0, 0)]
abbrev zb_13_2 : List zI0 := [(3, 0, 0, 0, 0), (111, 3, 0, 0, 0)]
abbrev zb_13_3 : List zI0 := [(9, 0, 0, 0, 0)]
abbrev zc_13 : List (List zI0) := [zb_13_0, zb_13_1, zb_13_2, zb_13_3]
abbrev zb_14_0 : List zI0 := [(0, 1, 1, 0, 0), (2, 6, 2, 8, 2), (31, 3, 1, 0, 0), (0, 3, 1, 0, 0), (26, 1, 0, 0, 0), (0, 2, 1, 0, 0), (1, 3, 4, 14, 4), (15, 2, 0, 0, 0), (111, 1, 0, 0, 0)]
abbrev zb_14_1 : List zI0 := [(50, 0, 0, 0, 0)]
abbrev zb_14_2 : List zI0 := [(0, 0, 1, 0, 0), (0, 1, 1, 0, 0), (0, 2, 1, 0, 0), (6, 15, 2, 0, 28), (30, 4, 0, 0, 0), (0, 2, 1, 0, 0), (6, 41, 0, 3, 17), (30, 5, 0, 0, 0), (4, 4, 0, 0, 0), (17, 3, 0, 0, 0), (0, 0, 1, 0, 0), (2, 0, 1, 3, 1), (4, 5, 0, 0, 0), (6, 103, 1, 8, 18), (10, 4, 0, 0, 0)]
abbrev zb_14_3 : List zI0 := [(0, 0, 1, 0, 0), (2, 0, 1, 3, 1), (4, 4, 0, 0, 0), (6, 104, 1, 8, 29), (0, 3, 1, 0, 0), (47, 0, 0, 0, 0), (1, 2, 2, 12, 2), (4, 5, 0, 0, 0), (4, 4, 0, 0, 0), (37, 0, 0, 0, 0), (37, 0, 0, 0, 0), (11, 2, 2, 12, 2), (111, 4, 0, 0, 0)]
abbrev zb_14_4 : List zI0 := [(50, 0, 0, 0, 0)]
abbrev zc_14 : List (List zI0) := [zb_14_0, zb_14_1, zb_14_2, zb_14_3, zb_14_4]
abbrev zb_15_0 : List zI0 := [(0, 1, 1, 0, 0), (6, 75, 0, 6, 13), (14, 3, 0, 0, 0), (0, 0, 1, 0, 0), (2, 0, 3, 1, 3), (6, 40, 0, 3, 14), (14, 1, 0, 0, 0), (3, 0, 0, 0, 0), (10, 2, 0, 0, 0)]
abbrev zb_15_1 : List zI0 := [(0, 0, 1, 0, 0), (0, 2, 1, 0, 0), (1, 3, 4, 14, 4), (6, 16, 1, 0, 30), (111, 2, 0, 0, 0)]
abbrev zb_15_2 : List zI0 := [(8, 0, 0, 0, 0)]
abbrev zb_15_3 : List zI0 := [(0, 2, 1, 0, 0), (6, 37, 0, 3, 16), (30, 3, 1, 0, 0), (0, 0, 1, 0, 0), (2, 0, 3, 1, 3), (6, 37, 0, 3, 16), (30, 4, 0, 0, 0), (4, 4, 0, 0, 0), (3, 1, 0, 0, 21), (24, 4, 0, 0, 0), (4, 3, 1, 0, 0), (4, 4, 0, 0, 0), (25, 5, 0, 0, 0), (111, 4, 0, 0, 0)]
abbrev zb_15_4 : List zI0 := [(0, 2, 1, 0, 0), (1, 3, 4, 14, 4), (8, 0, 0, 0, 0)]
abbrev zb_15_5 : List zI0 := [(4, 3, 1, 0, 0), (4, 4, 0, 0, 0), (21, 6, 0, 0, 0), (3, 0, 0, 0, 0), (10, 7, 0, 0, 0)]
abbrev zb_15_6 : List zI0 := [(3, 0, 0, 0, (-1)), (111, 7, 0, 0, 0)]
abbrev zb_15_7 : List zI0 := [(8, 0, 0, 0, 0)]
abbrev zc_15 : List (List zI0) := [zb_15_0, zb_15_1, zb_15_2, zb_15_3, zb_15_4, zb_15_5, zb_15_6, zb_15_7]
abbrev zb_16_0 : List zI0 := [(0, 0, 1, 0, 0), (1, 0, 8, 7, 8), (14, 1, 0, 0, 0), (0, 0, 1, 0, 0), (47, 0, 0, 0, 0), (1, 0, 9, 15, 9), (4, 1, 1, 0, 0), (3, 1, 0, 0, 6), (39, 0, 0, 0, 0), (3, 0, 0, 0, 5), (41, 0, 0, 0, 0), (3, 0, 0, 0, 2), (39, 0, 0, 0, 0), (37, 0, 0, 0, 0), (11, 0, 9, 15, 9), (4, 1, 1, 0, 0), (3, 1, 0, 0, 6), (39, 0, 0, 0, 0), (3, 0, 0, 0, 5), (40, 0, 0, 0, 0), (8, 0, 0, 0, 0)]
abbrev zb_16_1 : List zI0 := [(0, 0, 1, 0, 0), (47, 0, 0, 0, 0), (1, 0, 9, 15, 9), (4, 1, 1, 0, 0), (3, 0, 0, 0, 3), (39, 0, 0, 0, 0), (3, 0, 0, 0, 2), (41, 0, 0, 0, 0), (3, 0, 0, 0, 5), (39, 0, 0, 0, 0), (37, 0, 0, 0, 0), (11, 0, 9, 15, 9), (4, 1, 1, 0, 0), (3, 0, 0, 0, 3), (39, 0, 0, 0, 0), (3, 0, 0, 0, 2), (40, 0, 0, 0, 0), (8, 0, 0, 0, 0)]
abbrev zc_16 : List (List zI0) := [zb_16_0, zb_16_1]
abbrev zb_17_0 : List zI0 := [(0, 0, 1, 0, 0), (108, 0, 0, 0, 3), (0, 0, 1, 0, 0), (3, 1, 0, 0, 11), (58, 0, 0, 0, 0), (13, 1, 0, 16, 0), (50, 0, 0, 0, 0)]
abbrev zc_17 : List (List zI0) := [zb_17_0]
abbrev zb_18_0 : List zI0 := [(3, 0, 0, 0, 0), (30, 3, 1, 0, 0), (3, 0, 0, 0, 1), (30, 4, 0, 0, 0), (111, 1, 0, 0, 0)]
abbrev zb_18_1 : List zI0 := [(4, 4, 0, 0, 0), (0, 0, 1, 0, 0), (2, 1, 0, 16, 0), (36, 0, 0, 0, 0), (23, 2, 0, 0, 0), (0, 0, 1, 0, 0), (2, 1, 0, 16, 0), (4, 4, 0, 0, 0), (0, 2, 1, 0, 0), (2, 0, 0, 17, 0), (4, 4, 0, 0, 0), (6, 93, 1, 7, 31), (35, 0, 0, 0, 0), (4, 3, 1, 0, 0), (0, 0, 1, 0, 0), (2, 1, 0, 16, 0), (4, 4, 0, 0, 0), (33, 0, 0, 0, 0), (37, 0, 0, 0, 0), (30, 3, 1, 0, 0), (32, 4, 0, 0, 1), (10, 1, 0, 0, 0)]
abbrev zb_18_2 : List zI0 := [(0, 0, 1, 0, 0), (4, 1, 1, 0, 0), (11, 1, 1, 18, 1), (0, 0, 1, 0, 0), (0, 2, 1, 0, 0), (1, 0, 7, 19, 7), (12, 1, 2, 20, 2), (0, 2, 1, 0, 0), (2, 0, 3, 21, 3), (3, 0, 0, 0, 0), (6, 36, 1, 3, 32), (30, 4, 0, 0, 0), (0, 0, 1, 0, 0), (4, 4, 0, 0, 0), (4, 4, 0, 0, 0), (3, 0, 0, 0, 1), (21, 3, 0, 0, 0), (3, 0, 0, 0, 1), (10, 4, 0, 0, 0)]
abbrev zb_18_3 : List zI0 := [(3, 0, 0, 0, 0), (111, 4, 0, 0, 0)]
abbrev zb_18_4 : List zI0 := [(4, 3, 1, 0, 0), (3, 0, 0, 0, 1), (5, 19, 5, 0, 33), (53, 0, 0, 0, 0)]
abbrev zc_18 : List (List zI0) := [zb_18_0, zb_18_1, zb_18_2, zb_18_3, zb_18_4]
abbrev zb_19_0 : List zI0 := [(4, 2, 1, 0, 0), (14, 1, 0, 0, 0), (4, 1, 1, 0, 0), (3, 1, 0, 0, 11), (24, 1, 0, 0, 0), (3, 0, 0, 0, 1), (10, 2, 0, 0, 0)]
abbrev zb_19_1 : List zI0 := [(3, 0, 0, 0, 0), (111, 2, 0, 0, 0)]
abbrev zb_19_2 : List zI0 := [(30, 5, 0, 0, 0), (4, 5, 0, 0, 0), (14, 3, 0, 0, 0), (4, 1, 1, 0, 0), (3, 1, 0, 0, 10), (37, 0, 0, 0, 0), (10, 4, 0, 0, 0)]
abbrev zb_19_3 : List zI0 := [(4, 1, 1, 0, 0), (111, 4, 0, 0, 0)]
abbrev zb_19_4 : List zI0 := [(30, 6, 0, 0, 0), (4, 6, 0, 0, 0), (3, 1, 0, 0, 17), (24, 5, 0, 0, 0), (4, 6, 0, 0, 0), (3, 1, 0, 0, 17), (21, 8, 0, 0, 0), (4, 5, 0, 0, 0), (14, 5, 0, 0, 0), (0, 0, 1, 0, 0), (1, 1, 2, 20, 2), (15, 8, 0, 0, 0), (111, 5, 0, 0, 0)]
abbrev zb_19_5 : List zI0 := [(4, 6, 0, 0, 0), (3, 1, 0, 0, 22), (5, 327, 2, 0, 34), (0, 0, 1, 0, 0), (1, 1, 1, 18, 1), (21, 6, 0, 0, 0), (77, 1, 0, 0, 0), (10, 7, 0, 0, 0)]
abbrev zb_19_6 : List zI0 := [(77, 0, 0, 0, 0), (111, 7, 0, 0, 0)]
abbrev zb_19_7 : List zI0 := [(53, 0, 0, 0, 0)]
abbrev zb_19_8 : List zI0 := [(4, 3, 1, 0, 0), (3, 0, 0, 0, 1), (22, 9, 0, 0, 0), (4, 4, 0, 0, 0), (3, 1, 0, 0, 18), (25, 10, 0, 0, 0), (111, 9, 0, 0, 0)]
abbrev zb_19_9 : List zI0 := [(77, 0, 0, 0, 0), (53, 0, 0, 0, 0)]
abbrev zb_19_10 : List zI0 := [(77, 0, 0, 0, 0), (79, 7, 0, 0, 0), (3, 0, 0, 0, 1), (30, 9, 0, 0, 0), (111, 11, 0, 0, 0)]
abbrev zb_19_11 : List zI0 := [(4, 9, 0, 0, 0), (0, 0, 1, 0, 0), (2, 1, 0, 16, 0), (36, 0, 0, 0, 0), (23, 16, 0, 0, 0), (0, 0, 1, 0, 0), (2, 1, 0, 16, 0), (4, 9, 0, 0, 0), (33, 0, 0, 0, 0), (30, 10, 0, 0, 0), (4, 10, 0, 0, 0), (19, 15, 0, 0, 0), (0, 0, 1, 0, 0), (2, 1, 0, 16, 0), (4, 9, 0, 0, 0), (4, 10, 0, 0, 0), (3, 0, 0, 0, 1), (38, 0, 0, 0, 0), (35, 0, 0, 0, 0), (78, 7, 0, 0, 0), (4, 10, 0, 0, 0), (86, 0, 0, 0, 0), (4, 3, 1, 0, 0), (86, 0, 0, 0, 0), (84, 0, 0, 0, 0), (0, 0, 1, 0, 0), (4, 1, 1, 0, 0), (4, 9, 0, 0, 0), (37, 0, 0, 0, 0), (4, 2, 1, 0, 0), (15, 12, 0, 0, 0), (4, 9, 0, 0, 0), (3, 0, 0, 0, 1), (21, 13, 0, 0, 0), (111, 12, 0, 0, 0)]
abbrev zb_19_12 : List zI0 := [(3, 0, 0, 0, 1), (10, 14, 0, 0, 0)]
abbrev zb_19_13 : List zI0 := [(3, 0, 0, 0, 0), (111, 14, 0, 0, 0)]
abbrev zb_19_14 : List zI0 := [(4, 3, 1, 0, 0), (3, 0, 0, 0, 1), (38, 0, 0, 0, 0), (4, 4, 0, 0, 0), (3, 0, 0, 0, 1), (37, 0, 0, 0, 0), (5, 19, 5, 0, 33), (83, 0, 0, 0, 0), (82, 0, 0, 0, 0), (79, 7, 0, 0, 0), (0, 0, 1, 0, 0), (2, 1, 0, 16, 0), (4, 9, 0, 0, 0), (4, 10, 0, 0, 0), (35, 0, 0, 0, 0), (111, 15, 0, 0, 0)]
abbrev zb_19_15 : List zI0 := [(32, 9, 0, 0, 1), (10, 11, 0, 0, 0)]
abbrev zb_19_16 : List zI0 := [(78, 7, 0, 0, 0), (53, 0, 0, 0, 0)]
abbrev zc_19 : List (List zI0) := [zb_19_0, zb_19_1, zb_19_2, zb_19_3, zb_19_4, zb_19_5, zb_19_6, zb_19_7, zb_19_8, zb_19_9, zb_19_10, zb_19_11, zb_19_12, zb_19_13, zb_19_14, zb_19_15, zb_19_16]
abbrev zb_20_0 : List zI0 := [(0, 0, 1, 0, 0), (108, 0, 0, 0, 1), (0, 0, 1, 0, 0), (3, 0, 0, 0, 4), (58, 0, 0, 0, 0), (13, 2, 0, 22, 0), (0, 0, 1, 0, 0), (3, 2, 0, 0, 5000), (11, 2, 3, 23, 3), (0, 0, 1, 0, 0), (3, 2, 0, 0, 5000), (11, 2, 4, 24, 4), (50, 0, 0, 0, 0)]
abbrev zc_20 : List (List zI0) := [zb_20_0]
abbrev zb_21_0 : List zI0 := [(4, 1, 1, 0, 0), (0, 0, 1, 0, 0), (1, 2, 6, 25, 6), (23, 1, 0, 0, 0), (3, 0, 0, 0, 1), (10, 2, 0, 0, 0)]
abbrev zb_21_1 : List zI0 := [(3, 0, 0, 0, 0), (111, 2, 0, 0, 0)]
abbrev zb_21_2 : List zI0 := [(9, 0, 0, 0, 0)]
abbrev zc_21 : List (List zI0) := [zb_21_0, zb_21_1, zb_21_2]
abbrev zb_22_0 : List zI0 := [(0, 0, 1, 0, 0), (4, 2, 1, 0, 0), (6, 21, 1, 2, 35), (15, 1, 0, 0, 0), (4, 1, 1, 0, 0), (0, 0, 1, 0, 0), (1, 2, 2, 26, 2), (24, 1, 0, 0, 0), (0, 0, 1, 0, 0), (1, 2, 5, 27, 5), (4, 1, 1, 0, 0), (37, 0, 0, 0, 0), (0, 0, 1, 0, 0), (1, 2, 3, 23, 3), (24, 1, 0, 0, 0), (3, 0, 0, 0, 1), (10, 2, 0, 0, 0)]
abbrev zb_22_1 : List zI0 := [(3, 0, 0, 0, 0), (111, 2, 0, 0, 0)]
abbrev zb_22_2 : List zI0 := [(9, 0, 0, 0, 0)]
abbrev zc_22 : List (List zI0) := [zb_22_0, zb_22_1, zb_22_2]
abbrev zb_23_0 : List zI0 := [(0, 0, 1, 0, 0), (47, 0, 0, 0, 0), (1, 2, 2, 26, 2), (4, 1, 1, 0, 0), (38, 0, 0, 0, 0), (11, 2, 2, 26, 2), (0, 0, 1, 0, 0), (47, 0, 0, 0, 0), (1, 2, 5, 27, 5), (4, 1, 1, 0, 0), (37, 0, 0, 0, 0), (11, 2, 5, 27, 5), (50, 0, 0, 0, 0)]
abbrev zc_23 : List (List zI0) := [zb_23_0]
abbrev zb_24_0 : List zI0 := [(0, 0, 1, 0, 0), (47, 0, 0, 0, 0), (1, 2, 1, 28, 1), (4, 1, 1, 0, 0), (38, 0, 0, 0, 0), (11, 2, 1, 28, 1), (0, 0, 1, 0, 0), (47, 0, 0, 0, 0), (1, 2, 2, 26, 2), (4, 1, 1, 0, 0), (37, 0, 0, 0, 0), (11, 2, 2, 26, 2), (0, 0, 1, 0, 0), (1, 2, 7, 29, 7), (3, 2, 0, 0, 1000), (23, 1, 0, 0, 0), (0, 0, 1, 0, 0), (1, 2, 7, 29, 7), (4, 1, 1, 0, 0), (37, 0, 0, 0, 0), (3, 2, 0, 0, 1000), (22, 1, 0, 0, 0), (0, 0, 1, 0, 0), (47, 0, 0, 0, 0), (1, 2, 8, 30, 8), (3, 0, 0, 0, 1), (37, 0, 0, 0, 0), (11, 2, 8, 30, 8), (111, 1, 0, 0, 0)]
abbrev zb_24_1 : List zI0 := [(0, 0, 1, 0, 0), (47, 0, 0, 0, 0), (1, 2, 7, 29, 7), (4, 1, 1, 0, 0), (37, 0, 0, 0, 0), (11, 2, 7, 29, 7), (50, 0, 0, 0, 0)]
abbrev zc_24 : List (List zI0) := [zb_24_0, zb_24_1]
abbrev zb_25_0 : List zI0 := [(0, 0, 1, 0, 0), (4, 1, 1, 0, 0), (11, 2, 4, 24, 4), (4, 1, 1, 0, 0), (0, 0, 1, 0, 0), (1, 2, 3, 23, 3), (23, 1, 0, 0, 0), (0, 0, 1, 0, 0), (4, 1, 1, 0, 0), (11, 2, 3, 23, 3), (111, 1, 0, 0, 0)]
abbrev zb_25_1 : List zI0 := [(50, 0, 0, 0, 0)]
abbrev zc_25 : List (List zI0) := [zb_25_0, zb_25_1]
abbrev zb_26_0 : List zI0 := [(0, 0, 1, 0, 0), (0, 0, 1, 0, 0), (1, 2, 4, 24, 4), (11, 2, 3, 23, 3), (0, 0, 1, 0, 0), (3, 0, 0, 0, 0), (11, 2, 5, 27, 5), (0, 0, 1, 0, 0), (3, 0, 0, 0, 0), (11, 2, 7, 29, 7), (50, 0, 0, 0, 0)]
abbrev zc_26 : List (List zI0) := [zb_26_0]
abbrev zb_27_0 : List zI0 := [(4, 2, 1, 0, 0), (14, 1, 0, 0, 0), (0, 0, 1, 0, 0), (47, 0, 0, 0, 0), (1, 2, 9, 31, 9), (3, 0, 0, 0, 1), (37, 0, 0, 0, 0), (11, 2, 9, 31, 9), (0, 0, 1, 0, 0), (47, 0, 0, 0, 0), (1, 2, 10, 32, 10), (4, 1, 1, 0, 0), (37, 0, 0, 0, 0), (11, 2, 10, 32, 10), (10, 2, 0, 0, 0)]
abbrev zb_27_1 : List zI0 := [(0, 0, 1, 0, 0), (47, 0, 0, 0, 0), (1, 2, 11, 33, 11), (3, 0, 0, 0, 1), (37, 0, 0, 0, 0), (11, 2, 11, 33, 11), (0, 0, 1, 0, 0), (47, 0, 0, 0, 0), (1, 2, 12, 34, 12), (4, 1, 1, 0, 0), (37, 0, 0, 0, 0), (11, 2, 12, 34, 12), (111, 2, 0, 0, 0)]
abbrev zb_27_2 : List zI0 := [(50, 0, 0, 0, 0)]
abbrev zc_27 : List (List zI0) := [zb_27_0, zb_27_1, zb_27_2]
abbrev zb_28_0 : List zI0 := [(0, 0, 1, 0, 0), (1, 2, 9, 31, 9), (3, 0, 0, 0, 3), (22, 1, 0, 0, 0), (0, 0, 1, 0, 0), (1, 2, 11, 33, 11), (3, 0, 0, 0, 3), (22, 1, 0, 0, 0), (0, 0, 1, 0, 0), (1, 2, 10, 32, 10), (65, 0, 0, 0, 0), (0, 0, 1, 0, 0), (1, 2, 11, 33, 11), (65, 0, 0, 0, 0), (69, 0, 0, 0, 0), (64, 1, 0, 0, 3), (0, 0, 1, 0, 0), (1, 2, 12, 34, 12), (65, 0, 0, 0, 0), (69, 0, 0, 0, 0), (0, 0, 1, 0, 0), (1, 2, 9, 31, 9), (65, 0, 0, 0, 0), (69, 0, 0, 0, 0), (72, 0, 0, 0, 0), (16, 1, 0, 0, 0), (3, 0, 0, 0, 1), (10, 2, 0, 0, 0)]
abbrev zb_28_1 : List zI0 := [(3, 0, 0, 0, 0), (111, 2, 0, 0, 0)]
abbrev zb_28_2 : List zI0 := [(9, 0, 0, 0, 0)]
abbrev zc_28 : List (List zI0) := [zb_28_0, zb_28_1, zb_28_2]
abbrev zb_29_0 : List zI0 := [(4, 1, 1, 0, 0), (3, 0, 0, 0, 4), (5, 325, 2, 0, 36), (30, 3, 1, 0, 0), (4, 3, 1, 0, 0), (16, 1, 0, 0, 0), (4, 3, 1, 0, 0), (0, 0, 1, 0, 0), (2, 2, 0, 22, 0), (36, 0, 0, 0, 0), (23, 1, 0, 0, 0), (0, 0, 1, 0, 0), (2, 2, 0, 22, 0), (4, 3, 1, 0, 0), (48, 0, 0, 0, 0), (33, 0, 0, 0, 0), (4, 2, 1, 0, 0), (37, 0, 0, 0, 0), (35, 0, 0, 0, 0), (111, 1, 0, 0, 0)]
abbrev zb_29_1 : List zI0 := [(50, 0, 0, 0, 0)]
abbrev zc_29 : List (List zI0) := [zb_29_0, zb_29_1]
abbrev zb_30_0 : List zI0 := [(4, 1, 1, 0, 0), (3, 0, 0, 0, 4), (5, 325, 2, 0, 36), (30, 2, 1, 0, 0), (4, 2, 1, 0, 0), (16, 1, 0, 0, 0), (4, 2, 1, 0, 0), (0, 0, 1, 0, 0), (2, 2, 0, 22, 0), (36, 0, 0, 0, 0), (22, 2, 0, 0, 0), (111, 1, 0, 0, 0)]
abbrev zb_30_1 : List zI0 := [(3, 0, 0, 0, 0), (8, 0, 0, 0, 0)]
abbrev zb_30_2 : List zI0 := [(0, 0, 1, 0, 0), (2, 2, 0, 22, 0), (4, 2, 1, 0, 0), (33, 0, 0, 0, 0), (30, 3, 1, 0, 0), (0, 0, 1, 0, 0), (2, 2, 0, 22, 0), (4, 2, 1, 0, 0), (3, 0, 0, 0, 0), (35, 0, 0, 0, 0), (4, 3, 1, 0, 0), (8, 0, 0, 0, 0)]
abbrev zc_30 : List (List zI0) := [zb_30_0, zb_30_1, zb_30_2]
abbrev zb_31_0 : List zI0 := [(3, 0, 0, 0, 0), (30, 1, 1, 0, 0), (0, 0, 1, 0, 0), (2, 2, 0, 22, 0), (31, 2, 1, 0, 0), (0, 2, 1, 0, 0), (36, 0, 0, 0, 0), (30, 3, 1, 0, 0), (3, 0, 0, 0, 0), (30, 4, 0, 0, 0), (111, 1, 0, 0, 0)]
abbrev zb_31_1 : List zI0 := [(4, 4, 0, 0, 0), (4, 3, 1, 0, 0), (23, 2, 0, 0, 0), (0, 2, 1, 0, 0), (4, 4, 0, 0, 0), (33, 0, 0, 0, 0), (30, 5, 0, 0, 0), (4, 1, 1, 0, 0), (4, 5, 0, 0, 0), (37, 0, 0, 0, 0), (30, 1, 1, 0, 0), (32, 4, 0, 0, 1), (10, 1, 0, 0, 0)]
abbrev zb_31_2 : List zI0 := [(4, 1, 1, 0, 0), (8, 0, 0, 0, 0)]
abbrev zc_31 : List (List zI0) := [zb_31_0, zb_31_1, zb_31_2]
abbrev zb_32_0 : List zI0 := [(0, 0, 1, 0, 0), (2, 2, 0, 22, 0), (3, 0, 0, 0, 0), (5, 328, 2, 0, 37), (50, 0, 0, 0, 0)]
abbrev zc_32 : List (List zI0) := [zb_32_0]
abbrev zb_33_0 : List zI0 := [(0, 0, 1, 0, 0), (108, 0, 0, 0, 1), (0, 0, 1, 0, 0), (3, 1, 0, 0, 22), (58, 0, 0, 0, 0), (13, 3, 0, 35, 0), (50, 0, 0, 0, 0)]
abbrev zc_33 : List (List zI0) := [zb_33_0]
abbrev zb_34_0 : List zI0 := [(0, 0, 1, 0, 0), (1, 3, 1, 36, 1), (16, 4, 0, 0, 0), (0, 0, 1, 0, 0), (1, 3, 1, 36, 1), (0, 0, 1, 0, 0), (2, 3, 0, 35, 0), (36, 0, 0, 0, 0), (23, 4, 0, 0, 0), (0, 0, 1, 0, 0), (2, 3, 0, 35, 0), (0, 0, 1, 0, 0), (1, 3, 1, 36, 1), (4, 1, 1, 0, 0), (35, 0, 0, 0, 0), (0, 0, 1, 0, 0), (47, 0, 0, 0, 0), (1, 3, 1, 36, 1), (3, 0, 0, 0, 1), (37, 0, 0, 0, 0), (11, 3, 1, 36, 1), (0, 0, 1, 0, 0), (47, 0, 0, 0, 0), (1, 3, 2, 37, 2), (4, 1, 1, 0, 0), (37, 0, 0, 0, 0), (11, 3, 2, 37, 2), (0, 0, 1, 0, 0), (0, 0, 1, 0, 0), (1, 3, 3, 38, 3), (15, 1, 0, 0, 0), (4, 1, 1, 0, 0), (3, 0, 0, 0, 1), (21, 2, 0, 0, 0), (111, 1, 0, 0, 0)]
abbrev zb_34_1 : List zI0 := [(3, 0, 0, 0, 1), (10, 3, 0, 0, 0)]
abbrev zb_34_2 : List zI0 := [(3, 0, 0, 0, 0), (111, 3, 0, 0, 0)]
abbrev zb_34_3 : List zI0 := [(12, 3, 3, 38, 3), (111, 4, 0, 0, 0)]
abbrev zb_34_4 : List zI0 := [(50, 0, 0, 0, 0)]
abbrev zc_34 : List (List zI0) := [zb_34_0, zb_34_1, zb_34_2, zb_34_3, zb_34_4]
abbrev zb_35_0 : List zI0 := [(0, 0, 1, 0, 0), (3, 0, 0, 0, 0), (11, 3, 1, 36, 1), (0, 0, 1, 0, 0), (3, 0, 0, 0, 0), (11, 3, 2, 37, 2), (0, 0, 1, 0, 0), (3, 0, 0, 0, 0), (12, 3, 3, 38, 3), (50, 0, 0, 0, 0)]
abbrev zc_35 : List (List zI0) := [zb_35_0]
abbrev zb_36_0 : List zI0 := [(4, 1, 1, 0, 0), (16, 1, 0, 0, 0), (4, 1, 1, 0, 0), (0, 0, 1, 0, 0), (1, 3, 1, 36, 1), (23, 1, 0, 0, 0), (4, 1, 1, 0, 0), (0, 0, 1, 0, 0), (2, 3, 0, 35, 0), (36, 0, 0, 0, 0), (23, 1, 0, 0, 0), (0, 0, 1, 0, 0), (2, 3, 0, 35, 0), (4, 1, 1, 0, 0), (33, 0, 0, 0, 0), (10, 2, 0, 0, 0)]
abbrev zb_36_1 : List zI0 := [(3, 0, 0, 0, 0), (111, 2, 0, 0, 0)]
abbrev zb_36_2 : List zI0 := [(8, 0, 0, 0, 0)]
abbrev zc_36 : List (List zI0) := [zb_36_0, zb_36_1, zb_36_2]
abbrev zb_37_0 : List zI0 := [(0, 0, 1, 0, 0), (1, 3, 3, 38, 3), (14, 1, 0, 0, 0), (0, 0, 1, 0, 0), (1, 3, 2, 37, 2), (3, 1, 0, 0, 11), (24, 1, 0, 0, 0), (0, 0, 1, 0, 0), (1, 3, 2, 37, 2), (3, 1, 0, 0, 10), (37, 0, 0, 0, 0), (10, 2, 0, 0, 0)]
abbrev zb_37_1 : List zI0 := [(0, 0, 1, 0, 0), (1, 3, 2, 37, 2), (111, 2, 0, 0, 0)]
abbrev zb_37_2 : List zI0 := [(8, 0, 0, 0, 0)]
abbrev zc_37 : List (List zI0) := [zb_37_0, zb_37_1, zb_37_2]
abbrev zb_38_0 : List zI0 := [(0, 0, 1, 0, 0), (6, 37, 0, 3, 38), (0, 0, 1, 0, 0), (1, 3, 2, 37, 2), (25, 1, 0, 0, 0), (3, 0, 0, 0, 1), (10, 2, 0, 0, 0)]
abbrev zb_38_1 : List zI0 := [(3, 0, 0, 0, 0), (111, 2, 0, 0, 0)]
abbrev zb_38_2 : List zI0 := [(9, 0, 0, 0, 0)]
abbrev zc_38 : List (List zI0) := [zb_38_0, zb_38_1, zb_38_2]
abbrev zb_39_0 : List zI0 := [(0, 0, 1, 0, 0), (1, 3, 1, 36, 1), (3, 0, 0, 0, 2), (21, 1, 0, 0, 0), (0, 0, 1, 0, 0), (3, 0, 0, 0, 0), (6, 36, 1, 3, 39), (0, 0, 1, 0, 0), (3, 0, 0, 0, 1), (6, 36, 1, 3, 39), (21, 1, 0, 0, 0), (3, 0, 0, 0, 1), (10, 2, 0, 0, 0)]
abbrev zb_39_1 : List zI0 := [(3, 0, 0, 0, 0), (111, 2, 0, 0, 0)]
abbrev zb_39_2 : List zI0 := [(9, 0, 0, 0, 0)]
abbrev zc_39 : List (List zI0) := [zb_39_0, zb_39_1, zb_39_2]
abbrev zb_40_0 : List zI0 := [(0, 0, 1, 0, 0), (1, 3, 1, 36, 1), (3, 0, 0, 0, 2), (21, 1, 0, 0, 0), (0, 0, 1, 0, 0), (6, 37, 0, 3, 38), (3, 1, 0, 0, 21), (21, 1, 0, 0, 0), (3, 0, 0, 0, 1), (10, 2, 0, 0, 0)]
abbrev zb_40_1 : List zI0 := [(3, 0, 0, 0, 0), (111, 2, 0, 0, 0)]
abbrev zb_40_2 : List zI0 := [(9, 0, 0, 0, 0)]
abbrev zc_40 : List (List zI0) := [zb_40_0, zb_40_1, zb_40_2]
abbrev zb_41_0 : List zI0 := [(0, 0, 1, 0, 0), (1, 3, 4, 39, 4), (30, 1, 1, 0, 0), (0, 0, 1, 0, 0), (3, 0, 0, 0, 0), (11, 3, 4, 39, 4), (0, 0, 1, 0, 0), (3, 0, 0, 0, 0), (12, 3, 5, 40, 5), (0, 0, 1, 0, 0), (3, 0, 0, 0, 1), (12, 3, 6, 41, 6), (4, 1, 1, 0, 0), (8, 0, 0, 0, 0)]
abbrev zc_41 : List (List zI0) := [zb_41_0]
abbrev zb_42_0 : List zI0 := [(0, 0, 1, 0, 0), (1, 3, 4, 39, 4), (30, 2, 1, 0, 0), (4, 1, 1, 0, 0), (14, 1, 0, 0, 0), (4, 2, 1, 0, 0), (19, 1, 0, 0, 0), (0, 0, 1, 0, 0), (6, 35, 0, 3, 40), (111, 1, 0, 0, 0)]
abbrev zb_42_1 : List zI0 := [(0, 0, 1, 0, 0), (3, 0, 0, 0, 0), (11, 3, 4, 39, 4), (0, 0, 1, 0, 0), (3, 0, 0, 0, 0), (12, 3, 5, 40, 5), (4, 2, 1, 0, 0), (8, 0, 0, 0, 0)]
abbrev zc_42 : List (List zI0) := [zb_42_0, zb_42_1]
abbrev zb_43_0 : List zI0 := [(0, 0, 1, 0, 0), (108, 0, 0, 0, 1), (0, 0, 1, 0, 0), (3, 1, 0, 0, 12), (59, 2, 3, 0, 0), (13, 4, 0, 42, 0), (0, 0, 1, 0, 0), (3, 1, 0, 0, 12), (58, 0, 0, 0, 0), (13, 4, 1, 43, 1), (50, 0, 0, 0, 0)]
abbrev zc_43 : List (List zI0) := [zb_43_0]
abbrev zb_44_0 : List zI0 := [(4, 0, 1, 0, 0), (16, 1, 0, 0, 0), (4, 0, 1, 0, 0), (3, 2, 0, 0, 999), (25, 2, 0, 0, 0), (111, 1, 0, 0, 0)]
abbrev zb_44_1 : List zI0 := [(3, 0, 0, 0, 0), (8, 0, 0, 0, 0)]
abbrev zb_44_2 : List zI0 := [(3, 0, 0, 0, 1), (4, 0, 1, 0, 0), (3, 1, 0, 0, 100), (40, 0, 0, 0, 0), (44, 0, 0, 0, 0), (3, 0, 0, 0, 1), (4, 0, 1, 0, 0), (3, 1, 0, 0, 10), (40, 0, 0, 0, 0), (3, 1, 0, 0, 10), (41, 0, 0, 0, 0), (44, 0, 0, 0, 0), (43, 0, 0, 0, 0), (3, 0, 0, 0, 1), (4, 0, 1, 0, 0), (3, 1, 0, 0, 10), (41, 0, 0, 0, 0), (44, 0, 0, 0, 0), (43, 0, 0, 0, 0), (30, 1, 1, 0, 0), (4, 1, 1, 0, 0), (5, 324, 1, 0, 41), (3, 0, 0, 0, 3), (21, 3, 0, 0, 0), (4, 1, 1, 0, 0), (10, 4, 0, 0, 0)]
abbrev zb_44_3 : List zI0 := [(3, 0, 0, 0, 0), (111, 4, 0, 0, 0)]
abbrev zb_44_4 : List zI0 := [(8, 0, 0, 0, 0)]
abbrev zc_44 : List (List zI0) := [zb_44_0, zb_44_1, zb_44_2, zb_44_3, zb_44_4]
abbrev zb_45_0 : List zI0 := [(0, 0, 1, 0, 0), (1, 4, 2, 44, 2), (3, 1, 0, 0, 12), (22, 1, 0, 0, 0), (3, 0, 0, 0, 1), (10, 2, 0, 0, 0)]
abbrev zb_45_1 : List zI0 := [(3, 0, 0, 0, 0), (111, 2, 0, 0, 0)]
abbrev zb_45_2 : List zI0 := [(9, 0, 0, 0, 0)]
abbrev zc_45 : List (List zI0) := [zb_45_0, zb_45_1, zb_45_2]
abbrev zb_46_0 : List zI0 := [(0, 0, 1, 0, 0), (1, 4, 3, 45, 3), (14, 1, 0, 0, 0), (3, 0, 0, 0, 1), (10, 2, 0, 0, 0)]
abbrev zb_46_1 : List zI0 := [(3, 0, 0, 0, 0), (111, 2, 0, 0, 0)]
abbrev zb_46_2 : List zI0 := [(9, 0, 0, 0, 0)]
abbrev zc_46 : List (List zI0) := [zb_46_0, zb_46_1, zb_46_2]
abbrev zb_47_0 : List zI0 := [(0, 0, 1, 0, 0), (1, 4, 2, 44, 2), (16, 1, 0, 0, 0), (0, 0, 1, 0, 0), (1, 4, 2, 44, 2), (3, 1, 0, 0, 12), (23, 1, 0, 0, 0), (0, 0, 1, 0, 0), (2, 4, 0, 42, 0), (0, 0, 1, 0, 0), (1, 4, 2, 44, 2), (0, 1, 1, 0, 0), (62, 0, 0, 0, 0), (0, 0, 1, 0, 0), (2, 4, 1, 43, 1), (0, 0, 1, 0, 0), (1, 4, 2, 44, 2), (4, 2, 1, 0, 0), (35, 0, 0, 0, 0), (0, 0, 1, 0, 0), (47, 0, 0, 0, 0), (1, 4, 2, 44, 2), (3, 0, 0, 0, 1), (37, 0, 0, 0, 0), (11, 4, 2, 44, 2), (0, 0, 1, 0, 0), (47, 0, 0, 0, 0), (1, 4, 4, 46, 4), (3, 0, 0, 0, 2), (37, 0, 0, 0, 0), (11, 4, 4, 46, 4), (111, 1, 0, 0, 0)]
abbrev zb_47_1 : List zI0 := [(50, 0, 0, 0, 0)]
abbrev zc_47 : List (List zI0) := [zb_47_0, zb_47_1]
abbrev zb_48_0 : List zI0 := [(4, 1, 1, 0, 0), (16, 1, 0, 0, 0), (4, 1, 1, 0, 0), (3, 1, 0, 0, 12), (23, 1, 0, 0, 0), (0, 0, 1, 0, 0), (2, 4, 0, 42, 0), (4, 1, 1, 0, 0), (34, 0, 0, 0, 0), (27, 2, 0, 0, 0), (111, 1, 0, 0, 0)]
abbrev zb_48_1 : List zI0 := [(3, 0, 0, 0, 0), (8, 0, 0, 0, 0)]
abbrev zb_48_2 : List zI0 := [(0, 0, 1, 0, 0), (2, 4, 1, 43, 1), (4, 1, 1, 0, 0), (33, 0, 0, 0, 0), (0, 0, 1, 0, 0), (1, 4, 3, 45, 3), (42, 0, 0, 0, 0), (5, 324, 1, 0, 41), (8, 0, 0, 0, 0)]
abbrev zc_48 : List (List zI0) := [zb_48_0, zb_48_1, zb_48_2]
abbrev zb_49_0 : List zI0 := [(3, 0, 0, 0, 0), (30, 2, 1, 0, 0), (3, 0, 0, 0, 0), (30, 3, 1, 0, 0), (111, 1, 0, 0, 0)]
abbrev zb_49_1 : List zI0 := [(4, 3, 1, 0, 0), (0, 0, 1, 0, 0), (1, 4, 2, 44, 2), (23, 3, 0, 0, 0), (0, 0, 1, 0, 0), (4, 3, 1, 0, 0), (6, 48, 1, 4, 42), (4, 1, 1, 0, 0), (21, 2, 0, 0, 0), (32, 2, 0, 0, 1), (111, 2, 0, 0, 0)]
abbrev zb_49_2 : List zI0 := [(32, 3, 0, 0, 1), (10, 1, 0, 0, 0)]
abbrev zb_49_3 : List zI0 := [(4, 2, 1, 0, 0), (8, 0, 0, 0, 0)]
abbrev zc_49 : List (List zI0) := [zb_49_0, zb_49_1, zb_49_2, zb_49_3]
abbrev zb_50_0 : List zI0 := [(0, 0, 1, 0, 0), (3, 0, 0, 0, 3), (0, 0, 1, 0, 0), (1, 4, 4, 46, 4), (3, 1, 0, 0, 6), (39, 0, 0, 0, 0), (3, 1, 0, 0, 10), (40, 0, 0, 0, 0), (4, 1, 1, 0, 0), (6, 51, 3, 4, 43), (0, 0, 1, 0, 0), (3, 0, 0, 0, 2), (0, 0, 1, 0, 0), (1, 4, 4, 46, 4), (3, 0, 0, 0, 2), (39, 0, 0, 0, 0), (3, 1, 0, 0, 10), (40, 0, 0, 0, 0), (4, 1, 1, 0, 0), (6, 51, 3, 4, 43), (37, 0, 0, 0, 0), (30, 2, 1, 0, 0), (0, 0, 1, 0, 0), (47, 0, 0, 0, 0), (1, 4, 4, 46, 4), (4, 2, 1, 0, 0), (38, 0, 0, 0, 0), (11, 4, 4, 46, 4), (0, 0, 1, 0, 0), (3, 0, 0, 0, 0), (11, 4, 2, 44, 2), (0, 0, 1, 0, 0), (3, 0, 0, 0, 0), (11, 4, 3, 45, 3), (4, 2, 1, 0, 0), (8, 0, 0, 0, 0)]
abbrev zc_50 : List (List zI0) := [zb_50_0]
abbrev zb_51_0 : List zI0 := [(0, 0, 1, 0, 0), (4, 1, 1, 0, 0), (6, 49, 1, 4, 44), (30, 4, 0, 0, 0), (4, 4, 0, 0, 0), (15, 1, 0, 0, 0), (3, 0, 0, 0, 0), (8, 0, 0, 0, 0)]
abbrev zb_51_1 : List zI0 := [(4, 2, 1, 0, 0), (4, 4, 0, 0, 0), (40, 0, 0, 0, 0), (30, 5, 0, 0, 0), (3, 0, 0, 0, 0), (30, 6, 0, 0, 0), (111, 2, 0, 0, 0)]
abbrev zb_51_2 : List zI0 := [(4, 6, 0, 0, 0), (0, 0, 1, 0, 0), (1, 4, 2, 44, 2), (23, 4, 0, 0, 0), (4, 6, 0, 0, 0), (3, 1, 0, 0, 12), (23, 4, 0, 0, 0), (0, 0, 1, 0, 0), (2, 4, 0, 42, 0), (4, 6, 0, 0, 0), (34, 0, 0, 0, 0), (31, 7, 0, 0, 0), (0, 7, 0, 0, 0), (26, 3, 0, 0, 0), (0, 0, 1, 0, 0), (4, 6, 0, 0, 0), (6, 48, 1, 4, 42), (4, 1, 1, 0, 0), (21, 3, 0, 0, 0), (0, 7, 0, 0, 0), (4, 3, 1, 0, 0), (4, 5, 0, 0, 0), (6, 29, 2, 2, 45), (111, 3, 0, 0, 0)]
abbrev zb_51_3 : List zI0 := [(32, 6, 0, 0, 1), (10, 2, 0, 0, 0)]
abbrev zb_51_4 : List zI0 := [(4, 5, 0, 0, 0), (4, 4, 0, 0, 0), (39, 0, 0, 0, 0), (8, 0, 0, 0, 0)]
abbrev zc_51 : List (List zI0) := [zb_51_0, zb_51_1, zb_51_2, zb_51_3, zb_51_4]
abbrev zb_52_0 : List zI0 := [(3, 0, 0, 0, 0), (30, 2, 1, 0, 0), (111, 1, 0, 0, 0)]
abbrev zb_52_1 : List zI0 := [(4, 2, 1, 0, 0), (0, 0, 1, 0, 0), (1, 4, 2, 44, 2), (23, 3, 0, 0, 0), (4, 2, 1, 0, 0), (3, 1, 0, 0, 12), (23, 3, 0, 0, 0), (0, 0, 1, 0, 0), (2, 4, 0, 42, 0), (4, 2, 1, 0, 0), (34, 0, 0, 0, 0), (0, 1, 1, 0, 0), (29, 2, 0, 0, 0), (0, 0, 1, 0, 0), (2, 4, 0, 42, 0), (4, 2, 1, 0, 0), (105, 0, 0, 0, 0), (62, 0, 0, 0, 0), (111, 2, 0, 0, 0)]
abbrev zb_52_2 : List zI0 := [(32, 2, 0, 0, 1), (10, 1, 0, 0, 0)]
abbrev zb_52_3 : List zI0 := [(0, 0, 1, 0, 0), (47, 0, 0, 0, 0), (1, 4, 4, 46, 4), (0, 1, 1, 0, 0), (6, 31, 0, 2, 46), (37, 0, 0, 0, 0), (11, 4, 4, 46, 4), (0, 1, 1, 0, 0), (6, 32, 0, 2, 47), (50, 0, 0, 0, 0)]
abbrev zc_52 : List (List zI0) := [zb_52_0, zb_52_1, zb_52_2, zb_52_3]
abbrev zb_53_0 : List zI0 := [(0, 0, 1, 0, 0), (108, 0, 0, 0, 3), (0, 0, 1, 0, 0), (3, 1, 0, 0, 24), (58, 0, 0, 0, 0), (13, 5, 1, 47, 1), (0, 0, 1, 0, 0), (3, 0, 0, 0, 5), (58, 0, 0, 0, 0), (13, 5, 2, 48, 2), (0, 0, 1, 0, 0), (3, 2, 0, 0, 500), (11, 5, 4, 49, 4), (0, 0, 1, 0, 0), (0, 1, 1, 0, 0), (13, 5, 0, 50, 0), (0, 0, 1, 0, 0), (2, 5, 1, 47, 1), (3, 0, 0, 0, 4), (5, 328, 2, 0, 48), (50, 0, 0, 0, 0)]
abbrev zc_53 : List (List zI0) := [zb_53_0]
abbrev zb_54_0 : List zI0 := [(4, 0, 1, 0, 0), (3, 1, 0, 0, 8), (3, 0, 0, 0, 4), (5, 56, 3, 0, 49), (9, 0, 0, 0, 0)]
abbrev zc_54 : List (List zI0) := [zb_54_0]
abbrev zb_55_0 : List zI0 := [(4, 0, 1, 0, 0), (3, 0, 0, 0, 3), (3, 1, 0, 0, 7), (5, 56, 3, 0, 49), (9, 0, 0, 0, 0)]
abbrev zc_55 : List (List zI0) := [zb_55_0]
abbrev zb_56_0 : List zI0 := [(4, 0, 1, 0, 0), (30, 3, 1, 0, 0), (3, 0, 0, 0, 0), (30, 4, 0, 0, 0), (111, 1, 0, 0, 0)]
abbrev zb_56_1 : List zI0 := [(4, 4, 0, 0, 0), (4, 1, 1, 0, 0), (23, 4, 0, 0, 0), (4, 3, 1, 0, 0), (16, 2, 0, 0, 0), (4, 3, 1, 0, 0), (3, 1, 0, 0, 10), (41, 0, 0, 0, 0), (4, 2, 1, 0, 0), (25, 3, 0, 0, 0), (111, 2, 0, 0, 0)]
abbrev zb_56_2 : List zI0 := [(3, 0, 0, 0, 0), (9, 0, 0, 0, 0)]
abbrev zb_56_3 : List zI0 := [(4, 3, 1, 0, 0), (3, 1, 0, 0, 10), (40, 0, 0, 0, 0), (30, 3, 1, 0, 0), (32, 4, 0, 0, 1), (10, 1, 0, 0, 0)]
abbrev zb_56_4 : List zI0 := [(4, 3, 1, 0, 0), (15, 5, 0, 0, 0), (3, 0, 0, 0, 1), (10, 6, 0, 0, 0)]
abbrev zb_56_5 : List zI0 := [(3, 0, 0, 0, 0), (111, 6, 0, 0, 0)]
abbrev zb_56_6 : List zI0 := [(9, 0, 0, 0, 0)]
abbrev zc_56 : List (List zI0) := [zb_56_0, zb_56_1, zb_56_2, zb_56_3, zb_56_4, zb_56_5, zb_56_6]
abbrev zb_57_0 : List zI0 := [(0, 0, 1, 0, 0), (2, 5, 5, 51, 5), (26, 1, 0, 0, 0), (0, 0, 1, 0, 0), (1, 5, 7, 52, 7), (15, 1, 0, 0, 0), (3, 0, 0, 0, 1), (10, 2, 0, 0, 0)]
abbrev zb_57_1 : List zI0 := [(3, 0, 0, 0, 0), (111, 2, 0, 0, 0)]
abbrev zb_57_2 : List zI0 := [(9, 0, 0, 0, 0)]
abbrev zc_57 : List (List zI0) := [zb_57_0, zb_57_1, zb_57_2]
abbrev zb_58_0 : List zI0 := [(0, 0, 1, 0, 0), (2, 5, 5, 51, 5), (0, 1, 1, 0, 0), (29, 1, 0, 0, 0), (0, 0, 1, 0, 0), (1, 5, 6, 53, 6), (10, 2, 0, 0, 0)]
abbrev zb_58_1 : List zI0 := [(3, 0, 0, 0, 0), (111, 2, 0, 0, 0)]
abbrev zb_58_2 : List zI0 := [(8, 0, 0, 0, 0)]
abbrev zc_58 : List (List zI0) := [zb_58_0, zb_58_1, zb_58_2]
abbrev zb_59_0 : List zI0 := [(4, 1, 1, 0, 0), (3, 1, 0, 0, 8), (39, 0, 0, 0, 0), (4, 2, 1, 0, 0), (37, 0, 0, 0, 0), (30, 3, 1, 0, 0), (4, 3, 1, 0, 0), (16, 1, 0, 0, 0), (4, 3, 1, 0, 0), (0, 0, 1, 0, 0), (2, 5, 1, 47, 1), (36, 0, 0, 0, 0), (23, 1, 0, 0, 0), (0, 0, 1, 0, 0), (2, 5, 1, 47, 1), (4, 3, 1, 0, 0), (33, 0, 0, 0, 0), (10, 2, 0, 0, 0)]
abbrev zb_59_1 : List zI0 := [(3, 0, 0, 0, 0), (111, 2, 0, 0, 0)]
abbrev zb_59_2 : List zI0 := [(8, 0, 0, 0, 0)]
abbrev zc_59 : List (List zI0) := [zb_59_0, zb_59_1, zb_59_2]
abbrev zb_60_0 : List zI0 := [(4, 1, 1, 0, 0), (16, 1, 0, 0, 0), (4, 1, 1, 0, 0), (0, 0, 1, 0, 0), (2, 5, 2, 48, 2), (36, 0, 0, 0, 0), (23, 1, 0, 0, 0), (0, 0, 1, 0, 0), (2, 5, 2, 48, 2), (4, 1, 1, 0, 0), (33, 0, 0, 0, 0), (10, 2, 0, 0, 0)]
abbrev zb_60_1 : List zI0 := [(3, 0, 0, 0, 0), (111, 2, 0, 0, 0)]
abbrev zb_60_2 : List zI0 := [(8, 0, 0, 0, 0)]
abbrev zc_60 : List (List zI0) := [zb_60_0, zb_60_1, zb_60_2]
abbrev zb_61_0 : List zI0 := [(3, 0, 0, 0, 0), (30, 3, 1, 0, 0), (4, 2, 1, 0, 0), (30, 4, 0, 0, 0), (3, 1, 0, 0, 7), (30, 5, 0, 0, 0), (111, 1, 0, 0, 0)]
abbrev zb_61_1 : List zI0 := [(4, 5, 0, 0, 0), (16, 3, 0, 0, 0), (4, 1, 1, 0, 0), (3, 1, 0, 0, 8), (39, 0, 0, 0, 0), (4, 5, 0, 0, 0), (37, 0, 0, 0, 0), (30, 6, 0, 0, 0), (4, 6, 0, 0, 0), (16, 2, 0, 0, 0), (4, 6, 0, 0, 0), (0, 0, 1, 0, 0), (2, 5, 1, 47, 1), (36, 0, 0, 0, 0), (23, 2, 0, 0, 0), (0, 0, 1, 0, 0), (2, 5, 1, 47, 1), (4, 6, 0, 0, 0), (33, 0, 0, 0, 0), (4, 4, 0, 0, 0), (3, 1, 0, 0, 10), (41, 0, 0, 0, 0), (20, 2, 0, 0, 0), (0, 0, 1, 0, 0), (2, 5, 1, 47, 1), (4, 6, 0, 0, 0), (4, 4, 0, 0, 0), (3, 1, 0, 0, 10), (41, 0, 0, 0, 0), (35, 0, 0, 0, 0), (32, 3, 0, 0, 1), (111, 2, 0, 0, 0)]
abbrev zb_61_2 : List zI0 := [(4, 4, 0, 0, 0), (3, 1, 0, 0, 10), (40, 0, 0, 0, 0), (30, 4, 0, 0, 0), (32, 5, 0, 0, (-1)), (10, 1, 0, 0, 0)]
abbrev zb_61_3 : List zI0 := [(4, 3, 1, 0, 0), (8, 0, 0, 0, 0)]
abbrev zc_61 : List (List zI0) := [zb_61_0, zb_61_1, zb_61_2, zb_61_3]
abbrev zb_62_0 : List zI0 := [(0, 0, 1, 0, 0), (4, 1, 1, 0, 0), (6, 60, 1, 5, 50), (30, 3, 1, 0, 0), (4, 1, 1, 0, 0), (16, 1, 0, 0, 0), (4, 1, 1, 0, 0), (0, 0, 1, 0, 0), (2, 5, 2, 48, 2), (36, 0, 0, 0, 0), (23, 1, 0, 0, 0), (0, 0, 1, 0, 0), (2, 5, 2, 48, 2), (4, 1, 1, 0, 0), (4, 2, 1, 0, 0), (35, 0, 0, 0, 0), (111, 1, 0, 0, 0)]
abbrev zb_62_1 : List zI0 := [(4, 3, 1, 0, 0), (8, 0, 0, 0, 0)]
abbrev zc_62 : List (List zI0) := [zb_62_0, zb_62_1]
abbrev zb_63_0 : List zI0 := [(0, 0, 1, 0, 0), (0, 1, 1, 0, 0), (13, 5, 5, 51, 5), (0, 0, 1, 0, 0), (4, 2, 1, 0, 0), (11, 5, 6, 53, 6), (0, 0, 1, 0, 0), (3, 0, 0, 0, 0), (12, 5, 7, 52, 7), (0, 0, 1, 0, 0), (0, 0, 1, 0, 0), (1, 5, 3, 54, 3), (0, 0, 1, 0, 0), (1, 5, 4, 49, 4), (22, 1, 0, 0, 0), (3, 0, 0, 0, 1), (10, 2, 0, 0, 0)]
abbrev zb_63_1 : List zI0 := [(3, 0, 0, 0, 0), (111, 2, 0, 0, 0)]
abbrev zb_63_2 : List zI0 := [(12, 5, 8, 55, 8), (50, 0, 0, 0, 0)]
abbrev zc_63 : List (List zI0) := [zb_63_0, zb_63_1, zb_63_2]
abbrev zb_64_0 : List zI0 := [(0, 0, 1, 0, 0), (3, 0, 0, 0, 0), (4, 1, 1, 0, 0), (3, 1, 0, 0, 100), (40, 0, 0, 0, 0), (6, 59, 2, 5, 51), (30, 2, 1, 0, 0), (4, 2, 1, 0, 0), (0, 0, 1, 0, 0), (3, 0, 0, 0, 1), (4, 1, 1, 0, 0), (3, 1, 0, 0, 10), (40, 0, 0, 0, 0), (3, 1, 0, 0, 10), (41, 0, 0, 0, 0), (6, 59, 2, 5, 51), (21, 1, 0, 0, 0), (4, 2, 1, 0, 0), (0, 0, 1, 0, 0), (3, 0, 0, 0, 2), (4, 1, 1, 0, 0), (3, 1, 0, 0, 10), (41, 0, 0, 0, 0), (6, 59, 2, 5, 51), (21, 1, 0, 0, 0), (3, 0, 0, 0, 1), (10, 2, 0, 0, 0)]
abbrev zb_64_1 : List zI0 := [(3, 0, 0, 0, 0), (111, 2, 0, 0, 0)]
abbrev zb_64_2 : List zI0 := [(30, 3, 1, 0, 0), (0, 0, 1, 0, 0), (1, 5, 6, 53, 6), (3, 1, 0, 0, 10), (40, 0, 0, 0, 0), (30, 4, 0, 0, 0), (0, 0, 1, 0, 0), (47, 0, 0, 0, 0), (1, 5, 3, 54, 3), (4, 4, 0, 0, 0), (37, 0, 0, 0, 0), (11, 5, 3, 54, 3), (0, 0, 1, 0, 0), (2, 5, 0, 50, 0), (0, 0, 1, 0, 0), (1, 5, 6, 53, 6), (4, 4, 0, 0, 0), (38, 0, 0, 0, 0), (6, 103, 1, 8, 52), (4, 3, 1, 0, 0), (14, 3, 0, 0, 0), (0, 0, 1, 0, 0), (4, 2, 1, 0, 0), (6, 60, 1, 5, 50), (0, 0, 1, 0, 0), (1, 5, 6, 53, 6), (39, 0, 0, 0, 0), (10, 4, 0, 0, 0)]
abbrev zb_64_3 : List zI0 := [(3, 0, 0, 0, 0), (111, 4, 0, 0, 0)]
abbrev zb_64_4 : List zI0 := [(30, 5, 0, 0, 0), (0, 0, 1, 0, 0), (2, 5, 0, 50, 0), (4, 5, 0, 0, 0), (6, 104, 1, 8, 53), (0, 0, 1, 0, 0), (1, 5, 8, 55, 8), (15, 5, 0, 0, 0), (4, 3, 1, 0, 0), (14, 6, 0, 0, 0), (4, 2, 1, 0, 0), (15, 6, 0, 0, 0), (111, 5, 0, 0, 0)]
abbrev zb_64_5 : List zI0 := [(4, 5, 0, 0, 0), (0, 0, 1, 0, 0), (1, 5, 3, 54, 3), (37, 0, 0, 0, 0), (30, 5, 0, 0, 0), (0, 0, 1, 0, 0), (3, 0, 0, 0, 0), (11, 5, 3, 54, 3), (111, 6, 0, 0, 0)]
abbrev zb_64_6 : List zI0 := [(0, 0, 1, 0, 0), (2, 5, 5, 51, 5), (26, 7, 0, 0, 0), (0, 0, 1, 0, 0), (2, 5, 5, 51, 5), (47, 0, 0, 0, 0), (1, 2, 2, 56, 2), (4, 5, 0, 0, 0), (37, 0, 0, 0, 0), (11, 2, 2, 56, 2), (111, 7, 0, 0, 0)]
abbrev zb_64_7 : List zI0 := [(0, 0, 1, 0, 0), (105, 0, 0, 0, 0), (13, 5, 5, 51, 5), (4, 5, 0, 0, 0), (8, 0, 0, 0, 0)]
abbrev zc_64 : List (List zI0) := [zb_64_0, zb_64_1, zb_64_2, zb_64_3, zb_64_4, zb_64_5, zb_64_6, zb_64_7]
abbrev zb_65_0 : List zI0 := [(0, 0, 1, 0, 0), (0, 1, 1, 0, 0), (6, 58, 1, 5, 54), (30, 2, 1, 0, 0), (0, 0, 1, 0, 0), (2, 5, 5, 51, 5), (0, 1, 1, 0, 0), (29, 1, 0, 0, 0), (0, 0, 1, 0, 0), (105, 0, 0, 0, 0), (13, 5, 5, 51, 5), (111, 1, 0, 0, 0)]
abbrev zb_65_1 : List zI0 := [(4, 2, 1, 0, 0), (8, 0, 0, 0, 0)]
abbrev zc_65 : List (List zI0) := [zb_65_0, zb_65_1]
abbrev zb_66_0 : List zI0 := [(3, 0, 0, 0, 0), (30, 1, 1, 0, 0), (3, 0, 0, 0, 0), (30, 2, 1, 0, 0), (111, 1, 0, 0, 0)]
abbrev zb_66_1 : List zI0 := [(4, 2, 1, 0, 0), (3, 0, 0, 0, 5), (23, 4, 0, 0, 0), (3, 0, 0, 0, 1), (30, 3, 1, 0, 0), (3, 0, 0, 0, 0), (30, 4, 0, 0, 0), (111, 2, 0, 0, 0)]
abbrev zb_66_2 : List zI0 := [(4, 4, 0, 0, 0), (3, 0, 0, 0, 3), (23, 3, 0, 0, 0), (4, 3, 1, 0, 0), (0, 0, 1, 0, 0), (4, 2, 1, 0, 0), (4, 4, 0, 0, 0), (6, 67, 2, 5, 55), (39, 0, 0, 0, 0), (30, 3, 1, 0, 0), (32, 4, 0, 0, 1), (10, 2, 0, 0, 0)]
abbrev zb_66_3 : List zI0 := [(4, 1, 1, 0, 0), (4, 3, 1, 0, 0), (0, 0, 1, 0, 0), (4, 2, 1, 0, 0), (6, 60, 1, 5, 50), (39, 0, 0, 0, 0), (37, 0, 0, 0, 0), (30, 1, 1, 0, 0), (32, 2, 0, 0, 1), (10, 1, 0, 0, 0)]
abbrev zb_66_4 : List zI0 := [(4, 1, 1, 0, 0), (8, 0, 0, 0, 0)]
abbrev zc_66 : List (List zI0) := [zb_66_0, zb_66_1, zb_66_2, zb_66_3, zb_66_4]
abbrev zb_67_0 : List zI0 := [(3, 0, 0, 0, 0), (30, 3, 1, 0, 0), (3, 0, 0, 0, 0), (30, 4, 0, 0, 0), (111, 1, 0, 0, 0)]
abbrev zb_67_1 : List zI0 := [(4, 4, 0, 0, 0), (3, 1, 0, 0, 8), (23, 3, 0, 0, 0), (0, 0, 1, 0, 0), (4, 2, 1, 0, 0), (4, 4, 0, 0, 0), (6, 59, 2, 5, 51), (4, 1, 1, 0, 0), (21, 2, 0, 0, 0), (32, 3, 0, 0, 1), (111, 2, 0, 0, 0)]
abbrev zb_67_2 : List zI0 := [(32, 4, 0, 0, 1), (10, 1, 0, 0, 0)]
abbrev zb_67_3 : List zI0 := [(4, 3, 1, 0, 0), (8, 0, 0, 0, 0)]
abbrev zc_67 : List (List zI0) := [zb_67_0, zb_67_1, zb_67_2, zb_67_3]
abbrev zb_68_0 : List zI0 := [(0, 0, 1, 0, 0), (108, 0, 0, 0, 1), (0, 0, 1, 0, 0), (57, 3, 7, 4, 0), (47, 0, 0, 0, 0), (7, 33, 0, 3, 56), (13, 6, 0, 57, 0), (0, 0, 1, 0, 0), (57, 3, 7, 4, 0), (47, 0, 0, 0, 0), (7, 33, 0, 3, 56), (13, 6, 1, 58, 1), (50, 0, 0, 0, 0)]
abbrev zc_68 : List (List zI0) := [zb_68_0]
abbrev zb_69_0 : List zI0 := [(0, 0, 1, 0, 0), (6, 70, 0, 6, 57), (18, 1, 0, 0, 0), (0, 0, 1, 0, 0), (2, 6, 0, 57, 0), (1, 3, 6, 59, 6), (15, 1, 0, 0, 0), (0, 0, 1, 0, 0), (2, 6, 1, 58, 1), (1, 3, 6, 59, 6), (14, 2, 0, 0, 0), (111, 1, 0, 0, 0)]
abbrev zb_69_1 : List zI0 := [(3, 0, 0, 0, 1), (10, 3, 0, 0, 0)]
abbrev zb_69_2 : List zI0 := [(3, 0, 0, 0, 0), (111, 3, 0, 0, 0)]
abbrev zb_69_3 : List zI0 := [(9, 0, 0, 0, 0)]
abbrev zc_69 : List (List zI0) := [zb_69_0, zb_69_1, zb_69_2, zb_69_3]
abbrev zb_70_0 : List zI0 := [(0, 0, 1, 0, 0), (2, 6, 0, 57, 0), (1, 3, 4, 60, 4), (0, 0, 1, 0, 0), (2, 6, 1, 58, 1), (1, 3, 4, 60, 4), (37, 0, 0, 0, 0), (8, 0, 0, 0, 0)]
abbrev zc_70 : List (List zI0) := [zb_70_0]
abbrev zb_71_0 : List zI0 := [(0, 0, 1, 0, 0), (0, 1, 1, 0, 0), (13, 6, 2, 61, 2), (0, 0, 1, 0, 0), (2, 6, 0, 57, 0), (4, 2, 1, 0, 0), (11, 3, 4, 60, 4), (50, 0, 0, 0, 0)]
abbrev zc_71 : List (List zI0) := [zb_71_0]
abbrev zb_72_0 : List zI0 := [(105, 0, 0, 0, 0), (31, 2, 1, 0, 0), (4, 1, 1, 0, 0), (15, 1, 0, 0, 0), (0, 0, 1, 0, 0), (2, 6, 0, 57, 0), (31, 2, 1, 0, 0), (10, 2, 0, 0, 0)]
abbrev zb_72_1 : List zI0 := [(4, 1, 1, 0, 0), (3, 0, 0, 0, 1), (21, 2, 0, 0, 0), (0, 0, 1, 0, 0), (2, 6, 1, 58, 1), (31, 2, 1, 0, 0), (111, 2, 0, 0, 0)]
abbrev zb_72_2 : List zI0 := [(0, 2, 1, 0, 0), (26, 3, 0, 0, 0), (0, 2, 1, 0, 0), (1, 3, 1, 62, 1), (19, 3, 0, 0, 0), (0, 2, 1, 0, 0), (10, 4, 0, 0, 0)]
abbrev zb_72_3 : List zI0 := [(105, 0, 0, 0, 0), (111, 4, 0, 0, 0)]
abbrev zb_72_4 : List zI0 := [(51, 0, 0, 0, 0)]
abbrev zc_72 : List (List zI0) := [zb_72_0, zb_72_1, zb_72_2, zb_72_3, zb_72_4]
abbrev zb_73_0 : List zI0 := [(0, 0, 1, 0, 0), (2, 6, 0, 57, 0), (1, 3, 5, 63, 5), (14, 1, 0, 0, 0), (0, 0, 1, 0, 0), (2, 6, 0, 57, 0), (51, 0, 0, 0, 0)]
abbrev zb_73_1 : List zI0 := [(0, 0, 1, 0, 0), (2, 6, 1, 58, 1), (1, 3, 5, 63, 5), (14, 2, 0, 0, 0), (0, 0, 1, 0, 0), (2, 6, 1, 58, 1), (10, 3, 0, 0, 0)]
abbrev zb_73_2 : List zI0 := [(105, 0, 0, 0, 0), (111, 3, 0, 0, 0)]
abbrev zb_73_3 : List zI0 := [(51, 0, 0, 0, 0)]
abbrev zc_73 : List (List zI0) := [zb_73_0, zb_73_1, zb_73_2, zb_73_3]
abbrev zb_74_0 : List zI0 := [(0, 0, 1, 0, 0), (2, 6, 0, 57, 0), (3, 0, 0, 0, 0), (6, 36, 1, 3, 58), (30, 1, 1, 0, 0), (0, 0, 1, 0, 0), (3, 0, 0, 0, 1), (12, 6, 3, 64, 3), (0, 0, 1, 0, 0), (2, 6, 0, 57, 0), (6, 35, 0, 3, 59), (0, 0, 1, 0, 0), (2, 6, 0, 57, 0), (4, 1, 1, 0, 0), (6, 34, 1, 3, 60), (0, 0, 1, 0, 0), (2, 6, 1, 58, 1), (4, 1, 1, 0, 0), (6, 34, 1, 3, 60), (0, 0, 1, 0, 0), (2, 6, 1, 58, 1), (0, 0, 1, 0, 0), (2, 6, 0, 57, 0), (1, 3, 4, 60, 4), (11, 3, 4, 60, 4), (0, 0, 1, 0, 0), (2, 6, 1, 58, 1), (3, 0, 0, 0, 1), (12, 3, 5, 63, 5), (50, 0, 0, 0, 0)]
abbrev zc_74 : List (List zI0) := [zb_74_0]
abbrev zb_75_0 : List zI0 := [(0, 0, 1, 0, 0), (1, 6, 3, 64, 3), (15, 1, 0, 0, 0), (0, 0, 1, 0, 0), (2, 6, 0, 57, 0), (6, 40, 0, 3, 61), (14, 1, 0, 0, 0), (3, 0, 0, 0, 1), (10, 2, 0, 0, 0)]
abbrev zb_75_1 : List zI0 := [(3, 0, 0, 0, 0), (111, 2, 0, 0, 0)]
abbrev zb_75_2 : List zI0 := [(9, 0, 0, 0, 0)]
abbrev zc_75 : List (List zI0) := [zb_75_0, zb_75_1, zb_75_2]
abbrev zb_76_0 : List zI0 := [(0, 0, 1, 0, 0), (6, 70, 0, 6, 57), (19, 1, 0, 0, 0), (0, 0, 1, 0, 0), (6, 75, 0, 6, 62), (15, 1, 0, 0, 0), (3, 0, 0, 0, 1), (10, 2, 0, 0, 0)]
abbrev zb_76_1 : List zI0 := [(3, 0, 0, 0, 0), (111, 2, 0, 0, 0)]
abbrev zb_76_2 : List zI0 := [(9, 0, 0, 0, 0)]
abbrev zc_76 : List (List zI0) := [zb_76_0, zb_76_1, zb_76_2]
abbrev zb_77_0 : List zI0 := [(0, 0, 1, 0, 0), (2, 6, 0, 57, 0), (6, 35, 0, 3, 59), (0, 0, 1, 0, 0), (2, 6, 1, 58, 1), (6, 35, 0, 3, 59), (0, 0, 1, 0, 0), (3, 0, 0, 0, 0), (12, 6, 3, 64, 3), (50, 0, 0, 0, 0)]
abbrev zc_77 : List (List zI0) := [zb_77_0]
abbrev zb_78_0 : List zI0 := [(0, 0, 1, 0, 0), (2, 6, 0, 57, 0), (3, 0, 0, 0, 0), (12, 3, 6, 59, 6), (0, 0, 1, 0, 0), (2, 6, 1, 58, 1), (3, 0, 0, 0, 0), (12, 3, 6, 59, 6), (0, 0, 1, 0, 0), (105, 0, 0, 0, 0), (13, 6, 2, 61, 2), (50, 0, 0, 0, 0)]
abbrev zc_78 : List (List zI0) := [zb_78_0]
abbrev zb_79_0 : List zI0 := [(0, 0, 1, 0, 0), (105, 0, 0, 0, 0), (13, 6, 2, 61, 2), (0, 0, 1, 0, 0), (2, 6, 0, 57, 0), (4, 1, 1, 0, 0), (6, 42, 1, 3, 63), (0, 0, 1, 0, 0), (2, 6, 1, 58, 1), (4, 1, 1, 0, 0), (6, 42, 1, 3, 63), (37, 0, 0, 0, 0), (8, 0, 0, 0, 0)]
abbrev zc_79 : List (List zI0) := [zb_79_0]
abbrev zb_80_0 : List zI0 := [(0, 0, 1, 0, 0), (108, 0, 0, 0, 3), (0, 0, 1, 0, 0), (3, 1, 0, 0, 104), (58, 0, 0, 0, 0), (13, 7, 0, 65, 0), (0, 0, 1, 0, 0), (3, 1, 0, 0, 104), (58, 0, 0, 0, 0), (13, 7, 1, 66, 1), (0, 0, 1, 0, 0), (3, 1, 0, 0, 11), (58, 0, 0, 0, 0), (13, 7, 2, 67, 2), (0, 0, 1, 0, 0), (3, 1, 0, 0, 11), (58, 0, 0, 0, 0), (13, 7, 3, 68, 3), (50, 0, 0, 0, 0)]
abbrev zc_80 : List (List zI0) := [zb_80_0]
abbrev zb_81_0 : List zI0 := [(4, 0, 1, 0, 0), (3, 1, 0, 0, 10), (21, 1, 0, 0, 0), (3, 1, 0, 0, 16), (10, 2, 0, 0, 0)]
abbrev zb_81_1 : List zI0 := [(3, 0, 0, 0, 4), (111, 2, 0, 0, 0)]
abbrev zb_81_2 : List zI0 := [(8, 0, 0, 0, 0)]
abbrev zc_81 : List (List zI0) := [zb_81_0, zb_81_1, zb_81_2]
abbrev zb_82_0 : List zI0 := [(0, 0, 1, 0, 0), (1, 7, 5, 69, 5), (0, 0, 1, 0, 0), (1, 7, 4, 70, 4), (38, 0, 0, 0, 0), (8, 0, 0, 0, 0)]
abbrev zc_82 : List (List zI0) := [zb_82_0]
abbrev zb_83_0 : List zI0 := [(0, 0, 1, 0, 0), (1, 7, 4, 70, 4), (4, 1, 1, 0, 0), (37, 0, 0, 0, 0), (30, 2, 1, 0, 0), (4, 1, 1, 0, 0), (16, 1, 0, 0, 0), (4, 2, 1, 0, 0), (16, 1, 0, 0, 0), (4, 2, 1, 0, 0), (0, 0, 1, 0, 0), (1, 7, 5, 69, 5), (23, 1, 0, 0, 0), (4, 2, 1, 0, 0), (0, 0, 1, 0, 0), (2, 7, 0, 65, 0), (36, 0, 0, 0, 0), (23, 1, 0, 0, 0), (0, 0, 1, 0, 0), (2, 7, 0, 65, 0), (4, 2, 1, 0, 0), (33, 0, 0, 0, 0), (10, 2, 0, 0, 0)]
abbrev zb_83_1 : List zI0 := [(3, 0, 0, 0, 0), (111, 2, 0, 0, 0)]
abbrev zb_83_2 : List zI0 := [(8, 0, 0, 0, 0)]
abbrev zc_83 : List (List zI0) := [zb_83_0, zb_83_1, zb_83_2]
abbrev zb_84_0 : List zI0 := [(0, 0, 1, 0, 0), (4, 1, 1, 0, 0), (11, 7, 6, 71, 6), (0, 0, 1, 0, 0), (3, 0, 0, 0, 0), (11, 7, 4, 70, 4), (0, 0, 1, 0, 0), (3, 0, 0, 0, 0), (11, 7, 5, 69, 5), (0, 0, 1, 0, 0), (3, 0, 0, 0, 0), (11, 7, 7, 72, 7), (0, 0, 1, 0, 0), (2, 7, 2, 67, 2), (3, 0, 0, 0, 0), (5, 328, 2, 0, 64), (3, 0, 0, 0, 1), (30, 2, 1, 0, 0), (111, 1, 0, 0, 0)]
abbrev zb_84_1 : List zI0 := [(4, 2, 1, 0, 0), (3, 1, 0, 0, 10), (24, 4, 0, 0, 0), (3, 0, 0, 0, 0), (30, 3, 1, 0, 0), (111, 2, 0, 0, 0)]
abbrev zb_84_2 : List zI0 := [(4, 3, 1, 0, 0), (4, 1, 1, 0, 0), (4, 2, 1, 0, 0), (5, 81, 1, 0, 65), (39, 0, 0, 0, 0), (23, 3, 0, 0, 0), (0, 0, 1, 0, 0), (1, 7, 5, 69, 5), (16, 3, 0, 0, 0), (0, 0, 1, 0, 0), (1, 7, 5, 69, 5), (0, 0, 1, 0, 0), (2, 7, 0, 65, 0), (36, 0, 0, 0, 0), (23, 3, 0, 0, 0), (0, 0, 1, 0, 0), (2, 7, 0, 65, 0), (0, 0, 1, 0, 0), (1, 7, 5, 69, 5), (4, 2, 1, 0, 0), (35, 0, 0, 0, 0), (0, 0, 1, 0, 0), (47, 0, 0, 0, 0), (1, 7, 5, 69, 5), (3, 0, 0, 0, 1), (37, 0, 0, 0, 0), (11, 7, 5, 69, 5), (32, 3, 0, 0, 1), (10, 2, 0, 0, 0)]
abbrev zb_84_3 : List zI0 := [(32, 2, 0, 0, 1), (10, 1, 0, 0, 0)]
abbrev zb_84_4 : List zI0 := [(50, 0, 0, 0, 0)]
abbrev zc_84 : List (List zI0) := [zb_84_0, zb_84_1, zb_84_2, zb_84_3, zb_84_4]
abbrev zb_85_0 : List zI0 := [(0, 0, 1, 0, 0), (6, 82, 0, 7, 66), (30, 2, 1, 0, 0), (3, 0, 0, 0, 0), (30, 3, 1, 0, 0), (111, 1, 0, 0, 0)]
abbrev zb_85_1 : List zI0 := [(4, 3, 1, 0, 0), (4, 2, 1, 0, 0), (23, 4, 0, 0, 0), (4, 3, 1, 0, 0), (0, 0, 1, 0, 0), (2, 7, 1, 66, 1), (36, 0, 0, 0, 0), (23, 4, 0, 0, 0), (4, 3, 1, 0, 0), (4, 1, 1, 0, 0), (37, 0, 0, 0, 0), (30, 4, 0, 0, 0), (0, 0, 1, 0, 0), (2, 7, 1, 66, 1), (4, 3, 1, 0, 0), (0, 0, 1, 0, 0), (4, 4, 0, 0, 0), (4, 2, 1, 0, 0), (23, 2, 0, 0, 0), (4, 4, 0, 0, 0), (10, 3, 0, 0, 0)]
abbrev zb_85_2 : List zI0 := [(4, 4, 0, 0, 0), (4, 2, 1, 0, 0), (38, 0, 0, 0, 0), (111, 3, 0, 0, 0)]
abbrev zb_85_3 : List zI0 := [(6, 83, 1, 7, 67), (35, 0, 0, 0, 0), (32, 3, 0, 0, 1), (10, 1, 0, 0, 0)]
abbrev zb_85_4 : List zI0 := [(0, 0, 1, 0, 0), (4, 2, 1, 0, 0), (6, 87, 1, 7, 68), (50, 0, 0, 0, 0)]
abbrev zc_85 : List (List zI0) := [zb_85_0, zb_85_1, zb_85_2, zb_85_3, zb_85_4]
abbrev zb_86_0 : List zI0 := [(0, 0, 1, 0, 0), (6, 82, 0, 7, 66), (30, 2, 1, 0, 0), (4, 1, 1, 0, 0), (14, 1, 0, 0, 0), (4, 2, 1, 0, 0), (3, 0, 0, 0, 1), (37, 0, 0, 0, 0), (3, 0, 0, 0, 2), (40, 0, 0, 0, 0), (10, 2, 0, 0, 0)]
abbrev zb_86_1 : List zI0 := [(4, 2, 1, 0, 0), (3, 0, 0, 0, 2), (40, 0, 0, 0, 0), (111, 2, 0, 0, 0)]
abbrev zb_86_2 : List zI0 := [(30, 3, 1, 0, 0), (3, 0, 0, 0, 0), (30, 4, 0, 0, 0), (111, 3, 0, 0, 0)]
abbrev zb_86_3 : List zI0 := [(4, 4, 0, 0, 0), (4, 2, 1, 0, 0), (23, 10, 0, 0, 0), (4, 4, 0, 0, 0), (0, 0, 1, 0, 0), (2, 7, 1, 66, 1), (36, 0, 0, 0, 0), (23, 10, 0, 0, 0), (4, 4, 0, 0, 0), (3, 0, 0, 0, 2), (41, 0, 0, 0, 0), (15, 4, 0, 0, 0), (3, 0, 0, 0, 1), (10, 5, 0, 0, 0)]
abbrev zb_86_4 : List zI0 := [(3, 0, 0, 0, 0), (111, 5, 0, 0, 0)]
abbrev zb_86_5 : List zI0 := [(4, 1, 1, 0, 0), (21, 6, 0, 0, 0), (3, 0, 0, 0, 1), (10, 7, 0, 0, 0)]
abbrev zb_86_6 : List zI0 := [(3, 0, 0, 0, 0), (111, 7, 0, 0, 0)]
abbrev zb_86_7 : List zI0 := [(30, 5, 0, 0, 0), (0, 0, 1, 0, 0), (2, 7, 1, 66, 1), (4, 4, 0, 0, 0), (0, 0, 1, 0, 0), (4, 5, 0, 0, 0), (14, 8, 0, 0, 0), (4, 4, 0, 0, 0), (3, 0, 0, 0, 2), (40, 0, 0, 0, 0), (10, 9, 0, 0, 0)]
abbrev zb_86_8 : List zI0 := [(4, 3, 1, 0, 0), (4, 4, 0, 0, 0), (3, 0, 0, 0, 2), (40, 0, 0, 0, 0), (37, 0, 0, 0, 0), (111, 9, 0, 0, 0)]
abbrev zb_86_9 : List zI0 := [(6, 83, 1, 7, 67), (35, 0, 0, 0, 0), (32, 4, 0, 0, 1), (10, 3, 0, 0, 0)]
abbrev zb_86_10 : List zI0 := [(0, 0, 1, 0, 0), (4, 2, 1, 0, 0), (6, 87, 1, 7, 68), (50, 0, 0, 0, 0)]
abbrev zc_86 : List (List zI0) := [zb_86_0, zb_86_1, zb_86_2, zb_86_3, zb_86_4, zb_86_5, zb_86_6, zb_86_7, zb_86_8, zb_86_9, zb_86_10]
abbrev zb_87_0 : List zI0 := [(3, 0, 0, 0, 0), (30, 2, 1, 0, 0), (111, 1, 0, 0, 0)]
abbrev zb_87_1 : List zI0 := [(4, 2, 1, 0, 0), (4, 1, 1, 0, 0), (23, 2, 0, 0, 0), (4, 2, 1, 0, 0), (0, 0, 1, 0, 0), (2, 7, 1, 66, 1), (36, 0, 0, 0, 0), (23, 2, 0, 0, 0), (4, 2, 1, 0, 0), (0, 0, 1, 0, 0), (2, 7, 0, 65, 0), (36, 0, 0, 0, 0), (23, 2, 0, 0, 0), (0, 0, 1, 0, 0), (2, 7, 0, 65, 0), (4, 2, 1, 0, 0), (0, 0, 1, 0, 0), (2, 7, 1, 66, 1), (4, 2, 1, 0, 0), (33, 0, 0, 0, 0), (35, 0, 0, 0, 0), (32, 2, 0, 0, 1), (10, 1, 0, 0, 0)]
abbrev zb_87_2 : List zI0 := [(0, 0, 1, 0, 0), (3, 0, 0, 0, 0), (11, 7, 4, 70, 4), (0, 0, 1, 0, 0), (4, 1, 1, 0, 0), (11, 7, 5, 69, 5), (50, 0, 0, 0, 0)]
abbrev zc_87 : List (List zI0) := [zb_87_0, zb_87_1, zb_87_2]
abbrev zb_88_0 : List zI0 := [(0, 0, 1, 0, 0), (3, 0, 0, 0, 0), (6, 83, 1, 7, 67), (30, 1, 1, 0, 0), (4, 1, 1, 0, 0), (14, 1, 0, 0, 0), (0, 0, 1, 0, 0), (47, 0, 0, 0, 0), (1, 7, 4, 70, 4), (3, 0, 0, 0, 1), (37, 0, 0, 0, 0), (11, 7, 4, 70, 4), (111, 1, 0, 0, 0)]
abbrev zb_88_1 : List zI0 := [(4, 1, 1, 0, 0), (8, 0, 0, 0, 0)]
abbrev zc_88 : List (List zI0) := [zb_88_0, zb_88_1]
abbrev zb_89_0 : List zI0 := [(4, 1, 1, 0, 0), (19, 1, 0, 0, 0), (4, 1, 1, 0, 0), (0, 0, 1, 0, 0), (2, 7, 2, 67, 2), (36, 0, 0, 0, 0), (23, 1, 0, 0, 0), (0, 0, 1, 0, 0), (2, 7, 2, 67, 2), (4, 1, 1, 0, 0), (48, 0, 0, 0, 0), (33, 0, 0, 0, 0), (3, 0, 0, 0, 1), (37, 0, 0, 0, 0), (35, 0, 0, 0, 0), (111, 1, 0, 0, 0)]
abbrev zb_89_1 : List zI0 := [(50, 0, 0, 0, 0)]
abbrev zc_89 : List (List zI0) := [zb_89_0, zb_89_1]
abbrev zb_90_0 : List zI0 := [(0, 0, 1, 0, 0), (6, 88, 0, 7, 69), (30, 1, 1, 0, 0), (0, 0, 1, 0, 0), (4, 1, 1, 0, 0), (6, 89, 1, 7, 70), (4, 1, 1, 0, 0), (8, 0, 0, 0, 0)]
abbrev zc_90 : List (List zI0) := [zb_90_0]
abbrev zb_91_0 : List zI0 := [(0, 0, 1, 0, 0), (0, 0, 1, 0, 0), (6, 88, 0, 7, 69), (11, 7, 7, 72, 7), (0, 0, 1, 0, 0), (1, 7, 7, 72, 7), (8, 0, 0, 0, 0)]
abbrev zc_91 : List (List zI0) := [zb_91_0]
abbrev zb_92_0 : List zI0 := [(0, 0, 1, 0, 0), (0, 0, 1, 0, 0), (1, 7, 7, 72, 7), (6, 89, 1, 7, 70), (0, 0, 1, 0, 0), (3, 0, 0, 0, 0), (11, 7, 7, 72, 7), (50, 0, 0, 0, 0)]
abbrev zc_92 : List (List zI0) := [zb_92_0]
abbrev zb_93_0 : List zI0 := [(4, 1, 1, 0, 0), (19, 1, 0, 0, 0), (4, 1, 1, 0, 0), (0, 0, 1, 0, 0), (2, 7, 2, 67, 2), (36, 0, 0, 0, 0), (23, 1, 0, 0, 0), (0, 0, 1, 0, 0), (1, 7, 6, 71, 6), (4, 1, 1, 0, 0), (5, 81, 1, 0, 65), (39, 0, 0, 0, 0), (0, 0, 1, 0, 0), (2, 7, 2, 67, 2), (4, 1, 1, 0, 0), (33, 0, 0, 0, 0), (38, 0, 0, 0, 0), (10, 2, 0, 0, 0)]
abbrev zb_93_1 : List zI0 := [(3, 0, 0, 0, 0), (111, 2, 0, 0, 0)]
abbrev zb_93_2 : List zI0 := [(8, 0, 0, 0, 0)]
abbrev zc_93 : List (List zI0) := [zb_93_0, zb_93_1, zb_93_2]
abbrev zb_94_0 : List zI0 := [(3, 0, 0, 0, 0), (30, 2, 1, 0, 0), (4, 1, 1, 0, 0), (3, 0, 0, 0, 1), (37, 0, 0, 0, 0), (30, 3, 1, 0, 0), (111, 1, 0, 0, 0)]
abbrev zb_94_1 : List zI0 := [(4, 3, 1, 0, 0), (3, 1, 0, 0, 10), (24, 2, 0, 0, 0), (4, 2, 1, 0, 0), (0, 0, 1, 0, 0), (4, 3, 1, 0, 0), (6, 93, 1, 7, 71), (37, 0, 0, 0, 0), (30, 2, 1, 0, 0), (32, 3, 0, 0, 1), (10, 1, 0, 0, 0)]
abbrev zb_94_2 : List zI0 := [(4, 2, 1, 0, 0), (8, 0, 0, 0, 0)]
abbrev zc_94 : List (List zI0) := [zb_94_0, zb_94_1, zb_94_2]
abbrev zb_95_0 : List zI0 := [(0, 0, 1, 0, 0), (3, 0, 0, 0, 0), (6, 94, 1, 7, 72), (8, 0, 0, 0, 0)]
abbrev zc_95 : List (List zI0) := [zb_95_0]
abbrev zb_96_0 : List zI0 := [(4, 1, 1, 0, 0), (16, 1, 0, 0, 0), (4, 1, 1, 0, 0), (0, 0, 1, 0, 0), (2, 7, 3, 68, 3), (36, 0, 0, 0, 0), (22, 2, 0, 0, 0), (111, 1, 0, 0, 0)]
abbrev zb_96_1 : List zI0 := [(3, 0, 0, 0, 0), (8, 0, 0, 0, 0)]
abbrev zb_96_2 : List zI0 := [(0, 0, 1, 0, 0), (2, 7, 3, 68, 3), (4, 1, 1, 0, 0), (33, 0, 0, 0, 0), (30, 3, 1, 0, 0), (0, 0, 1, 0, 0), (2, 7, 3, 68, 3), (4, 1, 1, 0, 0), (4, 2, 1, 0, 0), (35, 0, 0, 0, 0), (4, 3, 1, 0, 0), (8, 0, 0, 0, 0)]
abbrev zc_96 : List (List zI0) := [zb_96_0, zb_96_1, zb_96_2]
abbrev zb_97_0 : List zI0 := [(3, 0, 0, 0, 0), (30, 1, 1, 0, 0), (3, 0, 0, 0, 1), (30, 2, 1, 0, 0), (111, 1, 0, 0, 0)]
abbrev zb_97_1 : List zI0 := [(4, 2, 1, 0, 0), (0, 0, 1, 0, 0), (2, 7, 2, 67, 2), (36, 0, 0, 0, 0), (23, 2, 0, 0, 0), (4, 2, 1, 0, 0), (0, 0, 1, 0, 0), (2, 7, 3, 68, 3), (36, 0, 0, 0, 0), (23, 2, 0, 0, 0), (4, 1, 1, 0, 0), (0, 0, 1, 0, 0), (2, 7, 2, 67, 2), (4, 2, 1, 0, 0), (33, 0, 0, 0, 0), (0, 0, 1, 0, 0), (2, 7, 3, 68, 3), (4, 2, 1, 0, 0), (33, 0, 0, 0, 0), (39, 0, 0, 0, 0), (37, 0, 0, 0, 0), (30, 1, 1, 0, 0), (32, 2, 0, 0, 1), (10, 1, 0, 0, 0)]
abbrev zb_97_2 : List zI0 := [(4, 1, 1, 0, 0), (8, 0, 0, 0, 0)]
abbrev zc_97 : List (List zI0) := [zb_97_0, zb_97_1, zb_97_2]
abbrev zb_98_0 : List zI0 := [(0, 0, 1, 0, 0), (6, 95, 0, 7, 73), (30, 1, 1, 0, 0), (4, 1, 1, 0, 0), (15, 1, 0, 0, 0), (3, 0, 0, 0, 0), (10, 2, 0, 0, 0)]
abbrev zb_98_1 : List zI0 := [(0, 0, 1, 0, 0), (6, 97, 0, 7, 74), (3, 1, 0, 0, 52), (39, 0, 0, 0, 0), (4, 1, 1, 0, 0), (40, 0, 0, 0, 0), (111, 2, 0, 0, 0)]
abbrev zb_98_2 : List zI0 := [(8, 0, 0, 0, 0)]
abbrev zc_98 : List (List zI0) := [zb_98_0, zb_98_1, zb_98_2]
abbrev zb_99_0 : List zI0 := [(3, 0, 0, 0, 1), (30, 1, 1, 0, 0), (111, 1, 0, 0, 0)]
abbrev zb_99_1 : List zI0 := [(4, 1, 1, 0, 0), (3, 1, 0, 0, 10), (24, 8, 0, 0, 0), (0, 0, 1, 0, 0), (1, 7, 7, 72, 7), (4, 1, 1, 0, 0), (21, 2, 0, 0, 0), (3, 0, 0, 0, 1), (10, 3, 0, 0, 0)]
abbrev zb_99_2 : List zI0 := [(3, 0, 0, 0, 0), (111, 3, 0, 0, 0)]
abbrev zb_99_3 : List zI0 := [(30, 2, 1, 0, 0), (3, 0, 0, 0, 0), (30, 3, 1, 0, 0), (111, 4, 0, 0, 0)]
abbrev zb_99_4 : List zI0 := [(4, 3, 1, 0, 0), (0, 0, 1, 0, 0), (6, 82, 0, 7, 66), (23, 6, 0, 0, 0), (0, 0, 1, 0, 0), (4, 3, 1, 0, 0), (6, 83, 1, 7, 67), (4, 1, 1, 0, 0), (21, 5, 0, 0, 0), (32, 2, 0, 0, 1), (111, 5, 0, 0, 0)]
abbrev zb_99_5 : List zI0 := [(32, 3, 0, 0, 1), (10, 4, 0, 0, 0)]
abbrev zb_99_6 : List zI0 := [(4, 2, 1, 0, 0), (0, 0, 1, 0, 0), (4, 1, 1, 0, 0), (6, 93, 1, 7, 71), (20, 7, 0, 0, 0), (3, 0, 0, 0, 0), (9, 0, 0, 0, 0)]
abbrev zb_99_7 : List zI0 := [(32, 1, 0, 0, 1), (10, 1, 0, 0, 0)]
abbrev zb_99_8 : List zI0 := [(3, 0, 0, 0, 1), (9, 0, 0, 0, 0)]
abbrev zc_99 : List (List zI0) := [zb_99_0, zb_99_1, zb_99_2, zb_99_3, zb_99_4, zb_99_5, zb_99_6, zb_99_7, zb_99_8]
abbrev zb_100_0 : List zI0 := [(0, 0, 1, 0, 0), (108, 0, 0, 0, 1), (0, 0, 1, 0, 0), (0, 1, 1, 0, 0), (13, 8, 0, 73, 0), (50, 0, 0, 0, 0)]
abbrev zc_100 : List (List zI0) := [zb_100_0]
abbrev zb_101_0 : List zI0 := [(0, 0, 1, 0, 0), (2, 8, 0, 73, 0), (47, 0, 0, 0, 0), (1, 9, 0, 74, 0), (4, 1, 1, 0, 0), (38, 0, 0, 0, 0), (11, 9, 0, 74, 0), (0, 0, 1, 0, 0), (47, 0, 0, 0, 0), (1, 8, 1, 75, 1), (4, 1, 1, 0, 0), (37, 0, 0, 0, 0), (11, 8, 1, 75, 1), (0, 0, 1, 0, 0), (47, 0, 0, 0, 0), (1, 8, 3, 76, 3), (4, 1, 1, 0, 0), (37, 0, 0, 0, 0), (11, 8, 3, 76, 3), (50, 0, 0, 0, 0)]
abbrev zc_101 : List (List zI0) := [zb_101_0]
abbrev zb_102_0 : List zI0 := [(0, 0, 1, 0, 0), (47, 0, 0, 0, 0), (1, 8, 1, 75, 1), (4, 1, 1, 0, 0), (38, 0, 0, 0, 0), (11, 8, 1, 75, 1), (0, 0, 1, 0, 0), (2, 8, 0, 73, 0), (47, 0, 0, 0, 0), (1, 9, 0, 74, 0), (4, 1, 1, 0, 0), (37, 0, 0, 0, 0), (11, 9, 0, 74, 0), (0, 0, 1, 0, 0), (47, 0, 0, 0, 0), (1, 8, 4, 77, 4), (4, 1, 1, 0, 0), (37, 0, 0, 0, 0), (11, 8, 4, 77, 4), (50, 0, 0, 0, 0)]
abbrev zc_102 : List (List zI0) := [zb_102_0]
abbrev zb_103_0 : List zI0 := [(0, 0, 1, 0, 0), (47, 0, 0, 0, 0), (1, 8, 1, 75, 1), (4, 1, 1, 0, 0), (37, 0, 0, 0, 0), (11, 8, 1, 75, 1), (50, 0, 0, 0, 0)]
abbrev zc_103 : List (List zI0) := [zb_103_0]
abbrev zb_104_0 : List zI0 := [(4, 1, 1, 0, 0), (0, 0, 1, 0, 0), (1, 8, 1, 75, 1), (25, 1, 0, 0, 0), (0, 0, 1, 0, 0), (4, 1, 1, 0, 0), (0, 0, 1, 0, 0), (1, 8, 1, 75, 1), (38, 0, 0, 0, 0), (6, 101, 1, 8, 75), (111, 1, 0, 0, 0)]
abbrev zb_104_1 : List zI0 := [(0, 0, 1, 0, 0), (47, 0, 0, 0, 0), (1, 8, 1, 75, 1), (4, 1, 1, 0, 0), (38, 0, 0, 0, 0), (11, 8, 1, 75, 1), (50, 0, 0, 0, 0)]
abbrev zc_104 : List (List zI0) := [zb_104_0, zb_104_1]
abbrev zb_105_0 : List zI0 := [(0, 0, 1, 0, 0), (1, 8, 1, 75, 1), (0, 0, 1, 0, 0), (1, 8, 2, 78, 2), (38, 0, 0, 0, 0), (0, 0, 1, 0, 0), (1, 8, 3, 76, 3), (38, 0, 0, 0, 0), (0, 0, 1, 0, 0), (1, 8, 4, 77, 4), (37, 0, 0, 0, 0), (8, 0, 0, 0, 0)]
abbrev zc_105 : List (List zI0) := [zb_105_0]
abbrev zb_106_0 : List zI0 := [(0, 0, 1, 0, 0), (0, 0, 1, 0, 0), (1, 8, 1, 75, 1), (11, 8, 2, 78, 2), (0, 0, 1, 0, 0), (3, 0, 0, 0, 0), (11, 8, 3, 76, 3), (0, 0, 1, 0, 0), (3, 0, 0, 0, 0), (11, 8, 4, 77, 4), (50, 0, 0, 0, 0)]
abbrev zc_106 : List (List zI0) := [zb_106_0]
abbrev zb_107_0 : List zI0 := [(0, 0, 1, 0, 0), (108, 0, 0, 0, 3), (0, 0, 1, 0, 0), (3, 3, 1, 0, 100000), (11, 9, 0, 79, 0), (50, 0, 0, 0, 0)]
abbrev zc_107 : List (List zI0) := [zb_107_0]
abbrev zb_108_0 : List zI0 := [(0, 0, 1, 0, 0), (108, 0, 0, 0, 1), (0, 0, 1, 0, 0), (3, 1, 0, 0, 10), (59, 2, 5, 0, 0), (13, 10, 1, 80, 1), (0, 0, 1, 0, 0), (3, 1, 0, 0, 10), (58, 3, 0, 0, 0), (13, 10, 2, 81, 2), (0, 0, 1, 0, 0), (3, 1, 0, 0, 10), (58, 0, 0, 0, 0), (13, 10, 3, 82, 3), (0, 0, 1, 0, 0), (3, 1, 0, 0, 10), (58, 0, 0, 0, 0), (13, 10, 4, 83, 4), (0, 0, 1, 0, 0), (0, 1, 1, 0, 0), (13, 10, 0, 84, 0), (50, 0, 0, 0, 0)]
abbrev zc_108 : List (List zI0) := [zb_108_0]
abbrev zb_109_0 : List zI0 := [(4, 0, 1, 0, 0), (3, 1, 0, 0, 110), (21, 3, 0, 0, 0), (4, 1, 1, 0, 0), (16, 1, 0, 0, 0), (4, 1, 1, 0, 0), (3, 1, 0, 0, 36), (24, 1, 0, 0, 0), (3, 0, 0, 0, 1), (10, 2, 0, 0, 0)]
abbrev zb_109_1 : List zI0 := [(3, 0, 0, 0, 0), (111, 2, 0, 0, 0)]
abbrev zb_109_2 : List zI0 := [(9, 0, 0, 0, 0)]
abbrev zb_109_3 : List zI0 := [(4, 0, 1, 0, 0), (3, 1, 0, 0, 100), (21, 6, 0, 0, 0), (4, 1, 1, 0, 0), (16, 4, 0, 0, 0), (4, 1, 1, 0, 0), (3, 0, 0, 0, 2), (24, 4, 0, 0, 0), (3, 0, 0, 0, 1), (10, 5, 0, 0, 0)]
abbrev zb_109_4 : List zI0 := [(3, 0, 0, 0, 0), (111, 5, 0, 0, 0)]
abbrev zb_109_5 : List zI0 := [(9, 0, 0, 0, 0)]
abbrev zb_109_6 : List zI0 := [(4, 0, 1, 0, 0), (3, 1, 0, 0, 114), (20, 7, 0, 0, 0), (4, 0, 1, 0, 0), (3, 1, 0, 0, 98), (21, 8, 0, 0, 0), (111, 7, 0, 0, 0)]
abbrev zb_109_7 : List zI0 := [(3, 0, 0, 0, 1), (10, 9, 0, 0, 0)]
abbrev zb_109_8 : List zI0 := [(3, 0, 0, 0, 0), (111, 9, 0, 0, 0)]
abbrev zb_109_9 : List zI0 := [(9, 0, 0, 0, 0)]
abbrev zc_109 : List (List zI0) := [zb_109_0, zb_109_1, zb_109_2, zb_109_3, zb_109_4, zb_109_5, zb_109_6, zb_109_7, zb_109_8, zb_109_9]
abbrev zb_110_0 : List zI0 := [(4, 0, 1, 0, 0), (3, 0, 0, 0, 2), (41, 0, 0, 0, 0), (14, 1, 0, 0, 0), (3, 0, 0, 0, 1), (10, 2, 0, 0, 0)]
abbrev zb_110_1 : List zI0 := [(3, 0, 0, 0, 0), (111, 2, 0, 0, 0)]
abbrev zb_110_2 : List zI0 := [(30, 1, 1, 0, 0), (4, 0, 1, 0, 0), (3, 0, 0, 0, 1), (22, 3, 0, 0, 0), (4, 0, 1, 0, 0), (3, 1, 0, 0, 10), (25, 4, 0, 0, 0), (111, 3, 0, 0, 0)]
abbrev zb_110_3 : List zI0 := [(4, 0, 1, 0, 0), (3, 1, 0, 0, 19), (22, 5, 0, 0, 0), (4, 0, 1, 0, 0), (3, 1, 0, 0, 28), (24, 5, 0, 0, 0), (111, 4, 0, 0, 0)]
abbrev zb_110_4 : List zI0 := [(3, 0, 0, 0, 1), (10, 6, 0, 0, 0)]
abbrev zb_110_5 : List zI0 := [(3, 0, 0, 0, 0), (111, 6, 0, 0, 0)]
abbrev zb_110_6 : List zI0 := [(30, 2, 1, 0, 0), (4, 0, 1, 0, 0), (14, 7, 0, 0, 0), (4, 1, 1, 0, 0), (4, 2, 1, 0, 0), (21, 7, 0, 0, 0), (3, 0, 0, 0, 1), (10, 8, 0, 0, 0)]
abbrev zb_110_7 : List zI0 := [(3, 0, 0, 0, 0), (111, 8, 0, 0, 0)]
abbrev zb_110_8 : List zI0 := [(9, 0, 0, 0, 0)]
abbrev zc_110 : List (List zI0) := [zb_110_0, zb_110_1, zb_110_2, zb_110_3, zb_110_4, zb_110_5, zb_110_6, zb_110_7, zb_110_8]
abbrev zb_111_0 : List zI0 := [(4, 0, 1, 0, 0), (3, 1, 0, 0, 110), (21, 3, 0, 0, 0), (4, 1, 1, 0, 0), (4, 2, 1, 0, 0), (21, 1, 0, 0, 0), (3, 1, 0, 0, 35), (10, 2, 0, 0, 0)]
abbrev zb_111_1 : List zI0 := [(3, 0, 0, 0, 0), (111, 2, 0, 0, 0)]
abbrev zb_111_2 : List zI0 := [(8, 0, 0, 0, 0)]
abbrev zb_111_3 : List zI0 := [(4, 0, 1, 0, 0), (3, 1, 0, 0, 100), (21, 6, 0, 0, 0), (4, 2, 1, 0, 0), (3, 1, 0, 0, 12), (4, 1, 1, 0, 0), (39, 0, 0, 0, 0), (25, 4, 0, 0, 0), (4, 2, 1, 0, 0), (3, 1, 0, 0, 12), (4, 1, 1, 0, 0), (39, 0, 0, 0, 0), (3, 1, 0, 0, 12), (37, 0, 0, 0, 0), (24, 4, 0, 0, 0), (3, 0, 0, 0, 2), (10, 5, 0, 0, 0)]
abbrev zb_111_4 : List zI0 := [(3, 0, 0, 0, 0), (111, 5, 0, 0, 0)]
abbrev zb_111_5 : List zI0 := [(8, 0, 0, 0, 0)]
abbrev zb_111_6 : List zI0 := [(4, 2, 1, 0, 0), (14, 9, 0, 0, 0), (4, 2, 1, 0, 0), (5, 110, 1, 0, 76), (4, 0, 1, 0, 0), (3, 1, 0, 0, 114), (21, 7, 0, 0, 0), (3, 0, 0, 0, 1), (10, 8, 0, 0, 0)]
abbrev zb_111_7 : List zI0 := [(3, 0, 0, 0, 0), (111, 8, 0, 0, 0)]
abbrev zb_111_8 : List zI0 := [(21, 9, 0, 0, 0), (3, 0, 0, 0, 1), (10, 10, 0, 0, 0)]
abbrev zb_111_9 : List zI0 := [(3, 0, 0, 0, 0), (111, 10, 0, 0, 0)]
abbrev zb_111_10 : List zI0 := [(8, 0, 0, 0, 0)]
abbrev zc_111 : List (List zI0) := [zb_111_0, zb_111_1, zb_111_2, zb_111_3, zb_111_4, zb_111_5, zb_111_6, zb_111_7, zb_111_8, zb_111_9, zb_111_10]
abbrev zb_112_0 : List zI0 := [(0, 0, 1, 0, 0), (1, 10, 5, 85, 5), (3, 1, 0, 0, 10), (22, 1, 0, 0, 0), (3, 0, 0, 0, 1), (10, 2, 0, 0, 0)]
abbrev zb_112_1 : List zI0 := [(3, 0, 0, 0, 0), (111, 2, 0, 0, 0)]
abbrev zb_112_2 : List zI0 := [(9, 0, 0, 0, 0)]
abbrev zc_112 : List (List zI0) := [zb_112_0, zb_112_1, zb_112_2]
abbrev zb_113_0 : List zI0 := [(0, 0, 1, 0, 0), (1, 10, 5, 85, 5), (16, 1, 0, 0, 0), (0, 0, 1, 0, 0), (1, 10, 5, 85, 5), (3, 1, 0, 0, 10), (23, 1, 0, 0, 0), (0, 0, 1, 0, 0), (2, 10, 1, 80, 1), (0, 0, 1, 0, 0), (1, 10, 5, 85, 5), (0, 1, 1, 0, 0), (62, 0, 0, 0, 0), (0, 0, 1, 0, 0), (2, 10, 2, 81, 2), (0, 0, 1, 0, 0), (1, 10, 5, 85, 5), (4, 2, 1, 0, 0), (100, 0, 0, 0, 0), (0, 0, 1, 0, 0), (2, 10, 3, 82, 3), (0, 0, 1, 0, 0), (1, 10, 5, 85, 5), (4, 3, 1, 0, 0), (35, 0, 0, 0, 0), (0, 0, 1, 0, 0), (2, 10, 4, 83, 4), (0, 0, 1, 0, 0), (1, 10, 5, 85, 5), (4, 4, 0, 0, 0), (35, 0, 0, 0, 0), (0, 0, 1, 0, 0), (47, 0, 0, 0, 0), (1, 10, 5, 85, 5), (3, 0, 0, 0, 1), (37, 0, 0, 0, 0), (11, 10, 5, 85, 5), (111, 1, 0, 0, 0)]
abbrev zb_113_1 : List zI0 := [(50, 0, 0, 0, 0)]
abbrev zc_113 : List (List zI0) := [zb_113_0, zb_113_1]
abbrev zb_114_0 : List zI0 := [(3, 0, 0, 0, 0), (30, 2, 1, 0, 0), (3, 0, 0, 0, 0), (30, 3, 1, 0, 0), (111, 1, 0, 0, 0)]
abbrev zb_114_1 : List zI0 := [(4, 3, 1, 0, 0), (0, 0, 1, 0, 0), (1, 10, 5, 85, 5), (23, 5, 0, 0, 0), (4, 3, 1, 0, 0), (3, 1, 0, 0, 10), (23, 5, 0, 0, 0), (0, 0, 1, 0, 0), (2, 10, 2, 81, 2), (4, 3, 1, 0, 0), (99, 0, 0, 0, 0), (0, 0, 1, 0, 0), (2, 10, 3, 82, 3), (4, 3, 1, 0, 0), (33, 0, 0, 0, 0), (4, 1, 1, 0, 0), (5, 111, 3, 0, 77), (30, 4, 0, 0, 0), (0, 0, 1, 0, 0), (2, 10, 1, 80, 1), (4, 3, 1, 0, 0), (34, 0, 0, 0, 0), (31, 5, 0, 0, 0), (4, 4, 0, 0, 0), (14, 2, 0, 0, 0), (0, 5, 0, 0, 0), (27, 3, 0, 0, 0), (111, 2, 0, 0, 0)]
abbrev zb_114_2 : List zI0 := [(0, 0, 1, 0, 0), (2, 10, 0, 84, 0), (0, 0, 1, 0, 0), (2, 10, 4, 83, 4), (4, 3, 1, 0, 0), (33, 0, 0, 0, 0), (6, 103, 1, 8, 78), (10, 4, 0, 0, 0)]
abbrev zb_114_3 : List zI0 := [(0, 0, 1, 0, 0), (2, 10, 0, 84, 0), (4, 4, 0, 0, 0), (0, 0, 1, 0, 0), (2, 10, 4, 83, 4), (4, 3, 1, 0, 0), (33, 0, 0, 0, 0), (39, 0, 0, 0, 0), (6, 104, 1, 8, 79), (0, 5, 0, 0, 0), (47, 0, 0, 0, 0), (1, 2, 2, 86, 2), (4, 4, 0, 0, 0), (3, 0, 0, 0, 1), (37, 0, 0, 0, 0), (0, 0, 1, 0, 0), (2, 10, 4, 83, 4), (4, 3, 1, 0, 0), (33, 0, 0, 0, 0), (39, 0, 0, 0, 0), (37, 0, 0, 0, 0), (11, 2, 2, 86, 2), (4, 2, 1, 0, 0), (4, 4, 0, 0, 0), (3, 0, 0, 0, 1), (37, 0, 0, 0, 0), (0, 0, 1, 0, 0), (2, 10, 4, 83, 4), (4, 3, 1, 0, 0), (33, 0, 0, 0, 0), (39, 0, 0, 0, 0), (37, 0, 0, 0, 0), (30, 2, 1, 0, 0), (111, 4, 0, 0, 0)]
abbrev zb_114_4 : List zI0 := [(32, 3, 0, 0, 1), (10, 1, 0, 0, 0)]
abbrev zb_114_5 : List zI0 := [(0, 0, 1, 0, 0), (3, 0, 0, 0, 0), (11, 10, 5, 85, 5), (4, 2, 1, 0, 0), (8, 0, 0, 0, 0)]
abbrev zc_114 : List (List zI0) := [zb_114_0, zb_114_1, zb_114_2, zb_114_3, zb_114_4, zb_114_5]
abbrev zb_115_0 : List zI0 := [(3, 0, 0, 0, 0), (30, 2, 1, 0, 0), (3, 0, 0, 0, 0), (30, 3, 1, 0, 0), (111, 1, 0, 0, 0)]
abbrev zb_115_1 : List zI0 := [(4, 3, 1, 0, 0), (0, 0, 1, 0, 0), (1, 10, 5, 85, 5), (23, 3, 0, 0, 0), (4, 3, 1, 0, 0), (3, 1, 0, 0, 10), (23, 3, 0, 0, 0), (0, 0, 1, 0, 0), (2, 10, 1, 80, 1), (4, 3, 1, 0, 0), (34, 0, 0, 0, 0), (0, 1, 1, 0, 0), (29, 2, 0, 0, 0), (4, 2, 1, 0, 0), (0, 0, 1, 0, 0), (2, 10, 4, 83, 4), (4, 3, 1, 0, 0), (33, 0, 0, 0, 0), (37, 0, 0, 0, 0), (30, 2, 1, 0, 0), (111, 2, 0, 0, 0)]
abbrev zb_115_2 : List zI0 := [(32, 3, 0, 0, 1), (10, 1, 0, 0, 0)]
abbrev zb_115_3 : List zI0 := [(4, 2, 1, 0, 0), (8, 0, 0, 0, 0)]
abbrev zc_115 : List (List zI0) := [zb_115_0, zb_115_1, zb_115_2, zb_115_3]
abbrev zb_116_0 : List zI0 := [(0, 0, 1, 0, 0), (0, 1, 1, 0, 0), (6, 115, 1, 10, 80), (30, 2, 1, 0, 0), (0, 0, 1, 0, 0), (1, 10, 5, 85, 5), (30, 3, 1, 0, 0), (0, 0, 1, 0, 0), (3, 0, 0, 0, 0), (11, 10, 5, 85, 5), (3, 0, 0, 0, 0), (30, 4, 0, 0, 0), (111, 1, 0, 0, 0)]
abbrev zb_116_1 : List zI0 := [(4, 4, 0, 0, 0), (4, 3, 1, 0, 0), (23, 3, 0, 0, 0), (4, 4, 0, 0, 0), (3, 1, 0, 0, 10), (23, 3, 0, 0, 0), (0, 0, 1, 0, 0), (2, 10, 1, 80, 1), (4, 4, 0, 0, 0), (34, 0, 0, 0, 0), (31, 5, 0, 0, 0), (0, 5, 0, 0, 0), (0, 1, 1, 0, 0), (28, 2, 0, 0, 0), (0, 0, 1, 0, 0), (0, 5, 0, 0, 0), (0, 0, 1, 0, 0), (2, 10, 2, 81, 2), (4, 4, 0, 0, 0), (99, 0, 0, 0, 0), (0, 0, 1, 0, 0), (2, 10, 3, 82, 3), (4, 4, 0, 0, 0), (33, 0, 0, 0, 0), (0, 0, 1, 0, 0), (2, 10, 4, 83, 4), (4, 4, 0, 0, 0), (33, 0, 0, 0, 0), (6, 113, 4, 10, 81), (111, 2, 0, 0, 0)]
abbrev zb_116_2 : List zI0 := [(32, 4, 0, 0, 1), (10, 1, 0, 0, 0)]
abbrev zb_116_3 : List zI0 := [(4, 2, 1, 0, 0), (8, 0, 0, 0, 0)]
abbrev zc_116 : List (List zI0) := [zb_116_0, zb_116_1, zb_116_2, zb_116_3]
abbrev zb_117_0 : List zI0 := [(0, 0, 1, 0, 0), (108, 0, 0, 0, 1), (0, 0, 1, 0, 0), (3, 1, 0, 0, 8), (59, 2, 6, 0, 0), (13, 11, 0, 87, 0), (0, 0, 1, 0, 0), (3, 0, 0, 0, 3), (59, 8, 7, 0, 0), (13, 11, 1, 88, 1), (0, 0, 1, 0, 0), (57, 9, 1, 8, 0), (47, 0, 0, 0, 0), (7, 107, 0, 9, 82), (13, 11, 2, 89, 2), (0, 0, 1, 0, 0), (57, 7, 8, 9, 0), (47, 0, 0, 0, 0), (7, 80, 0, 7, 83), (13, 11, 3, 90, 3), (0, 0, 1, 0, 0), (57, 1, 3, 10, 0), (47, 0, 0, 0, 0), (7, 17, 0, 1, 84), (13, 11, 5, 91, 5), (0, 0, 1, 0, 0), (57, 4, 5, 11, 0), (47, 0, 0, 0, 0), (7, 43, 0, 4, 85), (13, 11, 8, 92, 8), (3, 0, 0, 0, 0), (30, 1, 1, 0, 0), (111, 1, 0, 0, 0)]
abbrev zb_117_1 : List zI0 := [(4, 1, 1, 0, 0), (0, 0, 1, 0, 0), (2, 11, 0, 87, 0), (36, 0, 0, 0, 0), (23, 2, 0, 0, 0), (0, 0, 1, 0, 0), (2, 11, 0, 87, 0), (4, 1, 1, 0, 0), (57, 2, 13, 12, 0), (47, 0, 0, 0, 0), (7, 20, 0, 2, 86), (62, 0, 0, 0, 0), (32, 1, 0, 0, 1), (10, 1, 0, 0, 0)]
abbrev zb_117_2 : List zI0 := [(3, 0, 0, 0, 0), (30, 1, 1, 0, 0), (111, 3, 0, 0, 0)]
abbrev zb_117_3 : List zI0 := [(4, 1, 1, 0, 0), (0, 0, 1, 0, 0), (2, 11, 1, 88, 1), (36, 0, 0, 0, 0), (23, 4, 0, 0, 0), (0, 0, 1, 0, 0), (2, 11, 1, 88, 1), (4, 1, 1, 0, 0), (57, 8, 5, 13, 0), (47, 0, 0, 0, 0), (0, 0, 1, 0, 0), (2, 11, 2, 89, 2), (7, 100, 1, 8, 87), (62, 0, 0, 0, 0), (32, 1, 0, 0, 1), (10, 3, 0, 0, 0)]
abbrev zb_117_4 : List zI0 := [(0, 0, 1, 0, 0), (57, 0, 10, 14, 0), (47, 0, 0, 0, 0), (0, 0, 1, 0, 0), (2, 11, 3, 90, 3), (0, 0, 1, 0, 0), (2, 11, 1, 88, 1), (3, 0, 0, 0, 0), (34, 0, 0, 0, 0), (7, 0, 2, 0, 88), (13, 11, 4, 93, 4), (0, 0, 1, 0, 0), (57, 10, 6, 15, 0), (47, 0, 0, 0, 0), (0, 0, 1, 0, 0), (2, 11, 1, 88, 1), (3, 0, 0, 0, 1), (34, 0, 0, 0, 0), (7, 108, 1, 10, 89), (13, 11, 6, 94, 6), (0, 0, 1, 0, 0), (57, 5, 9, 16, 0), (47, 0, 0, 0, 0), (0, 0, 1, 0, 0), (2, 11, 1, 88, 1), (3, 0, 0, 0, 2), (34, 0, 0, 0, 0), (7, 53, 1, 5, 90), (13, 11, 7, 95, 7), (50, 0, 0, 0, 0)]
abbrev zc_117 : List (List zI0) := [zb_117_0, zb_117_1, zb_117_2, zb_117_3, zb_117_4]
abbrev zb_118_0 : List zI0 := [(4, 1, 1, 0, 0), (3, 0, 0, 0, 0), (3, 3, 2, 0, 99999), (5, 198, 3, 0, 91), (0, 0, 1, 0, 0), (1, 11, 9, 96, 9), (16, 1, 0, 0, 0), (0, 0, 1, 0, 0), (1, 11, 9, 96, 9), (0, 0, 1, 0, 0), (2, 11, 0, 87, 0), (36, 0, 0, 0, 0), (22, 2, 0, 0, 0), (111, 1, 0, 0, 0)]
abbrev zb_118_1 : List zI0 := [(55, 1, 0, 0, 0)]
abbrev zb_118_2 : List zI0 := [(0, 0, 1, 0, 0), (2, 11, 0, 87, 0), (0, 0, 1, 0, 0), (1, 11, 9, 96, 9), (34, 0, 0, 0, 0), (4, 1, 1, 0, 0), (11, 2, 1, 97, 1), (0, 0, 1, 0, 0), (47, 0, 0, 0, 0), (1, 11, 9, 96, 9), (3, 0, 0, 0, 1), (37, 0, 0, 0, 0), (11, 11, 9, 96, 9), (0, 0, 1, 0, 0), (1, 11, 9, 96, 9), (3, 0, 0, 0, 1), (38, 0, 0, 0, 0), (8, 0, 0, 0, 0)]
abbrev zc_118 : List (List zI0) := [zb_118_0, zb_118_1, zb_118_2]
abbrev zb_119_0 : List zI0 := [(0, 0, 1, 0, 0), (4, 1, 1, 0, 0), (6, 183, 1, 11, 92), (31, 3, 1, 0, 0), (4, 2, 1, 0, 0), (3, 0, 0, 0, 1), (3, 2, 0, 0, 9999), (5, 198, 3, 0, 91), (0, 3, 1, 0, 0), (1, 2, 1, 97, 1), (4, 2, 1, 0, 0), (22, 1, 0, 0, 0), (0, 0, 1, 0, 0), (2, 11, 2, 89, 2), (1, 9, 0, 98, 0), (4, 2, 1, 0, 0), (23, 2, 0, 0, 0), (111, 1, 0, 0, 0)]
abbrev zb_119_1 : List zI0 := [(55, 3, 1, 0, 0)]
abbrev zb_119_2 : List zI0 := [(0, 0, 1, 0, 0), (2, 11, 2, 89, 2), (47, 0, 0, 0, 0), (1, 9, 0, 98, 0), (4, 2, 1, 0, 0), (38, 0, 0, 0, 0), (11, 9, 0, 98, 0), (0, 3, 1, 0, 0), (4, 2, 1, 0, 0), (6, 24, 1, 2, 93), (0, 3, 1, 0, 0), (1, 2, 2, 99, 2), (8, 0, 0, 0, 0)]
abbrev zc_119 : List (List zI0) := [zb_119_0, zb_119_1, zb_119_2]
abbrev zb_120_0 : List zI0 := [(0, 0, 1, 0, 0), (4, 1, 1, 0, 0), (6, 183, 1, 11, 92), (31, 3, 1, 0, 0), (4, 2, 1, 0, 0), (3, 0, 0, 0, 1), (3, 3, 2, 0, 99999), (5, 198, 3, 0, 91), (0, 3, 1, 0, 0), (1, 2, 2, 99, 2), (4, 2, 1, 0, 0), (23, 1, 0, 0, 0), (55, 3, 2, 0, 0)]
abbrev zb_120_1 : List zI0 := [(0, 3, 1, 0, 0), (47, 0, 0, 0, 0), (1, 2, 2, 99, 2), (4, 2, 1, 0, 0), (38, 0, 0, 0, 0), (11, 2, 2, 99, 2), (0, 3, 1, 0, 0), (47, 0, 0, 0, 0), (1, 2, 1, 97, 1), (4, 2, 1, 0, 0), (37, 0, 0, 0, 0), (11, 2, 1, 97, 1), (0, 0, 1, 0, 0), (2, 11, 2, 89, 2), (47, 0, 0, 0, 0), (1, 9, 0, 98, 0), (4, 2, 1, 0, 0), (37, 0, 0, 0, 0), (11, 9, 0, 98, 0), (0, 3, 1, 0, 0), (1, 2, 1, 97, 1), (8, 0, 0, 0, 0)]
abbrev zc_120 : List (List zI0) := [zb_120_0, zb_120_1]
abbrev zb_121_0 : List zI0 := [(0, 0, 1, 0, 0), (4, 1, 1, 0, 0), (6, 183, 1, 11, 92), (31, 3, 1, 0, 0), (4, 2, 1, 0, 0), (3, 0, 0, 0, 0), (3, 2, 0, 0, 5000), (5, 198, 3, 0, 91), (0, 3, 1, 0, 0), (4, 2, 1, 0, 0), (6, 25, 1, 2, 94), (0, 3, 1, 0, 0), (1, 2, 3, 100, 3), (8, 0, 0, 0, 0)]
abbrev zc_121 : List (List zI0) := [zb_121_0]
abbrev zb_122_0 : List zI0 := [(0, 0, 1, 0, 0), (4, 1, 1, 0, 0), (6, 183, 1, 11, 92), (31, 3, 1, 0, 0), (4, 2, 1, 0, 0), (0, 0, 1, 0, 0), (1, 11, 10, 101, 10), (25, 1, 0, 0, 0), (4, 2, 1, 0, 0), (3, 2, 0, 0, 999), (24, 1, 0, 0, 0), (4, 2, 1, 0, 0), (0, 3, 1, 0, 0), (1, 2, 6, 102, 6), (23, 2, 0, 0, 0), (111, 1, 0, 0, 0)]
abbrev zb_122_1 : List zI0 := [(55, 0, 3, 0, 0)]
abbrev zb_122_2 : List zI0 := [(0, 3, 1, 0, 0), (4, 2, 1, 0, 0), (11, 2, 6, 102, 6), (0, 0, 1, 0, 0), (2, 11, 4, 93, 4), (0, 3, 1, 0, 0), (6, 4, 1, 0, 95), (0, 0, 1, 0, 0), (2, 11, 6, 94, 6), (0, 3, 1, 0, 0), (6, 116, 1, 10, 96), (37, 0, 0, 0, 0), (0, 0, 1, 0, 0), (2, 11, 7, 95, 7), (0, 3, 1, 0, 0), (6, 65, 1, 5, 97), (37, 0, 0, 0, 0), (30, 4, 0, 0, 0), (0, 3, 1, 0, 0), (47, 0, 0, 0, 0), (1, 2, 2, 99, 2), (4, 4, 0, 0, 0), (37, 0, 0, 0, 0), (11, 2, 2, 99, 2), (0, 0, 1, 0, 0), (2, 11, 8, 92, 8), (0, 3, 1, 0, 0), (6, 52, 1, 4, 98), (0, 0, 1, 0, 0), (2, 11, 4, 93, 4), (6, 11, 0, 0, 99), (4, 4, 0, 0, 0), (8, 0, 0, 0, 0)]
abbrev zc_122 : List (List zI0) := [zb_122_0, zb_122_1, zb_122_2]
abbrev zb_123_0 : List zI0 := [(4, 1, 1, 0, 0), (3, 0, 0, 0, 1), (3, 1, 0, 0, 30), (5, 198, 3, 0, 91), (0, 0, 1, 0, 0), (2, 11, 4, 93, 4), (1, 0, 4, 103, 4), (15, 1, 0, 0, 0), (0, 0, 1, 0, 0), (2, 11, 7, 95, 7), (6, 57, 0, 5, 100), (14, 2, 0, 0, 0), (111, 1, 0, 0, 0)]
abbrev zb_123_1 : List zI0 := [(55, 1, 4, 0, 0)]
abbrev zb_123_2 : List zI0 := [(3, 0, 0, 0, 0), (30, 2, 1, 0, 0), (111, 3, 0, 0, 0)]
abbrev zb_123_3 : List zI0 := [(4, 2, 1, 0, 0), (4, 1, 1, 0, 0), (23, 6, 0, 0, 0), (0, 0, 1, 0, 0), (47, 0, 0, 0, 0), (1, 11, 10, 101, 10), (3, 0, 0, 0, 1), (37, 0, 0, 0, 0), (11, 11, 10, 101, 10), (0, 0, 1, 0, 0), (2, 11, 0, 87, 0), (31, 3, 1, 0, 0), (0, 3, 1, 0, 0), (36, 0, 0, 0, 0), (30, 4, 0, 0, 0), (3, 0, 0, 0, 0), (30, 5, 0, 0, 0), (111, 4, 0, 0, 0)]
abbrev zb_123_4 : List zI0 := [(4, 5, 0, 0, 0), (4, 4, 0, 0, 0), (23, 5, 0, 0, 0), (0, 3, 1, 0, 0), (4, 5, 0, 0, 0), (34, 0, 0, 0, 0), (31, 6, 0, 0, 0), (0, 6, 0, 0, 0), (6, 26, 0, 2, 101), (0, 0, 1, 0, 0), (2, 11, 8, 92, 8), (47, 0, 0, 0, 0), (1, 4, 4, 104, 4), (0, 6, 0, 0, 0), (0, 0, 1, 0, 0), (1, 11, 10, 101, 10), (6, 30, 1, 2, 102), (37, 0, 0, 0, 0), (11, 4, 4, 104, 4), (32, 5, 0, 0, 1), (10, 4, 0, 0, 0)]
abbrev zb_123_5 : List zI0 := [(32, 2, 0, 0, 1), (10, 3, 0, 0, 0)]
abbrev zb_123_6 : List zI0 := [(0, 0, 1, 0, 0), (1, 11, 10, 101, 10), (8, 0, 0, 0, 0)]
abbrev zc_123 : List (List zI0) := [zb_123_0, zb_123_1, zb_123_2, zb_123_3, zb_123_4, zb_123_5, zb_123_6]
abbrev zb_124_0 : List zI0 := [(0, 0, 1, 0, 0), (4, 1, 1, 0, 0), (6, 184, 1, 11, 103), (31, 3, 1, 0, 0), (4, 2, 1, 0, 0), (3, 0, 0, 0, 1), (3, 2, 0, 0, 9999), (5, 198, 3, 0, 91), (0, 0, 1, 0, 0), (2, 11, 2, 89, 2), (1, 9, 0, 98, 0), (4, 2, 1, 0, 0), (23, 1, 0, 0, 0), (55, 3, 5, 0, 0)]
abbrev zb_124_1 : List zI0 := [(0, 3, 1, 0, 0), (4, 2, 1, 0, 0), (6, 101, 1, 8, 104), (0, 3, 1, 0, 0), (1, 8, 1, 105, 1), (8, 0, 0, 0, 0)]
abbrev zc_124 : List (List zI0) := [zb_124_0, zb_124_1]
abbrev zb_125_0 : List zI0 := [(0, 0, 1, 0, 0), (4, 1, 1, 0, 0), (6, 184, 1, 11, 103), (31, 3, 1, 0, 0), (4, 2, 1, 0, 0), (3, 0, 0, 0, 1), (3, 2, 0, 0, 9999), (5, 198, 3, 0, 91), (0, 3, 1, 0, 0), (1, 8, 1, 105, 1), (4, 2, 1, 0, 0), (23, 1, 0, 0, 0), (55, 3, 6, 0, 0)]
abbrev zb_125_1 : List zI0 := [(0, 3, 1, 0, 0), (4, 2, 1, 0, 0), (6, 102, 1, 8, 105), (0, 3, 1, 0, 0), (1, 8, 1, 105, 1), (8, 0, 0, 0, 0)]
abbrev zc_125 : List (List zI0) := [zb_125_0, zb_125_1]
abbrev zb_126_0 : List zI0 := [(3, 0, 0, 0, 0), (30, 1, 1, 0, 0), (0, 0, 1, 0, 0), (2, 11, 1, 88, 1), (31, 2, 1, 0, 0), (0, 2, 1, 0, 0), (36, 0, 0, 0, 0), (30, 3, 1, 0, 0), (3, 0, 0, 0, 0), (30, 4, 0, 0, 0), (111, 1, 0, 0, 0)]
abbrev zb_126_1 : List zI0 := [(4, 4, 0, 0, 0), (4, 3, 1, 0, 0), (23, 2, 0, 0, 0), (0, 2, 1, 0, 0), (4, 4, 0, 0, 0), (34, 0, 0, 0, 0), (31, 5, 0, 0, 0), (4, 1, 1, 0, 0), (0, 5, 0, 0, 0), (6, 105, 0, 8, 106), (37, 0, 0, 0, 0), (30, 1, 1, 0, 0), (0, 5, 0, 0, 0), (6, 106, 0, 8, 107), (32, 4, 0, 0, 1), (10, 1, 0, 0, 0)]
abbrev zb_126_2 : List zI0 := [(4, 1, 1, 0, 0), (8, 0, 0, 0, 0)]
abbrev zc_126 : List (List zI0) := [zb_126_0, zb_126_1, zb_126_2]
abbrev zb_127_0 : List zI0 := [(0, 0, 1, 0, 0), (4, 1, 1, 0, 0), (6, 184, 1, 11, 103), (6, 105, 0, 8, 106), (8, 0, 0, 0, 0)]
abbrev zc_127 : List (List zI0) := [zb_127_0]
abbrev zb_128_0 : List zI0 := [(4, 1, 1, 0, 0), (3, 1, 0, 0, 100), (20, 1, 0, 0, 0), (4, 1, 1, 0, 0), (3, 1, 0, 0, 117), (20, 1, 0, 0, 0), (4, 1, 1, 0, 0), (3, 1, 0, 0, 115), (20, 1, 0, 0, 0), (4, 1, 1, 0, 0), (3, 1, 0, 0, 110), (20, 1, 0, 0, 0), (55, 0, 7, 0, 0)]
abbrev zb_128_1 : List zI0 := [(0, 0, 1, 0, 0), (6, 192, 0, 11, 108), (0, 0, 1, 0, 0), (2, 11, 4, 93, 4), (4, 1, 1, 0, 0), (4, 2, 1, 0, 0), (6, 1, 2, 0, 109), (9, 0, 0, 0, 0)]
abbrev zc_128 : List (List zI0) := [zb_128_0, zb_128_1]
abbrev zb_129_0 : List zI0 := [(4, 1, 1, 0, 0), (3, 0, 0, 0, 1), (3, 0, 0, 0, 2), (5, 198, 3, 0, 91), (0, 0, 1, 0, 0), (6, 192, 0, 11, 108), (0, 0, 1, 0, 0), (2, 11, 3, 90, 3), (4, 1, 1, 0, 0), (6, 84, 1, 7, 110), (0, 0, 1, 0, 0), (2, 11, 4, 93, 4), (6, 5, 0, 0, 111), (0, 0, 1, 0, 0), (2, 11, 3, 90, 3), (6, 82, 0, 7, 112), (8, 0, 0, 0, 0)]
abbrev zc_129 : List (List zI0) := [zb_129_0]
abbrev zb_130_0 : List zI0 := [(4, 1, 1, 0, 0), (3, 0, 0, 0, 1), (22, 1, 0, 0, 0), (4, 1, 1, 0, 0), (0, 0, 1, 0, 0), (2, 11, 3, 90, 3), (6, 82, 0, 7, 112), (22, 2, 0, 0, 0), (111, 1, 0, 0, 0)]
abbrev zb_130_1 : List zI0 := [(55, 0, 8, 0, 0)]
abbrev zb_130_2 : List zI0 := [(0, 0, 1, 0, 0), (6, 192, 0, 11, 108), (0, 0, 1, 0, 0), (2, 11, 3, 90, 3), (4, 1, 1, 0, 0), (6, 85, 1, 7, 113), (0, 0, 1, 0, 0), (2, 11, 3, 90, 3), (3, 0, 0, 0, 0), (6, 83, 1, 7, 114), (8, 0, 0, 0, 0)]
abbrev zc_130 : List (List zI0) := [zb_130_0, zb_130_1, zb_130_2]
abbrev zb_131_0 : List zI0 := [(0, 0, 1, 0, 0), (2, 11, 3, 90, 3), (6, 82, 0, 7, 112), (15, 1, 0, 0, 0), (55, 3, 9, 0, 0)]
abbrev zb_131_1 : List zI0 := [(0, 0, 1, 0, 0), (6, 192, 0, 11, 108), (0, 0, 1, 0, 0), (2, 11, 3, 90, 3), (4, 1, 1, 0, 0), (6, 86, 1, 7, 115), (0, 0, 1, 0, 0), (2, 11, 3, 90, 3), (3, 0, 0, 0, 0), (6, 83, 1, 7, 114), (8, 0, 0, 0, 0)]
abbrev zc_131 : List (List zI0) := [zb_131_0, zb_131_1]
abbrev zb_132_0 : List zI0 := [(0, 0, 1, 0, 0), (4, 1, 1, 0, 0), (6, 185, 1, 11, 116), (31, 4, 0, 0, 0), (0, 0, 1, 0, 0), (4, 2, 1, 0, 0), (6, 183, 1, 11, 92), (31, 5, 0, 0, 0), (4, 3, 1, 0, 0), (3, 0, 0, 0, 2), (3, 2, 0, 0, 1000), (5, 198, 3, 0, 91), (0, 4, 0, 0, 0), (6, 69, 0, 6, 117), (14, 1, 0, 0, 0), (55, 3, 10, 0, 0)]
abbrev zb_132_1 : List zI0 := [(0, 0, 1, 0, 0), (0, 5, 0, 0, 0), (4, 3, 1, 0, 0), (6, 188, 2, 11, 118), (0, 0, 1, 0, 0), (6, 192, 0, 11, 108), (0, 5, 0, 0, 0), (4, 3, 1, 0, 0), (0, 0, 1, 0, 0), (2, 11, 3, 90, 3), (6, 98, 0, 7, 119), (3, 0, 0, 0, 2), (22, 2, 0, 0, 0), (3, 0, 0, 0, 1), (10, 3, 0, 0, 0)]
abbrev zb_132_2 : List zI0 := [(3, 0, 0, 0, 0), (111, 3, 0, 0, 0)]
abbrev zb_132_3 : List zI0 := [(6, 27, 2, 2, 120), (0, 5, 0, 0, 0), (4, 3, 1, 0, 0), (6, 23, 1, 2, 121), (0, 4, 0, 0, 0), (0, 5, 0, 0, 0), (4, 3, 1, 0, 0), (6, 71, 2, 6, 122), (0, 5, 0, 0, 0), (1, 2, 2, 99, 2), (8, 0, 0, 0, 0)]
abbrev zc_132 : List (List zI0) := [zb_132_0, zb_132_1, zb_132_2, zb_132_3]
abbrev zb_133_0 : List zI0 := [(0, 0, 1, 0, 0), (2, 11, 4, 93, 4), (6, 2, 0, 0, 123), (14, 1, 0, 0, 0), (0, 0, 1, 0, 0), (2, 11, 3, 90, 3), (6, 82, 0, 7, 112), (3, 1, 0, 0, 30), (23, 2, 0, 0, 0), (111, 1, 0, 0, 0)]
abbrev zb_133_1 : List zI0 := [(55, 3, 11, 0, 0)]
abbrev zb_133_2 : List zI0 := [(0, 0, 1, 0, 0), (6, 192, 0, 11, 108), (0, 0, 1, 0, 0), (2, 11, 4, 93, 4), (6, 7, 0, 0, 124), (30, 1, 1, 0, 0), (0, 0, 1, 0, 0), (2, 11, 4, 93, 4), (6, 11, 0, 0, 99), (4, 1, 1, 0, 0), (8, 0, 0, 0, 0)]
abbrev zc_133 : List (List zI0) := [zb_133_0, zb_133_1, zb_133_2]
abbrev zb_134_0 : List zI0 := [(0, 0, 1, 0, 0), (4, 1, 1, 0, 0), (6, 186, 1, 11, 125), (31, 2, 1, 0, 0), (0, 0, 1, 0, 0), (3, 0, 0, 0, 1), (6, 189, 1, 11, 126), (0, 0, 1, 0, 0), (2, 11, 4, 93, 4), (0, 2, 1, 0, 0), (6, 9, 1, 0, 127), (30, 3, 1, 0, 0), (0, 0, 1, 0, 0), (2, 11, 4, 93, 4), (6, 11, 0, 0, 99), (4, 3, 1, 0, 0), (8, 0, 0, 0, 0)]
abbrev zc_134 : List (List zI0) := [zb_134_0]
abbrev zb_135_0 : List zI0 := [(0, 0, 1, 0, 0), (4, 1, 1, 0, 0), (6, 186, 1, 11, 125), (31, 2, 1, 0, 0), (0, 2, 1, 0, 0), (3, 0, 0, 0, 0), (12, 3, 5, 106, 5), (0, 0, 1, 0, 0), (2, 11, 4, 93, 4), (6, 11, 0, 0, 99), (0, 0, 1, 0, 0), (2, 11, 4, 93, 4), (6, 6, 0, 0, 128), (8, 0, 0, 0, 0)]
abbrev zc_135 : List (List zI0) := [zb_135_0]
abbrev zb_136_0 : List zI0 := [(0, 0, 1, 0, 0), (4, 1, 1, 0, 0), (6, 186, 1, 11, 125), (31, 2, 1, 0, 0), (0, 0, 1, 0, 0), (4, 1, 1, 0, 0), (6, 185, 1, 11, 116), (31, 3, 1, 0, 0), (0, 2, 1, 0, 0), (1, 3, 1, 107, 1), (3, 0, 0, 0, 2), (21, 1, 0, 0, 0), (0, 3, 1, 0, 0), (1, 6, 3, 108, 3), (14, 2, 0, 0, 0), (0, 0, 1, 0, 0), (2, 11, 4, 93, 4), (1, 0, 5, 109, 5), (15, 2, 0, 0, 0), (111, 1, 0, 0, 0)]
abbrev zb_136_1 : List zI0 := [(56, 3, 12, 0, 0)]
abbrev zb_136_2 : List zI0 := [(0, 0, 1, 0, 0), (3, 0, 0, 0, 1), (6, 189, 1, 11, 126), (0, 0, 1, 0, 0), (0, 3, 1, 0, 0), (0, 2, 1, 0, 0), (1, 3, 4, 110, 4), (6, 187, 2, 11, 129), (31, 4, 0, 0, 0), (0, 4, 0, 0, 0), (0, 2, 1, 0, 0), (1, 3, 4, 110, 4), (6, 23, 1, 2, 121), (0, 2, 1, 0, 0), (47, 0, 0, 0, 0), (1, 3, 4, 110, 4), (0, 2, 1, 0, 0), (1, 3, 4, 110, 4), (37, 0, 0, 0, 0), (11, 3, 4, 110, 4), (0, 0, 1, 0, 0), (2, 11, 4, 93, 4), (0, 2, 1, 0, 0), (6, 9, 1, 0, 127), (30, 5, 0, 0, 0), (0, 2, 1, 0, 0), (3, 0, 0, 0, 0), (12, 3, 5, 106, 5), (0, 0, 1, 0, 0), (2, 11, 4, 93, 4), (6, 11, 0, 0, 99), (4, 5, 0, 0, 0), (8, 0, 0, 0, 0)]
abbrev zc_136 : List (List zI0) := [zb_136_0, zb_136_1, zb_136_2]
abbrev zb_137_0 : List zI0 := [(0, 0, 1, 0, 0), (4, 1, 1, 0, 0), (6, 186, 1, 11, 125), (31, 2, 1, 0, 0), (0, 0, 1, 0, 0), (4, 1, 1, 0, 0), (6, 185, 1, 11, 116), (31, 3, 1, 0, 0), (0, 3, 1, 0, 0), (1, 6, 3, 108, 3), (15, 1, 0, 0, 0), (0, 2, 1, 0, 0), (6, 39, 0, 3, 130), (15, 2, 0, 0, 0), (111, 1, 0, 0, 0)]
abbrev zb_137_1 : List zI0 := [(56, 3, 13, 0, 0)]
abbrev zb_137_2 : List zI0 := [(0, 0, 1, 0, 0), (3, 0, 0, 0, 2), (6, 189, 1, 11, 126), (0, 0, 1, 0, 0), (0, 3, 1, 0, 0), (0, 2, 1, 0, 0), (1, 3, 4, 110, 4), (6, 187, 2, 11, 129), (31, 4, 0, 0, 0), (0, 4, 0, 0, 0), (0, 2, 1, 0, 0), (1, 3, 4, 110, 4), (6, 23, 1, 2, 121), (0, 3, 1, 0, 0), (6, 74, 0, 6, 131), (0, 0, 1, 0, 0), (2, 11, 4, 93, 4), (0, 3, 1, 0, 0), (2, 6, 0, 111, 0), (6, 9, 1, 0, 127), (30, 5, 0, 0, 0), (0, 0, 1, 0, 0), (2, 11, 4, 93, 4), (0, 3, 1, 0, 0), (2, 6, 1, 112, 1), (6, 9, 1, 0, 127), (49, 0, 0, 0, 0), (0, 0, 1, 0, 0), (2, 11, 4, 93, 4), (6, 11, 0, 0, 99), (4, 5, 0, 0, 0), (8, 0, 0, 0, 0)]
abbrev zc_137 : List (List zI0) := [zb_137_0, zb_137_1, zb_137_2]
abbrev zb_138_0 : List zI0 := [(0, 0, 1, 0, 0), (4, 1, 1, 0, 0), (6, 186, 1, 11, 125), (31, 2, 1, 0, 0), (0, 0, 1, 0, 0), (4, 1, 1, 0, 0), (6, 185, 1, 11, 116), (31, 3, 1, 0, 0), (0, 0, 1, 0, 0), (2, 11, 4, 93, 4), (1, 0, 6, 113, 6), (14, 1, 0, 0, 0), (0, 3, 1, 0, 0), (1, 6, 3, 108, 3), (15, 1, 0, 0, 0), (0, 2, 1, 0, 0), (1, 3, 1, 107, 1), (3, 0, 0, 0, 2), (20, 2, 0, 0, 0), (111, 1, 0, 0, 0)]
abbrev zb_138_1 : List zI0 := [(56, 3, 14, 0, 0)]
abbrev zb_138_2 : List zI0 := [(0, 0, 1, 0, 0), (2, 11, 4, 93, 4), (0, 3, 1, 0, 0), (0, 2, 1, 0, 0), (6, 10, 2, 0, 132), (30, 4, 0, 0, 0), (0, 0, 1, 0, 0), (2, 11, 4, 93, 4), (6, 11, 0, 0, 99), (4, 4, 0, 0, 0), (8, 0, 0, 0, 0)]
abbrev zc_138 : List (List zI0) := [zb_138_0, zb_138_1, zb_138_2]
abbrev zb_139_0 : List zI0 := [(0, 0, 1, 0, 0), (4, 1, 1, 0, 0), (6, 185, 1, 11, 116), (4, 2, 1, 0, 0), (6, 72, 1, 6, 133), (31, 4, 0, 0, 0), (0, 4, 0, 0, 0), (27, 1, 0, 0, 0), (56, 2, 15, 0, 0)]
abbrev zb_139_1 : List zI0 := [(0, 4, 0, 0, 0), (4, 3, 1, 0, 0), (6, 36, 1, 3, 134), (30, 5, 0, 0, 0), (4, 5, 0, 0, 0), (15, 2, 0, 0, 0), (56, 4, 16, 0, 0)]
abbrev zb_139_2 : List zI0 := [(4, 5, 0, 0, 0), (8, 0, 0, 0, 0)]
abbrev zc_139 : List (List zI0) := [zb_139_0, zb_139_1, zb_139_2]
abbrev zb_140_0 : List zI0 := [(0, 0, 1, 0, 0), (2, 11, 4, 93, 4), (1, 0, 4, 103, 4), (14, 1, 0, 0, 0), (4, 1, 1, 0, 0), (14, 1, 0, 0, 0), (3, 0, 0, 0, 0), (10, 2, 0, 0, 0)]
abbrev zb_140_1 : List zI0 := [(0, 0, 1, 0, 0), (2, 11, 4, 93, 4), (2, 0, 3, 114, 3), (4, 1, 1, 0, 0), (6, 36, 1, 3, 134), (111, 2, 0, 0, 0)]
abbrev zb_140_2 : List zI0 := [(30, 2, 1, 0, 0), (4, 2, 1, 0, 0), (15, 3, 0, 0, 0), (56, 4, 17, 0, 0)]
abbrev zb_140_3 : List zI0 := [(4, 2, 1, 0, 0), (8, 0, 0, 0, 0)]
abbrev zc_140 : List (List zI0) := [zb_140_0, zb_140_1, zb_140_2, zb_140_3]
abbrev zb_141_0 : List zI0 := [(0, 0, 1, 0, 0), (6, 191, 0, 11, 135), (0, 0, 1, 0, 0), (2, 11, 4, 93, 4), (6, 6, 0, 0, 128), (8, 0, 0, 0, 0)]
abbrev zc_141 : List (List zI0) := [zb_141_0]
abbrev zb_142_0 : List zI0 := [(4, 1, 1, 0, 0), (3, 0, 0, 0, 1), (3, 1, 0, 0, 10), (5, 198, 3, 0, 91), (0, 0, 1, 0, 0), (2, 11, 3, 90, 3), (4, 1, 1, 0, 0), (6, 93, 1, 7, 136), (8, 0, 0, 0, 0)]
abbrev zc_142 : List (List zI0) := [zb_142_0]
abbrev zb_143_0 : List zI0 := [(4, 1, 1, 0, 0), (3, 0, 0, 0, 4), (3, 1, 0, 0, 21), (5, 198, 3, 0, 91), (0, 0, 1, 0, 0), (6, 190, 0, 11, 137), (0, 0, 1, 0, 0), (2, 11, 3, 90, 3), (3, 1, 0, 0, 21), (4, 1, 1, 0, 0), (38, 0, 0, 0, 0), (6, 94, 1, 7, 138), (65, 0, 0, 0, 0), (0, 0, 1, 0, 0), (2, 11, 3, 90, 3), (6, 95, 0, 7, 139), (65, 0, 0, 0, 0), (5, 204, 2, 0, 140), (52, 0, 0, 0, 0)]
abbrev zc_143 : List (List zI0) := [zb_143_0]
abbrev zb_144_0 : List zI0 := [(4, 1, 1, 0, 0), (3, 0, 0, 0, 4), (3, 1, 0, 0, 21), (5, 198, 3, 0, 91), (0, 0, 1, 0, 0), (6, 190, 0, 11, 137), (0, 0, 1, 0, 0), (2, 11, 3, 90, 3), (3, 1, 0, 0, 21), (4, 1, 1, 0, 0), (38, 0, 0, 0, 0), (6, 94, 1, 7, 138), (65, 0, 0, 0, 0), (0, 0, 1, 0, 0), (2, 11, 3, 90, 3), (6, 95, 0, 7, 139), (65, 0, 0, 0, 0), (5, 205, 2, 0, 141), (52, 0, 0, 0, 0)]
abbrev zc_144 : List (List zI0) := [zb_144_0]
abbrev zb_145_0 : List zI0 := [(4, 1, 1, 0, 0), (3, 1, 0, 0, 17), (3, 1, 0, 0, 22), (5, 198, 3, 0, 91), (0, 0, 1, 0, 0), (6, 191, 0, 11, 135), (0, 0, 1, 0, 0), (2, 11, 5, 91, 5), (4, 1, 1, 0, 0), (0, 0, 1, 0, 0), (2, 11, 4, 93, 4), (6, 18, 2, 1, 142), (53, 0, 0, 0, 0)]
abbrev zc_145 : List (List zI0) := [zb_145_0]
abbrev zb_146_0 : List zI0 := [(4, 1, 1, 0, 0), (3, 0, 0, 0, 1), (3, 1, 0, 0, 10), (5, 198, 3, 0, 91), (4, 2, 1, 0, 0), (3, 1, 0, 0, (-3)), (3, 0, 0, 0, 3), (5, 198, 3, 0, 91), (0, 0, 1, 0, 0), (2, 11, 3, 90, 3), (4, 1, 1, 0, 0), (4, 2, 1, 0, 0), (6, 96, 2, 7, 143), (8, 0, 0, 0, 0)]
abbrev zc_146 : List (List zI0) := [zb_146_0]
abbrev zb_147_0 : List zI0 := [(0, 0, 1, 0, 0), (2, 11, 3, 90, 3), (6, 97, 0, 7, 144), (8, 0, 0, 0, 0)]
abbrev zc_147 : List (List zI0) := [zb_147_0]
abbrev zb_148_0 : List zI0 := [(0, 0, 1, 0, 0), (6, 190, 0, 11, 137), (0, 0, 1, 0, 0), (2, 11, 3, 90, 3), (6, 98, 0, 7, 119), (8, 0, 0, 0, 0)]
abbrev zc_148 : List (List zI0) := [zb_148_0]
abbrev zb_149_0 : List zI0 := [(0, 0, 1, 0, 0), (4, 1, 1, 0, 0), (6, 183, 1, 11, 92), (6, 28, 0, 2, 145), (9, 0, 0, 0, 0)]
abbrev zc_149 : List (List zI0) := [zb_149_0]
abbrev zb_150_0 : List zI0 := [(0, 0, 1, 0, 0), (2, 11, 4, 93, 4), (1, 0, 9, 115, 9), (8, 0, 0, 0, 0)]
abbrev zc_150 : List (List zI0) := [zb_150_0]
abbrev zb_151_0 : List zI0 := [(0, 0, 1, 0, 0), (4, 1, 1, 0, 0), (6, 183, 1, 11, 92), (31, 5, 0, 0, 0), (4, 2, 1, 0, 0), (4, 3, 1, 0, 0), (5, 109, 2, 0, 146), (15, 1, 0, 0, 0), (56, 0, 18, 0, 0)]
abbrev zb_151_1 : List zI0 := [(4, 4, 0, 0, 0), (3, 0, 0, 0, 1), (3, 2, 0, 0, 500), (5, 198, 3, 0, 91), (0, 0, 1, 0, 0), (0, 5, 0, 0, 0), (4, 4, 0, 0, 0), (6, 188, 2, 11, 118), (0, 0, 1, 0, 0), (2, 11, 6, 94, 6), (6, 112, 0, 10, 147), (14, 2, 0, 0, 0), (56, 1, 19, 0, 0)]
abbrev zb_151_2 : List zI0 := [(0, 5, 0, 0, 0), (4, 4, 0, 0, 0), (6, 23, 1, 2, 121), (0, 0, 1, 0, 0), (2, 11, 6, 94, 6), (0, 5, 0, 0, 0), (4, 2, 1, 0, 0), (4, 3, 1, 0, 0), (4, 4, 0, 0, 0), (6, 113, 4, 10, 148), (0, 0, 1, 0, 0), (2, 11, 6, 94, 6), (1, 10, 5, 116, 5), (8, 0, 0, 0, 0)]
abbrev zc_151 : List (List zI0) := [zb_151_0, zb_151_1, zb_151_2]
abbrev zb_152_0 : List zI0 := [(4, 1, 1, 0, 0), (3, 0, 0, 0, 0), (3, 1, 0, 0, 36), (5, 198, 3, 0, 91), (0, 0, 1, 0, 0), (2, 11, 6, 94, 6), (4, 1, 1, 0, 0), (6, 114, 1, 10, 149), (8, 0, 0, 0, 0)]
abbrev zc_152 : List (List zI0) := [zb_152_0]
abbrev zb_153_0 : List zI0 := [(4, 1, 1, 0, 0), (16, 1, 0, 0, 0), (4, 1, 1, 0, 0), (3, 0, 0, 0, 3), (22, 2, 0, 0, 0), (111, 1, 0, 0, 0)]
abbrev zb_153_1 : List zI0 := [(56, 2, 20, 0, 0)]
abbrev zb_153_2 : List zI0 := [(4, 2, 1, 0, 0), (5, 54, 1, 0, 150), (15, 3, 0, 0, 0), (56, 0, 21, 0, 0)]
abbrev zb_153_3 : List zI0 := [(0, 0, 1, 0, 0), (6, 194, 0, 11, 151), (0, 0, 1, 0, 0), (2, 11, 7, 95, 7), (4, 1, 1, 0, 0), (4, 2, 1, 0, 0), (6, 61, 2, 5, 152), (8, 0, 0, 0, 0)]
abbrev zc_153 : List (List zI0) := [zb_153_0, zb_153_1, zb_153_2, zb_153_3]
abbrev zb_154_0 : List zI0 := [(4, 1, 1, 0, 0), (3, 0, 0, 0, 0), (3, 0, 0, 0, 4), (5, 198, 3, 0, 91), (4, 2, 1, 0, 0), (3, 0, 0, 0, 0), (3, 2, 0, 0, 200), (5, 198, 3, 0, 91), (0, 0, 1, 0, 0), (6, 194, 0, 11, 151), (0, 0, 1, 0, 0), (2, 11, 7, 95, 7), (4, 1, 1, 0, 0), (4, 2, 1, 0, 0), (6, 62, 2, 5, 153), (8, 0, 0, 0, 0)]
abbrev zc_154 : List (List zI0) := [zb_154_0]
abbrev zb_155_0 : List zI0 := [(4, 1, 1, 0, 0), (3, 0, 0, 0, 1), (3, 2, 0, 0, 5000), (5, 198, 3, 0, 91), (0, 0, 1, 0, 0), (6, 194, 0, 11, 151), (0, 0, 1, 0, 0), (2, 11, 7, 95, 7), (1, 5, 4, 117, 4), (30, 2, 1, 0, 0), (0, 0, 1, 0, 0), (2, 11, 7, 95, 7), (4, 1, 1, 0, 0), (11, 5, 4, 117, 4), (4, 2, 1, 0, 0), (8, 0, 0, 0, 0)]
abbrev zc_155 : List (List zI0) := [zb_155_0]
abbrev zb_156_0 : List zI0 := [(0, 0, 1, 0, 0), (4, 1, 1, 0, 0), (6, 183, 1, 11, 92), (31, 3, 1, 0, 0), (4, 2, 1, 0, 0), (3, 0, 0, 0, 1), (3, 1, 0, 0, 100), (5, 198, 3, 0, 91), (0, 0, 1, 0, 0), (0, 3, 1, 0, 0), (4, 2, 1, 0, 0), (6, 188, 2, 11, 118), (0, 0, 1, 0, 0), (2, 11, 7, 95, 7), (2, 5, 5, 118, 5), (26, 1, 0, 0, 0), (56, 1, 22, 0, 0)]
abbrev zb_156_1 : List zI0 := [(0, 3, 1, 0, 0), (4, 2, 1, 0, 0), (6, 23, 1, 2, 121), (0, 0, 1, 0, 0), (2, 11, 7, 95, 7), (0, 3, 1, 0, 0), (4, 2, 1, 0, 0), (6, 63, 2, 5, 154), (0, 3, 1, 0, 0), (1, 2, 2, 99, 2), (8, 0, 0, 0, 0)]
abbrev zc_156 : List (List zI0) := [zb_156_0, zb_156_1]
abbrev zb_157_0 : List zI0 := [(4, 1, 1, 0, 0), (5, 55, 1, 0, 155), (15, 1, 0, 0, 0), (56, 0, 23, 0, 0)]
abbrev zb_157_1 : List zI0 := [(0, 0, 1, 0, 0), (6, 193, 0, 11, 156), (0, 0, 1, 0, 0), (2, 11, 7, 95, 7), (4, 1, 1, 0, 0), (6, 64, 1, 5, 157), (8, 0, 0, 0, 0)]
abbrev zc_157 : List (List zI0) := [zb_157_0, zb_157_1]
abbrev zb_158_0 : List zI0 := [(0, 0, 1, 0, 0), (6, 193, 0, 11, 156), (0, 0, 1, 0, 0), (2, 11, 7, 95, 7), (3, 0, 0, 0, 1), (12, 5, 7, 119, 7), (0, 0, 1, 0, 0), (2, 11, 7, 95, 7), (1, 5, 6, 120, 6), (8, 0, 0, 0, 0)]
abbrev zc_158 : List (List zI0) := [zb_158_0]
abbrev zb_159_0 : List zI0 := [(0, 0, 1, 0, 0), (2, 11, 7, 95, 7), (2, 5, 5, 118, 5), (31, 1, 1, 0, 0), (0, 1, 1, 0, 0), (26, 1, 0, 0, 0), (0, 0, 1, 0, 0), (2, 11, 7, 95, 7), (1, 5, 7, 119, 7), (15, 2, 0, 0, 0), (111, 1, 0, 0, 0)]
abbrev zb_159_1 : List zI0 := [(56, 1, 24, 0, 0)]
abbrev zb_159_2 : List zI0 := [(0, 1, 1, 0, 0), (47, 0, 0, 0, 0), (1, 2, 2, 99, 2), (0, 0, 1, 0, 0), (2, 11, 7, 95, 7), (0, 1, 1, 0, 0), (6, 65, 1, 5, 97), (37, 0, 0, 0, 0), (11, 2, 2, 99, 2), (0, 1, 1, 0, 0), (1, 2, 2, 99, 2), (8, 0, 0, 0, 0)]
abbrev zc_159 : List (List zI0) := [zb_159_0, zb_159_1, zb_159_2]
abbrev zb_160_0 : List zI0 := [(0, 0, 1, 0, 0), (2, 11, 7, 95, 7), (1, 5, 3, 121, 3), (8, 0, 0, 0, 0)]
abbrev zc_160 : List (List zI0) := [zb_160_0]
abbrev zb_161_0 : List zI0 := [(0, 0, 1, 0, 0), (2, 11, 7, 95, 7), (6, 66, 0, 5, 158), (65, 0, 0, 0, 0), (64, 1, 3, 0, 512), (5, 204, 2, 0, 140), (52, 0, 0, 0, 0)]
abbrev zc_161 : List (List zI0) := [zb_161_0]
abbrev zb_162_0 : List zI0 := [(0, 0, 1, 0, 0), (2, 11, 7, 95, 7), (6, 66, 0, 5, 158), (65, 0, 0, 0, 0), (64, 1, 3, 0, 512), (5, 205, 2, 0, 141), (52, 0, 0, 0, 0)]
abbrev zc_162 : List (List zI0) := [zb_162_0]
abbrev zb_163_0 : List zI0 := [(0, 0, 1, 0, 0), (4, 1, 1, 0, 0), (6, 183, 1, 11, 92), (31, 3, 1, 0, 0), (4, 2, 1, 0, 0), (5, 196, 1, 0, 159), (0, 0, 1, 0, 0), (0, 3, 1, 0, 0), (3, 0, 0, 0, 2), (6, 188, 2, 11, 118), (0, 0, 1, 0, 0), (2, 11, 8, 92, 8), (6, 45, 0, 4, 160), (15, 1, 0, 0, 0), (0, 0, 1, 0, 0), (2, 11, 8, 92, 8), (6, 46, 0, 4, 161), (14, 2, 0, 0, 0), (111, 1, 0, 0, 0)]
abbrev zb_163_1 : List zI0 := [(56, 1, 25, 0, 0)]
abbrev zb_163_2 : List zI0 := [(0, 3, 1, 0, 0), (3, 0, 0, 0, 2), (6, 23, 1, 2, 121), (0, 0, 1, 0, 0), (2, 11, 8, 92, 8), (0, 3, 1, 0, 0), (4, 2, 1, 0, 0), (5, 44, 1, 0, 162), (6, 47, 2, 4, 163), (0, 0, 1, 0, 0), (2, 11, 8, 92, 8), (1, 4, 2, 122, 2), (8, 0, 0, 0, 0)]
abbrev zc_163 : List (List zI0) := [zb_163_0, zb_163_1, zb_163_2]
abbrev zb_164_0 : List zI0 := [(4, 1, 1, 0, 0), (5, 196, 1, 0, 159), (0, 0, 1, 0, 0), (2, 11, 8, 92, 8), (4, 1, 1, 0, 0), (5, 44, 1, 0, 162), (11, 4, 3, 123, 3), (0, 0, 1, 0, 0), (2, 11, 8, 92, 8), (3, 0, 0, 0, 3), (6, 49, 1, 4, 164), (8, 0, 0, 0, 0)]
abbrev zc_164 : List (List zI0) := [zb_164_0]
abbrev zb_165_0 : List zI0 := [(0, 0, 1, 0, 0), (2, 11, 8, 92, 8), (6, 46, 0, 4, 161), (15, 1, 0, 0, 0), (56, 1, 26, 0, 0)]
abbrev zb_165_1 : List zI0 := [(0, 0, 1, 0, 0), (2, 11, 8, 92, 8), (0, 0, 1, 0, 0), (1, 11, 10, 101, 10), (6, 50, 1, 4, 165), (8, 0, 0, 0, 0)]
abbrev zc_165 : List (List zI0) := [zb_165_0, zb_165_1]
abbrev zb_166_0 : List zI0 := [(0, 0, 1, 0, 0), (4, 1, 1, 0, 0), (6, 183, 1, 11, 92), (31, 2, 1, 0, 0), (0, 2, 1, 0, 0), (6, 31, 0, 2, 166), (30, 3, 1, 0, 0), (4, 3, 1, 0, 0), (15, 1, 0, 0, 0), (56, 4, 27, 0, 0)]
abbrev zb_166_1 : List zI0 := [(0, 2, 1, 0, 0), (6, 32, 0, 2, 167), (0, 2, 1, 0, 0), (47, 0, 0, 0, 0), (1, 2, 2, 99, 2), (4, 3, 1, 0, 0), (37, 0, 0, 0, 0), (11, 2, 2, 99, 2), (4, 3, 1, 0, 0), (8, 0, 0, 0, 0)]
abbrev zc_166 : List (List zI0) := [zb_166_0, zb_166_1]
abbrev zb_167_0 : List zI0 := [(0, 0, 1, 0, 0), (2, 11, 8, 92, 8), (1, 4, 4, 104, 4), (8, 0, 0, 0, 0)]
abbrev zc_167 : List (List zI0) := [zb_167_0]
abbrev zb_168_0 : List zI0 := [(0, 0, 1, 0, 0), (1, 11, 10, 101, 10), (8, 0, 0, 0, 0)]
abbrev zc_168 : List (List zI0) := [zb_168_0]
abbrev zb_169_0 : List zI0 := [(0, 0, 1, 0, 0), (4, 1, 1, 0, 0), (6, 183, 1, 11, 92), (1, 2, 1, 97, 1), (8, 0, 0, 0, 0)]
abbrev zc_169 : List (List zI0) := [zb_169_0]
abbrev zb_170_0 : List zI0 := [(0, 0, 1, 0, 0), (4, 1, 1, 0, 0), (6, 183, 1, 11, 92), (1, 2, 2, 99, 2), (8, 0, 0, 0, 0)]
abbrev zc_170 : List (List zI0) := [zb_170_0]
abbrev zb_171_0 : List zI0 := [(0, 0, 1, 0, 0), (4, 1, 1, 0, 0), (6, 183, 1, 11, 92), (0, 0, 1, 0, 0), (1, 11, 10, 101, 10), (6, 21, 1, 2, 168), (9, 0, 0, 0, 0)]
abbrev zc_171 : List (List zI0) := [zb_171_0]
abbrev zb_172_0 : List zI0 := [(0, 0, 1, 0, 0), (4, 1, 1, 0, 0), (6, 183, 1, 11, 92), (1, 2, 5, 124, 5), (8, 0, 0, 0, 0)]
abbrev zc_172 : List (List zI0) := [zb_172_0]
abbrev zb_173_0 : List zI0 := [(0, 0, 1, 0, 0), (4, 1, 1, 0, 0), (6, 183, 1, 11, 92), (1, 2, 8, 125, 8), (8, 0, 0, 0, 0)]
abbrev zc_173 : List (List zI0) := [zb_173_0]
abbrev zb_174_0 : List zI0 := [(0, 0, 1, 0, 0), (4, 1, 1, 0, 0), (6, 184, 1, 11, 103), (1, 8, 1, 105, 1), (8, 0, 0, 0, 0)]
abbrev zc_174 : List (List zI0) := [zb_174_0]
abbrev zb_175_0 : List zI0 := [(0, 0, 1, 0, 0), (2, 11, 2, 89, 2), (1, 9, 0, 98, 0), (8, 0, 0, 0, 0)]
abbrev zc_175 : List (List zI0) := [zb_175_0]
abbrev zb_176_0 : List zI0 := [(4, 1, 1, 0, 0), (4, 2, 1, 0, 0), (5, 197, 2, 0, 169), (4, 1, 1, 0, 0), (4, 2, 1, 0, 0), (5, 208, 2, 0, 170), (3, 1, 0, 0, 19), (4, 2, 1, 0, 0), (5, 207, 2, 0, 171), (3, 1, 0, 0, 18), (4, 2, 1, 0, 0), (5, 207, 2, 0, 171), (68, 0, 0, 0, 0), (5, 204, 2, 0, 140), (52, 0, 0, 0, 0)]
abbrev zc_176 : List (List zI0) := [zb_176_0]
abbrev zb_177_0 : List zI0 := [(4, 1, 1, 0, 0), (4, 2, 1, 0, 0), (5, 197, 2, 0, 169), (4, 1, 1, 0, 0), (4, 2, 1, 0, 0), (5, 208, 2, 0, 170), (3, 1, 0, 0, 19), (4, 2, 1, 0, 0), (5, 207, 2, 0, 171), (3, 1, 0, 0, 18), (4, 2, 1, 0, 0), (5, 207, 2, 0, 171), (68, 0, 0, 0, 0), (5, 205, 2, 0, 141), (52, 0, 0, 0, 0)]
abbrev zc_177 : List (List zI0) := [zb_177_0]
abbrev zb_178_0 : List zI0 := [(64, 1, 4, 0, 7), (74, 1, 1, 0, 0), (3, 0, 0, 0, 0), (30, 3, 1, 0, 0), (111, 1, 0, 0, 0)]
abbrev zb_178_1 : List zI0 := [(4, 3, 1, 0, 0), (0, 0, 1, 0, 0), (1, 11, 9, 96, 9), (23, 2, 0, 0, 0), (4, 3, 1, 0, 0), (0, 0, 1, 0, 0), (2, 11, 0, 87, 0), (36, 0, 0, 0, 0), (23, 2, 0, 0, 0), (64, 1, 5, 0, 31), (73, 1, 1, 0, 0), (69, 0, 0, 0, 0), (0, 0, 1, 0, 0), (2, 11, 0, 87, 0), (4, 3, 1, 0, 0), (34, 0, 0, 0, 0), (1, 2, 1, 97, 1), (65, 0, 0, 0, 0), (67, 0, 0, 0, 0), (74, 1, 1, 0, 0), (64, 1, 5, 0, 31), (73, 1, 1, 0, 0), (69, 0, 0, 0, 0), (0, 0, 1, 0, 0), (2, 11, 0, 87, 0), (4, 3, 1, 0, 0), (34, 0, 0, 0, 0), (1, 2, 2, 99, 2), (65, 0, 0, 0, 0), (67, 0, 0, 0, 0), (74, 1, 1, 0, 0), (32, 3, 0, 0, 1), (10, 1, 0, 0, 0)]
abbrev zb_178_2 : List zI0 := [(0, 0, 1, 0, 0), (2, 11, 1, 88, 1), (31, 3, 1, 0, 0), (0, 3, 1, 0, 0), (36, 0, 0, 0, 0), (30, 4, 0, 0, 0), (3, 0, 0, 0, 0), (30, 5, 0, 0, 0), (111, 3, 0, 0, 0)]
abbrev zb_178_3 : List zI0 := [(4, 5, 0, 0, 0), (4, 4, 0, 0, 0), (23, 4, 0, 0, 0), (0, 3, 1, 0, 0), (4, 5, 0, 0, 0), (34, 0, 0, 0, 0), (31, 6, 0, 0, 0), (64, 1, 5, 0, 31), (73, 1, 1, 0, 0), (69, 0, 0, 0, 0), (0, 6, 0, 0, 0), (1, 8, 1, 105, 1), (65, 0, 0, 0, 0), (67, 0, 0, 0, 0), (74, 1, 1, 0, 0), (32, 5, 0, 0, 1), (10, 3, 0, 0, 0)]
abbrev zb_178_4 : List zI0 := [(64, 1, 5, 0, 31), (73, 1, 1, 0, 0), (69, 0, 0, 0, 0), (0, 0, 1, 0, 0), (2, 11, 2, 89, 2), (1, 9, 0, 98, 0), (65, 0, 0, 0, 0), (67, 0, 0, 0, 0), (74, 1, 1, 0, 0), (64, 1, 5, 0, 31), (73, 1, 1, 0, 0), (69, 0, 0, 0, 0), (0, 0, 1, 0, 0), (2, 11, 7, 95, 7), (1, 5, 3, 121, 3), (65, 0, 0, 0, 0), (67, 0, 0, 0, 0), (74, 1, 1, 0, 0), (64, 1, 5, 0, 31), (73, 1, 1, 0, 0), (69, 0, 0, 0, 0), (0, 0, 1, 0, 0), (2, 11, 8, 92, 8), (1, 4, 4, 104, 4), (65, 0, 0, 0, 0), (67, 0, 0, 0, 0), (52, 0, 0, 0, 0)]
abbrev zc_178 : List (List zI0) := [zb_178_0, zb_178_1, zb_178_2, zb_178_3, zb_178_4]
abbrev zb_179_0 : List zI0 := [(0, 0, 1, 0, 0), (2, 11, 2, 89, 2), (1, 9, 0, 98, 0), (95, 0, 0, 0, 0), (98, 1, 6, 0, 1203982336), (90, 0, 0, 0, 0), (5, 209, 1, 0, 172), (8, 0, 0, 0, 0)]
abbrev zc_179 : List (List zI0) := [zb_179_0]
abbrev zb_180_0 : List zI0 := [(0, 0, 1, 0, 0), (6, 195, 0, 11, 173), (3, 0, 0, 0, 0), (30, 1, 1, 0, 0), (3, 0, 0, 0, 0), (30, 2, 1, 0, 0), (111, 1, 0, 0, 0)]
abbrev zb_180_1 : List zI0 := [(4, 2, 1, 0, 0), (0, 0, 1, 0, 0), (1, 11, 9, 96, 9), (23, 3, 0, 0, 0), (4, 2, 1, 0, 0), (0, 0, 1, 0, 0), (2, 11, 0, 87, 0), (36, 0, 0, 0, 0), (23, 3, 0, 0, 0), (0, 0, 1, 0, 0), (2, 11, 0, 87, 0), (4, 2, 1, 0, 0), (34, 0, 0, 0, 0), (0, 0, 1, 0, 0), (1, 11, 10, 101, 10), (6, 21, 1, 2, 168), (14, 2, 0, 0, 0), (32, 1, 0, 0, 1), (111, 2, 0, 0, 0)]
abbrev zb_180_2 : List zI0 := [(32, 2, 0, 0, 1), (10, 1, 0, 0, 0)]
abbrev zb_180_3 : List zI0 := [(4, 1, 1, 0, 0), (95, 0, 0, 0, 0), (0, 0, 1, 0, 0), (1, 11, 9, 96, 9), (95, 0, 0, 0, 0), (90, 0, 0, 0, 0), (54, 0, 0, 0, 0)]
abbrev zc_180 : List (List zI0) := [zb_180_0, zb_180_1, zb_180_2, zb_180_3]
abbrev zb_181_0 : List zI0 := [(0, 0, 1, 0, 0), (6, 195, 0, 11, 173), (0, 0, 1, 0, 0), (6, 199, 0, 11, 174), (86, 0, 0, 0, 0), (0, 0, 1, 0, 0), (1, 11, 9, 96, 9), (86, 0, 0, 0, 0), (84, 0, 0, 0, 0), (53, 0, 0, 0, 0)]
abbrev zc_181 : List (List zI0) := [zb_181_0]
abbrev zb_182_0 : List zI0 := [(0, 0, 1, 0, 0), (6, 200, 0, 11, 175), (14, 1, 0, 0, 0), (0, 0, 1, 0, 0), (2, 11, 3, 90, 3), (6, 99, 0, 7, 176), (14, 1, 0, 0, 0), (0, 0, 1, 0, 0), (6, 202, 0, 11, 177), (14, 1, 0, 0, 0), (0, 0, 1, 0, 0), (6, 203, 0, 11, 178), (14, 1, 0, 0, 0), (3, 0, 0, 0, 1), (10, 2, 0, 0, 0)]
abbrev zb_182_1 : List zI0 := [(3, 0, 0, 0, 0), (111, 2, 0, 0, 0)]
abbrev zb_182_2 : List zI0 := [(9, 0, 0, 0, 0)]
abbrev zc_182 : List (List zI0) := [zb_182_0, zb_182_1, zb_182_2]
abbrev zb_183_0 : List zI0 := [(4, 1, 1, 0, 0), (16, 1, 0, 0, 0), (4, 1, 1, 0, 0), (0, 0, 1, 0, 0), (1, 11, 9, 96, 9), (23, 1, 0, 0, 0), (4, 1, 1, 0, 0), (0, 0, 1, 0, 0), (2, 11, 0, 87, 0), (36, 0, 0, 0, 0), (22, 2, 0, 0, 0), (111, 1, 0, 0, 0)]
abbrev zb_183_1 : List zI0 := [(56, 2, 28, 0, 0)]
abbrev zb_183_2 : List zI0 := [(0, 0, 1, 0, 0), (2, 11, 0, 87, 0), (4, 1, 1, 0, 0), (34, 0, 0, 0, 0), (51, 0, 0, 0, 0)]
abbrev zc_183 : List (List zI0) := [zb_183_0, zb_183_1, zb_183_2]
abbrev zb_184_0 : List zI0 := [(4, 1, 1, 0, 0), (16, 1, 0, 0, 0), (4, 1, 1, 0, 0), (0, 0, 1, 0, 0), (2, 11, 1, 88, 1), (36, 0, 0, 0, 0), (22, 2, 0, 0, 0), (111, 1, 0, 0, 0)]
abbrev zb_184_1 : List zI0 := [(56, 2, 29, 0, 0)]
abbrev zb_184_2 : List zI0 := [(0, 0, 1, 0, 0), (2, 11, 1, 88, 1), (4, 1, 1, 0, 0), (34, 0, 0, 0, 0), (51, 0, 0, 0, 0)]
abbrev zc_184 : List (List zI0) := [zb_184_0, zb_184_1, zb_184_2]
abbrev zb_185_0 : List zI0 := [(4, 1, 1, 0, 0), (16, 1, 0, 0, 0), (4, 1, 1, 0, 0), (0, 0, 1, 0, 0), (2, 11, 4, 93, 4), (2, 0, 2, 126, 2), (36, 0, 0, 0, 0), (22, 2, 0, 0, 0), (111, 1, 0, 0, 0)]
abbrev zb_185_1 : List zI0 := [(56, 2, 30, 0, 0)]
abbrev zb_185_2 : List zI0 := [(0, 0, 1, 0, 0), (2, 11, 4, 93, 4), (2, 0, 2, 126, 2), (4, 1, 1, 0, 0), (34, 0, 0, 0, 0), (51, 0, 0, 0, 0)]
abbrev zc_185 : List (List zI0) := [zb_185_0, zb_185_1, zb_185_2]
abbrev zb_186_0 : List zI0 := [(0, 0, 1, 0, 0), (4, 1, 1, 0, 0), (6, 185, 1, 11, 116), (31, 2, 1, 0, 0), (0, 0, 1, 0, 0), (6, 191, 0, 11, 135), (0, 2, 1, 0, 0), (6, 73, 0, 6, 179), (31, 3, 1, 0, 0), (0, 3, 1, 0, 0), (26, 1, 0, 0, 0), (0, 0, 1, 0, 0), (2, 11, 4, 93, 4), (6, 6, 0, 0, 128), (4, 1, 1, 0, 0), (20, 2, 0, 0, 0), (111, 1, 0, 0, 0)]
abbrev zb_186_1 : List zI0 := [(56, 3, 31, 0, 0)]
abbrev zb_186_2 : List zI0 := [(0, 3, 1, 0, 0), (51, 0, 0, 0, 0)]
abbrev zc_186 : List (List zI0) := [zb_186_0, zb_186_1, zb_186_2]
abbrev zb_187_0 : List zI0 := [(0, 1, 1, 0, 0), (2, 6, 2, 127, 2), (31, 3, 1, 0, 0), (0, 3, 1, 0, 0), (26, 1, 0, 0, 0), (0, 3, 1, 0, 0), (4, 2, 1, 0, 0), (0, 0, 1, 0, 0), (1, 11, 10, 101, 10), (6, 22, 2, 2, 180), (15, 2, 0, 0, 0), (111, 1, 0, 0, 0)]
abbrev zb_187_1 : List zI0 := [(56, 3, 32, 0, 0)]
abbrev zb_187_2 : List zI0 := [(0, 3, 1, 0, 0), (51, 0, 0, 0, 0)]
abbrev zc_187 : List (List zI0) := [zb_187_0, zb_187_1, zb_187_2]
abbrev zb_188_0 : List zI0 := [(0, 1, 1, 0, 0), (4, 2, 1, 0, 0), (0, 0, 1, 0, 0), (1, 11, 10, 101, 10), (6, 22, 2, 2, 180), (15, 1, 0, 0, 0), (56, 3, 32, 0, 0)]
abbrev zb_188_1 : List zI0 := [(50, 0, 0, 0, 0)]
abbrev zc_188 : List (List zI0) := [zb_188_0, zb_188_1]
abbrev zb_189_0 : List zI0 := [(0, 0, 1, 0, 0), (2, 11, 3, 90, 3), (6, 82, 0, 7, 112), (4, 1, 1, 0, 0), (23, 1, 0, 0, 0), (56, 3, 33, 0, 0)]
abbrev zb_189_1 : List zI0 := [(50, 0, 0, 0, 0)]
abbrev zc_189 : List (List zI0) := [zb_189_0, zb_189_1]
abbrev zb_190_0 : List zI0 := [(0, 0, 1, 0, 0), (2, 11, 3, 90, 3), (6, 95, 0, 7, 139), (15, 1, 0, 0, 0), (56, 5, 34, 0, 0)]
abbrev zb_190_1 : List zI0 := [(50, 0, 0, 0, 0)]
abbrev zc_190 : List (List zI0) := [zb_190_0, zb_190_1]
abbrev zb_191_0 : List zI0 := [(0, 0, 1, 0, 0), (2, 11, 4, 93, 4), (1, 0, 4, 103, 4), (15, 1, 0, 0, 0), (56, 1, 35, 0, 0)]
abbrev zb_191_1 : List zI0 := [(50, 0, 0, 0, 0)]
abbrev zc_191 : List (List zI0) := [zb_191_0, zb_191_1]
abbrev zb_192_0 : List zI0 := [(0, 0, 1, 0, 0), (2, 11, 4, 93, 4), (1, 0, 4, 103, 4), (14, 1, 0, 0, 0), (56, 1, 36, 0, 0)]
abbrev zb_192_1 : List zI0 := [(50, 0, 0, 0, 0)]
abbrev zc_192 : List (List zI0) := [zb_192_0, zb_192_1]
abbrev zb_193_0 : List zI0 := [(0, 0, 1, 0, 0), (2, 11, 7, 95, 7), (6, 57, 0, 5, 100), (15, 1, 0, 0, 0), (56, 1, 37, 0, 0)]
abbrev zb_193_1 : List zI0 := [(50, 0, 0, 0, 0)]
abbrev zc_193 : List (List zI0) := [zb_193_0, zb_193_1]
abbrev zb_194_0 : List zI0 := [(0, 0, 1, 0, 0), (2, 11, 7, 95, 7), (6, 57, 0, 5, 100), (14, 1, 0, 0, 0), (56, 1, 38, 0, 0)]
abbrev zb_194_1 : List zI0 := [(50, 0, 0, 0, 0)]
abbrev zc_194 : List (List zI0) := [zb_194_0, zb_194_1]
abbrev zb_195_0 : List zI0 := [(0, 0, 1, 0, 0), (1, 11, 9, 96, 9), (15, 1, 0, 0, 0), (56, 5, 39, 0, 0)]
abbrev zb_195_1 : List zI0 := [(50, 0, 0, 0, 0)]
abbrev zc_195 : List (List zI0) := [zb_195_0, zb_195_1]
abbrev zb_196_0 : List zI0 := [(4, 0, 1, 0, 0), (5, 44, 1, 0, 162), (15, 1, 0, 0, 0), (56, 0, 40, 0, 0)]
abbrev zb_196_1 : List zI0 := [(50, 0, 0, 0, 0)]
abbrev zc_196 : List (List zI0) := [zb_196_0, zb_196_1]
abbrev zb_197_0 : List zI0 := [(4, 1, 1, 0, 0), (3, 0, 0, 0, 1), (3, 1, 0, 0, 14), (5, 198, 3, 0, 91), (4, 0, 1, 0, 0), (3, 0, 0, 0, 0), (4, 1, 1, 0, 0), (5, 198, 3, 0, 91), (50, 0, 0, 0, 0)]
abbrev zc_197 : List (List zI0) := [zb_197_0]
abbrev zb_198_0 : List zI0 := [(4, 0, 1, 0, 0), (4, 1, 1, 0, 0), (22, 1, 0, 0, 0), (4, 0, 1, 0, 0), (4, 2, 1, 0, 0), (25, 2, 0, 0, 0), (111, 1, 0, 0, 0)]
abbrev zb_198_1 : List zI0 := [(56, 0, 41, 0, 0)]
abbrev zb_198_2 : List zI0 := [(50, 0, 0, 0, 0)]
abbrev zc_198 : List (List zI0) := [zb_198_0, zb_198_1, zb_198_2]
abbrev zb_199_0 : List zI0 := [(3, 0, 0, 0, 0), (30, 1, 1, 0, 0), (3, 0, 0, 0, 0), (30, 2, 1, 0, 0), (111, 1, 0, 0, 0)]
abbrev zb_199_1 : List zI0 := [(4, 2, 1, 0, 0), (0, 0, 1, 0, 0), (1, 11, 9, 96, 9), (23, 2, 0, 0, 0), (4, 2, 1, 0, 0), (0, 0, 1, 0, 0), (2, 11, 0, 87, 0), (36, 0, 0, 0, 0), (23, 2, 0, 0, 0), (4, 1, 1, 0, 0), (0, 0, 1, 0, 0), (2, 11, 0, 87, 0), (4, 2, 1, 0, 0), (34, 0, 0, 0, 0), (1, 2, 2, 99, 2), (37, 0, 0, 0, 0), (30, 1, 1, 0, 0), (32, 2, 0, 0, 1), (10, 1, 0, 0, 0)]
abbrev zb_199_2 : List zI0 := [(4, 1, 1, 0, 0), (8, 0, 0, 0, 0)]
abbrev zc_199 : List (List zI0) := [zb_199_0, zb_199_1, zb_199_2]
abbrev zb_200_0 : List zI0 := [(0, 0, 1, 0, 0), (6, 199, 0, 11, 174), (0, 0, 1, 0, 0), (2, 11, 2, 89, 2), (1, 9, 0, 98, 0), (37, 0, 0, 0, 0), (0, 0, 1, 0, 0), (2, 11, 7, 95, 7), (1, 5, 3, 121, 3), (37, 0, 0, 0, 0), (0, 0, 1, 0, 0), (2, 11, 8, 92, 8), (1, 4, 4, 104, 4), (37, 0, 0, 0, 0), (30, 1, 1, 0, 0), (0, 0, 1, 0, 0), (2, 11, 1, 88, 1), (31, 2, 1, 0, 0), (0, 2, 1, 0, 0), (36, 0, 0, 0, 0), (30, 3, 1, 0, 0), (3, 0, 0, 0, 0), (30, 4, 0, 0, 0), (111, 1, 0, 0, 0)]
abbrev zb_200_1 : List zI0 := [(4, 4, 0, 0, 0), (4, 3, 1, 0, 0), (23, 2, 0, 0, 0), (0, 2, 1, 0, 0), (4, 4, 0, 0, 0), (34, 0, 0, 0, 0), (31, 5, 0, 0, 0), (4, 1, 1, 0, 0), (0, 5, 0, 0, 0), (1, 8, 1, 105, 1), (37, 0, 0, 0, 0), (30, 1, 1, 0, 0), (32, 4, 0, 0, 1), (10, 1, 0, 0, 0)]
abbrev zb_200_2 : List zI0 := [(0, 0, 1, 0, 0), (2, 11, 0, 87, 0), (31, 2, 1, 0, 0), (0, 2, 1, 0, 0), (36, 0, 0, 0, 0), (30, 3, 1, 0, 0), (3, 0, 0, 0, 0), (30, 4, 0, 0, 0), (111, 3, 0, 0, 0)]
abbrev zb_200_3 : List zI0 := [(4, 4, 0, 0, 0), (4, 3, 1, 0, 0), (23, 4, 0, 0, 0), (0, 2, 1, 0, 0), (4, 4, 0, 0, 0), (34, 0, 0, 0, 0), (31, 5, 0, 0, 0), (4, 1, 1, 0, 0), (0, 5, 0, 0, 0), (6, 31, 0, 2, 166), (0, 0, 1, 0, 0), (0, 5, 0, 0, 0), (6, 201, 1, 11, 181), (37, 0, 0, 0, 0), (37, 0, 0, 0, 0), (30, 1, 1, 0, 0), (32, 4, 0, 0, 1), (10, 3, 0, 0, 0)]
abbrev zb_200_4 : List zI0 := [(4, 1, 1, 0, 0), (3, 4, 7, 0, 100000), (21, 5, 0, 0, 0), (3, 0, 0, 0, 1), (10, 6, 0, 0, 0)]
abbrev zb_200_5 : List zI0 := [(3, 0, 0, 0, 0), (111, 6, 0, 0, 0)]
abbrev zb_200_6 : List zI0 := [(9, 0, 0, 0, 0)]
abbrev zc_200 : List (List zI0) := [zb_200_0, zb_200_1, zb_200_2, zb_200_3, zb_200_4, zb_200_5, zb_200_6]
abbrev zb_201_0 : List zI0 := [(0, 0, 1, 0, 0), (2, 11, 4, 93, 4), (0, 1, 1, 0, 0), (6, 3, 1, 0, 182), (0, 0, 1, 0, 0), (2, 11, 6, 94, 6), (0, 1, 1, 0, 0), (6, 115, 1, 10, 183), (37, 0, 0, 0, 0), (0, 0, 1, 0, 0), (2, 11, 7, 95, 7), (0, 1, 1, 0, 0), (6, 58, 1, 5, 184), (37, 0, 0, 0, 0), (8, 0, 0, 0, 0)]
abbrev zc_201 : List (List zI0) := [zb_201_0]
abbrev zb_202_0 : List zI0 := [(0, 0, 1, 0, 0), (2, 11, 0, 87, 0), (31, 1, 1, 0, 0), (0, 1, 1, 0, 0), (36, 0, 0, 0, 0), (30, 2, 1, 0, 0), (3, 0, 0, 0, 0), (30, 3, 1, 0, 0), (111, 1, 0, 0, 0)]
abbrev zb_202_1 : List zI0 := [(4, 3, 1, 0, 0), (4, 2, 1, 0, 0), (23, 3, 0, 0, 0), (0, 1, 1, 0, 0), (4, 3, 1, 0, 0), (34, 0, 0, 0, 0), (31, 4, 0, 0, 0), (0, 4, 0, 0, 0), (0, 0, 1, 0, 0), (1, 11, 10, 101, 10), (6, 21, 1, 2, 168), (14, 2, 0, 0, 0), (0, 0, 1, 0, 0), (0, 4, 0, 0, 0), (6, 201, 1, 11, 181), (14, 2, 0, 0, 0), (3, 0, 0, 0, 0), (9, 0, 0, 0, 0)]
abbrev zb_202_2 : List zI0 := [(32, 3, 0, 0, 1), (10, 1, 0, 0, 0)]
abbrev zb_202_3 : List zI0 := [(3, 0, 0, 0, 1), (9, 0, 0, 0, 0)]
abbrev zc_202 : List (List zI0) := [zb_202_0, zb_202_1, zb_202_2, zb_202_3]
abbrev zb_203_0 : List zI0 := [(77, 0, 0, 0, 0), (79, 1, 1, 0, 0), (3, 1, 0, 0, 17), (30, 3, 1, 0, 0), (111, 1, 0, 0, 0)]
abbrev zb_203_1 : List zI0 := [(4, 3, 1, 0, 0), (3, 1, 0, 0, 22), (24, 2, 0, 0, 0), (0, 0, 1, 0, 0), (2, 11, 4, 93, 4), (1, 0, 4, 103, 4), (14, 2, 0, 0, 0), (78, 1, 1, 0, 0), (0, 0, 1, 0, 0), (2, 11, 5, 91, 5), (4, 3, 1, 0, 0), (0, 0, 1, 0, 0), (2, 11, 4, 93, 4), (6, 18, 2, 1, 142), (82, 0, 0, 0, 0), (79, 1, 1, 0, 0), (32, 3, 0, 0, 1), (10, 1, 0, 0, 0)]
abbrev zb_203_2 : List zI0 := [(78, 1, 1, 0, 0), (109, 0, 8, 0, 4607182423303617035), (85, 1, 0, 0, 0), (18, 3, 0, 0, 0), (3, 0, 0, 0, 1), (10, 4, 0, 0, 0)]
abbrev zb_203_3 : List zI0 := [(3, 0, 0, 0, 0), (111, 4, 0, 0, 0)]
abbrev zb_203_4 : List zI0 := [(9, 0, 0, 0, 0)]
abbrev zc_203 : List (List zI0) := [zb_203_0, zb_203_1, zb_203_2, zb_203_3, zb_203_4]
abbrev zb_204_0 : List zI0 := [(73, 0, 1, 0, 0), (73, 2, 1, 0, 0), (5, 206, 2, 0, 185), (74, 4, 0, 0, 0), (73, 4, 0, 0, 0), (64, 0, 0, 0, 0), (72, 0, 0, 0, 0), (15, 1, 0, 0, 0), (73, 0, 1, 0, 0), (10, 2, 0, 0, 0)]
abbrev zb_204_1 : List zI0 := [(73, 0, 1, 0, 0), (73, 4, 0, 0, 0), (70, 0, 0, 0, 0), (111, 2, 0, 0, 0)]
abbrev zb_204_2 : List zI0 := [(52, 0, 0, 0, 0)]
abbrev zc_204 : List (List zI0) := [zb_204_0, zb_204_1, zb_204_2]
abbrev zb_205_0 : List zI0 := [(73, 0, 1, 0, 0), (73, 2, 1, 0, 0), (5, 206, 2, 0, 185), (74, 4, 0, 0, 0), (73, 4, 0, 0, 0), (64, 0, 0, 0, 0), (72, 0, 0, 0, 0), (15, 1, 0, 0, 0), (73, 2, 1, 0, 0), (10, 2, 0, 0, 0)]
abbrev zb_205_1 : List zI0 := [(73, 2, 1, 0, 0), (73, 4, 0, 0, 0), (70, 0, 0, 0, 0), (111, 2, 0, 0, 0)]
abbrev zb_205_2 : List zI0 := [(52, 0, 0, 0, 0)]
abbrev zc_205 : List (List zI0) := [zb_205_0, zb_205_1, zb_205_2]
abbrev zb_206_0 : List zI0 := [(73, 0, 1, 0, 0), (74, 4, 0, 0, 0), (73, 2, 1, 0, 0), (74, 6, 0, 0, 0), (3, 0, 0, 0, 0), (30, 8, 0, 0, 0), (111, 1, 0, 0, 0)]
abbrev zb_206_1 : List zI0 := [(4, 8, 0, 0, 0), (3, 2, 0, 0, 200), (23, 2, 0, 0, 0), (73, 6, 0, 0, 0), (64, 0, 0, 0, 0), (72, 0, 0, 0, 0), (14, 2, 0, 0, 0), (73, 4, 0, 0, 0), (73, 6, 0, 0, 0), (71, 0, 0, 0, 0), (74, 9, 0, 0, 0), (73, 6, 0, 0, 0), (74, 4, 0, 0, 0), (73, 9, 0, 0, 0), (74, 6, 0, 0, 0), (32, 8, 0, 0, 1), (10, 1, 0, 0, 0)]
abbrev zb_206_2 : List zI0 := [(73, 4, 0, 0, 0), (52, 0, 0, 0, 0)]
abbrev zc_206 : List (List zI0) := [zb_206_0, zb_206_1, zb_206_2]
abbrev zb_207_0 : List zI0 := [(64, 0, 0, 0, 1), (74, 2, 1, 0, 0), (3, 0, 0, 0, 0), (30, 4, 0, 0, 0), (111, 1, 0, 0, 0)]
abbrev zb_207_1 : List zI0 := [(4, 4, 0, 0, 0), (4, 1, 1, 0, 0), (23, 2, 0, 0, 0), (73, 2, 1, 0, 0), (4, 0, 1, 0, 0), (65, 0, 0, 0, 0), (69, 0, 0, 0, 0), (74, 2, 1, 0, 0), (32, 4, 0, 0, 1), (10, 1, 0, 0, 0)]
abbrev zb_207_2 : List zI0 := [(73, 2, 1, 0, 0), (52, 0, 0, 0, 0)]
abbrev zc_207 : List (List zI0) := [zb_207_0, zb_207_1, zb_207_2]
abbrev zb_208_0 : List zI0 := [(3, 1, 0, 0, 19), (4, 0, 1, 0, 0), (5, 207, 2, 0, 171), (3, 1, 0, 0, 18), (4, 0, 1, 0, 0), (5, 207, 2, 0, 171), (68, 0, 0, 0, 0), (3, 1, 0, 0, 18), (4, 1, 1, 0, 0), (4, 0, 1, 0, 0), (38, 0, 0, 0, 0), (5, 207, 2, 0, 171), (69, 0, 0, 0, 0), (52, 0, 0, 0, 0)]
abbrev zc_208 : List (List zI0) := [zb_208_0]
abbrev zb_209_0 : List zI0 := [(88, 0, 1, 0, 0), (87, 0, 0, 0, 0), (94, 0, 0, 0, 0), (15, 1, 0, 0, 0), (3, 0, 0, 0, 0), (8, 0, 0, 0, 0)]
abbrev zb_209_1 : List zI0 := [(88, 0, 1, 0, 0), (87, 0, 0, 0, 0), (94, 1, 0, 0, 0), (17, 2, 0, 0, 0), (88, 0, 1, 0, 0), (93, 0, 0, 0, 0), (10, 3, 0, 0, 0)]
abbrev zb_209_2 : List zI0 := [(88, 0, 1, 0, 0), (111, 3, 0, 0, 0)]
abbrev zb_209_3 : List zI0 := [(89, 1, 1, 0, 0), (3, 1, 0, 0, 127), (30, 2, 1, 0, 0), (3, 0, 0, 0, 0), (30, 3, 1, 0, 0), (111, 4, 0, 0, 0)]
abbrev zb_209_4 : List zI0 := [(4, 3, 1, 0, 0), (3, 2, 0, 0, 200), (23, 5, 0, 0, 0), (88, 1, 1, 0, 0), (87, 2, 0, 0, 0), (94, 0, 0, 0, 0), (16, 5, 0, 0, 0), (88, 1, 1, 0, 0), (87, 2, 0, 0, 0), (90, 0, 0, 0, 0), (89, 1, 1, 0, 0), (32, 2, 0, 0, 1), (32, 3, 0, 0, 1), (10, 4, 0, 0, 0)]
abbrev zb_209_5 : List zI0 := [(3, 0, 0, 0, 0), (30, 3, 1, 0, 0), (111, 6, 0, 0, 0)]
abbrev zb_209_6 : List zI0 := [(4, 3, 1, 0, 0), (3, 2, 0, 0, 200), (23, 7, 0, 0, 0), (88, 1, 1, 0, 0), (87, 1, 0, 0, 0), (94, 1, 0, 0, 0), (17, 7, 0, 0, 0), (88, 1, 1, 0, 0), (87, 2, 0, 0, 0), (91, 0, 0, 0, 0), (89, 1, 1, 0, 0), (32, 2, 0, 0, (-1)), (32, 3, 0, 0, 1), (10, 6, 0, 0, 0)]
abbrev zb_209_7 : List zI0 := [(88, 1, 1, 0, 0), (87, 1, 0, 0, 0), (92, 0, 0, 0, 0), (98, 1, 9, 0, 1258291200), (91, 0, 0, 0, 0), (96, 0, 0, 0, 0), (30, 3, 1, 0, 0), (88, 0, 1, 0, 0), (87, 0, 0, 0, 0), (94, 1, 0, 0, 0), (17, 8, 0, 0, 0), (3, 0, 0, 0, 1), (10, 9, 0, 0, 0)]
abbrev zb_209_8 : List zI0 := [(3, 0, 0, 0, 0), (111, 9, 0, 0, 0)]
abbrev zb_209_9 : List zI0 := [(30, 4, 0, 0, 0), (4, 4, 0, 0, 0), (3, 1, 0, 0, 31), (44, 0, 0, 0, 0), (4, 2, 1, 0, 0), (3, 1, 0, 0, 23), (44, 0, 0, 0, 0), (43, 0, 0, 0, 0), (4, 3, 1, 0, 0), (43, 0, 0, 0, 0), (8, 0, 0, 0, 0)]
abbrev zc_209 : List (List zI0) := [zb_209_0, zb_209_1, zb_209_2, zb_209_3, zb_209_4, zb_209_5, zb_209_6, zb_209_7, zb_209_8, zb_209_9]
abbrev zb_210_0 : List zI0 := [(0, 0, 1, 0, 0), (108, 0, 0, 0, 1), (0, 0, 1, 0, 0), (3, 1, 0, 0, 8), (58, 0, 0, 0, 0), (13, 12, 0, 128, 0), (0, 0, 1, 0, 0), (3, 1, 0, 0, 8), (58, 0, 0, 0, 0), (13, 12, 1, 129, 1), (0, 0, 1, 0, 0), (3, 1, 0, 0, 8), (58, 0, 0, 0, 0), (13, 12, 2, 130, 2), (0, 0, 1, 0, 0), (3, 1, 0, 0, 8), (58, 0, 0, 0, 0), (13, 12, 3, 131, 3), (0, 0, 1, 0, 0), (3, 1, 0, 0, 8), (58, 0, 0, 0, 0), (13, 12, 4, 132, 4), (0, 0, 1, 0, 0), (3, 1, 0, 0, 8), (58, 0, 0, 0, 0), (13, 12, 5, 133, 5), (0, 0, 1, 0, 0), (3, 1, 0, 0, 8), (58, 0, 0, 0, 0), (13, 12, 6, 134, 6), (0, 0, 1, 0, 0), (3, 1, 0, 0, 8), (58, 0, 0, 0, 0), (13, 12, 7, 135, 7), (0, 0, 1, 0, 0), (3, 1, 0, 0, 8), (3, 0, 0, 0, 2), (60, 0, 17, 0, 0), (13, 12, 8, 136, 8), (0, 0, 1, 0, 0), (3, 1, 0, 0, 8), (3, 0, 0, 0, 2), (60, 0, 17, 0, 0), (13, 12, 9, 137, 9), (0, 0, 1, 0, 0), (3, 0, 0, 0, 3), (58, 0, 0, 0, 0), (13, 12, 10, 138, 10), (0, 0, 1, 0, 0), (3, 0, 0, 0, 3), (58, 0, 0, 0, 0), (13, 12, 11, 139, 11), (0, 0, 1, 0, 0), (3, 0, 0, 0, 3), (58, 0, 0, 0, 0), (13, 12, 12, 140, 12), (0, 0, 1, 0, 0), (3, 0, 0, 0, 4), (58, 4, 0, 0, 0), (13, 12, 13, 141, 13), (0, 0, 1, 0, 0), (3, 1, 0, 0, 104), (58, 0, 0, 0, 0), (13, 12, 14, 142, 14), (0, 0, 1, 0, 0), (3, 1, 0, 0, 104), (58, 0, 0, 0, 0), (13, 12, 15, 143, 15), (0, 0, 1, 0, 0), (3, 1, 0, 0, 11), (58, 0, 0, 0, 0), (13, 12, 16, 144, 16), (0, 0, 1, 0, 0), (3, 1, 0, 0, 11), (58, 0, 0, 0, 0), (13, 12, 17, 145, 17), (0, 0, 1, 0, 0), (3, 0, 0, 0, 3), (58, 0, 0, 0, 0), (13, 12, 18, 146, 18), (0, 0, 1, 0, 0), (3, 0, 0, 0, 3), (58, 0, 0, 0, 0), (13, 12, 19, 147, 19), (0, 0, 1, 0, 0), (3, 0, 0, 0, 3), (58, 0, 0, 0, 0), (13, 12, 20, 148, 20), (0, 0, 1, 0, 0), (3, 0, 0, 0, 3), (3, 0, 0, 0, 2), (3, 1, 0, 0, 24), (61, 0, 18, 0, 0), (13, 12, 21, 149, 21), (0, 0, 1, 0, 0), (3, 0, 0, 0, 3), (3, 0, 0, 0, 2), (60, 0, 17, 0, 0), (13, 12, 22, 150, 22), (0, 0, 1, 0, 0), (3, 0, 0, 0, 3), (3, 0, 0, 0, 2), (60, 0, 17, 0, 0), (13, 12, 23, 151, 23), (0, 0, 1, 0, 0), (3, 0, 0, 0, 3), (3, 0, 0, 0, 2), (60, 0, 17, 0, 0), (13, 12, 24, 152, 24), (0, 0, 1, 0, 0), (3, 1, 0, 0, 24), (58, 0, 0, 0, 0), (13, 12, 25, 153, 25), (0, 0, 1, 0, 0), (3, 1, 0, 0, 10), (3, 0, 0, 0, 4), (60, 0, 17, 0, 0), (13, 12, 26, 154, 26), (0, 0, 1, 0, 0), (3, 0, 0, 0, 3), (3, 1, 0, 0, 8), (60, 0, 17, 0, 0), (13, 12, 27, 155, 27), (0, 0, 1, 0, 0), (3, 0, 0, 0, 5), (58, 0, 0, 0, 0), (13, 12, 28, 156, 28), (0, 0, 1, 0, 0), (3, 1, 0, 0, 12), (3, 0, 0, 0, 2), (60, 0, 17, 0, 0), (13, 12, 29, 157, 29), (0, 0, 1, 0, 0), (3, 1, 0, 0, 8), (3, 0, 0, 0, 4), (60, 0, 17, 0, 0), (13, 12, 30, 158, 30), (0, 0, 1, 0, 0), (3, 3, 10, 0, 100000), (11, 12, 32, 159, 32), (0, 0, 1, 0, 0), (3, 2, 0, 0, 500), (11, 12, 40, 160, 40), (0, 0, 1, 0, 0), (3, 0, 0, 0, (-1)), (11, 12, 42, 161, 42), (0, 0, 1, 0, 0), (3, 0, 0, 0, (-1)), (11, 12, 47, 162, 47), (0, 0, 1, 0, 0), (2, 12, 27, 155, 27), (31, 1, 1, 0, 0), (0, 1, 1, 0, 0), (36, 0, 0, 0, 0), (30, 2, 1, 0, 0), (3, 0, 0, 0, 0), (30, 3, 1, 0, 0), (111, 1, 0, 0, 0)]
abbrev zb_210_1 : List zI0 := [(4, 3, 1, 0, 0), (4, 2, 1, 0, 0), (23, 4, 0, 0, 0), (0, 1, 1, 0, 0), (4, 3, 1, 0, 0), (34, 0, 0, 0, 0), (31, 4, 0, 0, 0), (3, 0, 0, 0, 0), (30, 5, 0, 0, 0), (111, 2, 0, 0, 0)]
abbrev zb_210_2 : List zI0 := [(4, 5, 0, 0, 0), (3, 1, 0, 0, 8), (23, 3, 0, 0, 0), (0, 4, 0, 0, 0), (4, 5, 0, 0, 0), (3, 0, 0, 0, 4), (35, 0, 0, 0, 0), (32, 5, 0, 0, 1), (10, 2, 0, 0, 0)]
abbrev zb_210_3 : List zI0 := [(32, 3, 0, 0, 1), (10, 1, 0, 0, 0)]
abbrev zb_210_4 : List zI0 := [(3, 0, 0, 0, 0), (30, 1, 1, 0, 0), (111, 5, 0, 0, 0)]
abbrev zb_210_5 : List zI0 := [(4, 1, 1, 0, 0), (3, 0, 0, 0, 3), (23, 6, 0, 0, 0), (0, 0, 1, 0, 0), (2, 12, 18, 146, 18), (4, 1, 1, 0, 0), (3, 0, 0, 0, (-1)), (35, 0, 0, 0, 0), (32, 1, 0, 0, 1), (10, 5, 0, 0, 0)]
abbrev zb_210_6 : List zI0 := [(50, 0, 0, 0, 0)]
abbrev zc_210 : List (List zI0) := [zb_210_0, zb_210_1, zb_210_2, zb_210_3, zb_210_4, zb_210_5, zb_210_6]
abbrev zb_211_0 : List zI0 := [(0, 0, 1, 0, 0), (1, 12, 49, 163, 49), (8, 0, 0, 0, 0)]
abbrev zc_211 : List (List zI0) := [zb_211_0]
abbrev zb_212_0 : List zI0 := [(0, 0, 1, 0, 0), (4, 1, 1, 0, 0), (14, 1, 0, 0, 0), (4, 2, 1, 0, 0), (10, 2, 0, 0, 0)]
abbrev zb_212_1 : List zI0 := [(3, 0, 0, 0, 0), (111, 2, 0, 0, 0)]
abbrev zb_212_2 : List zI0 := [(11, 12, 49, 163, 49), (4, 1, 1, 0, 0), (9, 0, 0, 0, 0)]
abbrev zc_212 : List (List zI0) := [zb_212_0, zb_212_1, zb_212_2]
abbrev zb_213_0 : List zI0 := [(4, 0, 1, 0, 0), (4, 1, 1, 0, 0), (22, 1, 0, 0, 0), (4, 0, 1, 0, 0), (4, 2, 1, 0, 0), (24, 1, 0, 0, 0), (3, 0, 0, 0, 1), (10, 2, 0, 0, 0)]
abbrev zb_213_1 : List zI0 := [(3, 0, 0, 0, 0), (111, 2, 0, 0, 0)]
abbrev zb_213_2 : List zI0 := [(9, 0, 0, 0, 0)]
abbrev zc_213 : List (List zI0) := [zb_213_0, zb_213_1, zb_213_2]
abbrev zb_214_0 : List zI0 := [(4, 1, 1, 0, 0), (3, 0, 0, 0, 0), (0, 0, 1, 0, 0), (1, 12, 31, 164, 31), (3, 0, 0, 0, 1), (38, 0, 0, 0, 0), (5, 213, 3, 0, 186), (15, 1, 0, 0, 0), (3, 0, 0, 0, 1), (10, 2, 0, 0, 0)]
abbrev zb_214_1 : List zI0 := [(3, 0, 0, 0, 0), (111, 2, 0, 0, 0)]
abbrev zb_214_2 : List zI0 := [(9, 0, 0, 0, 0)]
abbrev zc_214 : List (List zI0) := [zb_214_0, zb_214_1, zb_214_2]
abbrev zb_215_0 : List zI0 := [(0, 0, 1, 0, 0), (4, 1, 1, 0, 0), (3, 0, 0, 0, 0), (3, 3, 11, 0, 99999), (5, 213, 3, 0, 186), (15, 1, 0, 0, 0), (3, 0, 0, 0, 1), (10, 2, 0, 0, 0)]
abbrev zb_215_1 : List zI0 := [(3, 0, 0, 0, 0), (111, 2, 0, 0, 0)]
abbrev zb_215_2 : List zI0 := [(3, 0, 0, 0, 1), (6, 212, 2, 12, 187), (15, 5, 0, 0, 0), (0, 0, 1, 0, 0), (0, 0, 1, 0, 0), (1, 12, 31, 164, 31), (3, 1, 0, 0, 8), (21, 3, 0, 0, 0), (3, 0, 0, 0, 1), (10, 4, 0, 0, 0)]
abbrev zb_215_3 : List zI0 := [(3, 0, 0, 0, 0), (111, 4, 0, 0, 0)]
abbrev zb_215_4 : List zI0 := [(3, 0, 0, 0, 2), (6, 212, 2, 12, 187), (14, 6, 0, 0, 0), (111, 5, 0, 0, 0)]
abbrev zb_215_5 : List zI0 := [(3, 0, 0, 0, 0), (8, 0, 0, 0, 0)]
abbrev zb_215_6 : List zI0 := [(0, 0, 1, 0, 0), (2, 12, 0, 128, 0), (0, 0, 1, 0, 0), (1, 12, 31, 164, 31), (4, 1, 1, 0, 0), (35, 0, 0, 0, 0), (0, 0, 1, 0, 0), (2, 12, 5, 133, 5), (0, 0, 1, 0, 0), (1, 12, 31, 164, 31), (3, 2, 0, 0, 5000), (35, 0, 0, 0, 0), (0, 0, 1, 0, 0), (2, 12, 6, 134, 6), (0, 0, 1, 0, 0), (1, 12, 31, 164, 31), (3, 0, 0, 0, (-1)), (35, 0, 0, 0, 0), (0, 0, 1, 0, 0), (47, 0, 0, 0, 0), (1, 12, 31, 164, 31), (3, 0, 0, 0, 1), (37, 0, 0, 0, 0), (11, 12, 31, 164, 31), (0, 0, 1, 0, 0), (1, 12, 31, 164, 31), (3, 0, 0, 0, 1), (38, 0, 0, 0, 0), (8, 0, 0, 0, 0)]
abbrev zc_215 : List (List zI0) := [zb_215_0, zb_215_1, zb_215_2, zb_215_3, zb_215_4, zb_215_5, zb_215_6]
abbrev zb_216_0 : List zI0 := [(0, 0, 1, 0, 0), (0, 0, 1, 0, 0), (4, 1, 1, 0, 0), (6, 214, 1, 12, 188), (3, 0, 0, 0, 1), (6, 212, 2, 12, 187), (15, 6, 0, 0, 0), (0, 0, 1, 0, 0), (4, 2, 1, 0, 0), (3, 0, 0, 0, 1), (3, 2, 0, 0, 9999), (5, 213, 3, 0, 186), (15, 1, 0, 0, 0), (3, 0, 0, 0, 1), (10, 2, 0, 0, 0)]
abbrev zb_216_1 : List zI0 := [(3, 0, 0, 0, 0), (111, 2, 0, 0, 0)]
abbrev zb_216_2 : List zI0 := [(3, 0, 0, 0, 2), (6, 212, 2, 12, 187), (15, 6, 0, 0, 0), (0, 0, 1, 0, 0), (4, 2, 1, 0, 0), (0, 0, 1, 0, 0), (2, 12, 0, 128, 0), (4, 1, 1, 0, 0), (33, 0, 0, 0, 0), (24, 3, 0, 0, 0), (4, 2, 1, 0, 0), (0, 0, 1, 0, 0), (1, 12, 32, 159, 32), (25, 4, 0, 0, 0), (111, 3, 0, 0, 0)]
abbrev zb_216_3 : List zI0 := [(3, 0, 0, 0, 1), (10, 5, 0, 0, 0)]
abbrev zb_216_4 : List zI0 := [(3, 0, 0, 0, 0), (111, 5, 0, 0, 0)]
abbrev zb_216_5 : List zI0 := [(3, 0, 0, 0, 3), (6, 212, 2, 12, 187), (14, 7, 0, 0, 0), (111, 6, 0, 0, 0)]
abbrev zb_216_6 : List zI0 := [(3, 0, 0, 0, 0), (8, 0, 0, 0, 0)]
abbrev zb_216_7 : List zI0 := [(0, 0, 1, 0, 0), (2, 12, 0, 128, 0), (4, 1, 1, 0, 0), (48, 0, 0, 0, 0), (33, 0, 0, 0, 0), (4, 2, 1, 0, 0), (38, 0, 0, 0, 0), (35, 0, 0, 0, 0), (0, 0, 1, 0, 0), (47, 0, 0, 0, 0), (1, 12, 32, 159, 32), (4, 2, 1, 0, 0), (38, 0, 0, 0, 0), (11, 12, 32, 159, 32), (0, 0, 1, 0, 0), (2, 12, 1, 129, 1), (4, 1, 1, 0, 0), (48, 0, 0, 0, 0), (33, 0, 0, 0, 0), (4, 2, 1, 0, 0), (37, 0, 0, 0, 0), (35, 0, 0, 0, 0), (0, 0, 1, 0, 0), (2, 12, 4, 132, 4), (4, 1, 1, 0, 0), (48, 0, 0, 0, 0), (33, 0, 0, 0, 0), (0, 0, 1, 0, 0), (2, 12, 3, 131, 3), (4, 1, 1, 0, 0), (33, 0, 0, 0, 0), (3, 2, 0, 0, 1000), (23, 8, 0, 0, 0), (0, 0, 1, 0, 0), (2, 12, 3, 131, 3), (4, 1, 1, 0, 0), (33, 0, 0, 0, 0), (4, 2, 1, 0, 0), (37, 0, 0, 0, 0), (3, 2, 0, 0, 1000), (22, 8, 0, 0, 0), (3, 0, 0, 0, 1), (10, 9, 0, 0, 0)]
abbrev zb_216_8 : List zI0 := [(3, 0, 0, 0, 0), (111, 9, 0, 0, 0)]
abbrev zb_216_9 : List zI0 := [(37, 0, 0, 0, 0), (35, 0, 0, 0, 0), (0, 0, 1, 0, 0), (2, 12, 3, 131, 3), (4, 1, 1, 0, 0), (48, 0, 0, 0, 0), (33, 0, 0, 0, 0), (4, 2, 1, 0, 0), (37, 0, 0, 0, 0), (35, 0, 0, 0, 0), (0, 0, 1, 0, 0), (2, 12, 1, 129, 1), (4, 1, 1, 0, 0), (33, 0, 0, 0, 0), (8, 0, 0, 0, 0)]
abbrev zc_216 : List (List zI0) := [zb_216_0, zb_216_1, zb_216_2, zb_216_3, zb_216_4, zb_216_5, zb_216_6, zb_216_7, zb_216_8, zb_216_9]
abbrev zb_217_0 : List zI0 := [(0, 0, 1, 0, 0), (0, 0, 1, 0, 0), (4, 1, 1, 0, 0), (6, 214, 1, 12, 188), (3, 0, 0, 0, 1), (6, 212, 2, 12, 187), (15, 5, 0, 0, 0), (0, 0, 1, 0, 0), (4, 2, 1, 0, 0), (3, 0, 0, 0, 1), (3, 3, 11, 0, 99999), (5, 213, 3, 0, 186), (15, 1, 0, 0, 0), (3, 0, 0, 0, 1), (10, 2, 0, 0, 0)]
abbrev zb_217_1 : List zI0 := [(3, 0, 0, 0, 0), (111, 2, 0, 0, 0)]
abbrev zb_217_2 : List zI0 := [(3, 0, 0, 0, 2), (6, 212, 2, 12, 187), (15, 5, 0, 0, 0), (0, 0, 1, 0, 0), (4, 2, 1, 0, 0), (0, 0, 1, 0, 0), (2, 12, 1, 129, 1), (4, 1, 1, 0, 0), (33, 0, 0, 0, 0), (25, 3, 0, 0, 0), (3, 0, 0, 0, 1), (10, 4, 0, 0, 0)]
abbrev zb_217_3 : List zI0 := [(3, 0, 0, 0, 0), (111, 4, 0, 0, 0)]
abbrev zb_217_4 : List zI0 := [(3, 0, 0, 0, 3), (6, 212, 2, 12, 187), (14, 6, 0, 0, 0), (111, 5, 0, 0, 0)]
abbrev zb_217_5 : List zI0 := [(3, 0, 0, 0, 0), (8, 0, 0, 0, 0)]
abbrev zb_217_6 : List zI0 := [(0, 0, 1, 0, 0), (2, 12, 1, 129, 1), (4, 1, 1, 0, 0), (48, 0, 0, 0, 0), (33, 0, 0, 0, 0), (4, 2, 1, 0, 0), (38, 0, 0, 0, 0), (35, 0, 0, 0, 0), (0, 0, 1, 0, 0), (47, 0, 0, 0, 0), (1, 12, 32, 159, 32), (4, 2, 1, 0, 0), (37, 0, 0, 0, 0), (11, 12, 32, 159, 32), (0, 0, 1, 0, 0), (2, 12, 0, 128, 0), (4, 1, 1, 0, 0), (48, 0, 0, 0, 0), (33, 0, 0, 0, 0), (4, 2, 1, 0, 0), (37, 0, 0, 0, 0), (35, 0, 0, 0, 0), (0, 0, 1, 0, 0), (2, 12, 0, 128, 0), (4, 1, 1, 0, 0), (33, 0, 0, 0, 0), (8, 0, 0, 0, 0)]
abbrev zc_217 : List (List zI0) := [zb_217_0, zb_217_1, zb_217_2, zb_217_3, zb_217_4, zb_217_5, zb_217_6]
abbrev zb_218_0 : List zI0 := [(0, 0, 1, 0, 0), (0, 0, 1, 0, 0), (4, 1, 1, 0, 0), (6, 214, 1, 12, 188), (3, 0, 0, 0, 1), (6, 212, 2, 12, 187), (15, 3, 0, 0, 0), (0, 0, 1, 0, 0), (4, 2, 1, 0, 0), (3, 0, 0, 0, 0), (3, 2, 0, 0, 5000), (5, 213, 3, 0, 186), (15, 1, 0, 0, 0), (3, 0, 0, 0, 1), (10, 2, 0, 0, 0)]
abbrev zb_218_1 : List zI0 := [(3, 0, 0, 0, 0), (111, 2, 0, 0, 0)]
abbrev zb_218_2 : List zI0 := [(3, 0, 0, 0, 2), (6, 212, 2, 12, 187), (14, 4, 0, 0, 0), (111, 3, 0, 0, 0)]
abbrev zb_218_3 : List zI0 := [(3, 0, 0, 0, 0), (8, 0, 0, 0, 0)]
abbrev zb_218_4 : List zI0 := [(0, 0, 1, 0, 0), (2, 12, 6, 134, 6), (4, 1, 1, 0, 0), (4, 2, 1, 0, 0), (0, 0, 1, 0, 0), (2, 12, 5, 133, 5), (4, 1, 1, 0, 0), (33, 0, 0, 0, 0), (25, 5, 0, 0, 0), (4, 2, 1, 0, 0), (10, 6, 0, 0, 0)]
abbrev zb_218_5 : List zI0 := [(3, 0, 0, 0, (-1)), (111, 6, 0, 0, 0)]
abbrev zb_218_6 : List zI0 := [(35, 0, 0, 0, 0), (0, 0, 1, 0, 0), (2, 12, 5, 133, 5), (4, 1, 1, 0, 0), (0, 0, 1, 0, 0), (2, 12, 5, 133, 5), (4, 1, 1, 0, 0), (33, 0, 0, 0, 0), (4, 2, 1, 0, 0), (5, 327, 2, 0, 189), (35, 0, 0, 0, 0), (0, 0, 1, 0, 0), (2, 12, 5, 133, 5), (4, 1, 1, 0, 0), (33, 0, 0, 0, 0), (8, 0, 0, 0, 0)]
abbrev zc_218 : List (List zI0) := [zb_218_0, zb_218_1, zb_218_2, zb_218_3, zb_218_4, zb_218_5, zb_218_6]
abbrev zb_219_0 : List zI0 := [(0, 0, 1, 0, 0), (1, 12, 33, 165, 33), (0, 0, 1, 0, 0), (2, 12, 7, 135, 7), (4, 1, 1, 0, 0), (33, 0, 0, 0, 0), (23, 1, 0, 0, 0), (3, 0, 0, 0, 1), (10, 2, 0, 0, 0)]
abbrev zb_219_1 : List zI0 := [(3, 0, 0, 0, 0), (111, 2, 0, 0, 0)]
abbrev zb_219_2 : List zI0 := [(9, 0, 0, 0, 0)]
abbrev zc_219 : List (List zI0) := [zb_219_0, zb_219_1, zb_219_2]
abbrev zb_220_0 : List zI0 := [(0, 0, 1, 0, 0), (4, 1, 1, 0, 0), (6, 219, 1, 12, 190), (15, 1, 0, 0, 0), (4, 2, 1, 0, 0), (0, 0, 1, 0, 0), (2, 12, 1, 129, 1), (4, 1, 1, 0, 0), (33, 0, 0, 0, 0), (24, 1, 0, 0, 0), (0, 0, 1, 0, 0), (2, 12, 2, 130, 2), (4, 1, 1, 0, 0), (33, 0, 0, 0, 0), (4, 2, 1, 0, 0), (37, 0, 0, 0, 0), (0, 0, 1, 0, 0), (2, 12, 5, 133, 5), (4, 1, 1, 0, 0), (33, 0, 0, 0, 0), (24, 1, 0, 0, 0), (3, 0, 0, 0, 1), (10, 2, 0, 0, 0)]
abbrev zb_220_1 : List zI0 := [(3, 0, 0, 0, 0), (111, 2, 0, 0, 0)]
abbrev zb_220_2 : List zI0 := [(9, 0, 0, 0, 0)]
abbrev zc_220 : List (List zI0) := [zb_220_0, zb_220_1, zb_220_2]
abbrev zb_221_0 : List zI0 := [(0, 0, 1, 0, 0), (2, 12, 1, 129, 1), (4, 1, 1, 0, 0), (48, 0, 0, 0, 0), (33, 0, 0, 0, 0), (4, 2, 1, 0, 0), (38, 0, 0, 0, 0), (35, 0, 0, 0, 0), (0, 0, 1, 0, 0), (2, 12, 2, 130, 2), (4, 1, 1, 0, 0), (48, 0, 0, 0, 0), (33, 0, 0, 0, 0), (4, 2, 1, 0, 0), (37, 0, 0, 0, 0), (35, 0, 0, 0, 0), (50, 0, 0, 0, 0)]
abbrev zc_221 : List (List zI0) := [zb_221_0]
abbrev zb_222_0 : List zI0 := [(3, 0, 0, 0, 0), (4, 3, 1, 0, 0), (0, 0, 1, 0, 0), (2, 12, 10, 138, 10), (4, 1, 1, 0, 0), (33, 0, 0, 0, 0), (38, 0, 0, 0, 0), (5, 326, 2, 0, 191), (30, 4, 0, 0, 0), (0, 0, 1, 0, 0), (47, 0, 0, 0, 0), (1, 12, 32, 159, 32), (4, 4, 0, 0, 0), (38, 0, 0, 0, 0), (11, 12, 32, 159, 32), (0, 0, 1, 0, 0), (2, 12, 12, 140, 12), (4, 1, 1, 0, 0), (48, 0, 0, 0, 0), (33, 0, 0, 0, 0), (4, 4, 0, 0, 0), (37, 0, 0, 0, 0), (35, 0, 0, 0, 0), (0, 0, 1, 0, 0), (2, 12, 10, 138, 10), (4, 1, 1, 0, 0), (48, 0, 0, 0, 0), (33, 0, 0, 0, 0), (4, 4, 0, 0, 0), (4, 3, 1, 0, 0), (38, 0, 0, 0, 0), (37, 0, 0, 0, 0), (35, 0, 0, 0, 0), (0, 0, 1, 0, 0), (2, 12, 1, 129, 1), (4, 2, 1, 0, 0), (48, 0, 0, 0, 0), (33, 0, 0, 0, 0), (4, 3, 1, 0, 0), (37, 0, 0, 0, 0), (35, 0, 0, 0, 0), (50, 0, 0, 0, 0)]
abbrev zc_222 : List (List zI0) := [zb_222_0]
abbrev zb_223_0 : List zI0 := [(0, 0, 1, 0, 0), (0, 0, 1, 0, 0), (4, 1, 1, 0, 0), (6, 214, 1, 12, 188), (3, 0, 0, 0, 1), (6, 212, 2, 12, 187), (15, 4, 0, 0, 0), (0, 0, 1, 0, 0), (4, 2, 1, 0, 0), (0, 0, 1, 0, 0), (1, 12, 33, 165, 33), (3, 0, 0, 0, 1), (37, 0, 0, 0, 0), (3, 2, 0, 0, 999), (5, 213, 3, 0, 186), (14, 1, 0, 0, 0), (4, 2, 1, 0, 0), (0, 0, 1, 0, 0), (2, 12, 7, 135, 7), (4, 1, 1, 0, 0), (33, 0, 0, 0, 0), (23, 2, 0, 0, 0), (111, 1, 0, 0, 0)]
abbrev zb_223_1 : List zI0 := [(3, 0, 0, 0, 1), (10, 3, 0, 0, 0)]
abbrev zb_223_2 : List zI0 := [(3, 0, 0, 0, 0), (111, 3, 0, 0, 0)]
abbrev zb_223_3 : List zI0 := [(3, 0, 0, 0, 2), (6, 212, 2, 12, 187), (14, 5, 0, 0, 0), (111, 4, 0, 0, 0)]
abbrev zb_223_4 : List zI0 := [(3, 0, 0, 0, 0), (8, 0, 0, 0, 0)]
abbrev zb_223_5 : List zI0 := [(0, 0, 1, 0, 0), (2, 12, 7, 135, 7), (4, 1, 1, 0, 0), (4, 2, 1, 0, 0), (35, 0, 0, 0, 0), (3, 0, 0, 0, 0), (30, 3, 1, 0, 0), (3, 0, 0, 0, 0), (30, 4, 0, 0, 0), (111, 6, 0, 0, 0)]
abbrev zb_223_6 : List zI0 := [(4, 4, 0, 0, 0), (3, 0, 0, 0, 3), (23, 12, 0, 0, 0), (0, 0, 1, 0, 0), (2, 12, 18, 146, 18), (4, 4, 0, 0, 0), (33, 0, 0, 0, 0), (4, 1, 1, 0, 0), (21, 11, 0, 0, 0), (4, 3, 1, 0, 0), (0, 0, 1, 0, 0), (2, 12, 19, 147, 19), (4, 4, 0, 0, 0), (33, 0, 0, 0, 0), (37, 0, 0, 0, 0), (30, 3, 1, 0, 0), (3, 0, 0, 0, 0), (30, 5, 0, 0, 0), (111, 7, 0, 0, 0)]
abbrev zb_223_7 : List zI0 := [(4, 5, 0, 0, 0), (0, 0, 1, 0, 0), (2, 12, 20, 148, 20), (4, 4, 0, 0, 0), (33, 0, 0, 0, 0), (23, 8, 0, 0, 0), (0, 0, 1, 0, 0), (1, 12, 37, 166, 37), (14, 8, 0, 0, 0), (4, 3, 1, 0, 0), (0, 0, 1, 0, 0), (2, 12, 23, 151, 23), (4, 4, 0, 0, 0), (34, 0, 0, 0, 0), (4, 5, 0, 0, 0), (33, 0, 0, 0, 0), (37, 0, 0, 0, 0), (30, 3, 1, 0, 0), (0, 0, 1, 0, 0), (2, 12, 23, 151, 23), (4, 4, 0, 0, 0), (34, 0, 0, 0, 0), (4, 5, 0, 0, 0), (3, 0, 0, 0, 0), (35, 0, 0, 0, 0), (0, 0, 1, 0, 0), (2, 12, 24, 152, 24), (4, 4, 0, 0, 0), (34, 0, 0, 0, 0), (4, 5, 0, 0, 0), (3, 0, 0, 0, 0), (35, 0, 0, 0, 0), (32, 5, 0, 0, 1), (10, 7, 0, 0, 0)]
abbrev zb_223_8 : List zI0 := [(0, 0, 1, 0, 0), (2, 12, 20, 148, 20), (4, 4, 0, 0, 0), (0, 0, 1, 0, 0), (1, 12, 37, 166, 37), (14, 9, 0, 0, 0), (3, 0, 0, 0, 0), (10, 10, 0, 0, 0)]
abbrev zb_223_9 : List zI0 := [(0, 0, 1, 0, 0), (2, 12, 20, 148, 20), (4, 4, 0, 0, 0), (33, 0, 0, 0, 0), (111, 10, 0, 0, 0)]
abbrev zb_223_10 : List zI0 := [(35, 0, 0, 0, 0), (0, 0, 1, 0, 0), (2, 12, 19, 147, 19), (4, 4, 0, 0, 0), (3, 0, 0, 0, 0), (35, 0, 0, 0, 0), (0, 0, 1, 0, 0), (2, 12, 18, 146, 18), (4, 4, 0, 0, 0), (3, 0, 0, 0, (-1)), (35, 0, 0, 0, 0), (111, 11, 0, 0, 0)]
abbrev zb_223_11 : List zI0 := [(32, 4, 0, 0, 1), (10, 6, 0, 0, 0)]
abbrev zb_223_12 : List zI0 := [(3, 0, 0, 0, 0), (30, 4, 0, 0, 0), (3, 0, 0, 0, 0), (30, 5, 0, 0, 0), (111, 13, 0, 0, 0)]
abbrev zb_223_13 : List zI0 := [(4, 5, 0, 0, 0), (0, 0, 1, 0, 0), (1, 12, 39, 167, 39), (23, 16, 0, 0, 0), (0, 0, 1, 0, 0), (2, 12, 26, 154, 26), (4, 5, 0, 0, 0), (34, 0, 0, 0, 0), (3, 0, 0, 0, 0), (33, 0, 0, 0, 0), (4, 1, 1, 0, 0), (21, 14, 0, 0, 0), (4, 3, 1, 0, 0), (0, 0, 1, 0, 0), (2, 12, 26, 154, 26), (4, 5, 0, 0, 0), (34, 0, 0, 0, 0), (3, 0, 0, 0, 3), (33, 0, 0, 0, 0), (37, 0, 0, 0, 0), (30, 3, 1, 0, 0), (10, 15, 0, 0, 0)]
abbrev zb_223_14 : List zI0 := [(0, 0, 1, 0, 0), (2, 12, 26, 154, 26), (4, 5, 0, 0, 0), (34, 0, 0, 0, 0), (3, 0, 0, 0, 0), (0, 0, 1, 0, 0), (2, 12, 26, 154, 26), (4, 4, 0, 0, 0), (34, 0, 0, 0, 0), (3, 0, 0, 0, 0), (3, 0, 0, 0, 4), (106, 0, 0, 0, 163), (32, 4, 0, 0, 1), (111, 15, 0, 0, 0)]
abbrev zb_223_15 : List zI0 := [(32, 5, 0, 0, 1), (10, 13, 0, 0, 0)]
abbrev zb_223_16 : List zI0 := [(0, 0, 1, 0, 0), (4, 4, 0, 0, 0), (11, 12, 39, 167, 39), (0, 0, 1, 0, 0), (1, 12, 42, 161, 42), (4, 1, 1, 0, 0), (21, 17, 0, 0, 0), (4, 3, 1, 0, 0), (0, 0, 1, 0, 0), (1, 12, 43, 168, 43), (37, 0, 0, 0, 0), (30, 3, 1, 0, 0), (0, 0, 1, 0, 0), (3, 0, 0, 0, (-1)), (11, 12, 42, 161, 42), (0, 0, 1, 0, 0), (3, 0, 0, 0, 0), (12, 12, 44, 169, 44), (111, 17, 0, 0, 0)]
abbrev zb_223_17 : List zI0 := [(3, 0, 0, 0, 0), (30, 5, 0, 0, 0), (111, 18, 0, 0, 0)]
abbrev zb_223_18 : List zI0 := [(4, 5, 0, 0, 0), (0, 0, 1, 0, 0), (1, 12, 46, 170, 46), (23, 21, 0, 0, 0), (0, 0, 1, 0, 0), (2, 12, 29, 157, 29), (4, 5, 0, 0, 0), (34, 0, 0, 0, 0), (3, 0, 0, 0, 0), (0, 0, 1, 0, 0), (2, 12, 29, 157, 29), (4, 5, 0, 0, 0), (34, 0, 0, 0, 0), (3, 0, 0, 0, 0), (33, 0, 0, 0, 0), (4, 1, 1, 0, 0), (21, 19, 0, 0, 0), (3, 0, 0, 0, (-1)), (10, 20, 0, 0, 0)]
abbrev zb_223_19 : List zI0 := [(0, 0, 1, 0, 0), (2, 12, 29, 157, 29), (4, 5, 0, 0, 0), (34, 0, 0, 0, 0), (3, 0, 0, 0, 0), (33, 0, 0, 0, 0), (111, 20, 0, 0, 0)]
abbrev zb_223_20 : List zI0 := [(35, 0, 0, 0, 0), (32, 5, 0, 0, 1), (10, 18, 0, 0, 0)]
abbrev zb_223_21 : List zI0 := [(3, 0, 0, 0, 0), (30, 5, 0, 0, 0), (111, 22, 0, 0, 0)]
abbrev zb_223_22 : List zI0 := [(4, 5, 0, 0, 0), (3, 0, 0, 0, 4), (23, 23, 0, 0, 0), (0, 0, 1, 0, 0), (47, 0, 0, 0, 0), (1, 12, 48, 171, 48), (0, 0, 1, 0, 0), (2, 12, 30, 158, 30), (4, 1, 1, 0, 0), (34, 0, 0, 0, 0), (4, 5, 0, 0, 0), (33, 0, 0, 0, 0), (37, 0, 0, 0, 0), (11, 12, 48, 171, 48), (0, 0, 1, 0, 0), (2, 12, 30, 158, 30), (4, 1, 1, 0, 0), (34, 0, 0, 0, 0), (4, 5, 0, 0, 0), (3, 0, 0, 0, 0), (35, 0, 0, 0, 0), (32, 5, 0, 0, 1), (10, 22, 0, 0, 0)]
abbrev zb_223_23 : List zI0 := [(0, 0, 1, 0, 0), (2, 12, 1, 129, 1), (4, 1, 1, 0, 0), (48, 0, 0, 0, 0), (33, 0, 0, 0, 0), (4, 3, 1, 0, 0), (37, 0, 0, 0, 0), (35, 0, 0, 0, 0), (0, 0, 1, 0, 0), (1, 12, 37, 166, 37), (14, 24, 0, 0, 0), (0, 0, 1, 0, 0), (6, 246, 0, 12, 192), (17, 24, 0, 0, 0), (0, 0, 1, 0, 0), (6, 249, 0, 12, 193), (111, 24, 0, 0, 0)]
abbrev zb_223_24 : List zI0 := [(4, 3, 1, 0, 0), (8, 0, 0, 0, 0)]
abbrev zc_223 : List (List zI0) := [zb_223_0, zb_223_1, zb_223_2, zb_223_3, zb_223_4, zb_223_5, zb_223_6, zb_223_7, zb_223_8, zb_223_9, zb_223_10, zb_223_11, zb_223_12, zb_223_13, zb_223_14, zb_223_15, zb_223_16, zb_223_17, zb_223_18, zb_223_19, zb_223_20, zb_223_21, zb_223_22, zb_223_23, zb_223_24]
abbrev zb_224_0 : List zI0 := [(0, 0, 1, 0, 0), (4, 1, 1, 0, 0), (3, 0, 0, 0, 1), (3, 1, 0, 0, 30), (5, 213, 3, 0, 186), (15, 1, 0, 0, 0), (3, 0, 0, 0, 1), (10, 2, 0, 0, 0)]
abbrev zb_224_1 : List zI0 := [(3, 0, 0, 0, 0), (111, 2, 0, 0, 0)]
abbrev zb_224_2 : List zI0 := [(3, 0, 0, 0, 1), (6, 212, 2, 12, 187), (15, 6, 0, 0, 0), (0, 0, 1, 0, 0), (0, 0, 1, 0, 0), (1, 12, 37, 166, 37), (15, 3, 0, 0, 0), (0, 0, 1, 0, 0), (1, 12, 42, 161, 42), (16, 4, 0, 0, 0), (0, 0, 1, 0, 0), (1, 12, 44, 169, 44), (15, 4, 0, 0, 0), (111, 3, 0, 0, 0)]
abbrev zb_224_3 : List zI0 := [(3, 0, 0, 0, 1), (10, 5, 0, 0, 0)]
abbrev zb_224_4 : List zI0 := [(3, 0, 0, 0, 0), (111, 5, 0, 0, 0)]
abbrev zb_224_5 : List zI0 := [(3, 0, 0, 0, 2), (6, 212, 2, 12, 187), (14, 7, 0, 0, 0), (111, 6, 0, 0, 0)]
abbrev zb_224_6 : List zI0 := [(3, 0, 0, 0, 0), (8, 0, 0, 0, 0)]
abbrev zb_224_7 : List zI0 := [(3, 0, 0, 0, 0), (30, 2, 1, 0, 0), (111, 8, 0, 0, 0)]
abbrev zb_224_8 : List zI0 := [(4, 2, 1, 0, 0), (4, 1, 1, 0, 0), (23, 13, 0, 0, 0), (0, 0, 1, 0, 0), (47, 0, 0, 0, 0), (1, 12, 33, 165, 33), (3, 0, 0, 0, 1), (37, 0, 0, 0, 0), (11, 12, 33, 165, 33), (3, 0, 0, 0, 0), (30, 3, 1, 0, 0), (111, 9, 0, 0, 0)]
abbrev zb_224_9 : List zI0 := [(4, 3, 1, 0, 0), (0, 0, 1, 0, 0), (1, 12, 31, 164, 31), (23, 12, 0, 0, 0), (0, 0, 1, 0, 0), (2, 12, 2, 130, 2), (4, 3, 1, 0, 0), (3, 0, 0, 0, 0), (35, 0, 0, 0, 0), (0, 0, 1, 0, 0), (2, 12, 3, 131, 3), (4, 3, 1, 0, 0), (3, 0, 0, 0, 0), (35, 0, 0, 0, 0), (0, 0, 1, 0, 0), (2, 12, 5, 133, 5), (4, 3, 1, 0, 0), (0, 0, 1, 0, 0), (2, 12, 6, 134, 6), (4, 3, 1, 0, 0), (33, 0, 0, 0, 0), (17, 10, 0, 0, 0), (0, 0, 1, 0, 0), (2, 12, 5, 133, 5), (4, 3, 1, 0, 0), (33, 0, 0, 0, 0), (10, 11, 0, 0, 0)]
abbrev zb_224_10 : List zI0 := [(0, 0, 1, 0, 0), (2, 12, 6, 134, 6), (4, 3, 1, 0, 0), (33, 0, 0, 0, 0), (111, 11, 0, 0, 0)]
abbrev zb_224_11 : List zI0 := [(35, 0, 0, 0, 0), (0, 0, 1, 0, 0), (2, 12, 6, 134, 6), (4, 3, 1, 0, 0), (3, 0, 0, 0, (-1)), (35, 0, 0, 0, 0), (0, 0, 1, 0, 0), (47, 0, 0, 0, 0), (1, 12, 48, 171, 48), (0, 0, 1, 0, 0), (2, 12, 30, 158, 30), (4, 3, 1, 0, 0), (34, 0, 0, 0, 0), (0, 0, 1, 0, 0), (1, 12, 33, 165, 33), (3, 0, 0, 0, 4), (41, 0, 0, 0, 0), (33, 0, 0, 0, 0), (37, 0, 0, 0, 0), (11, 12, 48, 171, 48), (0, 0, 1, 0, 0), (2, 12, 30, 158, 30), (4, 3, 1, 0, 0), (34, 0, 0, 0, 0), (0, 0, 1, 0, 0), (1, 12, 33, 165, 33), (3, 0, 0, 0, 4), (41, 0, 0, 0, 0), (3, 0, 0, 0, 0), (35, 0, 0, 0, 0), (32, 3, 0, 0, 1), (10, 9, 0, 0, 0)]
abbrev zb_224_12 : List zI0 := [(32, 2, 0, 0, 1), (10, 8, 0, 0, 0)]
abbrev zb_224_13 : List zI0 := [(0, 0, 1, 0, 0), (1, 12, 33, 165, 33), (8, 0, 0, 0, 0)]
abbrev zc_224 : List (List zI0) := [zb_224_0, zb_224_1, zb_224_2, zb_224_3, zb_224_4, zb_224_5, zb_224_6, zb_224_7, zb_224_8, zb_224_9, zb_224_10, zb_224_11, zb_224_12, zb_224_13]
abbrev zb_225_0 : List zI0 := [(4, 0, 1, 0, 0), (3, 0, 0, 0, 0), (3, 0, 0, 0, 2), (5, 213, 3, 0, 186), (15, 1, 0, 0, 0), (3, 0, 0, 0, 1), (10, 2, 0, 0, 0)]
abbrev zb_225_1 : List zI0 := [(3, 0, 0, 0, 0), (111, 2, 0, 0, 0)]
abbrev zb_225_2 : List zI0 := [(9, 0, 0, 0, 0)]
abbrev zc_225 : List (List zI0) := [zb_225_0, zb_225_1, zb_225_2]
abbrev zb_226_0 : List zI0 := [(0, 0, 1, 0, 0), (4, 1, 1, 0, 0), (5, 225, 1, 0, 194), (3, 0, 0, 0, 1), (6, 212, 2, 12, 187), (15, 5, 0, 0, 0), (0, 0, 1, 0, 0), (4, 2, 1, 0, 0), (3, 0, 0, 0, 1), (3, 2, 0, 0, 9999), (5, 213, 3, 0, 186), (15, 1, 0, 0, 0), (3, 0, 0, 0, 1), (10, 2, 0, 0, 0)]
abbrev zb_226_1 : List zI0 := [(3, 0, 0, 0, 0), (111, 2, 0, 0, 0)]
abbrev zb_226_2 : List zI0 := [(3, 0, 0, 0, 2), (6, 212, 2, 12, 187), (15, 5, 0, 0, 0), (0, 0, 1, 0, 0), (4, 2, 1, 0, 0), (0, 0, 1, 0, 0), (1, 12, 32, 159, 32), (25, 3, 0, 0, 0), (3, 0, 0, 0, 1), (10, 4, 0, 0, 0)]
abbrev zb_226_3 : List zI0 := [(3, 0, 0, 0, 0), (111, 4, 0, 0, 0)]
abbrev zb_226_4 : List zI0 := [(3, 0, 0, 0, 3), (6, 212, 2, 12, 187), (14, 6, 0, 0, 0), (111, 5, 0, 0, 0)]
abbrev zb_226_5 : List zI0 := [(3, 0, 0, 0, 0), (8, 0, 0, 0, 0)]
abbrev zb_226_6 : List zI0 := [(0, 0, 1, 0, 0), (47, 0, 0, 0, 0), (1, 12, 32, 159, 32), (4, 2, 1, 0, 0), (38, 0, 0, 0, 0), (11, 12, 32, 159, 32), (0, 0, 1, 0, 0), (2, 12, 10, 138, 10), (4, 1, 1, 0, 0), (48, 0, 0, 0, 0), (33, 0, 0, 0, 0), (4, 2, 1, 0, 0), (37, 0, 0, 0, 0), (35, 0, 0, 0, 0), (0, 0, 1, 0, 0), (2, 12, 12, 140, 12), (4, 1, 1, 0, 0), (48, 0, 0, 0, 0), (33, 0, 0, 0, 0), (4, 2, 1, 0, 0), (37, 0, 0, 0, 0), (35, 0, 0, 0, 0), (0, 0, 1, 0, 0), (2, 12, 10, 138, 10), (4, 1, 1, 0, 0), (33, 0, 0, 0, 0), (8, 0, 0, 0, 0)]
abbrev zc_226 : List (List zI0) := [zb_226_0, zb_226_1, zb_226_2, zb_226_3, zb_226_4, zb_226_5, zb_226_6]
abbrev zb_227_0 : List zI0 := [(0, 0, 1, 0, 0), (4, 1, 1, 0, 0), (5, 225, 1, 0, 194), (3, 0, 0, 0, 1), (6, 212, 2, 12, 187), (15, 5, 0, 0, 0), (0, 0, 1, 0, 0), (4, 2, 1, 0, 0), (3, 0, 0, 0, 1), (3, 2, 0, 0, 9999), (5, 213, 3, 0, 186), (15, 1, 0, 0, 0), (3, 0, 0, 0, 1), (10, 2, 0, 0, 0)]
abbrev zb_227_1 : List zI0 := [(3, 0, 0, 0, 0), (111, 2, 0, 0, 0)]
abbrev zb_227_2 : List zI0 := [(3, 0, 0, 0, 2), (6, 212, 2, 12, 187), (15, 5, 0, 0, 0), (0, 0, 1, 0, 0), (4, 2, 1, 0, 0), (0, 0, 1, 0, 0), (2, 12, 10, 138, 10), (4, 1, 1, 0, 0), (33, 0, 0, 0, 0), (25, 3, 0, 0, 0), (3, 0, 0, 0, 1), (10, 4, 0, 0, 0)]
abbrev zb_227_3 : List zI0 := [(3, 0, 0, 0, 0), (111, 4, 0, 0, 0)]
abbrev zb_227_4 : List zI0 := [(3, 0, 0, 0, 3), (6, 212, 2, 12, 187), (14, 6, 0, 0, 0), (111, 5, 0, 0, 0)]
abbrev zb_227_5 : List zI0 := [(3, 0, 0, 0, 0), (8, 0, 0, 0, 0)]
abbrev zb_227_6 : List zI0 := [(0, 0, 1, 0, 0), (47, 0, 0, 0, 0), (1, 12, 32, 159, 32), (4, 2, 1, 0, 0), (37, 0, 0, 0, 0), (11, 12, 32, 159, 32), (0, 0, 1, 0, 0), (2, 12, 10, 138, 10), (4, 1, 1, 0, 0), (48, 0, 0, 0, 0), (33, 0, 0, 0, 0), (4, 2, 1, 0, 0), (38, 0, 0, 0, 0), (35, 0, 0, 0, 0), (0, 0, 1, 0, 0), (2, 12, 12, 140, 12), (4, 1, 1, 0, 0), (48, 0, 0, 0, 0), (33, 0, 0, 0, 0), (4, 2, 1, 0, 0), (38, 0, 0, 0, 0), (35, 0, 0, 0, 0), (0, 0, 1, 0, 0), (2, 12, 10, 138, 10), (4, 1, 1, 0, 0), (33, 0, 0, 0, 0), (8, 0, 0, 0, 0)]
abbrev zc_227 : List (List zI0) := [zb_227_0, zb_227_1, zb_227_2, zb_227_3, zb_227_4, zb_227_5, zb_227_6]
abbrev zb_228_0 : List zI0 := [(0, 0, 1, 0, 0), (2, 12, 10, 138, 10), (4, 1, 1, 0, 0), (33, 0, 0, 0, 0), (0, 0, 1, 0, 0), (2, 12, 11, 139, 11), (4, 1, 1, 0, 0), (33, 0, 0, 0, 0), (38, 0, 0, 0, 0), (0, 0, 1, 0, 0), (2, 12, 12, 140, 12), (4, 1, 1, 0, 0), (33, 0, 0, 0, 0), (38, 0, 0, 0, 0), (8, 0, 0, 0, 0)]
abbrev zc_228 : List (List zI0) := [zb_228_0]
abbrev zb_229_0 : List zI0 := [(0, 0, 1, 0, 0), (3, 0, 0, 0, 0), (11, 12, 49, 163, 49), (3, 0, 0, 0, 0), (30, 1, 1, 0, 0), (3, 0, 0, 0, 0), (30, 2, 1, 0, 0), (111, 1, 0, 0, 0)]
abbrev zb_229_1 : List zI0 := [(4, 2, 1, 0, 0), (3, 0, 0, 0, 3), (23, 2, 0, 0, 0), (4, 1, 1, 0, 0), (0, 0, 1, 0, 0), (4, 2, 1, 0, 0), (6, 228, 1, 12, 195), (37, 0, 0, 0, 0), (30, 1, 1, 0, 0), (0, 0, 1, 0, 0), (2, 12, 11, 139, 11), (4, 2, 1, 0, 0), (0, 0, 1, 0, 0), (2, 12, 10, 138, 10), (4, 2, 1, 0, 0), (33, 0, 0, 0, 0), (35, 0, 0, 0, 0), (0, 0, 1, 0, 0), (2, 12, 12, 140, 12), (4, 2, 1, 0, 0), (3, 0, 0, 0, 0), (35, 0, 0, 0, 0), (32, 2, 0, 0, 1), (10, 1, 0, 0, 0)]
abbrev zb_229_2 : List zI0 := [(4, 1, 1, 0, 0), (8, 0, 0, 0, 0)]
abbrev zc_229 : List (List zI0) := [zb_229_0, zb_229_1, zb_229_2]
abbrev zb_230_0 : List zI0 := [(0, 0, 1, 0, 0), (4, 1, 1, 0, 0), (5, 225, 1, 0, 194), (3, 0, 0, 0, 1), (6, 212, 2, 12, 187), (14, 1, 0, 0, 0), (3, 0, 0, 0, 0), (10, 2, 0, 0, 0)]
abbrev zb_230_1 : List zI0 := [(0, 0, 1, 0, 0), (4, 1, 1, 0, 0), (6, 228, 1, 12, 195), (111, 2, 0, 0, 0)]
abbrev zb_230_2 : List zI0 := [(8, 0, 0, 0, 0)]
abbrev zc_230 : List (List zI0) := [zb_230_0, zb_230_1, zb_230_2]
abbrev zb_231_0 : List zI0 := [(4, 0, 1, 0, 0), (3, 1, 0, 0, 100), (21, 1, 0, 0, 0), (3, 0, 0, 0, 0), (10, 5, 0, 0, 0)]
abbrev zb_231_1 : List zI0 := [(4, 0, 1, 0, 0), (3, 1, 0, 0, 117), (21, 2, 0, 0, 0), (3, 0, 0, 0, 1), (10, 5, 0, 0, 0)]
abbrev zb_231_2 : List zI0 := [(4, 0, 1, 0, 0), (3, 1, 0, 0, 115), (21, 3, 0, 0, 0), (3, 0, 0, 0, 2), (10, 5, 0, 0, 0)]
abbrev zb_231_3 : List zI0 := [(4, 0, 1, 0, 0), (3, 1, 0, 0, 110), (21, 4, 0, 0, 0), (3, 0, 0, 0, 3), (10, 5, 0, 0, 0)]
abbrev zb_231_4 : List zI0 := [(3, 0, 0, 0, (-1)), (111, 5, 0, 0, 0)]
abbrev zb_231_5 : List zI0 := [(8, 0, 0, 0, 0)]
abbrev zc_231 : List (List zI0) := [zb_231_0, zb_231_1, zb_231_2, zb_231_3, zb_231_4, zb_231_5]
abbrev zb_232_0 : List zI0 := [(0, 0, 1, 0, 0), (4, 1, 1, 0, 0), (5, 231, 1, 0, 196), (17, 1, 0, 0, 0), (3, 0, 0, 0, 1), (10, 2, 0, 0, 0)]
abbrev zb_232_1 : List zI0 := [(3, 0, 0, 0, 0), (111, 2, 0, 0, 0)]
abbrev zb_232_2 : List zI0 := [(3, 0, 0, 0, 1), (6, 212, 2, 12, 187), (15, 3, 0, 0, 0), (0, 0, 1, 0, 0), (0, 0, 1, 0, 0), (1, 12, 37, 166, 37), (3, 0, 0, 0, 2), (6, 212, 2, 12, 187), (14, 4, 0, 0, 0), (111, 3, 0, 0, 0)]
abbrev zb_232_3 : List zI0 := [(3, 0, 0, 0, 0), (9, 0, 0, 0, 0)]
abbrev zb_232_4 : List zI0 := [(0, 0, 1, 0, 0), (2, 12, 13, 141, 13), (4, 1, 1, 0, 0), (5, 231, 1, 0, 196), (101, 0, 0, 0, 0), (30, 3, 1, 0, 0), (0, 0, 1, 0, 0), (2, 12, 13, 141, 13), (4, 1, 1, 0, 0), (5, 231, 1, 0, 196), (4, 2, 1, 0, 0), (102, 0, 0, 0, 0), (4, 3, 1, 0, 0), (9, 0, 0, 0, 0)]
abbrev zc_232 : List (List zI0) := [zb_232_0, zb_232_1, zb_232_2, zb_232_3, zb_232_4]
abbrev zb_233_0 : List zI0 := [(4, 0, 1, 0, 0), (3, 1, 0, 0, 10), (21, 1, 0, 0, 0), (3, 1, 0, 0, 16), (10, 2, 0, 0, 0)]
abbrev zb_233_1 : List zI0 := [(3, 0, 0, 0, 4), (111, 2, 0, 0, 0)]
abbrev zb_233_2 : List zI0 := [(8, 0, 0, 0, 0)]
abbrev zc_233 : List (List zI0) := [zb_233_0, zb_233_1, zb_233_2]
abbrev zb_234_0 : List zI0 := [(0, 0, 1, 0, 0), (4, 1, 1, 0, 0), (3, 0, 0, 0, 1), (3, 0, 0, 0, 2), (5, 213, 3, 0, 186), (15, 1, 0, 0, 0), (3, 0, 0, 0, 1), (10, 2, 0, 0, 0)]
abbrev zb_234_1 : List zI0 := [(3, 0, 0, 0, 0), (111, 2, 0, 0, 0)]
abbrev zb_234_2 : List zI0 := [(3, 0, 0, 0, 1), (6, 212, 2, 12, 187), (15, 3, 0, 0, 0), (0, 0, 1, 0, 0), (0, 0, 1, 0, 0), (1, 12, 37, 166, 37), (3, 0, 0, 0, 2), (6, 212, 2, 12, 187), (14, 4, 0, 0, 0), (111, 3, 0, 0, 0)]
abbrev zb_234_3 : List zI0 := [(3, 0, 0, 0, 0), (8, 0, 0, 0, 0)]
abbrev zb_234_4 : List zI0 := [(0, 0, 1, 0, 0), (4, 1, 1, 0, 0), (11, 12, 34, 172, 34), (0, 0, 1, 0, 0), (3, 0, 0, 0, 0), (11, 12, 35, 173, 35), (3, 0, 0, 0, 1), (30, 2, 1, 0, 0), (111, 5, 0, 0, 0)]
abbrev zb_234_5 : List zI0 := [(4, 2, 1, 0, 0), (3, 1, 0, 0, 11), (23, 8, 0, 0, 0), (3, 0, 0, 0, 0), (30, 3, 1, 0, 0), (111, 6, 0, 0, 0)]
abbrev zb_234_6 : List zI0 := [(4, 3, 1, 0, 0), (4, 1, 1, 0, 0), (4, 2, 1, 0, 0), (5, 233, 1, 0, 197), (39, 0, 0, 0, 0), (23, 7, 0, 0, 0), (0, 0, 1, 0, 0), (2, 12, 14, 142, 14), (0, 0, 1, 0, 0), (1, 12, 35, 173, 35), (4, 2, 1, 0, 0), (35, 0, 0, 0, 0), (0, 0, 1, 0, 0), (47, 0, 0, 0, 0), (1, 12, 35, 173, 35), (3, 0, 0, 0, 1), (37, 0, 0, 0, 0), (11, 12, 35, 173, 35), (32, 3, 0, 0, 1), (10, 6, 0, 0, 0)]
abbrev zb_234_7 : List zI0 := [(32, 2, 0, 0, 1), (10, 5, 0, 0, 0)]
abbrev zb_234_8 : List zI0 := [(3, 0, 0, 0, 0), (30, 2, 1, 0, 0), (111, 9, 0, 0, 0)]
abbrev zb_234_9 : List zI0 := [(4, 2, 1, 0, 0), (3, 0, 0, 0, 3), (23, 10, 0, 0, 0), (0, 0, 1, 0, 0), (2, 12, 20, 148, 20), (4, 2, 1, 0, 0), (3, 0, 0, 0, 0), (35, 0, 0, 0, 0), (32, 2, 0, 0, 1), (10, 9, 0, 0, 0)]
abbrev zb_234_10 : List zI0 := [(0, 0, 1, 0, 0), (3, 0, 0, 0, 0), (11, 12, 36, 174, 36), (0, 0, 1, 0, 0), (1, 12, 35, 173, 35), (8, 0, 0, 0, 0)]
abbrev zc_234 : List (List zI0) := [zb_234_0, zb_234_1, zb_234_2, zb_234_3, zb_234_4, zb_234_5, zb_234_6, zb_234_7, zb_234_8, zb_234_9, zb_234_10]
abbrev zb_235_0 : List zI0 := [(0, 0, 1, 0, 0), (4, 1, 1, 0, 0), (3, 0, 0, 0, 1), (0, 0, 1, 0, 0), (1, 12, 35, 173, 35), (3, 0, 0, 0, 1), (38, 0, 0, 0, 0), (5, 213, 3, 0, 186), (15, 1, 0, 0, 0), (3, 0, 0, 0, 1), (10, 2, 0, 0, 0)]
abbrev zb_235_1 : List zI0 := [(3, 0, 0, 0, 0), (111, 2, 0, 0, 0)]
abbrev zb_235_2 : List zI0 := [(3, 0, 0, 0, 1), (6, 212, 2, 12, 187), (15, 3, 0, 0, 0), (0, 0, 1, 0, 0), (0, 0, 1, 0, 0), (1, 12, 37, 166, 37), (3, 0, 0, 0, 2), (6, 212, 2, 12, 187), (14, 4, 0, 0, 0), (111, 3, 0, 0, 0)]
abbrev zb_235_3 : List zI0 := [(3, 0, 0, 0, 0), (8, 0, 0, 0, 0)]
abbrev zb_235_4 : List zI0 := [(0, 0, 1, 0, 0), (2, 12, 14, 142, 14), (3, 0, 0, 0, 0), (0, 0, 1, 0, 0), (2, 12, 15, 143, 15), (3, 0, 0, 0, 0), (0, 0, 1, 0, 0), (1, 12, 35, 173, 35), (106, 0, 0, 0, 163), (3, 0, 0, 0, 0), (30, 2, 1, 0, 0), (111, 5, 0, 0, 0)]
abbrev zb_235_5 : List zI0 := [(4, 2, 1, 0, 0), (0, 0, 1, 0, 0), (1, 12, 35, 173, 35), (23, 6, 0, 0, 0), (0, 0, 1, 0, 0), (2, 12, 14, 142, 14), (4, 2, 1, 0, 0), (0, 0, 1, 0, 0), (2, 12, 15, 143, 15), (4, 2, 1, 0, 0), (4, 1, 1, 0, 0), (37, 0, 0, 0, 0), (0, 0, 1, 0, 0), (1, 12, 35, 173, 35), (41, 0, 0, 0, 0), (33, 0, 0, 0, 0), (35, 0, 0, 0, 0), (32, 2, 0, 0, 1), (10, 5, 0, 0, 0)]
abbrev zb_235_6 : List zI0 := [(0, 0, 1, 0, 0), (2, 12, 14, 142, 14), (3, 0, 0, 0, 0), (33, 0, 0, 0, 0), (8, 0, 0, 0, 0)]
abbrev zc_235 : List (List zI0) := [zb_235_0, zb_235_1, zb_235_2, zb_235_3, zb_235_4, zb_235_5, zb_235_6]
abbrev zb_236_0 : List zI0 := [(0, 0, 1, 0, 0), (0, 0, 1, 0, 0), (1, 12, 35, 173, 35), (15, 1, 0, 0, 0), (3, 0, 0, 0, 1), (10, 2, 0, 0, 0)]
abbrev zb_236_1 : List zI0 := [(3, 0, 0, 0, 0), (111, 2, 0, 0, 0)]
abbrev zb_236_2 : List zI0 := [(3, 0, 0, 0, 1), (6, 212, 2, 12, 187), (15, 3, 0, 0, 0), (0, 0, 1, 0, 0), (0, 0, 1, 0, 0), (1, 12, 37, 166, 37), (3, 0, 0, 0, 2), (6, 212, 2, 12, 187), (14, 4, 0, 0, 0), (111, 3, 0, 0, 0)]
abbrev zb_236_3 : List zI0 := [(3, 0, 0, 0, 0), (8, 0, 0, 0, 0)]
abbrev zb_236_4 : List zI0 := [(0, 0, 1, 0, 0), (2, 12, 14, 142, 14), (3, 0, 0, 0, 0), (0, 0, 1, 0, 0), (2, 12, 15, 143, 15), (3, 0, 0, 0, 0), (0, 0, 1, 0, 0), (1, 12, 35, 173, 35), (106, 0, 0, 0, 163), (4, 1, 1, 0, 0), (14, 5, 0, 0, 0), (0, 0, 1, 0, 0), (1, 12, 35, 173, 35), (3, 0, 0, 0, 1), (37, 0, 0, 0, 0), (3, 0, 0, 0, 2), (40, 0, 0, 0, 0), (10, 6, 0, 0, 0)]
abbrev zb_236_5 : List zI0 := [(0, 0, 1, 0, 0), (1, 12, 35, 173, 35), (3, 0, 0, 0, 2), (40, 0, 0, 0, 0), (111, 6, 0, 0, 0)]
abbrev zb_236_6 : List zI0 := [(30, 2, 1, 0, 0), (3, 0, 0, 0, 0), (30, 3, 1, 0, 0), (111, 7, 0, 0, 0)]
abbrev zb_236_7 : List zI0 := [(4, 3, 1, 0, 0), (0, 0, 1, 0, 0), (1, 12, 35, 173, 35), (23, 12, 0, 0, 0), (4, 3, 1, 0, 0), (3, 0, 0, 0, 2), (41, 0, 0, 0, 0), (15, 8, 0, 0, 0), (3, 0, 0, 0, 1), (10, 9, 0, 0, 0)]
abbrev zb_236_8 : List zI0 := [(3, 0, 0, 0, 0), (111, 9, 0, 0, 0)]
abbrev zb_236_9 : List zI0 := [(4, 1, 1, 0, 0), (21, 10, 0, 0, 0), (3, 0, 0, 0, 0), (10, 11, 0, 0, 0)]
abbrev zb_236_10 : List zI0 := [(4, 2, 1, 0, 0), (111, 11, 0, 0, 0)]
abbrev zb_236_11 : List zI0 := [(30, 4, 0, 0, 0), (0, 0, 1, 0, 0), (2, 12, 14, 142, 14), (4, 3, 1, 0, 0), (0, 0, 1, 0, 0), (2, 12, 15, 143, 15), (4, 4, 0, 0, 0), (4, 3, 1, 0, 0), (3, 0, 0, 0, 2), (40, 0, 0, 0, 0), (37, 0, 0, 0, 0), (33, 0, 0, 0, 0), (35, 0, 0, 0, 0), (32, 3, 0, 0, 1), (10, 7, 0, 0, 0)]
abbrev zb_236_12 : List zI0 := [(0, 0, 1, 0, 0), (2, 12, 14, 142, 14), (3, 0, 0, 0, 0), (33, 0, 0, 0, 0), (8, 0, 0, 0, 0)]
abbrev zc_236 : List (List zI0) := [zb_236_0, zb_236_1, zb_236_2, zb_236_3, zb_236_4, zb_236_5, zb_236_6, zb_236_7, zb_236_8, zb_236_9, zb_236_10, zb_236_11, zb_236_12]
abbrev zb_237_0 : List zI0 := [(0, 0, 1, 0, 0), (2, 12, 14, 142, 14), (3, 0, 0, 0, 0), (33, 0, 0, 0, 0), (30, 1, 1, 0, 0), (0, 0, 1, 0, 0), (47, 0, 0, 0, 0), (1, 12, 35, 173, 35), (3, 0, 0, 0, 1), (38, 0, 0, 0, 0), (11, 12, 35, 173, 35), (0, 0, 1, 0, 0), (2, 12, 14, 142, 14), (3, 0, 0, 0, 1), (0, 0, 1, 0, 0), (2, 12, 14, 142, 14), (3, 0, 0, 0, 0), (0, 0, 1, 0, 0), (1, 12, 35, 173, 35), (106, 0, 0, 0, 163), (4, 1, 1, 0, 0), (8, 0, 0, 0, 0)]
abbrev zc_237 : List (List zI0) := [zb_237_0]
abbrev zb_238_0 : List zI0 := [(3, 0, 0, 0, 0), (30, 2, 1, 0, 0), (3, 0, 0, 0, 0), (30, 3, 1, 0, 0), (3, 0, 0, 0, 0), (30, 4, 0, 0, 0), (111, 1, 0, 0, 0)]
abbrev zb_238_1 : List zI0 := [(4, 4, 0, 0, 0), (4, 0, 1, 0, 0), (23, 4, 0, 0, 0), (4, 2, 1, 0, 0), (0, 1, 1, 0, 0), (4, 4, 0, 0, 0), (33, 0, 0, 0, 0), (37, 0, 0, 0, 0), (30, 2, 1, 0, 0), (4, 3, 1, 0, 0), (0, 1, 1, 0, 0), (4, 4, 0, 0, 0), (33, 0, 0, 0, 0), (3, 0, 0, 0, 1), (21, 2, 0, 0, 0), (3, 0, 0, 0, 1), (10, 3, 0, 0, 0)]
abbrev zb_238_2 : List zI0 := [(3, 0, 0, 0, 0), (111, 3, 0, 0, 0)]
abbrev zb_238_3 : List zI0 := [(43, 0, 0, 0, 0), (30, 3, 1, 0, 0), (32, 4, 0, 0, 1), (10, 1, 0, 0, 0)]
abbrev zb_238_4 : List zI0 := [(4, 3, 1, 0, 0), (14, 5, 0, 0, 0), (4, 2, 1, 0, 0), (3, 1, 0, 0, 11), (24, 5, 0, 0, 0), (4, 2, 1, 0, 0), (3, 1, 0, 0, 10), (37, 0, 0, 0, 0), (10, 6, 0, 0, 0)]
abbrev zb_238_5 : List zI0 := [(4, 2, 1, 0, 0), (111, 6, 0, 0, 0)]
abbrev zb_238_6 : List zI0 := [(8, 0, 0, 0, 0)]
abbrev zc_238 : List (List zI0) := [zb_238_0, zb_238_1, zb_238_2, zb_238_3, zb_238_4, zb_238_5, zb_238_6]
abbrev zb_239_0 : List zI0 := [(3, 0, 0, 0, 0), (30, 2, 1, 0, 0), (3, 0, 0, 0, 0), (30, 3, 1, 0, 0), (111, 1, 0, 0, 0)]
abbrev zb_239_1 : List zI0 := [(4, 3, 1, 0, 0), (4, 0, 1, 0, 0), (23, 2, 0, 0, 0), (4, 2, 1, 0, 0), (0, 1, 1, 0, 0), (4, 3, 1, 0, 0), (33, 0, 0, 0, 0), (37, 0, 0, 0, 0), (30, 2, 1, 0, 0), (32, 3, 0, 0, 1), (10, 1, 0, 0, 0)]
abbrev zb_239_2 : List zI0 := [(4, 0, 1, 0, 0), (0, 1, 1, 0, 0), (5, 238, 2, 0, 198), (4, 2, 1, 0, 0), (20, 3, 0, 0, 0), (3, 0, 0, 0, 1), (10, 4, 0, 0, 0)]
abbrev zb_239_3 : List zI0 := [(3, 0, 0, 0, 0), (111, 4, 0, 0, 0)]
abbrev zb_239_4 : List zI0 := [(9, 0, 0, 0, 0)]
abbrev zc_239 : List (List zI0) := [zb_239_0, zb_239_1, zb_239_2, zb_239_3, zb_239_4]
abbrev zb_240_0 : List zI0 := [(0, 0, 1, 0, 0), (2, 12, 22, 150, 22), (4, 1, 1, 0, 0), (34, 0, 0, 0, 0), (4, 2, 1, 0, 0), (33, 0, 0, 0, 0), (0, 0, 1, 0, 0), (2, 12, 21, 149, 21), (4, 1, 1, 0, 0), (34, 0, 0, 0, 0), (4, 2, 1, 0, 0), (34, 0, 0, 0, 0), (5, 238, 2, 0, 198), (8, 0, 0, 0, 0)]
abbrev zc_240 : List (List zI0) := [zb_240_0]
abbrev zb_241_0 : List zI0 := [(0, 0, 1, 0, 0), (2, 12, 20, 148, 20), (4, 1, 1, 0, 0), (33, 0, 0, 0, 0), (3, 0, 0, 0, 1), (21, 1, 0, 0, 0), (0, 0, 1, 0, 0), (2, 12, 22, 150, 22), (4, 1, 1, 0, 0), (34, 0, 0, 0, 0), (3, 0, 0, 0, 0), (33, 0, 0, 0, 0), (3, 0, 0, 0, 2), (21, 1, 0, 0, 0), (0, 0, 1, 0, 0), (4, 1, 1, 0, 0), (3, 0, 0, 0, 0), (6, 240, 2, 12, 199), (3, 1, 0, 0, 21), (21, 1, 0, 0, 0), (3, 0, 0, 0, 1), (10, 2, 0, 0, 0)]
abbrev zb_241_1 : List zI0 := [(3, 0, 0, 0, 0), (111, 2, 0, 0, 0)]
abbrev zb_241_2 : List zI0 := [(9, 0, 0, 0, 0)]
abbrev zc_241 : List (List zI0) := [zb_241_0, zb_241_1, zb_241_2]
abbrev zb_242_0 : List zI0 := [(0, 0, 1, 0, 0), (2, 12, 18, 146, 18), (4, 1, 1, 0, 0), (33, 0, 0, 0, 0), (16, 1, 0, 0, 0), (3, 0, 0, 0, 1), (10, 2, 0, 0, 0)]
abbrev zb_242_1 : List zI0 := [(3, 0, 0, 0, 0), (111, 2, 0, 0, 0)]
abbrev zb_242_2 : List zI0 := [(9, 0, 0, 0, 0)]
abbrev zc_242 : List (List zI0) := [zb_242_0, zb_242_1, zb_242_2]
abbrev zb_243_0 : List zI0 := [(0, 0, 1, 0, 0), (4, 1, 1, 0, 0), (3, 0, 0, 0, 0), (3, 0, 0, 0, 2), (5, 213, 3, 0, 186), (14, 1, 0, 0, 0), (0, 0, 1, 0, 0), (4, 2, 1, 0, 0), (6, 214, 1, 12, 188), (14, 2, 0, 0, 0), (111, 1, 0, 0, 0)]
abbrev zb_243_1 : List zI0 := [(3, 0, 0, 0, 1), (10, 3, 0, 0, 0)]
abbrev zb_243_2 : List zI0 := [(3, 0, 0, 0, 0), (111, 3, 0, 0, 0)]
abbrev zb_243_3 : List zI0 := [(3, 0, 0, 0, 1), (6, 212, 2, 12, 187), (15, 6, 0, 0, 0), (0, 0, 1, 0, 0), (4, 3, 1, 0, 0), (3, 0, 0, 0, 2), (3, 2, 0, 0, 1000), (5, 213, 3, 0, 186), (15, 4, 0, 0, 0), (3, 0, 0, 0, 1), (10, 5, 0, 0, 0)]
abbrev zb_243_4 : List zI0 := [(3, 0, 0, 0, 0), (111, 5, 0, 0, 0)]
abbrev zb_243_5 : List zI0 := [(3, 0, 0, 0, 2), (6, 212, 2, 12, 187), (14, 7, 0, 0, 0), (111, 6, 0, 0, 0)]
abbrev zb_243_6 : List zI0 := [(3, 0, 0, 0, 0), (8, 0, 0, 0, 0)]
abbrev zb_243_7 : List zI0 := [(0, 0, 1, 0, 0), (0, 0, 1, 0, 0), (4, 1, 1, 0, 0), (6, 242, 1, 12, 200), (15, 8, 0, 0, 0), (0, 0, 1, 0, 0), (4, 2, 1, 0, 0), (4, 3, 1, 0, 0), (6, 220, 2, 12, 201), (15, 9, 0, 0, 0), (111, 8, 0, 0, 0)]
abbrev zb_243_8 : List zI0 := [(3, 0, 0, 0, 1), (10, 10, 0, 0, 0)]
abbrev zb_243_9 : List zI0 := [(3, 0, 0, 0, 0), (111, 10, 0, 0, 0)]
abbrev zb_243_10 : List zI0 := [(3, 0, 0, 0, 3), (6, 212, 2, 12, 187), (15, 11, 0, 0, 0), (0, 0, 1, 0, 0), (0, 0, 1, 0, 0), (1, 12, 37, 166, 37), (3, 0, 0, 0, 4), (6, 212, 2, 12, 187), (14, 12, 0, 0, 0), (111, 11, 0, 0, 0)]
abbrev zb_243_11 : List zI0 := [(3, 0, 0, 0, 0), (8, 0, 0, 0, 0)]
abbrev zb_243_12 : List zI0 := [(0, 0, 1, 0, 0), (4, 2, 1, 0, 0), (4, 3, 1, 0, 0), (6, 221, 2, 12, 202), (0, 0, 1, 0, 0), (2, 12, 18, 146, 18), (4, 1, 1, 0, 0), (4, 2, 1, 0, 0), (35, 0, 0, 0, 0), (0, 0, 1, 0, 0), (2, 12, 19, 147, 19), (4, 1, 1, 0, 0), (4, 3, 1, 0, 0), (35, 0, 0, 0, 0), (0, 0, 1, 0, 0), (6, 265, 0, 12, 203), (30, 4, 0, 0, 0), (4, 4, 0, 0, 0), (19, 13, 0, 0, 0), (0, 0, 1, 0, 0), (6, 275, 0, 12, 204), (3, 1, 0, 0, 52), (39, 0, 0, 0, 0), (4, 4, 0, 0, 0), (40, 0, 0, 0, 0), (3, 0, 0, 0, 2), (22, 13, 0, 0, 0), (3, 0, 0, 0, 1), (10, 14, 0, 0, 0)]
abbrev zb_243_13 : List zI0 := [(3, 0, 0, 0, 0), (111, 14, 0, 0, 0)]
abbrev zb_243_14 : List zI0 := [(30, 5, 0, 0, 0), (0, 0, 1, 0, 0), (2, 12, 8, 136, 8), (4, 2, 1, 0, 0), (34, 0, 0, 0, 0), (4, 5, 0, 0, 0), (48, 0, 0, 0, 0), (33, 0, 0, 0, 0), (4, 3, 1, 0, 0), (37, 0, 0, 0, 0), (35, 0, 0, 0, 0), (0, 0, 1, 0, 0), (2, 12, 9, 137, 9), (4, 2, 1, 0, 0), (34, 0, 0, 0, 0), (4, 5, 0, 0, 0), (48, 0, 0, 0, 0), (33, 0, 0, 0, 0), (3, 0, 0, 0, 1), (37, 0, 0, 0, 0), (35, 0, 0, 0, 0), (0, 0, 1, 0, 0), (2, 12, 1, 129, 1), (4, 2, 1, 0, 0), (33, 0, 0, 0, 0), (8, 0, 0, 0, 0)]
abbrev zc_243 : List (List zI0) := [zb_243_0, zb_243_1, zb_243_2, zb_243_3, zb_243_4, zb_243_5, zb_243_6, zb_243_7, zb_243_8, zb_243_9, zb_243_10, zb_243_11, zb_243_12, zb_243_13, zb_243_14]
abbrev zb_244_0 : List zI0 := [(0, 0, 1, 0, 0), (2, 12, 21, 149, 21), (4, 1, 1, 0, 0), (34, 0, 0, 0, 0), (4, 2, 1, 0, 0), (34, 0, 0, 0, 0), (0, 0, 1, 0, 0), (2, 12, 22, 150, 22), (4, 1, 1, 0, 0), (34, 0, 0, 0, 0), (4, 2, 1, 0, 0), (33, 0, 0, 0, 0), (0, 0, 1, 0, 0), (6, 237, 0, 12, 205), (35, 0, 0, 0, 0), (0, 0, 1, 0, 0), (2, 12, 22, 150, 22), (4, 1, 1, 0, 0), (34, 0, 0, 0, 0), (4, 2, 1, 0, 0), (48, 0, 0, 0, 0), (33, 0, 0, 0, 0), (3, 0, 0, 0, 1), (37, 0, 0, 0, 0), (35, 0, 0, 0, 0), (50, 0, 0, 0, 0)]
abbrev zc_244 : List (List zI0) := [zb_244_0]
abbrev zb_245_0 : List zI0 := [(3, 0, 0, 0, 0), (30, 1, 1, 0, 0), (3, 0, 0, 0, 0), (30, 2, 1, 0, 0), (111, 1, 0, 0, 0)]
abbrev zb_245_1 : List zI0 := [(4, 2, 1, 0, 0), (3, 0, 0, 0, 3), (23, 2, 0, 0, 0), (4, 1, 1, 0, 0), (0, 0, 1, 0, 0), (4, 2, 1, 0, 0), (6, 242, 1, 12, 200), (43, 0, 0, 0, 0), (30, 1, 1, 0, 0), (32, 2, 0, 0, 1), (10, 1, 0, 0, 0)]
abbrev zb_245_2 : List zI0 := [(0, 0, 1, 0, 0), (4, 1, 1, 0, 0), (14, 3, 0, 0, 0), (0, 0, 1, 0, 0), (1, 12, 35, 173, 35), (3, 1, 0, 0, 30), (23, 4, 0, 0, 0), (111, 3, 0, 0, 0)]
abbrev zb_245_3 : List zI0 := [(3, 0, 0, 0, 1), (10, 5, 0, 0, 0)]
abbrev zb_245_4 : List zI0 := [(3, 0, 0, 0, 0), (111, 5, 0, 0, 0)]
abbrev zb_245_5 : List zI0 := [(3, 0, 0, 0, 1), (6, 212, 2, 12, 187), (15, 6, 0, 0, 0), (0, 0, 1, 0, 0), (0, 0, 1, 0, 0), (1, 12, 37, 166, 37), (3, 0, 0, 0, 2), (6, 212, 2, 12, 187), (14, 7, 0, 0, 0), (111, 6, 0, 0, 0)]
abbrev zb_245_6 : List zI0 := [(3, 0, 0, 0, 0), (8, 0, 0, 0, 0)]
abbrev zb_245_7 : List zI0 := [(0, 0, 1, 0, 0), (3, 0, 0, 0, 1), (12, 12, 37, 166, 37), (0, 0, 1, 0, 0), (3, 0, 0, 0, 0), (11, 12, 36, 174, 36), (3, 0, 0, 0, 0), (30, 2, 1, 0, 0), (111, 8, 0, 0, 0)]
abbrev zb_245_8 : List zI0 := [(4, 2, 1, 0, 0), (3, 0, 0, 0, 3), (23, 11, 0, 0, 0), (0, 0, 1, 0, 0), (2, 12, 20, 148, 20), (4, 2, 1, 0, 0), (0, 0, 1, 0, 0), (2, 12, 19, 147, 19), (4, 2, 1, 0, 0), (33, 0, 0, 0, 0), (19, 9, 0, 0, 0), (3, 0, 0, 0, 1), (10, 10, 0, 0, 0)]
abbrev zb_245_9 : List zI0 := [(3, 0, 0, 0, 0), (111, 10, 0, 0, 0)]
abbrev zb_245_10 : List zI0 := [(35, 0, 0, 0, 0), (0, 0, 1, 0, 0), (2, 12, 22, 150, 22), (4, 2, 1, 0, 0), (34, 0, 0, 0, 0), (3, 0, 0, 0, 0), (3, 0, 0, 0, 0), (35, 0, 0, 0, 0), (0, 0, 1, 0, 0), (2, 12, 23, 151, 23), (4, 2, 1, 0, 0), (34, 0, 0, 0, 0), (3, 0, 0, 0, 0), (0, 0, 1, 0, 0), (2, 12, 19, 147, 19), (4, 2, 1, 0, 0), (33, 0, 0, 0, 0), (35, 0, 0, 0, 0), (0, 0, 1, 0, 0), (2, 12, 23, 151, 23), (4, 2, 1, 0, 0), (34, 0, 0, 0, 0), (3, 0, 0, 0, 1), (3, 0, 0, 0, 0), (35, 0, 0, 0, 0), (0, 0, 1, 0, 0), (2, 12, 19, 147, 19), (4, 2, 1, 0, 0), (3, 0, 0, 0, 0), (35, 0, 0, 0, 0), (32, 2, 0, 0, 1), (10, 8, 0, 0, 0)]
abbrev zb_245_11 : List zI0 := [(3, 0, 0, 0, 0), (30, 2, 1, 0, 0), (111, 12, 0, 0, 0)]
abbrev zb_245_12 : List zI0 := [(4, 2, 1, 0, 0), (3, 0, 0, 0, 2), (23, 16, 0, 0, 0), (3, 0, 0, 0, 0), (30, 3, 1, 0, 0), (111, 13, 0, 0, 0)]
abbrev zb_245_13 : List zI0 := [(4, 3, 1, 0, 0), (3, 0, 0, 0, 3), (23, 15, 0, 0, 0), (0, 0, 1, 0, 0), (2, 12, 20, 148, 20), (4, 3, 1, 0, 0), (33, 0, 0, 0, 0), (19, 14, 0, 0, 0), (0, 0, 1, 0, 0), (4, 3, 1, 0, 0), (3, 0, 0, 0, 0), (6, 244, 2, 12, 206), (111, 14, 0, 0, 0)]
abbrev zb_245_14 : List zI0 := [(32, 3, 0, 0, 1), (10, 13, 0, 0, 0)]
abbrev zb_245_15 : List zI0 := [(0, 0, 1, 0, 0), (2, 12, 25, 153, 25), (0, 0, 1, 0, 0), (1, 12, 36, 174, 36), (0, 0, 1, 0, 0), (6, 237, 0, 12, 205), (35, 0, 0, 0, 0), (0, 0, 1, 0, 0), (47, 0, 0, 0, 0), (1, 12, 36, 174, 36), (3, 0, 0, 0, 1), (37, 0, 0, 0, 0), (11, 12, 36, 174, 36), (32, 2, 0, 0, 1), (10, 12, 0, 0, 0)]
abbrev zb_245_16 : List zI0 := [(3, 0, 0, 0, 0), (30, 2, 1, 0, 0), (111, 17, 0, 0, 0)]
abbrev zb_245_17 : List zI0 := [(4, 2, 1, 0, 0), (3, 0, 0, 0, 3), (23, 20, 0, 0, 0), (0, 0, 1, 0, 0), (2, 12, 24, 152, 24), (4, 2, 1, 0, 0), (34, 0, 0, 0, 0), (3, 0, 0, 0, 0), (0, 0, 1, 0, 0), (4, 2, 1, 0, 0), (3, 0, 0, 0, 0), (6, 240, 2, 12, 199), (3, 1, 0, 0, 21), (21, 18, 0, 0, 0), (3, 0, 0, 0, 2), (10, 19, 0, 0, 0)]
abbrev zb_245_18 : List zI0 := [(3, 0, 0, 0, 1), (111, 19, 0, 0, 0)]
abbrev zb_245_19 : List zI0 := [(35, 0, 0, 0, 0), (32, 2, 0, 0, 1), (10, 17, 0, 0, 0)]
abbrev zb_245_20 : List zI0 := [(0, 0, 1, 0, 0), (1, 12, 36, 174, 36), (0, 0, 1, 0, 0), (2, 12, 25, 153, 25), (5, 238, 2, 0, 198), (3, 1, 0, 0, 21), (21, 21, 0, 0, 0), (0, 0, 1, 0, 0), (3, 0, 0, 0, 1), (6, 251, 1, 12, 207), (10, 22, 0, 0, 0)]
abbrev zb_245_21 : List zI0 := [(0, 0, 1, 0, 0), (6, 246, 0, 12, 192), (17, 22, 0, 0, 0), (0, 0, 1, 0, 0), (6, 249, 0, 12, 193), (111, 22, 0, 0, 0)]
abbrev zb_245_22 : List zI0 := [(0, 0, 1, 0, 0), (2, 12, 25, 153, 25), (3, 0, 0, 0, 0), (33, 0, 0, 0, 0), (8, 0, 0, 0, 0)]
abbrev zc_245 : List (List zI0) := [zb_245_0, zb_245_1, zb_245_2, zb_245_3, zb_245_4, zb_245_5, zb_245_6, zb_245_7, zb_245_8, zb_245_9, zb_245_10, zb_245_11, zb_245_12, zb_245_13, zb_245_14, zb_245_15, zb_245_16, zb_245_17, zb_245_18, zb_245_19, zb_245_20, zb_245_21, zb_245_22]
abbrev zb_246_0 : List zI0 := [(3, 0, 0, 0, 0), (30, 1, 1, 0, 0), (111, 1, 0, 0, 0)]
abbrev zb_246_1 : List zI0 := [(4, 1, 1, 0, 0), (3, 0, 0, 0, 3), (23, 5, 0, 0, 0), (3, 0, 0, 0, 0), (30, 2, 1, 0, 0), (111, 2, 0, 0, 0)]
abbrev zb_246_2 : List zI0 := [(4, 2, 1, 0, 0), (0, 0, 1, 0, 0), (2, 12, 20, 148, 20), (4, 1, 1, 0, 0), (33, 0, 0, 0, 0), (23, 4, 0, 0, 0), (0, 0, 1, 0, 0), (2, 12, 24, 152, 24), (4, 1, 1, 0, 0), (34, 0, 0, 0, 0), (4, 2, 1, 0, 0), (33, 0, 0, 0, 0), (3, 0, 0, 0, 1), (21, 3, 0, 0, 0), (4, 1, 1, 0, 0), (3, 1, 0, 0, 10), (4, 2, 1, 0, 0), (39, 0, 0, 0, 0), (37, 0, 0, 0, 0), (8, 0, 0, 0, 0)]
abbrev zb_246_3 : List zI0 := [(32, 2, 0, 0, 1), (10, 2, 0, 0, 0)]
abbrev zb_246_4 : List zI0 := [(32, 1, 0, 0, 1), (10, 1, 0, 0, 0)]
abbrev zb_246_5 : List zI0 := [(3, 0, 0, 0, (-1)), (8, 0, 0, 0, 0)]
abbrev zc_246 : List (List zI0) := [zb_246_0, zb_246_1, zb_246_2, zb_246_3, zb_246_4, zb_246_5]
abbrev zb_247_0 : List zI0 := [(0, 0, 1, 0, 0), (2, 12, 10, 138, 10), (3, 0, 0, 0, 0), (48, 0, 0, 0, 0), (33, 0, 0, 0, 0), (0, 0, 1, 0, 0), (2, 12, 23, 151, 23), (4, 1, 1, 0, 0), (34, 0, 0, 0, 0), (4, 2, 1, 0, 0), (33, 0, 0, 0, 0), (37, 0, 0, 0, 0), (35, 0, 0, 0, 0), (0, 0, 1, 0, 0), (2, 12, 23, 151, 23), (4, 1, 1, 0, 0), (34, 0, 0, 0, 0), (4, 2, 1, 0, 0), (3, 0, 0, 0, 0), (35, 0, 0, 0, 0), (0, 0, 1, 0, 0), (2, 12, 24, 152, 24), (4, 1, 1, 0, 0), (34, 0, 0, 0, 0), (4, 2, 1, 0, 0), (3, 0, 0, 0, 3), (35, 0, 0, 0, 0), (50, 0, 0, 0, 0)]
abbrev zc_247 : List (List zI0) := [zb_247_0]
abbrev zb_248_0 : List zI0 := [(0, 0, 1, 0, 0), (2, 12, 18, 146, 18), (4, 1, 1, 0, 0), (33, 0, 0, 0, 0), (30, 4, 0, 0, 0), (0, 0, 1, 0, 0), (2, 12, 1, 129, 1), (4, 4, 0, 0, 0), (48, 0, 0, 0, 0), (33, 0, 0, 0, 0), (0, 0, 1, 0, 0), (2, 12, 23, 151, 23), (4, 1, 1, 0, 0), (34, 0, 0, 0, 0), (4, 2, 1, 0, 0), (33, 0, 0, 0, 0), (37, 0, 0, 0, 0), (35, 0, 0, 0, 0), (0, 0, 1, 0, 0), (2, 12, 23, 151, 23), (4, 1, 1, 0, 0), (34, 0, 0, 0, 0), (4, 2, 1, 0, 0), (3, 0, 0, 0, 0), (35, 0, 0, 0, 0), (0, 0, 1, 0, 0), (2, 12, 24, 152, 24), (4, 1, 1, 0, 0), (34, 0, 0, 0, 0), (4, 2, 1, 0, 0), (3, 0, 0, 0, 3), (35, 0, 0, 0, 0), (0, 0, 1, 0, 0), (3, 0, 0, 0, 0), (4, 4, 0, 0, 0), (4, 3, 1, 0, 0), (6, 222, 3, 12, 208), (50, 0, 0, 0, 0)]
abbrev zc_248 : List (List zI0) := [zb_248_0]
abbrev zb_249_0 : List zI0 := [(3, 0, 0, 0, 0), (30, 1, 1, 0, 0), (3, 0, 0, 0, 0), (30, 2, 1, 0, 0), (111, 1, 0, 0, 0)]
abbrev zb_249_1 : List zI0 := [(4, 2, 1, 0, 0), (3, 0, 0, 0, 3), (23, 6, 0, 0, 0), (3, 0, 0, 0, 0), (30, 3, 1, 0, 0), (111, 2, 0, 0, 0)]
abbrev zb_249_2 : List zI0 := [(4, 3, 1, 0, 0), (0, 0, 1, 0, 0), (2, 12, 20, 148, 20), (4, 2, 1, 0, 0), (33, 0, 0, 0, 0), (23, 5, 0, 0, 0), (4, 1, 1, 0, 0), (0, 0, 1, 0, 0), (2, 12, 24, 152, 24), (4, 2, 1, 0, 0), (34, 0, 0, 0, 0), (4, 3, 1, 0, 0), (33, 0, 0, 0, 0), (3, 0, 0, 0, 2), (21, 3, 0, 0, 0), (0, 0, 1, 0, 0), (4, 2, 1, 0, 0), (6, 241, 1, 12, 209), (15, 3, 0, 0, 0), (3, 0, 0, 0, 1), (10, 4, 0, 0, 0)]
abbrev zb_249_3 : List zI0 := [(3, 0, 0, 0, 0), (111, 4, 0, 0, 0)]
abbrev zb_249_4 : List zI0 := [(43, 0, 0, 0, 0), (30, 1, 1, 0, 0), (32, 3, 0, 0, 1), (10, 2, 0, 0, 0)]
abbrev zb_249_5 : List zI0 := [(32, 2, 0, 0, 1), (10, 1, 0, 0, 0)]
abbrev zb_249_6 : List zI0 := [(4, 1, 1, 0, 0), (14, 7, 0, 0, 0), (0, 0, 1, 0, 0), (1, 12, 35, 173, 35), (19, 7, 0, 0, 0), (0, 0, 1, 0, 0), (0, 0, 1, 0, 0), (1, 12, 36, 174, 36), (0, 0, 1, 0, 0), (2, 12, 25, 153, 25), (5, 238, 2, 0, 198), (0, 0, 1, 0, 0), (1, 12, 36, 174, 36), (0, 0, 1, 0, 0), (2, 12, 25, 153, 25), (5, 239, 2, 0, 210), (6, 250, 2, 12, 211), (15, 7, 0, 0, 0), (0, 0, 1, 0, 0), (2, 12, 25, 153, 25), (0, 0, 1, 0, 0), (1, 12, 36, 174, 36), (0, 0, 1, 0, 0), (6, 237, 0, 12, 205), (35, 0, 0, 0, 0), (0, 0, 1, 0, 0), (47, 0, 0, 0, 0), (1, 12, 36, 174, 36), (3, 0, 0, 0, 1), (37, 0, 0, 0, 0), (11, 12, 36, 174, 36), (10, 6, 0, 0, 0)]
abbrev zb_249_7 : List zI0 := [(0, 0, 1, 0, 0), (3, 0, 0, 0, 0), (6, 251, 1, 12, 207), (50, 0, 0, 0, 0)]
abbrev zc_249 : List (List zI0) := [zb_249_0, zb_249_1, zb_249_2, zb_249_3, zb_249_4, zb_249_5, zb_249_6, zb_249_7]
abbrev zb_250_0 : List zI0 := [(4, 1, 1, 0, 0), (3, 1, 0, 0, 17), (22, 2, 0, 0, 0), (4, 1, 1, 0, 0), (3, 1, 0, 0, 17), (21, 1, 0, 0, 0), (4, 2, 1, 0, 0), (14, 1, 0, 0, 0), (0, 0, 1, 0, 0), (2, 12, 13, 141, 13), (3, 0, 0, 0, 2), (101, 0, 0, 0, 0), (15, 2, 0, 0, 0), (111, 1, 0, 0, 0)]
abbrev zb_250_1 : List zI0 := [(3, 0, 0, 0, 1), (10, 3, 0, 0, 0)]
abbrev zb_250_2 : List zI0 := [(3, 0, 0, 0, 0), (111, 3, 0, 0, 0)]
abbrev zb_250_3 : List zI0 := [(9, 0, 0, 0, 0)]
abbrev zc_250 : List (List zI0) := [zb_250_0, zb_250_1, zb_250_2, zb_250_3]
abbrev zb_251_0 : List zI0 := [(0, 0, 1, 0, 0), (1, 12, 36, 174, 36), (0, 0, 1, 0, 0), (2, 12, 25, 153, 25), (5, 238, 2, 0, 198), (30, 2, 1, 0, 0), (3, 0, 0, 0, 0), (30, 3, 1, 0, 0), (111, 1, 0, 0, 0)]
abbrev zb_251_1 : List zI0 := [(4, 3, 1, 0, 0), (3, 0, 0, 0, 3), (23, 6, 0, 0, 0), (3, 0, 0, 0, 0), (30, 4, 0, 0, 0), (111, 2, 0, 0, 0)]
abbrev zb_251_2 : List zI0 := [(4, 4, 0, 0, 0), (0, 0, 1, 0, 0), (2, 12, 20, 148, 20), (4, 3, 1, 0, 0), (33, 0, 0, 0, 0), (23, 5, 0, 0, 0), (0, 0, 1, 0, 0), (2, 12, 24, 152, 24), (4, 3, 1, 0, 0), (34, 0, 0, 0, 0), (4, 4, 0, 0, 0), (33, 0, 0, 0, 0), (3, 0, 0, 0, 2), (20, 3, 0, 0, 0), (4, 1, 1, 0, 0), (14, 4, 0, 0, 0), (0, 0, 1, 0, 0), (2, 12, 24, 152, 24), (4, 3, 1, 0, 0), (34, 0, 0, 0, 0), (4, 4, 0, 0, 0), (33, 0, 0, 0, 0), (3, 0, 0, 0, 1), (21, 4, 0, 0, 0), (111, 3, 0, 0, 0)]
abbrev zb_251_3 : List zI0 := [(0, 0, 1, 0, 0), (4, 3, 1, 0, 0), (4, 4, 0, 0, 0), (4, 2, 1, 0, 0), (4, 1, 1, 0, 0), (6, 252, 4, 12, 212), (111, 4, 0, 0, 0)]
abbrev zb_251_4 : List zI0 := [(32, 4, 0, 0, 1), (10, 2, 0, 0, 0)]
abbrev zb_251_5 : List zI0 := [(0, 0, 1, 0, 0), (2, 12, 18, 146, 18), (4, 3, 1, 0, 0), (3, 0, 0, 0, (-1)), (35, 0, 0, 0, 0), (32, 3, 0, 0, 1), (10, 1, 0, 0, 0)]
abbrev zb_251_6 : List zI0 := [(0, 0, 1, 0, 0), (3, 0, 0, 0, 0), (12, 12, 37, 166, 37), (50, 0, 0, 0, 0)]
abbrev zc_251 : List (List zI0) := [zb_251_0, zb_251_1, zb_251_2, zb_251_3, zb_251_4, zb_251_5, zb_251_6]
abbrev zb_252_0 : List zI0 := [(0, 0, 1, 0, 0), (2, 12, 23, 151, 23), (4, 1, 1, 0, 0), (34, 0, 0, 0, 0), (4, 2, 1, 0, 0), (33, 0, 0, 0, 0), (30, 5, 0, 0, 0), (0, 0, 1, 0, 0), (4, 1, 1, 0, 0), (4, 2, 1, 0, 0), (6, 240, 2, 12, 199), (30, 6, 0, 0, 0), (0, 0, 1, 0, 0), (4, 1, 1, 0, 0), (6, 241, 1, 12, 209), (14, 7, 0, 0, 0), (4, 4, 0, 0, 0), (14, 1, 0, 0, 0), (3, 0, 0, 0, 0), (10, 3, 0, 0, 0)]
abbrev zb_252_1 : List zI0 := [(0, 0, 1, 0, 0), (2, 12, 13, 141, 13), (3, 0, 0, 0, 3), (101, 0, 0, 0, 0), (14, 2, 0, 0, 0), (4, 5, 0, 0, 0), (3, 1, 0, 0, 6), (39, 0, 0, 0, 0), (3, 0, 0, 0, 5), (40, 0, 0, 0, 0), (10, 3, 0, 0, 0)]
abbrev zb_252_2 : List zI0 := [(4, 5, 0, 0, 0), (3, 0, 0, 0, 3), (39, 0, 0, 0, 0), (3, 0, 0, 0, 2), (40, 0, 0, 0, 0), (111, 3, 0, 0, 0)]
abbrev zb_252_3 : List zI0 := [(30, 7, 0, 0, 0), (0, 0, 1, 0, 0), (47, 0, 0, 0, 0), (1, 12, 38, 175, 38), (4, 4, 0, 0, 0), (14, 4, 0, 0, 0), (3, 0, 0, 0, 0), (10, 6, 0, 0, 0)]
abbrev zb_252_4 : List zI0 := [(0, 0, 1, 0, 0), (2, 12, 13, 141, 13), (3, 0, 0, 0, 3), (101, 0, 0, 0, 0), (14, 5, 0, 0, 0), (4, 5, 0, 0, 0), (3, 1, 0, 0, 6), (39, 0, 0, 0, 0), (3, 0, 0, 0, 5), (41, 0, 0, 0, 0), (3, 0, 0, 0, 2), (39, 0, 0, 0, 0), (10, 6, 0, 0, 0)]
abbrev zb_252_5 : List zI0 := [(4, 5, 0, 0, 0), (3, 0, 0, 0, 2), (41, 0, 0, 0, 0), (3, 0, 0, 0, 5), (39, 0, 0, 0, 0), (111, 6, 0, 0, 0)]
abbrev zb_252_6 : List zI0 := [(37, 0, 0, 0, 0), (11, 12, 38, 175, 38), (0, 0, 1, 0, 0), (4, 1, 1, 0, 0), (4, 2, 1, 0, 0), (4, 7, 0, 0, 0), (6, 248, 3, 12, 213), (10, 11, 0, 0, 0)]
abbrev zb_252_7 : List zI0 := [(4, 4, 0, 0, 0), (15, 9, 0, 0, 0), (4, 6, 0, 0, 0), (4, 3, 1, 0, 0), (24, 8, 0, 0, 0), (4, 3, 1, 0, 0), (3, 1, 0, 0, 21), (25, 9, 0, 0, 0), (111, 8, 0, 0, 0)]
abbrev zb_252_8 : List zI0 := [(0, 0, 1, 0, 0), (4, 1, 1, 0, 0), (4, 2, 1, 0, 0), (4, 5, 0, 0, 0), (6, 248, 3, 12, 213), (10, 11, 0, 0, 0)]
abbrev zb_252_9 : List zI0 := [(4, 4, 0, 0, 0), (15, 10, 0, 0, 0), (4, 6, 0, 0, 0), (4, 3, 1, 0, 0), (21, 10, 0, 0, 0), (0, 0, 1, 0, 0), (4, 1, 1, 0, 0), (4, 2, 1, 0, 0), (3, 0, 0, 0, 0), (6, 248, 3, 12, 213), (10, 11, 0, 0, 0)]
abbrev zb_252_10 : List zI0 := [(0, 0, 1, 0, 0), (4, 1, 1, 0, 0), (4, 2, 1, 0, 0), (6, 247, 2, 12, 214), (111, 11, 0, 0, 0)]
abbrev zb_252_11 : List zI0 := [(50, 0, 0, 0, 0)]
abbrev zc_252 : List (List zI0) := [zb_252_0, zb_252_1, zb_252_2, zb_252_3, zb_252_4, zb_252_5, zb_252_6, zb_252_7, zb_252_8, zb_252_9, zb_252_10, zb_252_11]
abbrev zb_253_0 : List zI0 := [(0, 0, 1, 0, 0), (4, 1, 1, 0, 0), (3, 0, 0, 0, 0), (3, 0, 0, 0, 2), (5, 213, 3, 0, 186), (15, 1, 0, 0, 0), (3, 0, 0, 0, 1), (10, 2, 0, 0, 0)]
abbrev zb_253_1 : List zI0 := [(3, 0, 0, 0, 0), (111, 2, 0, 0, 0)]
abbrev zb_253_2 : List zI0 := [(3, 0, 0, 0, 1), (6, 212, 2, 12, 187), (15, 7, 0, 0, 0), (0, 0, 1, 0, 0), (0, 0, 1, 0, 0), (1, 12, 37, 166, 37), (15, 3, 0, 0, 0), (3, 0, 0, 0, 1), (10, 4, 0, 0, 0)]
abbrev zb_253_3 : List zI0 := [(3, 0, 0, 0, 0), (111, 4, 0, 0, 0)]
abbrev zb_253_4 : List zI0 := [(3, 0, 0, 0, 2), (6, 212, 2, 12, 187), (15, 7, 0, 0, 0), (0, 0, 1, 0, 0), (0, 0, 1, 0, 0), (6, 246, 0, 12, 192), (3, 1, 0, 0, 10), (41, 0, 0, 0, 0), (4, 1, 1, 0, 0), (20, 5, 0, 0, 0), (3, 0, 0, 0, 1), (10, 6, 0, 0, 0)]
abbrev zb_253_5 : List zI0 := [(3, 0, 0, 0, 0), (111, 6, 0, 0, 0)]
abbrev zb_253_6 : List zI0 := [(3, 0, 0, 0, 3), (6, 212, 2, 12, 187), (14, 8, 0, 0, 0), (111, 7, 0, 0, 0)]
abbrev zb_253_7 : List zI0 := [(3, 0, 0, 0, 1), (10, 9, 0, 0, 0)]
abbrev zb_253_8 : List zI0 := [(3, 0, 0, 0, 0), (111, 9, 0, 0, 0)]
abbrev zb_253_9 : List zI0 := [(9, 0, 0, 0, 0)]
abbrev zc_253 : List (List zI0) := [zb_253_0, zb_253_1, zb_253_2, zb_253_3, zb_253_4, zb_253_5, zb_253_6, zb_253_7, zb_253_8, zb_253_9]
abbrev zb_254_0 : List zI0 := [(0, 0, 1, 0, 0), (6, 246, 0, 12, 192), (17, 1, 0, 0, 0), (0, 0, 1, 0, 0), (6, 249, 0, 12, 193), (111, 1, 0, 0, 0)]
abbrev zb_254_1 : List zI0 := [(50, 0, 0, 0, 0)]
abbrev zc_254 : List (List zI0) := [zb_254_0, zb_254_1]
abbrev zb_255_0 : List zI0 := [(0, 0, 1, 0, 0), (4, 1, 1, 0, 0), (4, 2, 1, 0, 0), (6, 240, 2, 12, 199), (30, 3, 1, 0, 0), (0, 0, 1, 0, 0), (2, 12, 24, 152, 24), (4, 1, 1, 0, 0), (34, 0, 0, 0, 0), (4, 2, 1, 0, 0), (4, 3, 1, 0, 0), (3, 1, 0, 0, 21), (21, 1, 0, 0, 0), (3, 0, 0, 0, 2), (10, 2, 0, 0, 0)]
abbrev zb_255_1 : List zI0 := [(0, 0, 1, 0, 0), (2, 12, 24, 152, 24), (4, 1, 1, 0, 0), (34, 0, 0, 0, 0), (4, 2, 1, 0, 0), (33, 0, 0, 0, 0), (111, 2, 0, 0, 0)]
abbrev zb_255_2 : List zI0 := [(35, 0, 0, 0, 0), (4, 3, 1, 0, 0), (3, 1, 0, 0, 21), (25, 3, 0, 0, 0), (0, 0, 1, 0, 0), (4, 1, 1, 0, 0), (4, 2, 1, 0, 0), (6, 247, 2, 12, 214), (111, 3, 0, 0, 0)]
abbrev zb_255_3 : List zI0 := [(50, 0, 0, 0, 0)]
abbrev zc_255 : List (List zI0) := [zb_255_0, zb_255_1, zb_255_2, zb_255_3]
abbrev zb_256_0 : List zI0 := [(0, 0, 1, 0, 0), (4, 1, 1, 0, 0), (6, 253, 1, 12, 215), (15, 3, 0, 0, 0), (0, 0, 1, 0, 0), (0, 0, 1, 0, 0), (1, 12, 35, 173, 35), (15, 1, 0, 0, 0), (3, 0, 0, 0, 1), (10, 2, 0, 0, 0)]
abbrev zb_256_1 : List zI0 := [(3, 0, 0, 0, 0), (111, 2, 0, 0, 0)]
abbrev zb_256_2 : List zI0 := [(3, 0, 0, 0, 3), (6, 212, 2, 12, 187), (14, 4, 0, 0, 0), (111, 3, 0, 0, 0)]
abbrev zb_256_3 : List zI0 := [(3, 0, 0, 0, 0), (8, 0, 0, 0, 0)]
abbrev zb_256_4 : List zI0 := [(0, 0, 1, 0, 0), (6, 246, 0, 12, 192), (3, 1, 0, 0, 10), (40, 0, 0, 0, 0), (30, 2, 1, 0, 0), (0, 0, 1, 0, 0), (4, 1, 1, 0, 0), (4, 2, 1, 0, 0), (6, 244, 2, 12, 206), (0, 0, 1, 0, 0), (4, 1, 1, 0, 0), (4, 2, 1, 0, 0), (6, 240, 2, 12, 199), (30, 3, 1, 0, 0), (0, 0, 1, 0, 0), (4, 1, 1, 0, 0), (4, 2, 1, 0, 0), (6, 255, 2, 12, 216), (0, 0, 1, 0, 0), (6, 254, 0, 12, 217), (4, 3, 1, 0, 0), (8, 0, 0, 0, 0)]
abbrev zc_256 : List (List zI0) := [zb_256_0, zb_256_1, zb_256_2, zb_256_3, zb_256_4]
abbrev zb_257_0 : List zI0 := [(0, 0, 1, 0, 0), (4, 1, 1, 0, 0), (6, 253, 1, 12, 215), (14, 1, 0, 0, 0), (3, 0, 0, 0, 0), (8, 0, 0, 0, 0)]
abbrev zb_257_1 : List zI0 := [(0, 0, 1, 0, 0), (2, 12, 24, 152, 24), (4, 1, 1, 0, 0), (34, 0, 0, 0, 0), (0, 0, 1, 0, 0), (6, 246, 0, 12, 192), (3, 1, 0, 0, 10), (40, 0, 0, 0, 0), (3, 0, 0, 0, 2), (35, 0, 0, 0, 0), (0, 0, 1, 0, 0), (6, 246, 0, 12, 192), (30, 2, 1, 0, 0), (0, 0, 1, 0, 0), (6, 254, 0, 12, 217), (4, 2, 1, 0, 0), (17, 2, 0, 0, 0), (3, 0, 0, 0, (-1)), (10, 3, 0, 0, 0)]
abbrev zb_257_2 : List zI0 := [(4, 2, 1, 0, 0), (3, 1, 0, 0, 10), (41, 0, 0, 0, 0), (111, 3, 0, 0, 0)]
abbrev zb_257_3 : List zI0 := [(8, 0, 0, 0, 0)]
abbrev zc_257 : List (List zI0) := [zb_257_0, zb_257_1, zb_257_2, zb_257_3]
abbrev zb_258_0 : List zI0 := [(0, 0, 1, 0, 0), (4, 1, 1, 0, 0), (6, 253, 1, 12, 215), (14, 1, 0, 0, 0), (3, 0, 0, 0, 0), (8, 0, 0, 0, 0)]
abbrev zb_258_1 : List zI0 := [(0, 0, 1, 0, 0), (6, 246, 0, 12, 192), (3, 1, 0, 0, 10), (40, 0, 0, 0, 0), (30, 2, 1, 0, 0), (0, 0, 1, 0, 0), (2, 12, 23, 151, 23), (4, 1, 1, 0, 0), (34, 0, 0, 0, 0), (4, 2, 1, 0, 0), (33, 0, 0, 0, 0), (30, 3, 1, 0, 0), (0, 0, 1, 0, 0), (2, 12, 22, 150, 22), (4, 1, 1, 0, 0), (34, 0, 0, 0, 0), (4, 2, 1, 0, 0), (33, 0, 0, 0, 0), (3, 0, 0, 0, 2), (21, 3, 0, 0, 0), (0, 0, 1, 0, 0), (2, 12, 20, 148, 20), (4, 1, 1, 0, 0), (33, 0, 0, 0, 0), (3, 0, 0, 0, 1), (20, 2, 0, 0, 0), (0, 0, 1, 0, 0), (2, 12, 13, 141, 13), (3, 0, 0, 0, 0), (101, 0, 0, 0, 0), (14, 3, 0, 0, 0), (111, 2, 0, 0, 0)]
abbrev zb_258_2 : List zI0 := [(0, 0, 1, 0, 0), (1, 12, 35, 173, 35), (19, 3, 0, 0, 0), (3, 0, 0, 0, 1), (10, 4, 0, 0, 0)]
abbrev zb_258_3 : List zI0 := [(3, 0, 0, 0, 0), (111, 4, 0, 0, 0)]
abbrev zb_258_4 : List zI0 := [(30, 4, 0, 0, 0), (0, 0, 1, 0, 0), (4, 4, 0, 0, 0), (14, 5, 0, 0, 0), (0, 0, 1, 0, 0), (0, 0, 1, 0, 0), (2, 12, 18, 146, 18), (4, 1, 1, 0, 0), (33, 0, 0, 0, 0), (4, 3, 1, 0, 0), (6, 220, 2, 12, 201), (15, 6, 0, 0, 0), (111, 5, 0, 0, 0)]
abbrev zb_258_5 : List zI0 := [(3, 0, 0, 0, 1), (10, 7, 0, 0, 0)]
abbrev zb_258_6 : List zI0 := [(3, 0, 0, 0, 0), (111, 7, 0, 0, 0)]
abbrev zb_258_7 : List zI0 := [(3, 0, 0, 0, 3), (6, 212, 2, 12, 187), (14, 8, 0, 0, 0), (3, 0, 0, 0, 0), (8, 0, 0, 0, 0)]
abbrev zb_258_8 : List zI0 := [(0, 0, 1, 0, 0), (0, 0, 1, 0, 0), (2, 12, 18, 146, 18), (4, 1, 1, 0, 0), (33, 0, 0, 0, 0), (4, 3, 1, 0, 0), (6, 221, 2, 12, 202), (0, 0, 1, 0, 0), (2, 12, 23, 151, 23), (4, 1, 1, 0, 0), (34, 0, 0, 0, 0), (4, 2, 1, 0, 0), (3, 0, 0, 0, 2), (4, 3, 1, 0, 0), (39, 0, 0, 0, 0), (35, 0, 0, 0, 0), (0, 0, 1, 0, 0), (4, 1, 1, 0, 0), (4, 2, 1, 0, 0), (6, 244, 2, 12, 206), (0, 0, 1, 0, 0), (4, 1, 1, 0, 0), (4, 2, 1, 0, 0), (6, 240, 2, 12, 199), (30, 5, 0, 0, 0), (0, 0, 1, 0, 0), (2, 12, 24, 152, 24), (4, 1, 1, 0, 0), (34, 0, 0, 0, 0), (4, 2, 1, 0, 0), (3, 0, 0, 0, 2), (35, 0, 0, 0, 0), (0, 0, 1, 0, 0), (4, 1, 1, 0, 0), (4, 2, 1, 0, 0), (6, 255, 2, 12, 216), (0, 0, 1, 0, 0), (6, 254, 0, 12, 217), (4, 5, 0, 0, 0), (8, 0, 0, 0, 0)]
abbrev zc_258 : List (List zI0) := [zb_258_0, zb_258_1, zb_258_2, zb_258_3, zb_258_4, zb_258_5, zb_258_6, zb_258_7, zb_258_8]
abbrev zb_259_0 : List zI0 := [(0, 0, 1, 0, 0), (4, 1, 1, 0, 0), (6, 253, 1, 12, 215), (14, 1, 0, 0, 0), (3, 0, 0, 0, 0), (8, 0, 0, 0, 0)]
abbrev zb_259_1 : List zI0 := [(0, 0, 1, 0, 0), (2, 12, 21, 149, 21), (4, 1, 1, 0, 0), (34, 0, 0, 0, 0), (3, 0, 0, 0, 0), (34, 0, 0, 0, 0), (31, 2, 1, 0, 0), (0, 0, 1, 0, 0), (2, 12, 20, 148, 20), (4, 1, 1, 0, 0), (33, 0, 0, 0, 0), (3, 0, 0, 0, 1), (21, 2, 0, 0, 0), (0, 0, 1, 0, 0), (2, 12, 22, 150, 22), (4, 1, 1, 0, 0), (34, 0, 0, 0, 0), (3, 0, 0, 0, 0), (33, 0, 0, 0, 0), (3, 0, 0, 0, 2), (21, 2, 0, 0, 0), (0, 2, 1, 0, 0), (3, 0, 0, 0, 0), (33, 0, 0, 0, 0), (0, 2, 1, 0, 0), (3, 0, 0, 0, 1), (33, 0, 0, 0, 0), (21, 2, 0, 0, 0), (0, 0, 1, 0, 0), (1, 12, 35, 173, 35), (3, 0, 0, 0, 1), (25, 2, 0, 0, 0), (3, 0, 0, 0, 1), (10, 3, 0, 0, 0)]
abbrev zb_259_2 : List zI0 := [(3, 0, 0, 0, 0), (111, 3, 0, 0, 0)]
abbrev zb_259_3 : List zI0 := [(30, 3, 1, 0, 0), (0, 0, 1, 0, 0), (4, 3, 1, 0, 0), (14, 4, 0, 0, 0), (0, 0, 1, 0, 0), (0, 0, 1, 0, 0), (2, 12, 18, 146, 18), (4, 1, 1, 0, 0), (33, 0, 0, 0, 0), (0, 0, 1, 0, 0), (2, 12, 23, 151, 23), (4, 1, 1, 0, 0), (34, 0, 0, 0, 0), (3, 0, 0, 0, 0), (33, 0, 0, 0, 0), (6, 220, 2, 12, 201), (15, 5, 0, 0, 0), (111, 4, 0, 0, 0)]
abbrev zb_259_4 : List zI0 := [(3, 0, 0, 0, 1), (10, 6, 0, 0, 0)]
abbrev zb_259_5 : List zI0 := [(3, 0, 0, 0, 0), (111, 6, 0, 0, 0)]
abbrev zb_259_6 : List zI0 := [(3, 0, 0, 0, 3), (6, 212, 2, 12, 187), (14, 7, 0, 0, 0), (3, 0, 0, 0, 0), (8, 0, 0, 0, 0)]
abbrev zb_259_7 : List zI0 := [(0, 0, 1, 0, 0), (0, 0, 1, 0, 0), (2, 12, 18, 146, 18), (4, 1, 1, 0, 0), (33, 0, 0, 0, 0), (0, 0, 1, 0, 0), (2, 12, 23, 151, 23), (4, 1, 1, 0, 0), (34, 0, 0, 0, 0), (3, 0, 0, 0, 0), (33, 0, 0, 0, 0), (6, 221, 2, 12, 202), (0, 0, 1, 0, 0), (2, 12, 23, 151, 23), (4, 1, 1, 0, 0), (34, 0, 0, 0, 0), (3, 0, 0, 0, 1), (0, 0, 1, 0, 0), (2, 12, 23, 151, 23), (4, 1, 1, 0, 0), (34, 0, 0, 0, 0), (3, 0, 0, 0, 0), (33, 0, 0, 0, 0), (35, 0, 0, 0, 0), (0, 0, 1, 0, 0), (2, 12, 20, 148, 20), (4, 1, 1, 0, 0), (3, 0, 0, 0, 2), (35, 0, 0, 0, 0), (0, 0, 1, 0, 0), (2, 12, 21, 149, 21), (4, 1, 1, 0, 0), (34, 0, 0, 0, 0), (3, 0, 0, 0, 1), (34, 0, 0, 0, 0), (3, 0, 0, 0, 0), (0, 2, 1, 0, 0), (3, 0, 0, 0, 1), (33, 0, 0, 0, 0), (35, 0, 0, 0, 0), (3, 0, 0, 0, 0), (30, 4, 0, 0, 0), (111, 8, 0, 0, 0)]
abbrev zb_259_8 : List zI0 := [(4, 4, 0, 0, 0), (3, 0, 0, 0, 2), (23, 9, 0, 0, 0), (0, 0, 1, 0, 0), (2, 12, 22, 150, 22), (4, 1, 1, 0, 0), (34, 0, 0, 0, 0), (4, 4, 0, 0, 0), (3, 0, 0, 0, 1), (35, 0, 0, 0, 0), (0, 0, 1, 0, 0), (2, 12, 24, 152, 24), (4, 1, 1, 0, 0), (34, 0, 0, 0, 0), (4, 4, 0, 0, 0), (3, 0, 0, 0, 1), (35, 0, 0, 0, 0), (0, 0, 1, 0, 0), (4, 1, 1, 0, 0), (4, 4, 0, 0, 0), (6, 244, 2, 12, 206), (0, 0, 1, 0, 0), (4, 1, 1, 0, 0), (4, 4, 0, 0, 0), (6, 255, 2, 12, 216), (32, 4, 0, 0, 1), (10, 8, 0, 0, 0)]
abbrev zb_259_9 : List zI0 := [(0, 0, 1, 0, 0), (4, 1, 1, 0, 0), (3, 0, 0, 0, 0), (6, 240, 2, 12, 199), (30, 4, 0, 0, 0), (0, 0, 1, 0, 0), (6, 254, 0, 12, 217), (4, 4, 0, 0, 0), (8, 0, 0, 0, 0)]
abbrev zc_259 : List (List zI0) := [zb_259_0, zb_259_1, zb_259_2, zb_259_3, zb_259_4, zb_259_5, zb_259_6, zb_259_7, zb_259_8, zb_259_9]
abbrev zb_260_0 : List zI0 := [(0, 0, 1, 0, 0), (4, 1, 1, 0, 0), (6, 253, 1, 12, 215), (15, 4, 0, 0, 0), (0, 0, 1, 0, 0), (0, 0, 1, 0, 0), (2, 12, 13, 141, 13), (3, 0, 0, 0, 1), (101, 0, 0, 0, 0), (14, 1, 0, 0, 0), (0, 0, 1, 0, 0), (2, 12, 20, 148, 20), (4, 1, 1, 0, 0), (33, 0, 0, 0, 0), (3, 0, 0, 0, 1), (21, 1, 0, 0, 0), (0, 0, 1, 0, 0), (2, 12, 22, 150, 22), (4, 1, 1, 0, 0), (34, 0, 0, 0, 0), (3, 0, 0, 0, 0), (33, 0, 0, 0, 0), (3, 0, 0, 0, 2), (25, 2, 0, 0, 0), (111, 1, 0, 0, 0)]
abbrev zb_260_1 : List zI0 := [(3, 0, 0, 0, 1), (10, 3, 0, 0, 0)]
abbrev zb_260_2 : List zI0 := [(3, 0, 0, 0, 0), (111, 3, 0, 0, 0)]
abbrev zb_260_3 : List zI0 := [(3, 0, 0, 0, 3), (6, 212, 2, 12, 187), (14, 5, 0, 0, 0), (111, 4, 0, 0, 0)]
abbrev zb_260_4 : List zI0 := [(3, 0, 0, 0, 0), (8, 0, 0, 0, 0)]
abbrev zb_260_5 : List zI0 := [(0, 0, 1, 0, 0), (2, 12, 23, 151, 23), (4, 1, 1, 0, 0), (34, 0, 0, 0, 0), (3, 0, 0, 0, 0), (33, 0, 0, 0, 0), (3, 0, 0, 0, 2), (40, 0, 0, 0, 0), (30, 2, 1, 0, 0), (0, 0, 1, 0, 0), (2, 12, 23, 151, 23), (4, 1, 1, 0, 0), (34, 0, 0, 0, 0), (3, 0, 0, 0, 0), (48, 0, 0, 0, 0), (33, 0, 0, 0, 0), (4, 2, 1, 0, 0), (38, 0, 0, 0, 0), (35, 0, 0, 0, 0), (0, 0, 1, 0, 0), (2, 12, 1, 129, 1), (0, 0, 1, 0, 0), (2, 12, 18, 146, 18), (4, 1, 1, 0, 0), (33, 0, 0, 0, 0), (48, 0, 0, 0, 0), (33, 0, 0, 0, 0), (4, 2, 1, 0, 0), (37, 0, 0, 0, 0), (35, 0, 0, 0, 0), (0, 0, 1, 0, 0), (4, 1, 1, 0, 0), (3, 0, 0, 0, 0), (6, 247, 2, 12, 214), (0, 0, 1, 0, 0), (6, 254, 0, 12, 217), (4, 2, 1, 0, 0), (8, 0, 0, 0, 0)]
abbrev zc_260 : List (List zI0) := [zb_260_0, zb_260_1, zb_260_2, zb_260_3, zb_260_4, zb_260_5]
abbrev zb_261_0 : List zI0 := [(0, 0, 1, 0, 0), (4, 1, 1, 0, 0), (3, 0, 0, 0, 0), (3, 0, 0, 0, 2), (5, 213, 3, 0, 186), (14, 1, 0, 0, 0), (4, 2, 1, 0, 0), (3, 0, 0, 0, 0), (0, 0, 1, 0, 0), (2, 12, 20, 148, 20), (4, 1, 1, 0, 0), (33, 0, 0, 0, 0), (3, 0, 0, 0, 1), (38, 0, 0, 0, 0), (5, 213, 3, 0, 186), (15, 2, 0, 0, 0), (111, 1, 0, 0, 0)]
abbrev zb_261_1 : List zI0 := [(3, 0, 0, 0, 1), (10, 3, 0, 0, 0)]
abbrev zb_261_2 : List zI0 := [(3, 0, 0, 0, 0), (111, 3, 0, 0, 0)]
abbrev zb_261_3 : List zI0 := [(3, 0, 0, 0, 1), (6, 212, 2, 12, 187), (15, 6, 0, 0, 0), (0, 0, 1, 0, 0), (4, 3, 1, 0, 0), (3, 0, 0, 0, 0), (0, 0, 1, 0, 0), (2, 12, 22, 150, 22), (4, 1, 1, 0, 0), (34, 0, 0, 0, 0), (4, 2, 1, 0, 0), (33, 0, 0, 0, 0), (3, 0, 0, 0, 1), (38, 0, 0, 0, 0), (5, 213, 3, 0, 186), (15, 4, 0, 0, 0), (3, 0, 0, 0, 1), (10, 5, 0, 0, 0)]
abbrev zb_261_4 : List zI0 := [(3, 0, 0, 0, 0), (111, 5, 0, 0, 0)]
abbrev zb_261_5 : List zI0 := [(3, 0, 0, 0, 2), (6, 212, 2, 12, 187), (14, 7, 0, 0, 0), (111, 6, 0, 0, 0)]
abbrev zb_261_6 : List zI0 := [(3, 0, 0, 0, 0), (8, 0, 0, 0, 0)]
abbrev zb_261_7 : List zI0 := [(0, 0, 1, 0, 0), (2, 12, 21, 149, 21), (4, 1, 1, 0, 0), (34, 0, 0, 0, 0), (4, 2, 1, 0, 0), (34, 0, 0, 0, 0), (4, 3, 1, 0, 0), (33, 0, 0, 0, 0), (8, 0, 0, 0, 0)]
abbrev zc_261 : List (List zI0) := [zb_261_0, zb_261_1, zb_261_2, zb_261_3, zb_261_4, zb_261_5, zb_261_6, zb_261_7]
abbrev zb_262_0 : List zI0 := [(0, 0, 1, 0, 0), (4, 1, 1, 0, 0), (3, 0, 0, 0, 0), (0, 0, 1, 0, 0), (1, 12, 37, 166, 37), (14, 1, 0, 0, 0), (3, 0, 0, 0, 0), (10, 2, 0, 0, 0)]
abbrev zb_262_1 : List zI0 := [(0, 0, 1, 0, 0), (1, 12, 36, 174, 36), (3, 0, 0, 0, 1), (38, 0, 0, 0, 0), (111, 2, 0, 0, 0)]
abbrev zb_262_2 : List zI0 := [(5, 213, 3, 0, 186), (15, 3, 0, 0, 0), (3, 0, 0, 0, 1), (10, 4, 0, 0, 0)]
abbrev zb_262_3 : List zI0 := [(3, 0, 0, 0, 0), (111, 4, 0, 0, 0)]
abbrev zb_262_4 : List zI0 := [(3, 0, 0, 0, 1), (6, 212, 2, 12, 187), (14, 5, 0, 0, 0), (3, 0, 0, 0, 0), (10, 6, 0, 0, 0)]
abbrev zb_262_5 : List zI0 := [(0, 0, 1, 0, 0), (2, 12, 25, 153, 25), (4, 1, 1, 0, 0), (33, 0, 0, 0, 0), (111, 6, 0, 0, 0)]
abbrev zb_262_6 : List zI0 := [(8, 0, 0, 0, 0)]
abbrev zc_262 : List (List zI0) := [zb_262_0, zb_262_1, zb_262_2, zb_262_3, zb_262_4, zb_262_5, zb_262_6]
abbrev zb_263_0 : List zI0 := [(0, 0, 1, 0, 0), (0, 0, 1, 0, 0), (1, 12, 37, 166, 37), (15, 1, 0, 0, 0), (3, 0, 0, 0, 1), (10, 2, 0, 0, 0)]
abbrev zb_263_1 : List zI0 := [(3, 0, 0, 0, 0), (111, 2, 0, 0, 0)]
abbrev zb_263_2 : List zI0 := [(3, 0, 0, 0, 1), (6, 212, 2, 12, 187), (14, 3, 0, 0, 0), (3, 0, 0, 0, 0), (10, 4, 0, 0, 0)]
abbrev zb_263_3 : List zI0 := [(0, 0, 1, 0, 0), (6, 246, 0, 12, 192), (3, 1, 0, 0, 10), (41, 0, 0, 0, 0), (111, 4, 0, 0, 0)]
abbrev zb_263_4 : List zI0 := [(8, 0, 0, 0, 0)]
abbrev zc_263 : List (List zI0) := [zb_263_0, zb_263_1, zb_263_2, zb_263_3, zb_263_4]
abbrev zb_264_0 : List zI0 := [(0, 0, 1, 0, 0), (1, 12, 37, 166, 37), (14, 1, 0, 0, 0), (0, 0, 1, 0, 0), (2, 12, 25, 153, 25), (3, 0, 0, 0, 1), (33, 0, 0, 0, 0), (4, 1, 1, 0, 0), (21, 1, 0, 0, 0), (3, 0, 0, 0, 1), (10, 2, 0, 0, 0)]
abbrev zb_264_1 : List zI0 := [(3, 0, 0, 0, 0), (111, 2, 0, 0, 0)]
abbrev zb_264_2 : List zI0 := [(30, 2, 1, 0, 0), (3, 0, 0, 0, 0), (30, 3, 1, 0, 0), (111, 3, 0, 0, 0)]
abbrev zb_264_3 : List zI0 := [(4, 3, 1, 0, 0), (0, 0, 1, 0, 0), (1, 12, 35, 173, 35), (23, 6, 0, 0, 0), (4, 2, 1, 0, 0), (0, 0, 1, 0, 0), (2, 12, 14, 142, 14), (4, 3, 1, 0, 0), (33, 0, 0, 0, 0), (4, 1, 1, 0, 0), (21, 4, 0, 0, 0), (3, 0, 0, 0, 1), (10, 5, 0, 0, 0)]
abbrev zb_264_4 : List zI0 := [(3, 0, 0, 0, 0), (111, 5, 0, 0, 0)]
abbrev zb_264_5 : List zI0 := [(37, 0, 0, 0, 0), (30, 2, 1, 0, 0), (32, 3, 0, 0, 1), (10, 3, 0, 0, 0)]
abbrev zb_264_6 : List zI0 := [(4, 2, 1, 0, 0), (8, 0, 0, 0, 0)]
abbrev zc_264 : List (List zI0) := [zb_264_0, zb_264_1, zb_264_2, zb_264_3, zb_264_4, zb_264_5, zb_264_6]
abbrev zb_265_0 : List zI0 := [(0, 0, 1, 0, 0), (1, 12, 35, 173, 35), (0, 0, 1, 0, 0), (1, 12, 37, 166, 37), (14, 1, 0, 0, 0), (3, 0, 0, 0, 1), (10, 2, 0, 0, 0)]
abbrev zb_265_1 : List zI0 := [(3, 0, 0, 0, 0), (111, 2, 0, 0, 0)]
abbrev zb_265_2 : List zI0 := [(37, 0, 0, 0, 0), (8, 0, 0, 0, 0)]
abbrev zc_265 : List (List zI0) := [zb_265_0, zb_265_1, zb_265_2]
abbrev zb_266_0 : List zI0 := [(0, 0, 1, 0, 0), (4, 1, 1, 0, 0), (3, 0, 0, 0, 1), (3, 1, 0, 0, 10), (5, 213, 3, 0, 186), (15, 1, 0, 0, 0), (3, 0, 0, 0, 1), (10, 2, 0, 0, 0)]
abbrev zb_266_1 : List zI0 := [(3, 0, 0, 0, 0), (111, 2, 0, 0, 0)]
abbrev zb_266_2 : List zI0 := [(3, 0, 0, 0, 1), (6, 212, 2, 12, 187), (14, 3, 0, 0, 0), (3, 0, 0, 0, 0), (10, 4, 0, 0, 0)]
abbrev zb_266_3 : List zI0 := [(0, 0, 1, 0, 0), (4, 1, 1, 0, 0), (6, 264, 1, 12, 218), (111, 4, 0, 0, 0)]
abbrev zb_266_4 : List zI0 := [(8, 0, 0, 0, 0)]
abbrev zc_266 : List (List zI0) := [zb_266_0, zb_266_1, zb_266_2, zb_266_3, zb_266_4]
abbrev zb_267_0 : List zI0 := [(73, 0, 1, 0, 0), (74, 4, 0, 0, 0), (73, 2, 1, 0, 0), (74, 6, 0, 0, 0), (111, 1, 0, 0, 0)]
abbrev zb_267_1 : List zI0 := [(73, 6, 0, 0, 0), (64, 0, 0, 0, 0), (72, 0, 0, 0, 0), (14, 2, 0, 0, 0), (73, 4, 0, 0, 0), (73, 6, 0, 0, 0), (71, 0, 0, 0, 0), (74, 8, 0, 0, 0), (73, 6, 0, 0, 0), (74, 4, 0, 0, 0), (73, 8, 0, 0, 0), (74, 6, 0, 0, 0), (10, 1, 0, 0, 0)]
abbrev zb_267_2 : List zI0 := [(73, 4, 0, 0, 0), (52, 0, 0, 0, 0)]
abbrev zc_267 : List (List zI0) := [zb_267_0, zb_267_1, zb_267_2]
abbrev zb_268_0 : List zI0 := [(3, 0, 0, 0, 0), (30, 2, 1, 0, 0), (3, 0, 0, 0, 1), (30, 3, 1, 0, 0), (111, 1, 0, 0, 0)]
abbrev zb_268_1 : List zI0 := [(4, 3, 1, 0, 0), (3, 1, 0, 0, 11), (23, 4, 0, 0, 0), (4, 2, 1, 0, 0), (4, 1, 1, 0, 0), (4, 3, 1, 0, 0), (37, 0, 0, 0, 0), (3, 1, 0, 0, 21), (25, 2, 0, 0, 0), (0, 0, 1, 0, 0), (4, 3, 1, 0, 0), (6, 264, 1, 12, 218), (10, 3, 0, 0, 0)]
abbrev zb_268_2 : List zI0 := [(3, 0, 0, 0, 0), (111, 3, 0, 0, 0)]
abbrev zb_268_3 : List zI0 := [(37, 0, 0, 0, 0), (30, 2, 1, 0, 0), (32, 3, 0, 0, 1), (10, 1, 0, 0, 0)]
abbrev zb_268_4 : List zI0 := [(4, 2, 1, 0, 0), (8, 0, 0, 0, 0)]
abbrev zc_268 : List (List zI0) := [zb_268_0, zb_268_1, zb_268_2, zb_268_3, zb_268_4]
abbrev zb_269_0 : List zI0 := [(0, 0, 1, 0, 0), (4, 1, 1, 0, 0), (3, 0, 0, 0, 4), (3, 1, 0, 0, 21), (5, 213, 3, 0, 186), (15, 1, 0, 0, 0), (3, 0, 0, 0, 1), (10, 2, 0, 0, 0)]
abbrev zb_269_1 : List zI0 := [(3, 0, 0, 0, 0), (111, 2, 0, 0, 0)]
abbrev zb_269_2 : List zI0 := [(3, 0, 0, 0, 1), (6, 212, 2, 12, 187), (15, 5, 0, 0, 0), (0, 0, 1, 0, 0), (0, 0, 1, 0, 0), (6, 265, 0, 12, 203), (15, 3, 0, 0, 0), (3, 0, 0, 0, 1), (10, 4, 0, 0, 0)]
abbrev zb_269_3 : List zI0 := [(3, 0, 0, 0, 0), (111, 4, 0, 0, 0)]
abbrev zb_269_4 : List zI0 := [(3, 0, 0, 0, 2), (6, 212, 2, 12, 187), (14, 6, 0, 0, 0), (111, 5, 0, 0, 0)]
abbrev zb_269_5 : List zI0 := [(64, 0, 0, 0, 0), (52, 0, 0, 0, 0)]
abbrev zb_269_6 : List zI0 := [(0, 0, 1, 0, 0), (4, 1, 1, 0, 0), (6, 268, 1, 12, 219), (30, 3, 1, 0, 0), (4, 2, 1, 0, 0), (14, 7, 0, 0, 0), (4, 3, 1, 0, 0), (10, 8, 0, 0, 0)]
abbrev zb_269_7 : List zI0 := [(0, 0, 1, 0, 0), (6, 265, 0, 12, 203), (111, 8, 0, 0, 0)]
abbrev zb_269_8 : List zI0 := [(65, 0, 0, 0, 0), (4, 3, 1, 0, 0), (65, 0, 0, 0, 0), (0, 0, 1, 0, 0), (6, 265, 0, 12, 203), (65, 0, 0, 0, 0), (5, 267, 2, 0, 220), (70, 0, 0, 0, 0), (52, 0, 0, 0, 0)]
abbrev zc_269 : List (List zI0) := [zb_269_0, zb_269_1, zb_269_2, zb_269_3, zb_269_4, zb_269_5, zb_269_6, zb_269_7, zb_269_8]
abbrev zb_270_0 : List zI0 := [(0, 0, 1, 0, 0), (4, 1, 1, 0, 0), (3, 0, 0, 0, 1), (6, 269, 2, 12, 221), (52, 0, 0, 0, 0)]
abbrev zc_270 : List (List zI0) := [zb_270_0]
abbrev zb_271_0 : List zI0 := [(0, 0, 1, 0, 0), (4, 1, 1, 0, 0), (3, 0, 0, 0, 0), (6, 269, 2, 12, 221), (52, 0, 0, 0, 0)]
abbrev zc_271 : List (List zI0) := [zb_271_0]
abbrev zb_272_0 : List zI0 := [(4, 2, 1, 0, 0), (14, 1, 0, 0, 0), (4, 1, 1, 0, 0), (3, 1, 0, 0, 11), (24, 1, 0, 0, 0), (3, 0, 0, 0, 1), (10, 2, 0, 0, 0)]
abbrev zb_272_1 : List zI0 := [(3, 0, 0, 0, 0), (111, 2, 0, 0, 0)]
abbrev zb_272_2 : List zI0 := [(30, 5, 0, 0, 0), (4, 5, 0, 0, 0), (14, 3, 0, 0, 0), (4, 1, 1, 0, 0), (3, 1, 0, 0, 10), (37, 0, 0, 0, 0), (10, 4, 0, 0, 0)]
abbrev zb_272_3 : List zI0 := [(4, 1, 1, 0, 0), (111, 4, 0, 0, 0)]
abbrev zb_272_4 : List zI0 := [(30, 6, 0, 0, 0), (0, 0, 1, 0, 0), (4, 6, 0, 0, 0), (4, 5, 0, 0, 0), (6, 250, 2, 12, 211), (14, 7, 0, 0, 0), (4, 6, 0, 0, 0), (3, 1, 0, 0, 22), (5, 327, 2, 0, 189), (4, 4, 0, 0, 0), (21, 5, 0, 0, 0), (77, 1, 0, 0, 0), (10, 6, 0, 0, 0)]
abbrev zb_272_5 : List zI0 := [(77, 0, 0, 0, 0), (111, 6, 0, 0, 0)]
abbrev zb_272_6 : List zI0 := [(53, 0, 0, 0, 0)]
abbrev zb_272_7 : List zI0 := [(77, 0, 0, 0, 0), (79, 7, 0, 0, 0), (3, 0, 0, 0, 1), (30, 9, 0, 0, 0), (111, 8, 0, 0, 0)]
abbrev zb_272_8 : List zI0 := [(4, 9, 0, 0, 0), (3, 1, 0, 0, 11), (23, 13, 0, 0, 0), (0, 0, 1, 0, 0), (2, 12, 16, 144, 16), (4, 9, 0, 0, 0), (33, 0, 0, 0, 0), (19, 12, 0, 0, 0), (0, 0, 1, 0, 0), (2, 12, 16, 144, 16), (4, 9, 0, 0, 0), (33, 0, 0, 0, 0), (86, 0, 0, 0, 0), (4, 3, 1, 0, 0), (86, 0, 0, 0, 0), (84, 0, 0, 0, 0), (79, 10, 0, 0, 0), (0, 0, 1, 0, 0), (2, 12, 16, 144, 16), (4, 9, 0, 0, 0), (48, 0, 0, 0, 0), (33, 0, 0, 0, 0), (3, 0, 0, 0, 1), (38, 0, 0, 0, 0), (35, 0, 0, 0, 0), (78, 7, 0, 0, 0), (78, 10, 0, 0, 0), (0, 0, 1, 0, 0), (4, 1, 1, 0, 0), (4, 9, 0, 0, 0), (37, 0, 0, 0, 0), (4, 2, 1, 0, 0), (15, 9, 0, 0, 0), (4, 9, 0, 0, 0), (3, 0, 0, 0, 1), (21, 10, 0, 0, 0), (111, 9, 0, 0, 0)]
abbrev zb_272_9 : List zI0 := [(3, 0, 0, 0, 1), (10, 11, 0, 0, 0)]
abbrev zb_272_10 : List zI0 := [(3, 0, 0, 0, 0), (111, 11, 0, 0, 0)]
abbrev zb_272_11 : List zI0 := [(4, 3, 1, 0, 0), (3, 0, 0, 0, 1), (38, 0, 0, 0, 0), (4, 4, 0, 0, 0), (6, 272, 4, 12, 222), (83, 0, 0, 0, 0), (82, 0, 0, 0, 0), (79, 7, 0, 0, 0), (0, 0, 1, 0, 0), (2, 12, 16, 144, 16), (4, 9, 0, 0, 0), (48, 0, 0, 0, 0), (33, 0, 0, 0, 0), (3, 0, 0, 0, 1), (37, 0, 0, 0, 0), (35, 0, 0, 0, 0), (111, 12, 0, 0, 0)]
abbrev zb_272_12 : List zI0 := [(32, 9, 0, 0, 1), (10, 8, 0, 0, 0)]
abbrev zb_272_13 : List zI0 := [(78, 7, 0, 0, 0), (53, 0, 0, 0, 0)]
abbrev zc_272 : List (List zI0) := [zb_272_0, zb_272_1, zb_272_2, zb_272_3, zb_272_4, zb_272_5, zb_272_6, zb_272_7, zb_272_8, zb_272_9, zb_272_10, zb_272_11, zb_272_12, zb_272_13]
abbrev zb_273_0 : List zI0 := [(0, 0, 1, 0, 0), (4, 1, 1, 0, 0), (3, 1, 0, 0, 17), (3, 1, 0, 0, 22), (5, 213, 3, 0, 186), (15, 1, 0, 0, 0), (3, 0, 0, 0, 1), (10, 2, 0, 0, 0)]
abbrev zb_273_1 : List zI0 := [(3, 0, 0, 0, 0), (111, 2, 0, 0, 0)]
abbrev zb_273_2 : List zI0 := [(3, 0, 0, 0, 1), (6, 212, 2, 12, 187), (15, 5, 0, 0, 0), (0, 0, 1, 0, 0), (0, 0, 1, 0, 0), (1, 12, 37, 166, 37), (15, 3, 0, 0, 0), (3, 0, 0, 0, 1), (10, 4, 0, 0, 0)]
abbrev zb_273_3 : List zI0 := [(3, 0, 0, 0, 0), (111, 4, 0, 0, 0)]
abbrev zb_273_4 : List zI0 := [(3, 0, 0, 0, 2), (6, 212, 2, 12, 187), (14, 6, 0, 0, 0), (111, 5, 0, 0, 0)]
abbrev zb_273_5 : List zI0 := [(77, 0, 0, 0, 0), (53, 0, 0, 0, 0)]
abbrev zb_273_6 : List zI0 := [(3, 0, 0, 0, 1), (30, 2, 1, 0, 0), (111, 7, 0, 0, 0)]
abbrev zb_273_7 : List zI0 := [(4, 2, 1, 0, 0), (3, 1, 0, 0, 11), (23, 8, 0, 0, 0), (0, 0, 1, 0, 0), (2, 12, 16, 144, 16), (4, 2, 1, 0, 0), (0, 0, 1, 0, 0), (4, 2, 1, 0, 0), (6, 264, 1, 12, 218), (35, 0, 0, 0, 0), (32, 2, 0, 0, 1), (10, 7, 0, 0, 0)]
abbrev zb_273_8 : List zI0 := [(0, 0, 1, 0, 0), (0, 0, 1, 0, 0), (2, 12, 25, 153, 25), (3, 0, 0, 0, 0), (33, 0, 0, 0, 0), (0, 0, 1, 0, 0), (2, 12, 25, 153, 25), (3, 0, 0, 0, 0), (33, 0, 0, 0, 0), (3, 0, 0, 0, 1), (21, 9, 0, 0, 0), (3, 0, 0, 0, 1), (10, 10, 0, 0, 0)]
abbrev zb_273_9 : List zI0 := [(3, 0, 0, 0, 0), (111, 10, 0, 0, 0)]
abbrev zb_273_10 : List zI0 := [(0, 0, 1, 0, 0), (6, 265, 0, 12, 203), (4, 1, 1, 0, 0), (6, 272, 4, 12, 222), (53, 0, 0, 0, 0)]
abbrev zc_273 : List (List zI0) := [zb_273_0, zb_273_1, zb_273_2, zb_273_3, zb_273_4, zb_273_5, zb_273_6, zb_273_7, zb_273_8, zb_273_9, zb_273_10]
abbrev zb_274_0 : List zI0 := [(0, 0, 1, 0, 0), (4, 1, 1, 0, 0), (3, 0, 0, 0, 1), (3, 1, 0, 0, 10), (5, 213, 3, 0, 186), (14, 1, 0, 0, 0), (4, 2, 1, 0, 0), (3, 1, 0, 0, (-3)), (3, 0, 0, 0, 3), (5, 213, 3, 0, 186), (15, 2, 0, 0, 0), (111, 1, 0, 0, 0)]
abbrev zb_274_1 : List zI0 := [(3, 0, 0, 0, 1), (10, 3, 0, 0, 0)]
abbrev zb_274_2 : List zI0 := [(3, 0, 0, 0, 0), (111, 3, 0, 0, 0)]
abbrev zb_274_3 : List zI0 := [(3, 0, 0, 0, 1), (6, 212, 2, 12, 187), (14, 4, 0, 0, 0), (3, 0, 0, 0, 0), (8, 0, 0, 0, 0)]
abbrev zb_274_4 : List zI0 := [(0, 0, 1, 0, 0), (2, 12, 17, 145, 17), (4, 1, 1, 0, 0), (33, 0, 0, 0, 0), (30, 3, 1, 0, 0), (0, 0, 1, 0, 0), (2, 12, 17, 145, 17), (4, 1, 1, 0, 0), (4, 2, 1, 0, 0), (35, 0, 0, 0, 0), (4, 3, 1, 0, 0), (8, 0, 0, 0, 0)]
abbrev zc_274 : List (List zI0) := [zb_274_0, zb_274_1, zb_274_2, zb_274_3, zb_274_4]
abbrev zb_275_0 : List zI0 := [(3, 0, 0, 0, 0), (30, 1, 1, 0, 0), (3, 0, 0, 0, 1), (30, 2, 1, 0, 0), (111, 1, 0, 0, 0)]
abbrev zb_275_1 : List zI0 := [(4, 2, 1, 0, 0), (3, 1, 0, 0, 11), (23, 2, 0, 0, 0), (4, 1, 1, 0, 0), (0, 0, 1, 0, 0), (2, 12, 17, 145, 17), (4, 2, 1, 0, 0), (33, 0, 0, 0, 0), (0, 0, 1, 0, 0), (1, 12, 34, 172, 34), (4, 2, 1, 0, 0), (5, 233, 1, 0, 197), (39, 0, 0, 0, 0), (0, 0, 1, 0, 0), (4, 2, 1, 0, 0), (6, 264, 1, 12, 218), (38, 0, 0, 0, 0), (39, 0, 0, 0, 0), (37, 0, 0, 0, 0), (30, 1, 1, 0, 0), (32, 2, 0, 0, 1), (10, 1, 0, 0, 0)]
abbrev zb_275_2 : List zI0 := [(4, 1, 1, 0, 0), (8, 0, 0, 0, 0)]
abbrev zc_275 : List (List zI0) := [zb_275_0, zb_275_1, zb_275_2]
abbrev zb_276_0 : List zI0 := [(0, 0, 1, 0, 0), (3, 0, 0, 0, 0), (11, 12, 49, 163, 49), (0, 0, 1, 0, 0), (6, 275, 0, 12, 204), (8, 0, 0, 0, 0)]
abbrev zc_276 : List (List zI0) := [zb_276_0]
abbrev zb_277_0 : List zI0 := [(0, 0, 1, 0, 0), (0, 0, 1, 0, 0), (6, 265, 0, 12, 203), (15, 1, 0, 0, 0), (3, 0, 0, 0, 1), (10, 2, 0, 0, 0)]
abbrev zb_277_1 : List zI0 := [(3, 0, 0, 0, 0), (111, 2, 0, 0, 0)]
abbrev zb_277_2 : List zI0 := [(3, 0, 0, 0, 1), (6, 212, 2, 12, 187), (14, 3, 0, 0, 0), (3, 0, 0, 0, 0), (10, 4, 0, 0, 0)]
abbrev zb_277_3 : List zI0 := [(0, 0, 1, 0, 0), (6, 275, 0, 12, 204), (3, 1, 0, 0, 52), (39, 0, 0, 0, 0), (0, 0, 1, 0, 0), (6, 265, 0, 12, 203), (40, 0, 0, 0, 0), (111, 4, 0, 0, 0)]
abbrev zb_277_4 : List zI0 := [(8, 0, 0, 0, 0)]
abbrev zc_277 : List (List zI0) := [zb_277_0, zb_277_1, zb_277_2, zb_277_3, zb_277_4]
abbrev zb_278_0 : List zI0 := [(0, 0, 1, 0, 0), (0, 0, 1, 0, 0), (4, 1, 1, 0, 0), (6, 214, 1, 12, 188), (3, 0, 0, 0, 1), (6, 212, 2, 12, 187), (14, 1, 0, 0, 0), (3, 0, 0, 0, 0), (9, 0, 0, 0, 0)]
abbrev zb_278_1 : List zI0 := [(0, 0, 1, 0, 0), (2, 12, 9, 137, 9), (4, 1, 1, 0, 0), (34, 0, 0, 0, 0), (31, 2, 1, 0, 0), (0, 0, 1, 0, 0), (2, 12, 8, 136, 8), (4, 1, 1, 0, 0), (34, 0, 0, 0, 0), (31, 3, 1, 0, 0), (0, 2, 1, 0, 0), (3, 0, 0, 0, 0), (33, 0, 0, 0, 0), (3, 0, 0, 0, 3), (22, 2, 0, 0, 0), (0, 2, 1, 0, 0), (3, 0, 0, 0, 1), (33, 0, 0, 0, 0), (3, 0, 0, 0, 3), (22, 2, 0, 0, 0), (0, 3, 1, 0, 0), (3, 0, 0, 0, 1), (33, 0, 0, 0, 0), (65, 0, 0, 0, 0), (0, 2, 1, 0, 0), (3, 0, 0, 0, 0), (33, 0, 0, 0, 0), (65, 0, 0, 0, 0), (69, 0, 0, 0, 0), (64, 1, 12, 0, 3), (0, 3, 1, 0, 0), (3, 0, 0, 0, 0), (33, 0, 0, 0, 0), (65, 0, 0, 0, 0), (69, 0, 0, 0, 0), (0, 2, 1, 0, 0), (3, 0, 0, 0, 1), (33, 0, 0, 0, 0), (65, 0, 0, 0, 0), (69, 0, 0, 0, 0), (72, 0, 0, 0, 0), (16, 2, 0, 0, 0), (3, 0, 0, 0, 1), (10, 3, 0, 0, 0)]
abbrev zb_278_2 : List zI0 := [(3, 0, 0, 0, 0), (111, 3, 0, 0, 0)]
abbrev zb_278_3 : List zI0 := [(9, 0, 0, 0, 0)]
abbrev zc_278 : List (List zI0) := [zb_278_0, zb_278_1, zb_278_2, zb_278_3]
abbrev zb_279_0 : List zI0 := [(0, 0, 1, 0, 0), (3, 0, 0, 0, 0), (11, 12, 49, 163, 49), (0, 0, 1, 0, 0), (1, 12, 38, 175, 38), (8, 0, 0, 0, 0)]
abbrev zc_279 : List (List zI0) := [zb_279_0]
abbrev zb_280_0 : List zI0 := [(4, 2, 1, 0, 0), (3, 1, 0, 0, 114), (20, 2, 0, 0, 0), (4, 2, 1, 0, 0), (3, 1, 0, 0, 98), (20, 2, 0, 0, 0), (4, 2, 1, 0, 0), (3, 1, 0, 0, 110), (21, 1, 0, 0, 0), (4, 3, 1, 0, 0), (3, 0, 0, 0, 0), (3, 1, 0, 0, 36), (5, 213, 3, 0, 186), (15, 2, 0, 0, 0), (111, 1, 0, 0, 0)]
abbrev zb_280_1 : List zI0 := [(4, 2, 1, 0, 0), (3, 1, 0, 0, 100), (21, 3, 0, 0, 0), (4, 3, 1, 0, 0), (3, 0, 0, 0, 0), (3, 0, 0, 0, 2), (5, 213, 3, 0, 186), (14, 3, 0, 0, 0), (111, 2, 0, 0, 0)]
abbrev zb_280_2 : List zI0 := [(3, 0, 0, 0, 1), (10, 4, 0, 0, 0)]
abbrev zb_280_3 : List zI0 := [(3, 0, 0, 0, 0), (111, 4, 0, 0, 0)]
abbrev zb_280_4 : List zI0 := [(30, 5, 0, 0, 0), (0, 0, 1, 0, 0), (0, 0, 1, 0, 0), (4, 1, 1, 0, 0), (6, 214, 1, 12, 188), (3, 0, 0, 0, 1), (6, 212, 2, 12, 187), (15, 12, 0, 0, 0), (0, 0, 1, 0, 0), (4, 5, 0, 0, 0), (14, 5, 0, 0, 0), (4, 4, 0, 0, 0), (3, 0, 0, 0, 1), (3, 2, 0, 0, 500), (5, 213, 3, 0, 186), (15, 6, 0, 0, 0), (111, 5, 0, 0, 0)]
abbrev zb_280_5 : List zI0 := [(3, 0, 0, 0, 1), (10, 7, 0, 0, 0)]
abbrev zb_280_6 : List zI0 := [(3, 0, 0, 0, 0), (111, 7, 0, 0, 0)]
abbrev zb_280_7 : List zI0 := [(3, 0, 0, 0, 2), (6, 212, 2, 12, 187), (15, 12, 0, 0, 0), (0, 0, 1, 0, 0), (0, 0, 1, 0, 0), (4, 1, 1, 0, 0), (4, 4, 0, 0, 0), (6, 220, 2, 12, 201), (15, 8, 0, 0, 0), (3, 0, 0, 0, 1), (10, 9, 0, 0, 0)]
abbrev zb_280_8 : List zI0 := [(3, 0, 0, 0, 0), (111, 9, 0, 0, 0)]
abbrev zb_280_9 : List zI0 := [(3, 0, 0, 0, 3), (6, 212, 2, 12, 187), (15, 12, 0, 0, 0), (0, 0, 1, 0, 0), (0, 0, 1, 0, 0), (1, 12, 39, 167, 39), (3, 1, 0, 0, 10), (21, 10, 0, 0, 0), (3, 0, 0, 0, 1), (10, 11, 0, 0, 0)]
abbrev zb_280_10 : List zI0 := [(3, 0, 0, 0, 0), (111, 11, 0, 0, 0)]
abbrev zb_280_11 : List zI0 := [(3, 0, 0, 0, 4), (6, 212, 2, 12, 187), (14, 13, 0, 0, 0), (111, 12, 0, 0, 0)]
abbrev zb_280_12 : List zI0 := [(3, 0, 0, 0, 0), (8, 0, 0, 0, 0)]
abbrev zb_280_13 : List zI0 := [(0, 0, 1, 0, 0), (4, 1, 1, 0, 0), (4, 4, 0, 0, 0), (6, 221, 2, 12, 202), (3, 0, 0, 0, 4), (58, 0, 0, 0, 0), (47, 0, 0, 0, 0), (3, 0, 0, 0, 0), (4, 1, 1, 0, 0), (35, 0, 0, 0, 0), (47, 0, 0, 0, 0), (3, 0, 0, 0, 1), (4, 2, 1, 0, 0), (35, 0, 0, 0, 0), (47, 0, 0, 0, 0), (3, 0, 0, 0, 2), (4, 3, 1, 0, 0), (35, 0, 0, 0, 0), (47, 0, 0, 0, 0), (3, 0, 0, 0, 3), (4, 4, 0, 0, 0), (35, 0, 0, 0, 0), (31, 6, 0, 0, 0), (0, 6, 0, 0, 0), (3, 0, 0, 0, 0), (0, 0, 1, 0, 0), (2, 12, 26, 154, 26), (0, 0, 1, 0, 0), (1, 12, 39, 167, 39), (34, 0, 0, 0, 0), (3, 0, 0, 0, 0), (3, 0, 0, 0, 4), (106, 0, 0, 0, 163), (0, 0, 1, 0, 0), (47, 0, 0, 0, 0), (1, 12, 39, 167, 39), (3, 0, 0, 0, 1), (37, 0, 0, 0, 0), (11, 12, 39, 167, 39), (0, 0, 1, 0, 0), (1, 12, 39, 167, 39), (8, 0, 0, 0, 0)]
abbrev zc_280 : List (List zI0) := [zb_280_0, zb_280_1, zb_280_2, zb_280_3, zb_280_4, zb_280_5, zb_280_6, zb_280_7, zb_280_8, zb_280_9, zb_280_10, zb_280_11, zb_280_12, zb_280_13]
abbrev zb_281_0 : List zI0 := [(4, 0, 1, 0, 0), (3, 0, 0, 0, 2), (41, 0, 0, 0, 0), (3, 0, 0, 0, 1), (21, 1, 0, 0, 0), (3, 0, 0, 0, 1), (10, 2, 0, 0, 0)]
abbrev zb_281_1 : List zI0 := [(3, 0, 0, 0, 0), (111, 2, 0, 0, 0)]
abbrev zb_281_2 : List zI0 := [(30, 1, 1, 0, 0), (4, 0, 1, 0, 0), (3, 0, 0, 0, 1), (3, 1, 0, 0, 10), (5, 213, 3, 0, 186), (15, 3, 0, 0, 0), (4, 0, 1, 0, 0), (3, 1, 0, 0, 19), (3, 1, 0, 0, 28), (5, 213, 3, 0, 186), (14, 4, 0, 0, 0), (111, 3, 0, 0, 0)]
abbrev zb_281_3 : List zI0 := [(3, 0, 0, 0, 1), (10, 5, 0, 0, 0)]
abbrev zb_281_4 : List zI0 := [(3, 0, 0, 0, 0), (111, 5, 0, 0, 0)]
abbrev zb_281_5 : List zI0 := [(30, 2, 1, 0, 0), (4, 0, 1, 0, 0), (19, 6, 0, 0, 0), (4, 1, 1, 0, 0), (4, 2, 1, 0, 0), (21, 6, 0, 0, 0), (3, 0, 0, 0, 1), (10, 7, 0, 0, 0)]
abbrev zb_281_6 : List zI0 := [(3, 0, 0, 0, 0), (111, 7, 0, 0, 0)]
abbrev zb_281_7 : List zI0 := [(9, 0, 0, 0, 0)]
abbrev zc_281 : List (List zI0) := [zb_281_0, zb_281_1, zb_281_2, zb_281_3, zb_281_4, zb_281_5, zb_281_6, zb_281_7]
abbrev zb_282_0 : List zI0 := [(4, 0, 1, 0, 0), (3, 1, 0, 0, 110), (21, 3, 0, 0, 0), (4, 1, 1, 0, 0), (4, 2, 1, 0, 0), (21, 1, 0, 0, 0), (3, 1, 0, 0, 35), (10, 2, 0, 0, 0)]
abbrev zb_282_1 : List zI0 := [(3, 0, 0, 0, (-1)), (111, 2, 0, 0, 0)]
abbrev zb_282_2 : List zI0 := [(8, 0, 0, 0, 0)]
abbrev zb_282_3 : List zI0 := [(4, 0, 1, 0, 0), (3, 1, 0, 0, 100), (21, 6, 0, 0, 0), (4, 2, 1, 0, 0), (19, 4, 0, 0, 0), (4, 2, 1, 0, 0), (3, 0, 0, 0, 1), (38, 0, 0, 0, 0), (3, 1, 0, 0, 12), (40, 0, 0, 0, 0), (4, 1, 1, 0, 0), (21, 4, 0, 0, 0), (3, 0, 0, 0, 2), (10, 5, 0, 0, 0)]
abbrev zb_282_4 : List zI0 := [(3, 0, 0, 0, (-1)), (111, 5, 0, 0, 0)]
abbrev zb_282_5 : List zI0 := [(8, 0, 0, 0, 0)]
abbrev zb_282_6 : List zI0 := [(4, 2, 1, 0, 0), (19, 9, 0, 0, 0), (4, 2, 1, 0, 0), (5, 281, 1, 0, 223), (4, 0, 1, 0, 0), (3, 1, 0, 0, 114), (21, 7, 0, 0, 0), (3, 0, 0, 0, 1), (10, 8, 0, 0, 0)]
abbrev zb_282_7 : List zI0 := [(3, 0, 0, 0, 0), (111, 8, 0, 0, 0)]
abbrev zb_282_8 : List zI0 := [(21, 9, 0, 0, 0), (3, 0, 0, 0, 1), (10, 10, 0, 0, 0)]
abbrev zb_282_9 : List zI0 := [(3, 0, 0, 0, (-1)), (111, 10, 0, 0, 0)]
abbrev zb_282_10 : List zI0 := [(8, 0, 0, 0, 0)]
abbrev zc_282 : List (List zI0) := [zb_282_0, zb_282_1, zb_282_2, zb_282_3, zb_282_4, zb_282_5, zb_282_6, zb_282_7, zb_282_8, zb_282_9, zb_282_10]
abbrev zb_283_0 : List zI0 := [(0, 0, 1, 0, 0), (4, 1, 1, 0, 0), (3, 0, 0, 0, 0), (3, 1, 0, 0, 36), (5, 213, 3, 0, 186), (15, 1, 0, 0, 0), (3, 0, 0, 0, 1), (10, 2, 0, 0, 0)]
abbrev zb_283_1 : List zI0 := [(3, 0, 0, 0, 0), (111, 2, 0, 0, 0)]
abbrev zb_283_2 : List zI0 := [(3, 0, 0, 0, 1), (6, 212, 2, 12, 187), (14, 3, 0, 0, 0), (3, 0, 0, 0, 0), (8, 0, 0, 0, 0)]
abbrev zb_283_3 : List zI0 := [(3, 0, 0, 0, 0), (30, 2, 1, 0, 0), (3, 0, 0, 0, 0), (30, 3, 1, 0, 0), (111, 4, 0, 0, 0)]
abbrev zb_283_4 : List zI0 := [(4, 3, 1, 0, 0), (0, 0, 1, 0, 0), (1, 12, 39, 167, 39), (23, 13, 0, 0, 0), (0, 0, 1, 0, 0), (2, 12, 26, 154, 26), (4, 3, 1, 0, 0), (34, 0, 0, 0, 0), (3, 0, 0, 0, 1), (33, 0, 0, 0, 0), (0, 0, 1, 0, 0), (2, 12, 26, 154, 26), (4, 3, 1, 0, 0), (34, 0, 0, 0, 0), (3, 0, 0, 0, 2), (33, 0, 0, 0, 0), (4, 1, 1, 0, 0), (5, 282, 3, 0, 224), (30, 4, 0, 0, 0), (0, 0, 1, 0, 0), (2, 12, 26, 154, 26), (4, 3, 1, 0, 0), (34, 0, 0, 0, 0), (3, 0, 0, 0, 3), (33, 0, 0, 0, 0), (30, 5, 0, 0, 0), (0, 0, 1, 0, 0), (2, 12, 10, 138, 10), (3, 0, 0, 0, 1), (48, 0, 0, 0, 0), (33, 0, 0, 0, 0), (4, 4, 0, 0, 0), (17, 5, 0, 0, 0), (4, 5, 0, 0, 0), (10, 6, 0, 0, 0)]
abbrev zb_283_5 : List zI0 := [(3, 0, 0, 0, 0), (111, 6, 0, 0, 0)]
abbrev zb_283_6 : List zI0 := [(37, 0, 0, 0, 0), (35, 0, 0, 0, 0), (0, 0, 1, 0, 0), (2, 12, 1, 129, 1), (0, 0, 1, 0, 0), (2, 12, 26, 154, 26), (4, 3, 1, 0, 0), (34, 0, 0, 0, 0), (3, 0, 0, 0, 0), (33, 0, 0, 0, 0), (48, 0, 0, 0, 0), (33, 0, 0, 0, 0), (4, 4, 0, 0, 0), (17, 7, 0, 0, 0), (3, 0, 0, 0, 0), (10, 8, 0, 0, 0)]
abbrev zb_283_7 : List zI0 := [(4, 5, 0, 0, 0), (111, 8, 0, 0, 0)]
abbrev zb_283_8 : List zI0 := [(37, 0, 0, 0, 0), (35, 0, 0, 0, 0), (0, 0, 1, 0, 0), (3, 0, 0, 0, 1), (0, 0, 1, 0, 0), (2, 12, 26, 154, 26), (4, 3, 1, 0, 0), (34, 0, 0, 0, 0), (3, 0, 0, 0, 0), (33, 0, 0, 0, 0), (4, 4, 0, 0, 0), (17, 9, 0, 0, 0), (3, 0, 0, 0, 0), (10, 10, 0, 0, 0)]
abbrev zb_283_9 : List zI0 := [(4, 4, 0, 0, 0), (4, 5, 0, 0, 0), (39, 0, 0, 0, 0), (111, 10, 0, 0, 0)]
abbrev zb_283_10 : List zI0 := [(6, 222, 3, 12, 208), (4, 2, 1, 0, 0), (4, 4, 0, 0, 0), (17, 11, 0, 0, 0), (3, 0, 0, 0, 0), (10, 12, 0, 0, 0)]
abbrev zb_283_11 : List zI0 := [(4, 4, 0, 0, 0), (3, 0, 0, 0, 1), (37, 0, 0, 0, 0), (4, 5, 0, 0, 0), (39, 0, 0, 0, 0), (111, 12, 0, 0, 0)]
abbrev zb_283_12 : List zI0 := [(37, 0, 0, 0, 0), (30, 2, 1, 0, 0), (32, 3, 0, 0, 1), (10, 4, 0, 0, 0)]
abbrev zb_283_13 : List zI0 := [(0, 0, 1, 0, 0), (3, 0, 0, 0, 0), (11, 12, 39, 167, 39), (4, 2, 1, 0, 0), (8, 0, 0, 0, 0)]
abbrev zc_283 : List (List zI0) := [zb_283_0, zb_283_1, zb_283_2, zb_283_3, zb_283_4, zb_283_5, zb_283_6, zb_283_7, zb_283_8, zb_283_9, zb_283_10, zb_283_11, zb_283_12, zb_283_13]
abbrev zb_284_0 : List zI0 := [(0, 0, 1, 0, 0), (1, 12, 42, 161, 42), (16, 1, 0, 0, 0), (0, 0, 1, 0, 0), (1, 12, 44, 169, 44), (15, 1, 0, 0, 0), (3, 0, 0, 0, 1), (10, 2, 0, 0, 0)]
abbrev zb_284_1 : List zI0 := [(3, 0, 0, 0, 0), (111, 2, 0, 0, 0)]
abbrev zb_284_2 : List zI0 := [(9, 0, 0, 0, 0)]
abbrev zc_284 : List (List zI0) := [zb_284_0, zb_284_1, zb_284_2]
abbrev zb_285_0 : List zI0 := [(4, 0, 1, 0, 0), (30, 2, 1, 0, 0), (3, 0, 0, 0, 0), (30, 3, 1, 0, 0), (111, 1, 0, 0, 0)]
abbrev zb_285_1 : List zI0 := [(4, 3, 1, 0, 0), (4, 1, 1, 0, 0), (23, 2, 0, 0, 0), (4, 2, 1, 0, 0), (3, 1, 0, 0, 10), (40, 0, 0, 0, 0), (30, 2, 1, 0, 0), (32, 3, 0, 0, 1), (10, 1, 0, 0, 0)]
abbrev zb_285_2 : List zI0 := [(4, 2, 1, 0, 0), (3, 1, 0, 0, 10), (41, 0, 0, 0, 0), (8, 0, 0, 0, 0)]
abbrev zc_285 : List (List zI0) := [zb_285_0, zb_285_1, zb_285_2]
abbrev zb_286_0 : List zI0 := [(4, 0, 1, 0, 0), (16, 3, 0, 0, 0), (4, 0, 1, 0, 0), (4, 1, 1, 0, 0), (5, 285, 2, 0, 225), (15, 3, 0, 0, 0), (4, 0, 1, 0, 0), (4, 1, 1, 0, 0), (3, 1, 0, 0, 8), (21, 1, 0, 0, 0), (3, 4, 13, 0, 100000000), (10, 2, 0, 0, 0)]
abbrev zb_286_1 : List zI0 := [(3, 2, 0, 0, 1000), (111, 2, 0, 0, 0)]
abbrev zb_286_2 : List zI0 := [(23, 3, 0, 0, 0), (3, 0, 0, 0, 1), (10, 4, 0, 0, 0)]
abbrev zb_286_3 : List zI0 := [(3, 0, 0, 0, 0), (111, 4, 0, 0, 0)]
abbrev zb_286_4 : List zI0 := [(30, 3, 1, 0, 0), (3, 0, 0, 0, 0), (30, 4, 0, 0, 0), (111, 5, 0, 0, 0)]
abbrev zb_286_5 : List zI0 := [(4, 4, 0, 0, 0), (4, 1, 1, 0, 0), (23, 8, 0, 0, 0), (4, 3, 1, 0, 0), (4, 0, 1, 0, 0), (4, 4, 0, 0, 0), (5, 285, 2, 0, 225), (4, 2, 1, 0, 0), (24, 6, 0, 0, 0), (3, 0, 0, 0, 1), (10, 7, 0, 0, 0)]
abbrev zb_286_6 : List zI0 := [(3, 0, 0, 0, 0), (111, 7, 0, 0, 0)]
abbrev zb_286_7 : List zI0 := [(42, 0, 0, 0, 0), (30, 3, 1, 0, 0), (32, 4, 0, 0, 1), (10, 5, 0, 0, 0)]
abbrev zb_286_8 : List zI0 := [(4, 3, 1, 0, 0), (9, 0, 0, 0, 0)]
abbrev zc_286 : List (List zI0) := [zb_286_0, zb_286_1, zb_286_2, zb_286_3, zb_286_4, zb_286_5, zb_286_6, zb_286_7, zb_286_8]
abbrev zb_287_0 : List zI0 := [(0, 0, 1, 0, 0), (4, 1, 1, 0, 0), (3, 0, 0, 0, 0), (3, 0, 0, 0, 2), (5, 213, 3, 0, 186), (15, 1, 0, 0, 0), (3, 0, 0, 0, 1), (10, 2, 0, 0, 0)]
abbrev zb_287_1 : List zI0 := [(3, 0, 0, 0, 0), (111, 2, 0, 0, 0)]
abbrev zb_287_2 : List zI0 := [(3, 0, 0, 0, 1), (6, 212, 2, 12, 187), (15, 5, 0, 0, 0), (0, 0, 1, 0, 0), (4, 2, 1, 0, 0), (3, 1, 0, 0, 8), (3, 0, 0, 0, 4), (5, 286, 3, 0, 226), (15, 3, 0, 0, 0), (3, 0, 0, 0, 1), (10, 4, 0, 0, 0)]
abbrev zb_287_3 : List zI0 := [(3, 0, 0, 0, 0), (111, 4, 0, 0, 0)]
abbrev zb_287_4 : List zI0 := [(3, 0, 0, 0, 2), (6, 212, 2, 12, 187), (15, 5, 0, 0, 0), (0, 0, 1, 0, 0), (0, 0, 1, 0, 0), (6, 284, 0, 12, 227), (3, 0, 0, 0, 3), (6, 212, 2, 12, 187), (14, 6, 0, 0, 0), (111, 5, 0, 0, 0)]
abbrev zb_287_5 : List zI0 := [(3, 0, 0, 0, 0), (8, 0, 0, 0, 0)]
abbrev zb_287_6 : List zI0 := [(3, 0, 0, 0, 0), (30, 3, 1, 0, 0), (3, 0, 0, 0, 0), (30, 4, 0, 0, 0), (111, 7, 0, 0, 0)]
abbrev zb_287_7 : List zI0 := [(4, 4, 0, 0, 0), (3, 1, 0, 0, 8), (23, 10, 0, 0, 0), (4, 2, 1, 0, 0), (3, 1, 0, 0, 7), (4, 4, 0, 0, 0), (38, 0, 0, 0, 0), (5, 285, 2, 0, 225), (30, 5, 0, 0, 0), (4, 3, 1, 0, 0), (0, 0, 1, 0, 0), (2, 12, 27, 155, 27), (4, 1, 1, 0, 0), (34, 0, 0, 0, 0), (4, 4, 0, 0, 0), (33, 0, 0, 0, 0), (4, 5, 0, 0, 0), (21, 8, 0, 0, 0), (3, 0, 0, 0, 0), (10, 9, 0, 0, 0)]
abbrev zb_287_8 : List zI0 := [(3, 0, 0, 0, 1), (111, 9, 0, 0, 0)]
abbrev zb_287_9 : List zI0 := [(37, 0, 0, 0, 0), (30, 3, 1, 0, 0), (0, 0, 1, 0, 0), (2, 12, 27, 155, 27), (4, 1, 1, 0, 0), (34, 0, 0, 0, 0), (4, 4, 0, 0, 0), (4, 5, 0, 0, 0), (35, 0, 0, 0, 0), (32, 4, 0, 0, 1), (10, 7, 0, 0, 0)]
abbrev zb_287_10 : List zI0 := [(4, 3, 1, 0, 0), (8, 0, 0, 0, 0)]
abbrev zc_287 : List (List zI0) := [zb_287_0, zb_287_1, zb_287_2, zb_287_3, zb_287_4, zb_287_5, zb_287_6, zb_287_7, zb_287_8, zb_287_9, zb_287_10]
abbrev zb_288_0 : List zI0 := [(0, 0, 1, 0, 0), (4, 1, 1, 0, 0), (3, 0, 0, 0, 0), (3, 0, 0, 0, 4), (5, 213, 3, 0, 186), (14, 1, 0, 0, 0), (4, 2, 1, 0, 0), (3, 0, 0, 0, 0), (3, 2, 0, 0, 200), (5, 213, 3, 0, 186), (15, 2, 0, 0, 0), (111, 1, 0, 0, 0)]
abbrev zb_288_1 : List zI0 := [(3, 0, 0, 0, 1), (10, 3, 0, 0, 0)]
abbrev zb_288_2 : List zI0 := [(3, 0, 0, 0, 0), (111, 3, 0, 0, 0)]
abbrev zb_288_3 : List zI0 := [(3, 0, 0, 0, 1), (6, 212, 2, 12, 187), (15, 4, 0, 0, 0), (0, 0, 1, 0, 0), (0, 0, 1, 0, 0), (6, 284, 0, 12, 227), (3, 0, 0, 0, 2), (6, 212, 2, 12, 187), (14, 5, 0, 0, 0), (111, 4, 0, 0, 0)]
abbrev zb_288_4 : List zI0 := [(3, 0, 0, 0, 0), (8, 0, 0, 0, 0)]
abbrev zb_288_5 : List zI0 := [(0, 0, 1, 0, 0), (2, 12, 28, 156, 28), (4, 1, 1, 0, 0), (33, 0, 0, 0, 0), (30, 3, 1, 0, 0), (0, 0, 1, 0, 0), (2, 12, 28, 156, 28), (4, 1, 1, 0, 0), (4, 2, 1, 0, 0), (35, 0, 0, 0, 0), (4, 3, 1, 0, 0), (8, 0, 0, 0, 0)]
abbrev zc_288 : List (List zI0) := [zb_288_0, zb_288_1, zb_288_2, zb_288_3, zb_288_4, zb_288_5]
abbrev zb_289_0 : List zI0 := [(0, 0, 1, 0, 0), (4, 1, 1, 0, 0), (3, 0, 0, 0, 1), (3, 2, 0, 0, 5000), (5, 213, 3, 0, 186), (15, 1, 0, 0, 0), (3, 0, 0, 0, 1), (10, 2, 0, 0, 0)]
abbrev zb_289_1 : List zI0 := [(3, 0, 0, 0, 0), (111, 2, 0, 0, 0)]
abbrev zb_289_2 : List zI0 := [(3, 0, 0, 0, 1), (6, 212, 2, 12, 187), (15, 3, 0, 0, 0), (0, 0, 1, 0, 0), (0, 0, 1, 0, 0), (6, 284, 0, 12, 227), (3, 0, 0, 0, 2), (6, 212, 2, 12, 187), (14, 4, 0, 0, 0), (111, 3, 0, 0, 0)]
abbrev zb_289_3 : List zI0 := [(3, 0, 0, 0, 0), (8, 0, 0, 0, 0)]
abbrev zb_289_4 : List zI0 := [(0, 0, 1, 0, 0), (1, 12, 40, 160, 40), (30, 2, 1, 0, 0), (0, 0, 1, 0, 0), (4, 1, 1, 0, 0), (11, 12, 40, 160, 40), (4, 2, 1, 0, 0), (8, 0, 0, 0, 0)]
abbrev zc_289 : List (List zI0) := [zb_289_0, zb_289_1, zb_289_2, zb_289_3, zb_289_4]
abbrev zb_290_0 : List zI0 := [(0, 0, 1, 0, 0), (0, 0, 1, 0, 0), (4, 1, 1, 0, 0), (6, 214, 1, 12, 188), (3, 0, 0, 0, 1), (6, 212, 2, 12, 187), (15, 7, 0, 0, 0), (0, 0, 1, 0, 0), (4, 2, 1, 0, 0), (3, 0, 0, 0, 1), (3, 1, 0, 0, 100), (5, 213, 3, 0, 186), (15, 1, 0, 0, 0), (3, 0, 0, 0, 1), (10, 2, 0, 0, 0)]
abbrev zb_290_1 : List zI0 := [(3, 0, 0, 0, 0), (111, 2, 0, 0, 0)]
abbrev zb_290_2 : List zI0 := [(3, 0, 0, 0, 2), (6, 212, 2, 12, 187), (15, 7, 0, 0, 0), (0, 0, 1, 0, 0), (0, 0, 1, 0, 0), (4, 1, 1, 0, 0), (4, 2, 1, 0, 0), (6, 220, 2, 12, 201), (15, 3, 0, 0, 0), (3, 0, 0, 0, 1), (10, 4, 0, 0, 0)]
abbrev zb_290_3 : List zI0 := [(3, 0, 0, 0, 0), (111, 4, 0, 0, 0)]
abbrev zb_290_4 : List zI0 := [(3, 0, 0, 0, 3), (6, 212, 2, 12, 187), (15, 7, 0, 0, 0), (0, 0, 1, 0, 0), (0, 0, 1, 0, 0), (1, 12, 42, 161, 42), (16, 5, 0, 0, 0), (3, 0, 0, 0, 1), (10, 6, 0, 0, 0)]
abbrev zb_290_5 : List zI0 := [(3, 0, 0, 0, 0), (111, 6, 0, 0, 0)]
abbrev zb_290_6 : List zI0 := [(3, 0, 0, 0, 4), (6, 212, 2, 12, 187), (14, 8, 0, 0, 0), (111, 7, 0, 0, 0)]
abbrev zb_290_7 : List zI0 := [(3, 0, 0, 0, 0), (8, 0, 0, 0, 0)]
abbrev zb_290_8 : List zI0 := [(0, 0, 1, 0, 0), (4, 1, 1, 0, 0), (4, 2, 1, 0, 0), (6, 221, 2, 12, 202), (0, 0, 1, 0, 0), (4, 1, 1, 0, 0), (11, 12, 42, 161, 42), (0, 0, 1, 0, 0), (4, 2, 1, 0, 0), (11, 12, 43, 168, 43), (0, 0, 1, 0, 0), (0, 0, 1, 0, 0), (1, 12, 41, 176, 41), (0, 0, 1, 0, 0), (1, 12, 40, 160, 40), (22, 9, 0, 0, 0), (3, 0, 0, 0, 1), (10, 10, 0, 0, 0)]
abbrev zb_290_9 : List zI0 := [(3, 0, 0, 0, 0), (111, 10, 0, 0, 0)]
abbrev zb_290_10 : List zI0 := [(12, 12, 45, 177, 45), (0, 0, 1, 0, 0), (2, 12, 1, 129, 1), (4, 1, 1, 0, 0), (33, 0, 0, 0, 0), (8, 0, 0, 0, 0)]
abbrev zc_290 : List (List zI0) := [zb_290_0, zb_290_1, zb_290_2, zb_290_3, zb_290_4, zb_290_5, zb_290_6, zb_290_7, zb_290_8, zb_290_9, zb_290_10]
abbrev zb_291_0 : List zI0 := [(0, 0, 1, 0, 0), (4, 1, 1, 0, 0), (3, 0, 0, 0, 3), (3, 1, 0, 0, 7), (5, 286, 3, 0, 226), (15, 1, 0, 0, 0), (3, 0, 0, 0, 1), (10, 2, 0, 0, 0)]
abbrev zb_291_1 : List zI0 := [(3, 0, 0, 0, 0), (111, 2, 0, 0, 0)]
abbrev zb_291_2 : List zI0 := [(3, 0, 0, 0, 1), (6, 212, 2, 12, 187), (15, 5, 0, 0, 0), (0, 0, 1, 0, 0), (0, 0, 1, 0, 0), (6, 284, 0, 12, 227), (15, 3, 0, 0, 0), (3, 0, 0, 0, 1), (10, 4, 0, 0, 0)]
abbrev zb_291_3 : List zI0 := [(3, 0, 0, 0, 0), (111, 4, 0, 0, 0)]
abbrev zb_291_4 : List zI0 := [(3, 0, 0, 0, 2), (6, 212, 2, 12, 187), (14, 6, 0, 0, 0), (111, 5, 0, 0, 0)]
abbrev zb_291_5 : List zI0 := [(3, 0, 0, 0, 0), (8, 0, 0, 0, 0)]
abbrev zb_291_6 : List zI0 := [(0, 0, 1, 0, 0), (2, 12, 27, 155, 27), (3, 0, 0, 0, 0), (34, 0, 0, 0, 0), (4, 1, 1, 0, 0), (3, 0, 0, 0, 2), (5, 285, 2, 0, 225), (33, 0, 0, 0, 0), (30, 2, 1, 0, 0), (4, 2, 1, 0, 0), (0, 0, 1, 0, 0), (2, 12, 27, 155, 27), (3, 0, 0, 0, 1), (34, 0, 0, 0, 0), (4, 1, 1, 0, 0), (3, 0, 0, 0, 1), (5, 285, 2, 0, 225), (33, 0, 0, 0, 0), (21, 7, 0, 0, 0), (4, 2, 1, 0, 0), (0, 0, 1, 0, 0), (2, 12, 27, 155, 27), (3, 0, 0, 0, 2), (34, 0, 0, 0, 0), (4, 1, 1, 0, 0), (3, 0, 0, 0, 0), (5, 285, 2, 0, 225), (33, 0, 0, 0, 0), (21, 7, 0, 0, 0), (3, 0, 0, 0, 1), (10, 8, 0, 0, 0)]
abbrev zb_291_7 : List zI0 := [(3, 0, 0, 0, 0), (111, 8, 0, 0, 0)]
abbrev zb_291_8 : List zI0 := [(30, 3, 1, 0, 0), (0, 0, 1, 0, 0), (47, 0, 0, 0, 0), (1, 12, 41, 176, 41), (0, 0, 1, 0, 0), (1, 12, 43, 168, 43), (3, 1, 0, 0, 10), (40, 0, 0, 0, 0), (37, 0, 0, 0, 0), (11, 12, 41, 176, 41), (0, 0, 1, 0, 0), (2, 12, 10, 138, 10), (3, 0, 0, 0, 2), (48, 0, 0, 0, 0), (33, 0, 0, 0, 0), (0, 0, 1, 0, 0), (1, 12, 43, 168, 43), (0, 0, 1, 0, 0), (1, 12, 43, 168, 43), (3, 1, 0, 0, 10), (40, 0, 0, 0, 0), (38, 0, 0, 0, 0), (37, 0, 0, 0, 0), (35, 0, 0, 0, 0), (4, 3, 1, 0, 0), (14, 9, 0, 0, 0), (0, 0, 1, 0, 0), (2, 12, 28, 156, 28), (4, 2, 1, 0, 0), (33, 0, 0, 0, 0), (0, 0, 1, 0, 0), (1, 12, 43, 168, 43), (39, 0, 0, 0, 0), (10, 10, 0, 0, 0)]
abbrev zb_291_9 : List zI0 := [(3, 0, 0, 0, 0), (111, 10, 0, 0, 0)]
abbrev zb_291_10 : List zI0 := [(30, 4, 0, 0, 0), (0, 0, 1, 0, 0), (3, 0, 0, 0, 2), (0, 0, 1, 0, 0), (1, 12, 42, 161, 42), (4, 4, 0, 0, 0), (6, 222, 3, 12, 208), (0, 0, 1, 0, 0), (1, 12, 45, 177, 45), (15, 11, 0, 0, 0), (4, 3, 1, 0, 0), (14, 12, 0, 0, 0), (4, 2, 1, 0, 0), (15, 12, 0, 0, 0), (111, 11, 0, 0, 0)]
abbrev zb_291_11 : List zI0 := [(0, 0, 1, 0, 0), (2, 12, 1, 129, 1), (0, 0, 1, 0, 0), (1, 12, 42, 161, 42), (48, 0, 0, 0, 0), (33, 0, 0, 0, 0), (0, 0, 1, 0, 0), (1, 12, 41, 176, 41), (37, 0, 0, 0, 0), (35, 0, 0, 0, 0), (4, 4, 0, 0, 0), (0, 0, 1, 0, 0), (1, 12, 41, 176, 41), (37, 0, 0, 0, 0), (30, 4, 0, 0, 0), (0, 0, 1, 0, 0), (3, 0, 0, 0, 0), (11, 12, 41, 176, 41), (111, 12, 0, 0, 0)]
abbrev zb_291_12 : List zI0 := [(0, 0, 1, 0, 0), (3, 0, 0, 0, (-1)), (11, 12, 42, 161, 42), (4, 4, 0, 0, 0), (8, 0, 0, 0, 0)]
abbrev zc_291 : List (List zI0) := [zb_291_0, zb_291_1, zb_291_2, zb_291_3, zb_291_4, zb_291_5, zb_291_6, zb_291_7, zb_291_8, zb_291_9, zb_291_10, zb_291_11, zb_291_12]
abbrev zb_292_0 : List zI0 := [(0, 0, 1, 0, 0), (0, 0, 1, 0, 0), (6, 284, 0, 12, 227), (15, 1, 0, 0, 0), (3, 0, 0, 0, 1), (10, 2, 0, 0, 0)]
abbrev zb_292_1 : List zI0 := [(3, 0, 0, 0, 0), (111, 2, 0, 0, 0)]
abbrev zb_292_2 : List zI0 := [(3, 0, 0, 0, 1), (6, 212, 2, 12, 187), (14, 3, 0, 0, 0), (3, 0, 0, 0, 0), (8, 0, 0, 0, 0)]
abbrev zb_292_3 : List zI0 := [(0, 0, 1, 0, 0), (3, 0, 0, 0, 1), (12, 12, 44, 169, 44), (0, 0, 1, 0, 0), (1, 12, 43, 168, 43), (8, 0, 0, 0, 0)]
abbrev zc_292 : List (List zI0) := [zb_292_0, zb_292_1, zb_292_2, zb_292_3]
abbrev zb_293_0 : List zI0 := [(0, 0, 1, 0, 0), (0, 0, 1, 0, 0), (1, 12, 42, 161, 42), (16, 1, 0, 0, 0), (0, 0, 1, 0, 0), (1, 12, 44, 169, 44), (15, 2, 0, 0, 0), (111, 1, 0, 0, 0)]
abbrev zb_293_1 : List zI0 := [(3, 0, 0, 0, 1), (10, 3, 0, 0, 0)]
abbrev zb_293_2 : List zI0 := [(3, 0, 0, 0, 0), (111, 3, 0, 0, 0)]
abbrev zb_293_3 : List zI0 := [(3, 0, 0, 0, 1), (6, 212, 2, 12, 187), (14, 4, 0, 0, 0), (3, 0, 0, 0, 0), (8, 0, 0, 0, 0)]
abbrev zb_293_4 : List zI0 := [(0, 0, 1, 0, 0), (1, 12, 42, 161, 42), (30, 1, 1, 0, 0), (0, 0, 1, 0, 0), (2, 12, 1, 129, 1), (4, 1, 1, 0, 0), (48, 0, 0, 0, 0), (33, 0, 0, 0, 0), (0, 0, 1, 0, 0), (1, 12, 43, 168, 43), (37, 0, 0, 0, 0), (35, 0, 0, 0, 0), (0, 0, 1, 0, 0), (3, 0, 0, 0, (-1)), (11, 12, 42, 161, 42), (0, 0, 1, 0, 0), (3, 0, 0, 0, 0), (12, 12, 44, 169, 44), (0, 0, 1, 0, 0), (2, 12, 1, 129, 1), (4, 1, 1, 0, 0), (33, 0, 0, 0, 0), (8, 0, 0, 0, 0)]
abbrev zc_293 : List (List zI0) := [zb_293_0, zb_293_1, zb_293_2, zb_293_3, zb_293_4]
abbrev zb_294_0 : List zI0 := [(0, 0, 1, 0, 0), (3, 0, 0, 0, 0), (11, 12, 49, 163, 49), (0, 0, 1, 0, 0), (1, 12, 41, 176, 41), (8, 0, 0, 0, 0)]
abbrev zc_294 : List (List zI0) := [zb_294_0]
abbrev zb_295_0 : List zI0 := [(0, 0, 1, 0, 0), (3, 0, 0, 0, 0), (11, 12, 49, 163, 49), (64, 0, 0, 0, 0), (74, 2, 1, 0, 0), (3, 0, 0, 0, 0), (30, 4, 0, 0, 0), (111, 1, 0, 0, 0)]
abbrev zb_295_1 : List zI0 := [(4, 4, 0, 0, 0), (3, 0, 0, 0, 5), (23, 8, 0, 0, 0), (64, 0, 0, 0, 1), (74, 5, 0, 0, 0), (0, 0, 1, 0, 0), (2, 12, 27, 155, 27), (31, 7, 0, 0, 0), (0, 7, 0, 0, 0), (36, 0, 0, 0, 0), (30, 8, 0, 0, 0), (3, 0, 0, 0, 0), (30, 9, 0, 0, 0), (111, 2, 0, 0, 0)]
abbrev zb_295_2 : List zI0 := [(4, 9, 0, 0, 0), (4, 8, 0, 0, 0), (23, 7, 0, 0, 0), (0, 7, 0, 0, 0), (4, 9, 0, 0, 0), (34, 0, 0, 0, 0), (31, 10, 0, 0, 0), (3, 0, 0, 0, 0), (30, 11, 0, 0, 0), (0, 10, 0, 0, 0), (31, 12, 0, 0, 0), (0, 12, 0, 0, 0), (36, 0, 0, 0, 0), (30, 13, 0, 0, 0), (3, 0, 0, 0, 0), (30, 14, 0, 0, 0), (111, 3, 0, 0, 0)]
abbrev zb_295_3 : List zI0 := [(4, 14, 0, 0, 0), (4, 13, 0, 0, 0), (23, 6, 0, 0, 0), (0, 12, 0, 0, 0), (4, 14, 0, 0, 0), (33, 0, 0, 0, 0), (30, 15, 0, 0, 0), (4, 11, 0, 0, 0), (4, 15, 0, 0, 0), (4, 4, 0, 0, 0), (21, 4, 0, 0, 0), (3, 0, 0, 0, 1), (10, 5, 0, 0, 0)]
abbrev zb_295_4 : List zI0 := [(3, 0, 0, 0, 0), (111, 5, 0, 0, 0)]
abbrev zb_295_5 : List zI0 := [(37, 0, 0, 0, 0), (30, 11, 0, 0, 0), (32, 14, 0, 0, 1), (10, 3, 0, 0, 0)]
abbrev zb_295_6 : List zI0 := [(73, 5, 0, 0, 0), (4, 11, 0, 0, 0), (65, 0, 0, 0, 0), (69, 0, 0, 0, 0), (74, 5, 0, 0, 0), (32, 9, 0, 0, 1), (10, 2, 0, 0, 0)]
abbrev zb_295_7 : List zI0 := [(73, 2, 1, 0, 0), (73, 5, 0, 0, 0), (0, 0, 1, 0, 0), (2, 12, 28, 156, 28), (4, 4, 0, 0, 0), (33, 0, 0, 0, 0), (65, 0, 0, 0, 0), (69, 0, 0, 0, 0), (67, 0, 0, 0, 0), (74, 2, 1, 0, 0), (32, 4, 0, 0, 1), (10, 1, 0, 0, 0)]
abbrev zb_295_8 : List zI0 := [(4, 1, 1, 0, 0), (14, 9, 0, 0, 0), (73, 2, 1, 0, 0), (10, 10, 0, 0, 0)]
abbrev zb_295_9 : List zI0 := [(64, 1, 14, 0, 512), (111, 10, 0, 0, 0)]
abbrev zb_295_10 : List zI0 := [(73, 2, 1, 0, 0), (64, 1, 14, 0, 512), (5, 267, 2, 0, 220), (70, 0, 0, 0, 0), (52, 0, 0, 0, 0)]
abbrev zc_295 : List (List zI0) := [zb_295_0, zb_295_1, zb_295_2, zb_295_3, zb_295_4, zb_295_5, zb_295_6, zb_295_7, zb_295_8, zb_295_9, zb_295_10]
abbrev zb_296_0 : List zI0 := [(0, 0, 1, 0, 0), (3, 0, 0, 0, 1), (6, 295, 1, 12, 228), (52, 0, 0, 0, 0)]
abbrev zc_296 : List (List zI0) := [zb_296_0]
abbrev zb_297_0 : List zI0 := [(0, 0, 1, 0, 0), (3, 0, 0, 0, 0), (6, 295, 1, 12, 228), (52, 0, 0, 0, 0)]
abbrev zc_297 : List (List zI0) := [zb_297_0]
abbrev zb_298_0 : List zI0 := [(4, 0, 1, 0, 0), (3, 0, 0, 0, 0), (3, 2, 0, 0, 999), (5, 213, 3, 0, 186), (15, 1, 0, 0, 0), (3, 0, 0, 0, (-1)), (8, 0, 0, 0, 0)]
abbrev zb_298_1 : List zI0 := [(3, 0, 0, 0, 1), (4, 0, 1, 0, 0), (3, 0, 0, 0, 0), (5, 285, 2, 0, 225), (44, 0, 0, 0, 0), (3, 0, 0, 0, 1), (4, 0, 1, 0, 0), (3, 0, 0, 0, 1), (5, 285, 2, 0, 225), (44, 0, 0, 0, 0), (43, 0, 0, 0, 0), (3, 0, 0, 0, 1), (4, 0, 1, 0, 0), (3, 0, 0, 0, 2), (5, 285, 2, 0, 225), (44, 0, 0, 0, 0), (43, 0, 0, 0, 0), (30, 1, 1, 0, 0), (4, 1, 1, 0, 0), (5, 324, 1, 0, 229), (3, 0, 0, 0, 3), (21, 2, 0, 0, 0), (4, 1, 1, 0, 0), (10, 3, 0, 0, 0)]
abbrev zb_298_2 : List zI0 := [(3, 0, 0, 0, (-1)), (111, 3, 0, 0, 0)]
abbrev zb_298_3 : List zI0 := [(8, 0, 0, 0, 0)]
abbrev zc_298 : List (List zI0) := [zb_298_0, zb_298_1, zb_298_2, zb_298_3]
abbrev zb_299_0 : List zI0 := [(0, 0, 1, 0, 0), (0, 0, 1, 0, 0), (4, 1, 1, 0, 0), (6, 214, 1, 12, 188), (3, 0, 0, 0, 1), (6, 212, 2, 12, 187), (15, 8, 0, 0, 0), (0, 0, 1, 0, 0), (4, 2, 1, 0, 0), (5, 298, 1, 0, 230), (17, 1, 0, 0, 0), (3, 0, 0, 0, 1), (10, 2, 0, 0, 0)]
abbrev zb_299_1 : List zI0 := [(3, 0, 0, 0, 0), (111, 2, 0, 0, 0)]
abbrev zb_299_2 : List zI0 := [(3, 0, 0, 0, 2), (6, 212, 2, 12, 187), (15, 8, 0, 0, 0), (0, 0, 1, 0, 0), (0, 0, 1, 0, 0), (4, 1, 1, 0, 0), (3, 0, 0, 0, 2), (6, 220, 2, 12, 201), (15, 3, 0, 0, 0), (3, 0, 0, 0, 1), (10, 4, 0, 0, 0)]
abbrev zb_299_3 : List zI0 := [(3, 0, 0, 0, 0), (111, 4, 0, 0, 0)]
abbrev zb_299_4 : List zI0 := [(3, 0, 0, 0, 3), (6, 212, 2, 12, 187), (15, 8, 0, 0, 0), (0, 0, 1, 0, 0), (0, 0, 1, 0, 0), (1, 12, 46, 170, 46), (3, 1, 0, 0, 12), (20, 5, 0, 0, 0), (0, 0, 1, 0, 0), (1, 12, 47, 162, 47), (16, 6, 0, 0, 0), (111, 5, 0, 0, 0)]
abbrev zb_299_5 : List zI0 := [(3, 0, 0, 0, 1), (10, 7, 0, 0, 0)]
abbrev zb_299_6 : List zI0 := [(3, 0, 0, 0, 0), (111, 7, 0, 0, 0)]
abbrev zb_299_7 : List zI0 := [(3, 0, 0, 0, 4), (6, 212, 2, 12, 187), (14, 9, 0, 0, 0), (111, 8, 0, 0, 0)]
abbrev zb_299_8 : List zI0 := [(3, 0, 0, 0, 0), (8, 0, 0, 0, 0)]
abbrev zb_299_9 : List zI0 := [(0, 0, 1, 0, 0), (4, 1, 1, 0, 0), (3, 0, 0, 0, 2), (6, 221, 2, 12, 202), (0, 0, 1, 0, 0), (47, 0, 0, 0, 0), (1, 12, 48, 171, 48), (3, 0, 0, 0, 2), (37, 0, 0, 0, 0), (11, 12, 48, 171, 48), (0, 0, 1, 0, 0), (2, 12, 29, 157, 29), (0, 0, 1, 0, 0), (1, 12, 46, 170, 46), (34, 0, 0, 0, 0), (3, 0, 0, 0, 0), (4, 1, 1, 0, 0), (35, 0, 0, 0, 0), (0, 0, 1, 0, 0), (2, 12, 29, 157, 29), (0, 0, 1, 0, 0), (1, 12, 46, 170, 46), (34, 0, 0, 0, 0), (3, 0, 0, 0, 1), (4, 2, 1, 0, 0), (5, 298, 1, 0, 230), (35, 0, 0, 0, 0), (0, 0, 1, 0, 0), (47, 0, 0, 0, 0), (1, 12, 46, 170, 46), (3, 0, 0, 0, 1), (37, 0, 0, 0, 0), (11, 12, 46, 170, 46), (0, 0, 1, 0, 0), (1, 12, 46, 170, 46), (8, 0, 0, 0, 0)]
abbrev zc_299 : List (List zI0) := [zb_299_0, zb_299_1, zb_299_2, zb_299_3, zb_299_4, zb_299_5, zb_299_6, zb_299_7, zb_299_8, zb_299_9]
abbrev zb_300_0 : List zI0 := [(3, 0, 0, 0, 0), (30, 2, 1, 0, 0), (3, 0, 0, 0, 0), (30, 3, 1, 0, 0), (111, 1, 0, 0, 0)]
abbrev zb_300_1 : List zI0 := [(4, 3, 1, 0, 0), (0, 0, 1, 0, 0), (1, 12, 46, 170, 46), (23, 4, 0, 0, 0), (4, 2, 1, 0, 0), (0, 0, 1, 0, 0), (2, 12, 29, 157, 29), (4, 3, 1, 0, 0), (34, 0, 0, 0, 0), (3, 0, 0, 0, 0), (33, 0, 0, 0, 0), (16, 2, 0, 0, 0), (0, 0, 1, 0, 0), (2, 12, 29, 157, 29), (4, 3, 1, 0, 0), (34, 0, 0, 0, 0), (3, 0, 0, 0, 1), (33, 0, 0, 0, 0), (0, 0, 1, 0, 0), (1, 12, 47, 162, 47), (42, 0, 0, 0, 0), (5, 324, 1, 0, 229), (4, 1, 1, 0, 0), (21, 2, 0, 0, 0), (3, 0, 0, 0, 1), (10, 3, 0, 0, 0)]
abbrev zb_300_2 : List zI0 := [(3, 0, 0, 0, 0), (111, 3, 0, 0, 0)]
abbrev zb_300_3 : List zI0 := [(37, 0, 0, 0, 0), (30, 2, 1, 0, 0), (32, 3, 0, 0, 1), (10, 1, 0, 0, 0)]
abbrev zb_300_4 : List zI0 := [(4, 2, 1, 0, 0), (8, 0, 0, 0, 0)]
abbrev zc_300 : List (List zI0) := [zb_300_0, zb_300_1, zb_300_2, zb_300_3, zb_300_4]
abbrev zb_301_0 : List zI0 := [(0, 0, 1, 0, 0), (4, 1, 1, 0, 0), (5, 298, 1, 0, 230), (17, 1, 0, 0, 0), (3, 0, 0, 0, 1), (10, 2, 0, 0, 0)]
abbrev zb_301_1 : List zI0 := [(3, 0, 0, 0, 0), (111, 2, 0, 0, 0)]
abbrev zb_301_2 : List zI0 := [(3, 0, 0, 0, 1), (6, 212, 2, 12, 187), (14, 3, 0, 0, 0), (3, 0, 0, 0, 0), (8, 0, 0, 0, 0)]
abbrev zb_301_3 : List zI0 := [(0, 0, 1, 0, 0), (4, 1, 1, 0, 0), (5, 298, 1, 0, 230), (11, 12, 47, 162, 47), (0, 0, 1, 0, 0), (3, 0, 0, 0, 3), (6, 300, 1, 12, 231), (8, 0, 0, 0, 0)]
abbrev zc_301 : List (List zI0) := [zb_301_0, zb_301_1, zb_301_2, zb_301_3]
abbrev zb_302_0 : List zI0 := [(0, 0, 1, 0, 0), (0, 0, 1, 0, 0), (1, 12, 47, 162, 47), (17, 1, 0, 0, 0), (3, 0, 0, 0, 1), (10, 2, 0, 0, 0)]
abbrev zb_302_1 : List zI0 := [(3, 0, 0, 0, 0), (111, 2, 0, 0, 0)]
abbrev zb_302_2 : List zI0 := [(3, 0, 0, 0, 1), (6, 212, 2, 12, 187), (14, 3, 0, 0, 0), (3, 0, 0, 0, 0), (8, 0, 0, 0, 0)]
abbrev zb_302_3 : List zI0 := [(0, 0, 1, 0, 0), (3, 0, 0, 0, 3), (6, 300, 1, 12, 231), (15, 4, 0, 0, 0), (3, 0, 0, 0, 0), (10, 5, 0, 0, 0)]
abbrev zb_302_4 : List zI0 := [(0, 0, 1, 0, 0), (1, 12, 48, 171, 48), (3, 1, 0, 0, 6), (39, 0, 0, 0, 0), (3, 1, 0, 0, 10), (40, 0, 0, 0, 0), (0, 0, 1, 0, 0), (3, 0, 0, 0, 3), (6, 300, 1, 12, 231), (40, 0, 0, 0, 0), (111, 5, 0, 0, 0)]
abbrev zb_302_5 : List zI0 := [(30, 1, 1, 0, 0), (0, 0, 1, 0, 0), (3, 0, 0, 0, 2), (6, 300, 1, 12, 231), (15, 6, 0, 0, 0), (3, 0, 0, 0, 0), (10, 7, 0, 0, 0)]
abbrev zb_302_6 : List zI0 := [(0, 0, 1, 0, 0), (1, 12, 48, 171, 48), (3, 0, 0, 0, 2), (39, 0, 0, 0, 0), (3, 1, 0, 0, 10), (40, 0, 0, 0, 0), (0, 0, 1, 0, 0), (3, 0, 0, 0, 2), (6, 300, 1, 12, 231), (40, 0, 0, 0, 0), (111, 7, 0, 0, 0)]
abbrev zb_302_7 : List zI0 := [(30, 2, 1, 0, 0), (3, 0, 0, 0, 0), (30, 3, 1, 0, 0), (3, 0, 0, 0, 0), (30, 4, 0, 0, 0), (111, 8, 0, 0, 0)]
abbrev zb_302_8 : List zI0 := [(4, 4, 0, 0, 0), (0, 0, 1, 0, 0), (1, 12, 46, 170, 46), (23, 14, 0, 0, 0), (0, 0, 1, 0, 0), (2, 12, 29, 157, 29), (4, 4, 0, 0, 0), (34, 0, 0, 0, 0), (3, 0, 0, 0, 1), (33, 0, 0, 0, 0), (0, 0, 1, 0, 0), (1, 12, 47, 162, 47), (42, 0, 0, 0, 0), (5, 324, 1, 0, 229), (30, 5, 0, 0, 0), (0, 0, 1, 0, 0), (2, 12, 29, 157, 29), (4, 4, 0, 0, 0), (34, 0, 0, 0, 0), (3, 0, 0, 0, 0), (33, 0, 0, 0, 0), (17, 9, 0, 0, 0), (3, 0, 0, 0, 0), (10, 12, 0, 0, 0)]
abbrev zb_302_9 : List zI0 := [(4, 5, 0, 0, 0), (3, 0, 0, 0, 3), (21, 10, 0, 0, 0), (4, 1, 1, 0, 0), (10, 12, 0, 0, 0)]
abbrev zb_302_10 : List zI0 := [(4, 5, 0, 0, 0), (3, 0, 0, 0, 2), (21, 11, 0, 0, 0), (4, 2, 1, 0, 0), (10, 12, 0, 0, 0)]
abbrev zb_302_11 : List zI0 := [(3, 0, 0, 0, 0), (111, 12, 0, 0, 0)]
abbrev zb_302_12 : List zI0 := [(30, 6, 0, 0, 0), (4, 6, 0, 0, 0), (19, 13, 0, 0, 0), (0, 0, 1, 0, 0), (2, 12, 30, 158, 30), (0, 0, 1, 0, 0), (2, 12, 29, 157, 29), (4, 4, 0, 0, 0), (34, 0, 0, 0, 0), (3, 0, 0, 0, 0), (33, 0, 0, 0, 0), (34, 0, 0, 0, 0), (0, 0, 1, 0, 0), (1, 12, 33, 165, 33), (3, 0, 0, 0, 4), (41, 0, 0, 0, 0), (48, 0, 0, 0, 0), (33, 0, 0, 0, 0), (4, 6, 0, 0, 0), (37, 0, 0, 0, 0), (35, 0, 0, 0, 0), (4, 3, 1, 0, 0), (4, 6, 0, 0, 0), (37, 0, 0, 0, 0), (30, 3, 1, 0, 0), (111, 13, 0, 0, 0)]
abbrev zb_302_13 : List zI0 := [(32, 4, 0, 0, 1), (10, 8, 0, 0, 0)]
abbrev zb_302_14 : List zI0 := [(0, 0, 1, 0, 0), (47, 0, 0, 0, 0), (1, 12, 48, 171, 48), (4, 3, 1, 0, 0), (38, 0, 0, 0, 0), (11, 12, 48, 171, 48), (0, 0, 1, 0, 0), (3, 0, 0, 0, 0), (11, 12, 46, 170, 46), (0, 0, 1, 0, 0), (3, 0, 0, 0, (-1)), (11, 12, 47, 162, 47), (4, 3, 1, 0, 0), (8, 0, 0, 0, 0)]
abbrev zc_302 : List (List zI0) := [zb_302_0, zb_302_1, zb_302_2, zb_302_3, zb_302_4, zb_302_5, zb_302_6, zb_302_7, zb_302_8, zb_302_9, zb_302_10, zb_302_11, zb_302_12, zb_302_13, zb_302_14]
abbrev zb_303_0 : List zI0 := [(0, 0, 1, 0, 0), (0, 0, 1, 0, 0), (4, 1, 1, 0, 0), (6, 214, 1, 12, 188), (3, 0, 0, 0, 1), (6, 212, 2, 12, 187), (14, 1, 0, 0, 0), (3, 0, 0, 0, 0), (8, 0, 0, 0, 0)]
abbrev zb_303_1 : List zI0 := [(3, 0, 0, 0, 0), (30, 2, 1, 0, 0), (3, 0, 0, 0, 0), (30, 3, 1, 0, 0), (111, 2, 0, 0, 0)]
abbrev zb_303_2 : List zI0 := [(4, 3, 1, 0, 0), (3, 0, 0, 0, 4), (23, 3, 0, 0, 0), (4, 2, 1, 0, 0), (0, 0, 1, 0, 0), (2, 12, 30, 158, 30), (4, 1, 1, 0, 0), (34, 0, 0, 0, 0), (4, 3, 1, 0, 0), (33, 0, 0, 0, 0), (37, 0, 0, 0, 0), (30, 2, 1, 0, 0), (32, 3, 0, 0, 1), (10, 2, 0, 0, 0)]
abbrev zb_303_3 : List zI0 := [(0, 0, 1, 0, 0), (4, 2, 1, 0, 0), (15, 4, 0, 0, 0), (3, 0, 0, 0, 1), (10, 5, 0, 0, 0)]
abbrev zb_303_4 : List zI0 := [(3, 0, 0, 0, 0), (111, 5, 0, 0, 0)]
abbrev zb_303_5 : List zI0 := [(3, 0, 0, 0, 2), (6, 212, 2, 12, 187), (14, 6, 0, 0, 0), (3, 0, 0, 0, 0), (8, 0, 0, 0, 0)]
abbrev zb_303_6 : List zI0 := [(3, 0, 0, 0, 0), (30, 3, 1, 0, 0), (111, 7, 0, 0, 0)]
abbrev zb_303_7 : List zI0 := [(4, 3, 1, 0, 0), (3, 0, 0, 0, 4), (23, 8, 0, 0, 0), (0, 0, 1, 0, 0), (2, 12, 30, 158, 30), (4, 1, 1, 0, 0), (34, 0, 0, 0, 0), (4, 3, 1, 0, 0), (3, 0, 0, 0, 0), (35, 0, 0, 0, 0), (32, 3, 0, 0, 1), (10, 7, 0, 0, 0)]
abbrev zb_303_8 : List zI0 := [(0, 0, 1, 0, 0), (2, 12, 1, 129, 1), (4, 1, 1, 0, 0), (48, 0, 0, 0, 0), (33, 0, 0, 0, 0), (4, 2, 1, 0, 0), (37, 0, 0, 0, 0), (35, 0, 0, 0, 0), (4, 2, 1, 0, 0), (8, 0, 0, 0, 0)]
abbrev zc_303 : List (List zI0) := [zb_303_0, zb_303_1, zb_303_2, zb_303_3, zb_303_4, zb_303_5, zb_303_6, zb_303_7, zb_303_8]
abbrev zb_304_0 : List zI0 := [(0, 0, 1, 0, 0), (3, 0, 0, 0, 0), (11, 12, 49, 163, 49), (0, 0, 1, 0, 0), (1, 12, 48, 171, 48), (8, 0, 0, 0, 0)]
abbrev zc_304 : List (List zI0) := [zb_304_0]
abbrev zb_305_0 : List zI0 := [(0, 0, 1, 0, 0), (3, 0, 0, 0, 0), (11, 12, 49, 163, 49), (0, 0, 1, 0, 0), (1, 12, 33, 165, 33), (8, 0, 0, 0, 0)]
abbrev zc_305 : List (List zI0) := [zb_305_0]
abbrev zb_306_0 : List zI0 := [(0, 0, 1, 0, 0), (0, 0, 1, 0, 0), (4, 1, 1, 0, 0), (6, 214, 1, 12, 188), (3, 0, 0, 0, 1), (6, 212, 2, 12, 187), (14, 1, 0, 0, 0), (3, 0, 0, 0, 0), (10, 2, 0, 0, 0)]
abbrev zb_306_1 : List zI0 := [(0, 0, 1, 0, 0), (2, 12, 0, 128, 0), (4, 1, 1, 0, 0), (33, 0, 0, 0, 0), (111, 2, 0, 0, 0)]
abbrev zb_306_2 : List zI0 := [(8, 0, 0, 0, 0)]
abbrev zc_306 : List (List zI0) := [zb_306_0, zb_306_1, zb_306_2]
abbrev zb_307_0 : List zI0 := [(0, 0, 1, 0, 0), (0, 0, 1, 0, 0), (4, 1, 1, 0, 0), (6, 214, 1, 12, 188), (3, 0, 0, 0, 1), (6, 212, 2, 12, 187), (14, 1, 0, 0, 0), (3, 0, 0, 0, 0), (10, 2, 0, 0, 0)]
abbrev zb_307_1 : List zI0 := [(0, 0, 1, 0, 0), (2, 12, 1, 129, 1), (4, 1, 1, 0, 0), (33, 0, 0, 0, 0), (111, 2, 0, 0, 0)]
abbrev zb_307_2 : List zI0 := [(8, 0, 0, 0, 0)]
abbrev zc_307 : List (List zI0) := [zb_307_0, zb_307_1, zb_307_2]
abbrev zb_308_0 : List zI0 := [(0, 0, 1, 0, 0), (0, 0, 1, 0, 0), (4, 1, 1, 0, 0), (6, 214, 1, 12, 188), (3, 0, 0, 0, 1), (6, 212, 2, 12, 187), (15, 1, 0, 0, 0), (0, 0, 1, 0, 0), (4, 1, 1, 0, 0), (6, 219, 1, 12, 190), (14, 1, 0, 0, 0), (3, 0, 0, 0, 1), (10, 2, 0, 0, 0)]
abbrev zb_308_1 : List zI0 := [(3, 0, 0, 0, 0), (111, 2, 0, 0, 0)]
abbrev zb_308_2 : List zI0 := [(9, 0, 0, 0, 0)]
abbrev zc_308 : List (List zI0) := [zb_308_0, zb_308_1, zb_308_2]
abbrev zb_309_0 : List zI0 := [(0, 0, 1, 0, 0), (0, 0, 1, 0, 0), (4, 1, 1, 0, 0), (6, 214, 1, 12, 188), (3, 0, 0, 0, 1), (6, 212, 2, 12, 187), (14, 1, 0, 0, 0), (3, 0, 0, 0, 0), (10, 2, 0, 0, 0)]
abbrev zb_309_1 : List zI0 := [(0, 0, 1, 0, 0), (2, 12, 2, 130, 2), (4, 1, 1, 0, 0), (33, 0, 0, 0, 0), (111, 2, 0, 0, 0)]
abbrev zb_309_2 : List zI0 := [(8, 0, 0, 0, 0)]
abbrev zc_309 : List (List zI0) := [zb_309_0, zb_309_1, zb_309_2]
abbrev zb_310_0 : List zI0 := [(0, 0, 1, 0, 0), (0, 0, 1, 0, 0), (4, 1, 1, 0, 0), (6, 214, 1, 12, 188), (3, 0, 0, 0, 1), (6, 212, 2, 12, 187), (14, 1, 0, 0, 0), (3, 0, 0, 0, 0), (10, 2, 0, 0, 0)]
abbrev zb_310_1 : List zI0 := [(0, 0, 1, 0, 0), (2, 12, 4, 132, 4), (4, 1, 1, 0, 0), (33, 0, 0, 0, 0), (111, 2, 0, 0, 0)]
abbrev zb_310_2 : List zI0 := [(8, 0, 0, 0, 0)]
abbrev zc_310 : List (List zI0) := [zb_310_0, zb_310_1, zb_310_2]
abbrev zb_311_0 : List zI0 := [(0, 0, 1, 0, 0), (4, 1, 1, 0, 0), (5, 225, 1, 0, 194), (3, 0, 0, 0, 1), (6, 212, 2, 12, 187), (14, 1, 0, 0, 0), (3, 0, 0, 0, 0), (10, 2, 0, 0, 0)]
abbrev zb_311_1 : List zI0 := [(0, 0, 1, 0, 0), (2, 12, 10, 138, 10), (4, 1, 1, 0, 0), (33, 0, 0, 0, 0), (111, 2, 0, 0, 0)]
abbrev zb_311_2 : List zI0 := [(8, 0, 0, 0, 0)]
abbrev zc_311 : List (List zI0) := [zb_311_0, zb_311_1, zb_311_2]
abbrev zb_312_0 : List zI0 := [(0, 0, 1, 0, 0), (3, 0, 0, 0, 0), (11, 12, 49, 163, 49), (0, 0, 1, 0, 0), (1, 12, 32, 159, 32), (8, 0, 0, 0, 0)]
abbrev zc_312 : List (List zI0) := [zb_312_0]
abbrev zb_313_0 : List zI0 := [(64, 0, 0, 0, 1), (74, 3, 1, 0, 0), (3, 0, 0, 0, 0), (30, 5, 0, 0, 0), (111, 1, 0, 0, 0)]
abbrev zb_313_1 : List zI0 := [(4, 5, 0, 0, 0), (4, 2, 1, 0, 0), (23, 2, 0, 0, 0), (73, 3, 1, 0, 0), (73, 0, 1, 0, 0), (69, 0, 0, 0, 0), (74, 3, 1, 0, 0), (32, 5, 0, 0, 1), (10, 1, 0, 0, 0)]
abbrev zb_313_2 : List zI0 := [(73, 3, 1, 0, 0), (52, 0, 0, 0, 0)]
abbrev zc_313 : List (List zI0) := [zb_313_0, zb_313_1, zb_313_2]
abbrev zb_314_0 : List zI0 := [(0, 0, 1, 0, 0), (4, 2, 1, 0, 0), (3, 0, 0, 0, 1), (3, 1, 0, 0, 14), (5, 213, 3, 0, 186), (14, 1, 0, 0, 0), (4, 1, 1, 0, 0), (3, 0, 0, 0, 0), (4, 2, 1, 0, 0), (5, 213, 3, 0, 186), (15, 2, 0, 0, 0), (111, 1, 0, 0, 0)]
abbrev zb_314_1 : List zI0 := [(3, 0, 0, 0, 1), (10, 3, 0, 0, 0)]
abbrev zb_314_2 : List zI0 := [(3, 0, 0, 0, 0), (111, 3, 0, 0, 0)]
abbrev zb_314_3 : List zI0 := [(3, 0, 0, 0, 1), (6, 212, 2, 12, 187), (14, 4, 0, 0, 0), (64, 0, 0, 0, 0), (52, 0, 0, 0, 0)]
abbrev zb_314_4 : List zI0 := [(64, 1, 15, 0, 19), (4, 1, 1, 0, 0), (5, 313, 2, 0, 232), (64, 1, 16, 0, 18), (4, 1, 1, 0, 0), (5, 313, 2, 0, 232), (68, 0, 0, 0, 0), (64, 1, 16, 0, 18), (4, 2, 1, 0, 0), (4, 1, 1, 0, 0), (38, 0, 0, 0, 0), (5, 313, 2, 0, 232), (69, 0, 0, 0, 0), (74, 4, 0, 0, 0), (64, 1, 15, 0, 19), (4, 2, 1, 0, 0), (5, 313, 2, 0, 232), (64, 1, 16, 0, 18), (4, 2, 1, 0, 0), (5, 313, 2, 0, 232), (68, 0, 0, 0, 0), (74, 6, 0, 0, 0), (4, 3, 1, 0, 0), (14, 5, 0, 0, 0), (73, 4, 0, 0, 0), (10, 6, 0, 0, 0)]
abbrev zb_314_5 : List zI0 := [(73, 6, 0, 0, 0), (111, 6, 0, 0, 0)]
abbrev zb_314_6 : List zI0 := [(73, 4, 0, 0, 0), (73, 6, 0, 0, 0), (5, 267, 2, 0, 220), (70, 0, 0, 0, 0), (52, 0, 0, 0, 0)]
abbrev zc_314 : List (List zI0) := [zb_314_0, zb_314_1, zb_314_2, zb_314_3, zb_314_4, zb_314_5, zb_314_6]
abbrev zb_315_0 : List zI0 := [(0, 0, 1, 0, 0), (4, 1, 1, 0, 0), (4, 2, 1, 0, 0), (3, 0, 0, 0, 1), (6, 314, 3, 12, 233), (52, 0, 0, 0, 0)]
abbrev zc_315 : List (List zI0) := [zb_315_0]
abbrev zb_316_0 : List zI0 := [(0, 0, 1, 0, 0), (4, 1, 1, 0, 0), (4, 2, 1, 0, 0), (3, 0, 0, 0, 0), (6, 314, 3, 12, 233), (52, 0, 0, 0, 0)]
abbrev zc_316 : List (List zI0) := [zb_316_0]
abbrev zb_317_0 : List zI0 := [(0, 0, 1, 0, 0), (3, 0, 0, 0, 0), (11, 12, 49, 163, 49), (64, 1, 17, 0, 7), (74, 1, 1, 0, 0), (3, 0, 0, 0, 0), (30, 3, 1, 0, 0), (111, 1, 0, 0, 0)]
abbrev zb_317_1 : List zI0 := [(4, 3, 1, 0, 0), (0, 0, 1, 0, 0), (1, 12, 31, 164, 31), (23, 2, 0, 0, 0), (64, 1, 18, 0, 31), (73, 1, 1, 0, 0), (69, 0, 0, 0, 0), (0, 0, 1, 0, 0), (2, 12, 0, 128, 0), (4, 3, 1, 0, 0), (33, 0, 0, 0, 0), (65, 0, 0, 0, 0), (67, 0, 0, 0, 0), (74, 1, 1, 0, 0), (64, 1, 18, 0, 31), (73, 1, 1, 0, 0), (69, 0, 0, 0, 0), (0, 0, 1, 0, 0), (2, 12, 1, 129, 1), (4, 3, 1, 0, 0), (33, 0, 0, 0, 0), (65, 0, 0, 0, 0), (67, 0, 0, 0, 0), (74, 1, 1, 0, 0), (32, 3, 0, 0, 1), (10, 1, 0, 0, 0)]
abbrev zb_317_2 : List zI0 := [(0, 0, 1, 0, 0), (2, 12, 10, 138, 10), (31, 3, 1, 0, 0), (0, 3, 1, 0, 0), (36, 0, 0, 0, 0), (30, 4, 0, 0, 0), (3, 0, 0, 0, 0), (30, 5, 0, 0, 0), (111, 3, 0, 0, 0)]
abbrev zb_317_3 : List zI0 := [(4, 5, 0, 0, 0), (4, 4, 0, 0, 0), (23, 4, 0, 0, 0), (0, 3, 1, 0, 0), (4, 5, 0, 0, 0), (33, 0, 0, 0, 0), (30, 6, 0, 0, 0), (64, 1, 18, 0, 31), (73, 1, 1, 0, 0), (69, 0, 0, 0, 0), (4, 6, 0, 0, 0), (65, 0, 0, 0, 0), (67, 0, 0, 0, 0), (74, 1, 1, 0, 0), (32, 5, 0, 0, 1), (10, 3, 0, 0, 0)]
abbrev zb_317_4 : List zI0 := [(64, 1, 18, 0, 31), (73, 1, 1, 0, 0), (69, 0, 0, 0, 0), (0, 0, 1, 0, 0), (1, 12, 32, 159, 32), (65, 0, 0, 0, 0), (67, 0, 0, 0, 0), (74, 1, 1, 0, 0), (64, 1, 18, 0, 31), (73, 1, 1, 0, 0), (69, 0, 0, 0, 0), (0, 0, 1, 0, 0), (1, 12, 41, 176, 41), (65, 0, 0, 0, 0), (67, 0, 0, 0, 0), (74, 1, 1, 0, 0), (64, 1, 18, 0, 31), (73, 1, 1, 0, 0), (69, 0, 0, 0, 0), (0, 0, 1, 0, 0), (1, 12, 48, 171, 48), (65, 0, 0, 0, 0), (67, 0, 0, 0, 0), (52, 0, 0, 0, 0)]
abbrev zc_317 : List (List zI0) := [zb_317_0, zb_317_1, zb_317_2, zb_317_3, zb_317_4]
abbrev zb_318_0 : List zI0 := [(0, 0, 1, 0, 0), (3, 0, 0, 0, 0), (11, 12, 49, 163, 49), (0, 0, 1, 0, 0), (1, 12, 32, 159, 32), (95, 0, 0, 0, 0), (98, 1, 19, 0, 1203982336), (90, 0, 0, 0, 0), (5, 323, 1, 0, 234), (8, 0, 0, 0, 0)]
abbrev zc_318 : List (List zI0) := [zb_318_0]
abbrev zb_319_0 : List zI0 := [(0, 0, 1, 0, 0), (0, 0, 1, 0, 0), (1, 12, 31, 164, 31), (15, 1, 0, 0, 0), (3, 0, 0, 0, 1), (10, 2, 0, 0, 0)]
abbrev zb_319_1 : List zI0 := [(3, 0, 0, 0, 0), (111, 2, 0, 0, 0)]
abbrev zb_319_2 : List zI0 := [(3, 0, 0, 0, 1), (6, 212, 2, 12, 187), (14, 3, 0, 0, 0), (87, 0, 0, 0, 0), (54, 0, 0, 0, 0)]
abbrev zb_319_3 : List zI0 := [(3, 0, 0, 0, 0), (30, 1, 1, 0, 0), (3, 0, 0, 0, 0), (30, 2, 1, 0, 0), (111, 4, 0, 0, 0)]
abbrev zb_319_4 : List zI0 := [(4, 2, 1, 0, 0), (0, 0, 1, 0, 0), (1, 12, 31, 164, 31), (23, 7, 0, 0, 0), (4, 1, 1, 0, 0), (0, 0, 1, 0, 0), (4, 2, 1, 0, 0), (6, 219, 1, 12, 190), (14, 5, 0, 0, 0), (3, 0, 0, 0, 1), (10, 6, 0, 0, 0)]
abbrev zb_319_5 : List zI0 := [(3, 0, 0, 0, 0), (111, 6, 0, 0, 0)]
abbrev zb_319_6 : List zI0 := [(37, 0, 0, 0, 0), (30, 1, 1, 0, 0), (32, 2, 0, 0, 1), (10, 4, 0, 0, 0)]
abbrev zb_319_7 : List zI0 := [(4, 1, 1, 0, 0), (95, 0, 0, 0, 0), (0, 0, 1, 0, 0), (1, 12, 31, 164, 31), (95, 0, 0, 0, 0), (90, 0, 0, 0, 0), (54, 0, 0, 0, 0)]
abbrev zc_319 : List (List zI0) := [zb_319_0, zb_319_1, zb_319_2, zb_319_3, zb_319_4, zb_319_5, zb_319_6, zb_319_7]
abbrev zb_320_0 : List zI0 := [(0, 0, 1, 0, 0), (0, 0, 1, 0, 0), (1, 12, 31, 164, 31), (15, 1, 0, 0, 0), (3, 0, 0, 0, 1), (10, 2, 0, 0, 0)]
abbrev zb_320_1 : List zI0 := [(3, 0, 0, 0, 0), (111, 2, 0, 0, 0)]
abbrev zb_320_2 : List zI0 := [(3, 0, 0, 0, 1), (6, 212, 2, 12, 187), (14, 3, 0, 0, 0), (77, 0, 0, 0, 0), (53, 0, 0, 0, 0)]
abbrev zb_320_3 : List zI0 := [(3, 0, 0, 0, 0), (30, 1, 1, 0, 0), (3, 0, 0, 0, 0), (30, 2, 1, 0, 0), (111, 4, 0, 0, 0)]
abbrev zb_320_4 : List zI0 := [(4, 2, 1, 0, 0), (0, 0, 1, 0, 0), (1, 12, 31, 164, 31), (23, 5, 0, 0, 0), (4, 1, 1, 0, 0), (0, 0, 1, 0, 0), (2, 12, 1, 129, 1), (4, 2, 1, 0, 0), (33, 0, 0, 0, 0), (37, 0, 0, 0, 0), (30, 1, 1, 0, 0), (32, 2, 0, 0, 1), (10, 4, 0, 0, 0)]
abbrev zb_320_5 : List zI0 := [(4, 1, 1, 0, 0), (86, 0, 0, 0, 0), (0, 0, 1, 0, 0), (1, 12, 31, 164, 31), (86, 0, 0, 0, 0), (84, 0, 0, 0, 0), (53, 0, 0, 0, 0)]
abbrev zc_320 : List (List zI0) := [zb_320_0, zb_320_1, zb_320_2, zb_320_3, zb_320_4, zb_320_5]
abbrev zb_321_0 : List zI0 := [(0, 0, 1, 0, 0), (3, 0, 0, 0, 0), (11, 12, 49, 163, 49), (3, 0, 0, 0, 1), (9, 0, 0, 0, 0)]
abbrev zc_321 : List (List zI0) := [zb_321_0]
abbrev zb_322_0 : List zI0 := [(88, 0, 1, 0, 0), (88, 0, 1, 0, 0), (94, 0, 0, 0, 0), (14, 1, 0, 0, 0), (3, 0, 0, 0, 1), (10, 2, 0, 0, 0)]
abbrev zb_322_1 : List zI0 := [(3, 0, 0, 0, 0), (111, 2, 0, 0, 0)]
abbrev zb_322_2 : List zI0 := [(9, 0, 0, 0, 0)]
abbrev zc_322 : List (List zI0) := [zb_322_0, zb_322_1, zb_322_2]
abbrev zb_323_0 : List zI0 := [(88, 0, 1, 0, 0), (5, 322, 1, 0, 235), (15, 1, 0, 0, 0), (88, 0, 1, 0, 0), (107, 0, 0, 0, 74), (8, 0, 0, 0, 0)]
abbrev zb_323_1 : List zI0 := [(3, 3, 20, 0, 2143289344), (8, 0, 0, 0, 0)]
abbrev zc_323 : List (List zI0) := [zb_323_0, zb_323_1]
abbrev zb_324_0 : List zI0 := [(4, 0, 1, 0, 0), (4, 0, 1, 0, 0), (3, 0, 0, 0, 1), (45, 0, 0, 0, 0), (3, 4, 21, 0, 1431655765), (42, 0, 0, 0, 0), (38, 0, 0, 0, 0), (30, 0, 1, 0, 0), (4, 0, 1, 0, 0), (3, 4, 22, 0, 858993459), (42, 0, 0, 0, 0), (4, 0, 1, 0, 0), (3, 0, 0, 0, 2), (45, 0, 0, 0, 0), (3, 4, 22, 0, 858993459), (42, 0, 0, 0, 0), (37, 0, 0, 0, 0), (30, 0, 1, 0, 0), (4, 0, 1, 0, 0), (4, 0, 1, 0, 0), (3, 0, 0, 0, 4), (45, 0, 0, 0, 0), (37, 0, 0, 0, 0), (3, 4, 23, 0, 252645135), (42, 0, 0, 0, 0), (30, 0, 1, 0, 0), (4, 0, 1, 0, 0), (4, 0, 1, 0, 0), (3, 1, 0, 0, 8), (45, 0, 0, 0, 0), (37, 0, 0, 0, 0), (30, 0, 1, 0, 0), (4, 0, 1, 0, 0), (4, 0, 1, 0, 0), (3, 1, 0, 0, 16), (45, 0, 0, 0, 0), (37, 0, 0, 0, 0), (30, 0, 1, 0, 0), (4, 0, 1, 0, 0), (3, 1, 0, 0, 63), (42, 0, 0, 0, 0), (8, 0, 0, 0, 0)]
abbrev zc_324 : List (List zI0) := [zb_324_0]
abbrev zb_325_0 : List zI0 := [(4, 0, 1, 0, 0), (4, 1, 1, 0, 0), (41, 0, 0, 0, 0), (30, 2, 1, 0, 0), (4, 0, 1, 0, 0), (4, 1, 1, 0, 0), (46, 0, 0, 0, 0), (17, 1, 0, 0, 0), (4, 2, 1, 0, 0), (14, 1, 0, 0, 0), (4, 2, 1, 0, 0), (4, 1, 1, 0, 0), (37, 0, 0, 0, 0), (8, 0, 0, 0, 0)]
abbrev zb_325_1 : List zI0 := [(4, 2, 1, 0, 0), (8, 0, 0, 0, 0)]
abbrev zc_325 : List (List zI0) := [zb_325_0, zb_325_1]
abbrev zb_326_0 : List zI0 := [(4, 0, 1, 0, 0), (4, 1, 1, 0, 0), (22, 1, 0, 0, 0), (4, 0, 1, 0, 0), (10, 2, 0, 0, 0)]
abbrev zb_326_1 : List zI0 := [(4, 1, 1, 0, 0), (111, 2, 0, 0, 0)]
abbrev zb_326_2 : List zI0 := [(8, 0, 0, 0, 0)]
abbrev zc_326 : List (List zI0) := [zb_326_0, zb_326_1, zb_326_2]
abbrev zb_327_0 : List zI0 := [(4, 0, 1, 0, 0), (4, 1, 1, 0, 0), (24, 1, 0, 0, 0), (4, 0, 1, 0, 0), (10, 2, 0, 0, 0)]
abbrev zb_327_1 : List zI0 := [(4, 1, 1, 0, 0), (111, 2, 0, 0, 0)]
abbrev zb_327_2 : List zI0 := [(8, 0, 0, 0, 0)]
abbrev zc_327 : List (List zI0) := [zb_327_0, zb_327_1, zb_327_2]
abbrev zb_328_0 : List zI0 := [(3, 0, 0, 0, 0), (30, 2, 1, 0, 0), (0, 0, 1, 0, 0), (36, 0, 0, 0, 0), (30, 3, 1, 0, 0), (111, 1, 0, 0, 0)]
abbrev zb_328_1 : List zI0 := [(4, 2, 1, 0, 0), (4, 3, 1, 0, 0), (23, 2, 0, 0, 0), (0, 0, 1, 0, 0), (4, 2, 1, 0, 0), (4, 1, 1, 0, 0), (35, 0, 0, 0, 0), (32, 2, 0, 0, 1), (10, 1, 0, 0, 0)]
abbrev zb_328_2 : List zI0 := [(50, 0, 0, 0, 0)]
abbrev zc_328 : List (List zI0) := [zb_328_0, zb_328_1, zb_328_2]
abbrev zb_329_0 : List zI0 := [(0, 2, 1, 0, 0), (3, 0, 0, 0, 0), (0, 0, 1, 0, 0), (4, 1, 1, 0, 0), (6, 118, 1, 11, 236), (65, 0, 0, 0, 0), (76, 0, 0, 0, 0), (10, 3, 0, 0, 0)]
abbrev zb_329_1 : List zI0 := [(3, 0, 0, 0, 1), (8, 0, 0, 0, 0)]
abbrev zb_329_2 : List zI0 := [(3, 0, 0, 0, 2), (8, 0, 0, 0, 0)]
abbrev zb_329_3 : List zI0 := [(3, 0, 0, 0, 0), (8, 0, 0, 0, 0)]
abbrev zc_329 : List (List zI0) := [zb_329_0, zb_329_1, zb_329_2, zb_329_3]
abbrev zb_330_0 : List zI0 := [(0, 3, 1, 0, 0), (3, 0, 0, 0, 0), (0, 0, 1, 0, 0), (4, 1, 1, 0, 0), (4, 2, 1, 0, 0), (6, 119, 2, 11, 237), (65, 0, 0, 0, 0), (76, 0, 0, 0, 0), (10, 4, 0, 0, 0)]
abbrev zb_330_1 : List zI0 := [(3, 0, 0, 0, 1), (8, 0, 0, 0, 0)]
abbrev zb_330_2 : List zI0 := [(3, 0, 0, 0, 2), (8, 0, 0, 0, 0)]
abbrev zb_330_3 : List zI0 := [(3, 0, 0, 0, 3), (8, 0, 0, 0, 0)]
abbrev zb_330_4 : List zI0 := [(3, 0, 0, 0, 0), (8, 0, 0, 0, 0)]
abbrev zc_330 : List (List zI0) := [zb_330_0, zb_330_1, zb_330_2, zb_330_3, zb_330_4]
abbrev zb_331_0 : List zI0 := [(0, 3, 1, 0, 0), (3, 0, 0, 0, 0), (0, 0, 1, 0, 0), (4, 1, 1, 0, 0), (4, 2, 1, 0, 0), (6, 120, 2, 11, 238), (65, 0, 0, 0, 0), (76, 0, 0, 0, 0), (10, 4, 0, 0, 0)]
abbrev zb_331_1 : List zI0 := [(3, 0, 0, 0, 1), (8, 0, 0, 0, 0)]
abbrev zb_331_2 : List zI0 := [(3, 0, 0, 0, 2), (8, 0, 0, 0, 0)]
abbrev zb_331_3 : List zI0 := [(3, 0, 0, 0, 3), (8, 0, 0, 0, 0)]
abbrev zb_331_4 : List zI0 := [(3, 0, 0, 0, 0), (8, 0, 0, 0, 0)]
abbrev zc_331 : List (List zI0) := [zb_331_0, zb_331_1, zb_331_2, zb_331_3, zb_331_4]
abbrev zb_332_0 : List zI0 := [(0, 3, 1, 0, 0), (3, 0, 0, 0, 0), (0, 0, 1, 0, 0), (4, 1, 1, 0, 0), (4, 2, 1, 0, 0), (6, 121, 2, 11, 239), (65, 0, 0, 0, 0), (76, 0, 0, 0, 0), (10, 3, 0, 0, 0)]
abbrev zb_332_1 : List zI0 := [(3, 0, 0, 0, 1), (8, 0, 0, 0, 0)]
abbrev zb_332_2 : List zI0 := [(3, 0, 0, 0, 2), (8, 0, 0, 0, 0)]
abbrev zb_332_3 : List zI0 := [(3, 0, 0, 0, 0), (8, 0, 0, 0, 0)]
abbrev zc_332 : List (List zI0) := [zb_332_0, zb_332_1, zb_332_2, zb_332_3]
abbrev zb_333_0 : List zI0 := [(0, 3, 1, 0, 0), (3, 0, 0, 0, 0), (0, 0, 1, 0, 0), (4, 1, 1, 0, 0), (4, 2, 1, 0, 0), (6, 122, 2, 11, 240), (65, 0, 0, 0, 0), (76, 0, 0, 0, 0), (10, 3, 0, 0, 0)]
abbrev zb_333_1 : List zI0 := [(3, 0, 0, 0, 1), (8, 0, 0, 0, 0)]
abbrev zb_333_2 : List zI0 := [(3, 0, 0, 0, 2), (8, 0, 0, 0, 0)]
abbrev zb_333_3 : List zI0 := [(3, 0, 0, 0, 0), (8, 0, 0, 0, 0)]
abbrev zc_333 : List (List zI0) := [zb_333_0, zb_333_1, zb_333_2, zb_333_3]
abbrev zb_334_0 : List zI0 := [(0, 2, 1, 0, 0), (3, 0, 0, 0, 0), (0, 0, 1, 0, 0), (4, 1, 1, 0, 0), (6, 123, 1, 11, 241), (65, 0, 0, 0, 0), (76, 0, 0, 0, 0), (10, 3, 0, 0, 0)]
abbrev zb_334_1 : List zI0 := [(3, 0, 0, 0, 1), (8, 0, 0, 0, 0)]
abbrev zb_334_2 : List zI0 := [(3, 0, 0, 0, 2), (8, 0, 0, 0, 0)]
abbrev zb_334_3 : List zI0 := [(3, 0, 0, 0, 0), (8, 0, 0, 0, 0)]
abbrev zc_334 : List (List zI0) := [zb_334_0, zb_334_1, zb_334_2, zb_334_3]
abbrev zb_335_0 : List zI0 := [(0, 3, 1, 0, 0), (3, 0, 0, 0, 0), (0, 0, 1, 0, 0), (4, 1, 1, 0, 0), (4, 2, 1, 0, 0), (6, 124, 2, 11, 242), (65, 0, 0, 0, 0), (76, 0, 0, 0, 0), (10, 4, 0, 0, 0)]
abbrev zb_335_1 : List zI0 := [(3, 0, 0, 0, 1), (8, 0, 0, 0, 0)]
abbrev zb_335_2 : List zI0 := [(3, 0, 0, 0, 2), (8, 0, 0, 0, 0)]
abbrev zb_335_3 : List zI0 := [(3, 0, 0, 0, 3), (8, 0, 0, 0, 0)]
abbrev zb_335_4 : List zI0 := [(3, 0, 0, 0, 0), (8, 0, 0, 0, 0)]
abbrev zc_335 : List (List zI0) := [zb_335_0, zb_335_1, zb_335_2, zb_335_3, zb_335_4]
abbrev zb_336_0 : List zI0 := [(0, 3, 1, 0, 0), (3, 0, 0, 0, 0), (0, 0, 1, 0, 0), (4, 1, 1, 0, 0), (4, 2, 1, 0, 0), (6, 125, 2, 11, 243), (65, 0, 0, 0, 0), (76, 0, 0, 0, 0), (10, 4, 0, 0, 0)]
abbrev zb_336_1 : List zI0 := [(3, 0, 0, 0, 1), (8, 0, 0, 0, 0)]
abbrev zb_336_2 : List zI0 := [(3, 0, 0, 0, 2), (8, 0, 0, 0, 0)]
abbrev zb_336_3 : List zI0 := [(3, 0, 0, 0, 3), (8, 0, 0, 0, 0)]
abbrev zb_336_4 : List zI0 := [(3, 0, 0, 0, 0), (8, 0, 0, 0, 0)]
abbrev zc_336 : List (List zI0) := [zb_336_0, zb_336_1, zb_336_2, zb_336_3, zb_336_4]
abbrev zb_337_0 : List zI0 := [(0, 2, 1, 0, 0), (3, 0, 0, 0, 0), (0, 0, 1, 0, 0), (4, 1, 1, 0, 0), (6, 127, 1, 11, 244), (65, 0, 0, 0, 0), (76, 0, 0, 0, 0), (10, 2, 0, 0, 0)]
abbrev zb_337_1 : List zI0 := [(3, 0, 0, 0, 1), (8, 0, 0, 0, 0)]
abbrev zb_337_2 : List zI0 := [(3, 0, 0, 0, 0), (8, 0, 0, 0, 0)]
abbrev zc_337 : List (List zI0) := [zb_337_0, zb_337_1, zb_337_2]
abbrev zb_338_0 : List zI0 := [(0, 3, 1, 0, 0), (3, 0, 0, 0, 0), (0, 0, 1, 0, 0), (4, 1, 1, 0, 0), (4, 2, 1, 0, 0), (6, 128, 2, 11, 245), (14, 1, 0, 0, 0), (64, 0, 0, 0, 1), (10, 2, 0, 0, 0)]
abbrev zb_338_1 : List zI0 := [(64, 0, 0, 0, 0), (111, 2, 0, 0, 0)]
abbrev zb_338_2 : List zI0 := [(76, 0, 0, 0, 0), (10, 5, 0, 0, 0)]
abbrev zb_338_3 : List zI0 := [(3, 0, 0, 0, 1), (8, 0, 0, 0, 0)]
abbrev zb_338_4 : List zI0 := [(3, 0, 0, 0, 2), (8, 0, 0, 0, 0)]
abbrev zb_338_5 : List zI0 := [(3, 0, 0, 0, 0), (8, 0, 0, 0, 0)]
abbrev zc_338 : List (List zI0) := [zb_338_0, zb_338_1, zb_338_2, zb_338_3, zb_338_4, zb_338_5]
abbrev zb_339_0 : List zI0 := [(0, 2, 1, 0, 0), (3, 0, 0, 0, 0), (0, 0, 1, 0, 0), (4, 1, 1, 0, 0), (6, 129, 1, 11, 246), (65, 0, 0, 0, 0), (76, 0, 0, 0, 0), (10, 3, 0, 0, 0)]
abbrev zb_339_1 : List zI0 := [(3, 0, 0, 0, 1), (8, 0, 0, 0, 0)]
abbrev zb_339_2 : List zI0 := [(3, 0, 0, 0, 2), (8, 0, 0, 0, 0)]
abbrev zb_339_3 : List zI0 := [(3, 0, 0, 0, 0), (8, 0, 0, 0, 0)]
abbrev zc_339 : List (List zI0) := [zb_339_0, zb_339_1, zb_339_2, zb_339_3]
abbrev zb_340_0 : List zI0 := [(0, 2, 1, 0, 0), (3, 0, 0, 0, 0), (0, 0, 1, 0, 0), (4, 1, 1, 0, 0), (6, 130, 1, 11, 247), (65, 0, 0, 0, 0), (76, 0, 0, 0, 0), (10, 3, 0, 0, 0)]
abbrev zb_340_1 : List zI0 := [(3, 0, 0, 0, 1), (8, 0, 0, 0, 0)]
abbrev zb_340_2 : List zI0 := [(3, 0, 0, 0, 2), (8, 0, 0, 0, 0)]
abbrev zb_340_3 : List zI0 := [(3, 0, 0, 0, 0), (8, 0, 0, 0, 0)]
abbrev zc_340 : List (List zI0) := [zb_340_0, zb_340_1, zb_340_2, zb_340_3]
abbrev zb_341_0 : List zI0 := [(0, 2, 1, 0, 0), (3, 0, 0, 0, 0), (0, 0, 1, 0, 0), (4, 1, 1, 0, 0), (6, 131, 1, 11, 248), (65, 0, 0, 0, 0), (76, 0, 0, 0, 0), (10, 3, 0, 0, 0)]
abbrev zb_341_1 : List zI0 := [(3, 0, 0, 0, 1), (8, 0, 0, 0, 0)]
abbrev zb_341_2 : List zI0 := [(3, 0, 0, 0, 2), (8, 0, 0, 0, 0)]
abbrev zb_341_3 : List zI0 := [(3, 0, 0, 0, 0), (8, 0, 0, 0, 0)]
abbrev zc_341 : List (List zI0) := [zb_341_0, zb_341_1, zb_341_2, zb_341_3]
abbrev zb_342_0 : List zI0 := [(0, 4, 0, 0, 0), (3, 0, 0, 0, 0), (0, 0, 1, 0, 0), (4, 1, 1, 0, 0), (4, 2, 1, 0, 0), (4, 3, 1, 0, 0), (6, 132, 3, 11, 249), (65, 0, 0, 0, 0), (76, 0, 0, 0, 0), (10, 5, 0, 0, 0)]
abbrev zb_342_1 : List zI0 := [(3, 0, 0, 0, 1), (8, 0, 0, 0, 0)]
abbrev zb_342_2 : List zI0 := [(3, 0, 0, 0, 2), (8, 0, 0, 0, 0)]
abbrev zb_342_3 : List zI0 := [(3, 0, 0, 0, 3), (8, 0, 0, 0, 0)]
abbrev zb_342_4 : List zI0 := [(3, 0, 0, 0, 4), (8, 0, 0, 0, 0)]
abbrev zb_342_5 : List zI0 := [(3, 0, 0, 0, 0), (8, 0, 0, 0, 0)]
abbrev zc_342 : List (List zI0) := [zb_342_0, zb_342_1, zb_342_2, zb_342_3, zb_342_4, zb_342_5]
abbrev zb_343_0 : List zI0 := [(0, 1, 1, 0, 0), (3, 0, 0, 0, 0), (0, 0, 1, 0, 0), (6, 133, 0, 11, 250), (65, 0, 0, 0, 0), (76, 0, 0, 0, 0), (10, 3, 0, 0, 0)]
abbrev zb_343_1 : List zI0 := [(3, 0, 0, 0, 1), (8, 0, 0, 0, 0)]
abbrev zb_343_2 : List zI0 := [(3, 0, 0, 0, 2), (8, 0, 0, 0, 0)]
abbrev zb_343_3 : List zI0 := [(3, 0, 0, 0, 0), (8, 0, 0, 0, 0)]
abbrev zc_343 : List (List zI0) := [zb_343_0, zb_343_1, zb_343_2, zb_343_3]
abbrev zb_344_0 : List zI0 := [(0, 2, 1, 0, 0), (3, 0, 0, 0, 0), (0, 0, 1, 0, 0), (4, 1, 1, 0, 0), (6, 134, 1, 11, 251), (65, 0, 0, 0, 0), (76, 0, 0, 0, 0), (10, 4, 0, 0, 0)]
abbrev zb_344_1 : List zI0 := [(3, 0, 0, 0, 1), (8, 0, 0, 0, 0)]
abbrev zb_344_2 : List zI0 := [(3, 0, 0, 0, 2), (8, 0, 0, 0, 0)]
abbrev zb_344_3 : List zI0 := [(3, 0, 0, 0, 3), (8, 0, 0, 0, 0)]
abbrev zb_344_4 : List zI0 := [(3, 0, 0, 0, 0), (8, 0, 0, 0, 0)]
abbrev zc_344 : List (List zI0) := [zb_344_0, zb_344_1, zb_344_2, zb_344_3, zb_344_4]
abbrev zb_345_0 : List zI0 := [(0, 2, 1, 0, 0), (3, 0, 0, 0, 0), (0, 0, 1, 0, 0), (4, 1, 1, 0, 0), (6, 135, 1, 11, 252), (65, 0, 0, 0, 0), (76, 0, 0, 0, 0), (10, 4, 0, 0, 0)]
abbrev zb_345_1 : List zI0 := [(3, 0, 0, 0, 1), (8, 0, 0, 0, 0)]
abbrev zb_345_2 : List zI0 := [(3, 0, 0, 0, 2), (8, 0, 0, 0, 0)]
abbrev zb_345_3 : List zI0 := [(3, 0, 0, 0, 3), (8, 0, 0, 0, 0)]
abbrev zb_345_4 : List zI0 := [(3, 0, 0, 0, 0), (8, 0, 0, 0, 0)]
abbrev zc_345 : List (List zI0) := [zb_345_0, zb_345_1, zb_345_2, zb_345_3, zb_345_4]
abbrev zb_346_0 : List zI0 := [(0, 2, 1, 0, 0), (3, 0, 0, 0, 0), (0, 0, 1, 0, 0), (4, 1, 1, 0, 0), (6, 136, 1, 11, 253), (65, 0, 0, 0, 0), (76, 0, 0, 0, 0), (10, 4, 0, 0, 0)]
abbrev zb_346_1 : List zI0 := [(3, 0, 0, 0, 1), (8, 0, 0, 0, 0)]
abbrev zb_346_2 : List zI0 := [(3, 0, 0, 0, 2), (8, 0, 0, 0, 0)]
abbrev zb_346_3 : List zI0 := [(3, 0, 0, 0, 3), (8, 0, 0, 0, 0)]
abbrev zb_346_4 : List zI0 := [(3, 0, 0, 0, 0), (8, 0, 0, 0, 0)]
abbrev zc_346 : List (List zI0) := [zb_346_0, zb_346_1, zb_346_2, zb_346_3, zb_346_4]
abbrev zb_347_0 : List zI0 := [(0, 2, 1, 0, 0), (3, 0, 0, 0, 0), (0, 0, 1, 0, 0), (4, 1, 1, 0, 0), (6, 137, 1, 11, 254), (65, 0, 0, 0, 0), (76, 0, 0, 0, 0), (10, 4, 0, 0, 0)]
abbrev zb_347_1 : List zI0 := [(3, 0, 0, 0, 1), (8, 0, 0, 0, 0)]
abbrev zb_347_2 : List zI0 := [(3, 0, 0, 0, 2), (8, 0, 0, 0, 0)]
abbrev zb_347_3 : List zI0 := [(3, 0, 0, 0, 3), (8, 0, 0, 0, 0)]
abbrev zb_347_4 : List zI0 := [(3, 0, 0, 0, 0), (8, 0, 0, 0, 0)]
abbrev zc_347 : List (List zI0) := [zb_347_0, zb_347_1, zb_347_2, zb_347_3, zb_347_4]
abbrev zb_348_0 : List zI0 := [(0, 2, 1, 0, 0), (3, 0, 0, 0, 0), (0, 0, 1, 0, 0), (4, 1, 1, 0, 0), (6, 138, 1, 11, 255), (65, 0, 0, 0, 0), (76, 0, 0, 0, 0), (10, 4, 0, 0, 0)]
abbrev zb_348_1 : List zI0 := [(3, 0, 0, 0, 1), (8, 0, 0, 0, 0)]
abbrev zb_348_2 : List zI0 := [(3, 0, 0, 0, 2), (8, 0, 0, 0, 0)]
abbrev zb_348_3 : List zI0 := [(3, 0, 0, 0, 3), (8, 0, 0, 0, 0)]
abbrev zb_348_4 : List zI0 := [(3, 0, 0, 0, 0), (8, 0, 0, 0, 0)]
abbrev zc_348 : List (List zI0) := [zb_348_0, zb_348_1, zb_348_2, zb_348_3, zb_348_4]
abbrev zb_349_0 : List zI0 := [(0, 4, 0, 0, 0), (3, 0, 0, 0, 0), (0, 0, 1, 0, 0), (4, 1, 1, 0, 0), (4, 2, 1, 0, 0), (4, 3, 1, 0, 0), (6, 139, 3, 11, 256), (65, 0, 0, 0, 0), (76, 0, 0, 0, 0), (10, 3, 0, 0, 0)]
abbrev zb_349_1 : List zI0 := [(3, 0, 0, 0, 1), (8, 0, 0, 0, 0)]
abbrev zb_349_2 : List zI0 := [(3, 0, 0, 0, 2), (8, 0, 0, 0, 0)]
abbrev zb_349_3 : List zI0 := [(3, 0, 0, 0, 0), (8, 0, 0, 0, 0)]
abbrev zc_349 : List (List zI0) := [zb_349_0, zb_349_1, zb_349_2, zb_349_3]
abbrev zb_350_0 : List zI0 := [(0, 2, 1, 0, 0), (3, 0, 0, 0, 0), (0, 0, 1, 0, 0), (4, 1, 1, 0, 0), (6, 140, 1, 11, 257), (65, 0, 0, 0, 0), (76, 0, 0, 0, 0), (10, 2, 0, 0, 0)]
abbrev zb_350_1 : List zI0 := [(3, 0, 0, 0, 1), (8, 0, 0, 0, 0)]
abbrev zb_350_2 : List zI0 := [(3, 0, 0, 0, 0), (8, 0, 0, 0, 0)]
abbrev zc_350 : List (List zI0) := [zb_350_0, zb_350_1, zb_350_2]
abbrev zb_351_0 : List zI0 := [(0, 1, 1, 0, 0), (3, 0, 0, 0, 0), (0, 0, 1, 0, 0), (6, 141, 0, 11, 258), (65, 0, 0, 0, 0), (76, 0, 0, 0, 0), (10, 2, 0, 0, 0)]
abbrev zb_351_1 : List zI0 := [(3, 0, 0, 0, 1), (8, 0, 0, 0, 0)]
abbrev zb_351_2 : List zI0 := [(3, 0, 0, 0, 0), (8, 0, 0, 0, 0)]
abbrev zc_351 : List (List zI0) := [zb_351_0, zb_351_1, zb_351_2]
abbrev zb_352_0 : List zI0 := [(0, 2, 1, 0, 0), (3, 0, 0, 0, 0), (0, 0, 1, 0, 0), (4, 1, 1, 0, 0), (6, 142, 1, 11, 259), (65, 0, 0, 0, 0), (76, 0, 0, 0, 0), (10, 2, 0, 0, 0)]
abbrev zb_352_1 : List zI0 := [(3, 0, 0, 0, 1), (8, 0, 0, 0, 0)]
abbrev zb_352_2 : List zI0 := [(3, 0, 0, 0, 0), (8, 0, 0, 0, 0)]
abbrev zc_352 : List (List zI0) := [zb_352_0, zb_352_1, zb_352_2]
abbrev zb_353_0 : List zI0 := [(0, 2, 1, 0, 0), (3, 0, 0, 0, 0), (0, 0, 1, 0, 0), (4, 1, 1, 0, 0), (6, 143, 1, 11, 260), (76, 0, 0, 0, 0), (10, 3, 0, 0, 0)]
abbrev zb_353_1 : List zI0 := [(3, 0, 0, 0, 1), (8, 0, 0, 0, 0)]
abbrev zb_353_2 : List zI0 := [(3, 0, 0, 0, 2), (8, 0, 0, 0, 0)]
abbrev zb_353_3 : List zI0 := [(3, 0, 0, 0, 0), (8, 0, 0, 0, 0)]
abbrev zc_353 : List (List zI0) := [zb_353_0, zb_353_1, zb_353_2, zb_353_3]
abbrev zb_354_0 : List zI0 := [(0, 2, 1, 0, 0), (3, 0, 0, 0, 0), (0, 0, 1, 0, 0), (4, 1, 1, 0, 0), (6, 144, 1, 11, 261), (76, 0, 0, 0, 0), (10, 3, 0, 0, 0)]
abbrev zb_354_1 : List zI0 := [(3, 0, 0, 0, 1), (8, 0, 0, 0, 0)]
abbrev zb_354_2 : List zI0 := [(3, 0, 0, 0, 2), (8, 0, 0, 0, 0)]
abbrev zb_354_3 : List zI0 := [(3, 0, 0, 0, 0), (8, 0, 0, 0, 0)]
abbrev zc_354 : List (List zI0) := [zb_354_0, zb_354_1, zb_354_2, zb_354_3]
abbrev zb_355_0 : List zI0 := [(0, 2, 1, 0, 0), (3, 0, 0, 0, 0), (0, 0, 1, 0, 0), (4, 1, 1, 0, 0), (6, 145, 1, 11, 262), (81, 0, 0, 0, 0), (10, 3, 0, 0, 0)]
abbrev zb_355_1 : List zI0 := [(3, 0, 0, 0, 1), (8, 0, 0, 0, 0)]
abbrev zb_355_2 : List zI0 := [(3, 0, 0, 0, 2), (8, 0, 0, 0, 0)]
abbrev zb_355_3 : List zI0 := [(3, 0, 0, 0, 0), (8, 0, 0, 0, 0)]
abbrev zc_355 : List (List zI0) := [zb_355_0, zb_355_1, zb_355_2, zb_355_3]
abbrev zb_356_0 : List zI0 := [(0, 3, 1, 0, 0), (3, 0, 0, 0, 0), (0, 0, 1, 0, 0), (4, 1, 1, 0, 0), (4, 2, 1, 0, 0), (6, 146, 2, 11, 263), (65, 0, 0, 0, 0), (76, 0, 0, 0, 0), (10, 2, 0, 0, 0)]
abbrev zb_356_1 : List zI0 := [(3, 0, 0, 0, 1), (8, 0, 0, 0, 0)]
abbrev zb_356_2 : List zI0 := [(3, 0, 0, 0, 0), (8, 0, 0, 0, 0)]
abbrev zc_356 : List (List zI0) := [zb_356_0, zb_356_1, zb_356_2]
abbrev zb_357_0 : List zI0 := [(0, 1, 1, 0, 0), (3, 0, 0, 0, 0), (0, 0, 1, 0, 0), (6, 148, 0, 11, 264), (65, 0, 0, 0, 0), (76, 0, 0, 0, 0), (10, 2, 0, 0, 0)]
abbrev zb_357_1 : List zI0 := [(3, 0, 0, 0, 1), (8, 0, 0, 0, 0)]
abbrev zb_357_2 : List zI0 := [(3, 0, 0, 0, 0), (8, 0, 0, 0, 0)]
abbrev zc_357 : List (List zI0) := [zb_357_0, zb_357_1, zb_357_2]
abbrev zb_358_0 : List zI0 := [(0, 2, 1, 0, 0), (3, 0, 0, 0, 0), (0, 0, 1, 0, 0), (4, 1, 1, 0, 0), (6, 149, 1, 11, 265), (14, 1, 0, 0, 0), (64, 0, 0, 0, 1), (10, 2, 0, 0, 0)]
abbrev zb_358_1 : List zI0 := [(64, 0, 0, 0, 0), (111, 2, 0, 0, 0)]
abbrev zb_358_2 : List zI0 := [(76, 0, 0, 0, 0), (10, 4, 0, 0, 0)]
abbrev zb_358_3 : List zI0 := [(3, 0, 0, 0, 1), (8, 0, 0, 0, 0)]
abbrev zb_358_4 : List zI0 := [(3, 0, 0, 0, 0), (8, 0, 0, 0, 0)]
abbrev zc_358 : List (List zI0) := [zb_358_0, zb_358_1, zb_358_2, zb_358_3, zb_358_4]
abbrev zb_359_0 : List zI0 := [(0, 5, 0, 0, 0), (3, 0, 0, 0, 0), (0, 0, 1, 0, 0), (4, 1, 1, 0, 0), (4, 2, 1, 0, 0), (4, 3, 1, 0, 0), (4, 4, 0, 0, 0), (6, 151, 4, 11, 266), (65, 0, 0, 0, 0), (76, 0, 0, 0, 0), (10, 5, 0, 0, 0)]
abbrev zb_359_1 : List zI0 := [(3, 0, 0, 0, 1), (8, 0, 0, 0, 0)]
abbrev zb_359_2 : List zI0 := [(3, 0, 0, 0, 2), (8, 0, 0, 0, 0)]
abbrev zb_359_3 : List zI0 := [(3, 0, 0, 0, 3), (8, 0, 0, 0, 0)]
abbrev zb_359_4 : List zI0 := [(3, 0, 0, 0, 4), (8, 0, 0, 0, 0)]
abbrev zb_359_5 : List zI0 := [(3, 0, 0, 0, 0), (8, 0, 0, 0, 0)]
abbrev zc_359 : List (List zI0) := [zb_359_0, zb_359_1, zb_359_2, zb_359_3, zb_359_4, zb_359_5]
abbrev zb_360_0 : List zI0 := [(0, 2, 1, 0, 0), (3, 0, 0, 0, 0), (0, 0, 1, 0, 0), (4, 1, 1, 0, 0), (6, 152, 1, 11, 267), (65, 0, 0, 0, 0), (76, 0, 0, 0, 0), (10, 2, 0, 0, 0)]
abbrev zb_360_1 : List zI0 := [(3, 0, 0, 0, 1), (8, 0, 0, 0, 0)]
abbrev zb_360_2 : List zI0 := [(3, 0, 0, 0, 0), (8, 0, 0, 0, 0)]
abbrev zc_360 : List (List zI0) := [zb_360_0, zb_360_1, zb_360_2]
abbrev zb_361_0 : List zI0 := [(0, 3, 1, 0, 0), (3, 0, 0, 0, 0), (0, 0, 1, 0, 0), (4, 1, 1, 0, 0), (4, 2, 1, 0, 0), (6, 153, 2, 11, 268), (65, 0, 0, 0, 0), (76, 0, 0, 0, 0), (10, 4, 0, 0, 0)]
abbrev zb_361_1 : List zI0 := [(3, 0, 0, 0, 1), (8, 0, 0, 0, 0)]
abbrev zb_361_2 : List zI0 := [(3, 0, 0, 0, 2), (8, 0, 0, 0, 0)]
abbrev zb_361_3 : List zI0 := [(3, 0, 0, 0, 3), (8, 0, 0, 0, 0)]
abbrev zb_361_4 : List zI0 := [(3, 0, 0, 0, 0), (8, 0, 0, 0, 0)]
abbrev zc_361 : List (List zI0) := [zb_361_0, zb_361_1, zb_361_2, zb_361_3, zb_361_4]
abbrev zb_362_0 : List zI0 := [(0, 3, 1, 0, 0), (3, 0, 0, 0, 0), (0, 0, 1, 0, 0), (4, 1, 1, 0, 0), (4, 2, 1, 0, 0), (6, 154, 2, 11, 269), (65, 0, 0, 0, 0), (76, 0, 0, 0, 0), (10, 3, 0, 0, 0)]
abbrev zb_362_1 : List zI0 := [(3, 0, 0, 0, 1), (8, 0, 0, 0, 0)]
abbrev zb_362_2 : List zI0 := [(3, 0, 0, 0, 2), (8, 0, 0, 0, 0)]
abbrev zb_362_3 : List zI0 := [(3, 0, 0, 0, 0), (8, 0, 0, 0, 0)]
abbrev zc_362 : List (List zI0) := [zb_362_0, zb_362_1, zb_362_2, zb_362_3]
abbrev zb_363_0 : List zI0 := [(0, 2, 1, 0, 0), (3, 0, 0, 0, 0), (0, 0, 1, 0, 0), (4, 1, 1, 0, 0), (6, 155, 1, 11, 270), (65, 0, 0, 0, 0), (76, 0, 0, 0, 0), (10, 3, 0, 0, 0)]
abbrev zb_363_1 : List zI0 := [(3, 0, 0, 0, 1), (8, 0, 0, 0, 0)]
abbrev zb_363_2 : List zI0 := [(3, 0, 0, 0, 2), (8, 0, 0, 0, 0)]
abbrev zb_363_3 : List zI0 := [(3, 0, 0, 0, 0), (8, 0, 0, 0, 0)]
abbrev zc_363 : List (List zI0) := [zb_363_0, zb_363_1, zb_363_2, zb_363_3]
abbrev zb_364_0 : List zI0 := [(0, 3, 1, 0, 0), (3, 0, 0, 0, 0), (0, 0, 1, 0, 0), (4, 1, 1, 0, 0), (4, 2, 1, 0, 0), (6, 156, 2, 11, 271), (65, 0, 0, 0, 0), (76, 0, 0, 0, 0), (10, 5, 0, 0, 0)]
abbrev zb_364_1 : List zI0 := [(3, 0, 0, 0, 1), (8, 0, 0, 0, 0)]
abbrev zb_364_2 : List zI0 := [(3, 0, 0, 0, 2), (8, 0, 0, 0, 0)]
abbrev zb_364_3 : List zI0 := [(3, 0, 0, 0, 3), (8, 0, 0, 0, 0)]
abbrev zb_364_4 : List zI0 := [(3, 0, 0, 0, 4), (8, 0, 0, 0, 0)]
abbrev zb_364_5 : List zI0 := [(3, 0, 0, 0, 0), (8, 0, 0, 0, 0)]
abbrev zc_364 : List (List zI0) := [zb_364_0, zb_364_1, zb_364_2, zb_364_3, zb_364_4, zb_364_5]
abbrev zb_365_0 : List zI0 := [(0, 2, 1, 0, 0), (3, 0, 0, 0, 0), (0, 0, 1, 0, 0), (4, 1, 1, 0, 0), (6, 157, 1, 11, 272), (65, 0, 0, 0, 0), (76, 0, 0, 0, 0), (10, 3, 0, 0, 0)]
abbrev zb_365_1 : List zI0 := [(3, 0, 0, 0, 1), (8, 0, 0, 0, 0)]
abbrev zb_365_2 : List zI0 := [(3, 0, 0, 0, 2), (8, 0, 0, 0, 0)]
abbrev zb_365_3 : List zI0 := [(3, 0, 0, 0, 0), (8, 0, 0, 0, 0)]
abbrev zc_365 : List (List zI0) := [zb_365_0, zb_365_1, zb_365_2, zb_365_3]
abbrev zb_366_0 : List zI0 := [(0, 1, 1, 0, 0), (3, 0, 0, 0, 0), (0, 0, 1, 0, 0), (6, 158, 0, 11, 273), (65, 0, 0, 0, 0), (76, 0, 0, 0, 0), (10, 2, 0, 0, 0)]
abbrev zb_366_1 : List zI0 := [(3, 0, 0, 0, 1), (8, 0, 0, 0, 0)]
abbrev zb_366_2 : List zI0 := [(3, 0, 0, 0, 0), (8, 0, 0, 0, 0)]
abbrev zc_366 : List (List zI0) := [zb_366_0, zb_366_1, zb_366_2]
abbrev zb_367_0 : List zI0 := [(0, 1, 1, 0, 0), (3, 0, 0, 0, 0), (0, 0, 1, 0, 0), (6, 159, 0, 11, 274), (65, 0, 0, 0, 0), (76, 0, 0, 0, 0), (10, 2, 0, 0, 0)]
abbrev zb_367_1 : List zI0 := [(3, 0, 0, 0, 1), (8, 0, 0, 0, 0)]
abbrev zb_367_2 : List zI0 := [(3, 0, 0, 0, 0), (8, 0, 0, 0, 0)]
abbrev zc_367 : List (List zI0) := [zb_367_0, zb_367_1, zb_367_2]
abbrev zb_368_0 : List zI0 := [(0, 3, 1, 0, 0), (3, 0, 0, 0, 0), (0, 0, 1, 0, 0), (4, 1, 1, 0, 0), (4, 2, 1, 0, 0), (6, 163, 2, 11, 275), (65, 0, 0, 0, 0), (76, 0, 0, 0, 0), (10, 5, 0, 0, 0)]
abbrev zb_368_1 : List zI0 := [(3, 0, 0, 0, 1), (8, 0, 0, 0, 0)]
abbrev zb_368_2 : List zI0 := [(3, 0, 0, 0, 2), (8, 0, 0, 0, 0)]
abbrev zb_368_3 : List zI0 := [(3, 0, 0, 0, 3), (8, 0, 0, 0, 0)]
abbrev zb_368_4 : List zI0 := [(3, 0, 0, 0, 4), (8, 0, 0, 0, 0)]
abbrev zb_368_5 : List zI0 := [(3, 0, 0, 0, 0), (8, 0, 0, 0, 0)]
abbrev zc_368 : List (List zI0) := [zb_368_0, zb_368_1, zb_368_2, zb_368_3, zb_368_4, zb_368_5]
abbrev zb_369_0 : List zI0 := [(0, 2, 1, 0, 0), (3, 0, 0, 0, 0), (0, 0, 1, 0, 0), (4, 1, 1, 0, 0), (6, 164, 1, 11, 276), (65, 0, 0, 0, 0), (76, 0, 0, 0, 0), (10, 2, 0, 0, 0)]
abbrev zb_369_1 : List zI0 := [(3, 0, 0, 0, 1), (8, 0, 0, 0, 0)]
abbrev zb_369_2 : List zI0 := [(3, 0, 0, 0, 0), (8, 0, 0, 0, 0)]
abbrev zc_369 : List (List zI0) := [zb_369_0, zb_369_1, zb_369_2]
abbrev zb_370_0 : List zI0 := [(0, 1, 1, 0, 0), (3, 0, 0, 0, 0), (0, 0, 1, 0, 0), (6, 165, 0, 11, 277), (65, 0, 0, 0, 0), (76, 0, 0, 0, 0), (10, 2, 0, 0, 0)]
abbrev zb_370_1 : List zI0 := [(3, 0, 0, 0, 1), (8, 0, 0, 0, 0)]
abbrev zb_370_2 : List zI0 := [(3, 0, 0, 0, 0), (8, 0, 0, 0, 0)]
abbrev zc_370 : List (List zI0) := [zb_370_0, zb_370_1, zb_370_2]
abbrev zb_371_0 : List zI0 := [(0, 2, 1, 0, 0), (3, 0, 0, 0, 0), (0, 0, 1, 0, 0), (4, 1, 1, 0, 0), (6, 166, 1, 11, 278), (65, 0, 0, 0, 0), (76, 0, 0, 0, 0), (10, 3, 0, 0, 0)]
abbrev zb_371_1 : List zI0 := [(3, 0, 0, 0, 1), (8, 0, 0, 0, 0)]
abbrev zb_371_2 : List zI0 := [(3, 0, 0, 0, 2), (8, 0, 0, 0, 0)]
abbrev zb_371_3 : List zI0 := [(3, 0, 0, 0, 0), (8, 0, 0, 0, 0)]
abbrev zc_371 : List (List zI0) := [zb_371_0, zb_371_1, zb_371_2, zb_371_3]
abbrev zb_372_0 : List zI0 := [(0, 2, 1, 0, 0), (3, 0, 0, 0, 0), (0, 0, 1, 0, 0), (4, 1, 1, 0, 0), (6, 169, 1, 11, 279), (65, 0, 0, 0, 0), (76, 0, 0, 0, 0), (10, 2, 0, 0, 0)]
abbrev zb_372_1 : List zI0 := [(3, 0, 0, 0, 1), (8, 0, 0, 0, 0)]
abbrev zb_372_2 : List zI0 := [(3, 0, 0, 0, 0), (8, 0, 0, 0, 0)]
abbrev zc_372 : List (List zI0) := [zb_372_0, zb_372_1, zb_372_2]
abbrev zb_373_0 : List zI0 := [(0, 2, 1, 0, 0), (3, 0, 0, 0, 0), (0, 0, 1, 0, 0), (4, 1, 1, 0, 0), (6, 170, 1, 11, 280), (65, 0, 0, 0, 0), (76, 0, 0, 0, 0), (10, 2, 0, 0, 0)]
abbrev zb_373_1 : List zI0 := [(3, 0, 0, 0, 1), (8, 0, 0, 0, 0)]
abbrev zb_373_2 : List zI0 := [(3, 0, 0, 0, 0), (8, 0, 0, 0, 0)]
abbrev zc_373 : List (List zI0) := [zb_373_0, zb_373_1, zb_373_2]
abbrev zb_374_0 : List zI0 := [(0, 2, 1, 0, 0), (3, 0, 0, 0, 0), (0, 0, 1, 0, 0), (4, 1, 1, 0, 0), (6, 171, 1, 11, 281), (14, 1, 0, 0, 0), (64, 0, 0, 0, 1), (10, 2, 0, 0, 0)]
abbrev zb_374_1 : List zI0 := [(64, 0, 0, 0, 0), (111, 2, 0, 0, 0)]
abbrev zb_374_2 : List zI0 := [(76, 0, 0, 0, 0), (10, 4, 0, 0, 0)]
abbrev zb_374_3 : List zI0 := [(3, 0, 0, 0, 1), (8, 0, 0, 0, 0)]
abbrev zb_374_4 : List zI0 := [(3, 0, 0, 0, 0), (8, 0, 0, 0, 0)]
abbrev zc_374 : List (List zI0) := [zb_374_0, zb_374_1, zb_374_2, zb_374_3, zb_374_4]
abbrev zb_375_0 : List zI0 := [(0, 2, 1, 0, 0), (3, 0, 0, 0, 0), (0, 0, 1, 0, 0), (4, 1, 1, 0, 0), (6, 172, 1, 11, 282), (65, 0, 0, 0, 0), (76, 0, 0, 0, 0), (10, 2, 0, 0, 0)]
abbrev zb_375_1 : List zI0 := [(3, 0, 0, 0, 1), (8, 0, 0, 0, 0)]
abbrev zb_375_2 : List zI0 := [(3, 0, 0, 0, 0), (8, 0, 0, 0, 0)]
abbrev zc_375 : List (List zI0) := [zb_375_0, zb_375_1, zb_375_2]
abbrev zb_376_0 : List zI0 := [(0, 2, 1, 0, 0), (3, 0, 0, 0, 0), (0, 0, 1, 0, 0), (4, 1, 1, 0, 0), (6, 173, 1, 11, 283), (65, 0, 0, 0, 0), (76, 0, 0, 0, 0), (10, 2, 0, 0, 0)]
abbrev zb_376_1 : List zI0 := [(3, 0, 0, 0, 1), (8, 0, 0, 0, 0)]
abbrev zb_376_2 : List zI0 := [(3, 0, 0, 0, 0), (8, 0, 0, 0, 0)]
abbrev zc_376 : List (List zI0) := [zb_376_0, zb_376_1, zb_376_2]
abbrev zb_377_0 : List zI0 := [(0, 2, 1, 0, 0), (3, 0, 0, 0, 0), (0, 0, 1, 0, 0), (4, 1, 1, 0, 0), (6, 174, 1, 11, 284), (65, 0, 0, 0, 0), (76, 0, 0, 0, 0), (10, 2, 0, 0, 0)]
abbrev zb_377_1 : List zI0 := [(3, 0, 0, 0, 1), (8, 0, 0, 0, 0)]
abbrev zb_377_2 : List zI0 := [(3, 0, 0, 0, 0), (8, 0, 0, 0, 0)]
abbrev zc_377 : List (List zI0) := [zb_377_0, zb_377_1, zb_377_2]
abbrev zb_378_0 : List zI0 := [(0, 3, 1, 0, 0), (3, 0, 0, 0, 0), (0, 0, 1, 0, 0), (4, 1, 1, 0, 0), (4, 2, 1, 0, 0), (6, 176, 2, 11, 285), (76, 0, 0, 0, 0), (10, 2, 0, 0, 0)]
abbrev zb_378_1 : List zI0 := [(3, 0, 0, 0, 1), (8, 0, 0, 0, 0)]
abbrev zb_378_2 : List zI0 := [(3, 0, 0, 0, 0), (8, 0, 0, 0, 0)]
abbrev zc_378 : List (List zI0) := [zb_378_0, zb_378_1, zb_378_2]
abbrev zb_379_0 : List zI0 := [(0, 3, 1, 0, 0), (3, 0, 0, 0, 0), (0, 0, 1, 0, 0), (4, 1, 1, 0, 0), (4, 2, 1, 0, 0), (6, 177, 2, 11, 286), (76, 0, 0, 0, 0), (10, 2, 0, 0, 0)]
abbrev zb_379_1 : List zI0 := [(3, 0, 0, 0, 1), (8, 0, 0, 0, 0)]
abbrev zb_379_2 : List zI0 := [(3, 0, 0, 0, 0), (8, 0, 0, 0, 0)]
abbrev zc_379 : List (List zI0) := [zb_379_0, zb_379_1, zb_379_2]
abbrev zb_380_0 : List zI0 := [(0, 1, 1, 0, 0), (3, 0, 0, 0, 0), (0, 0, 1, 0, 0), (6, 180, 0, 11, 287), (97, 0, 0, 0, 0), (81, 0, 0, 0, 0), (10, 2, 0, 0, 0)]
abbrev zb_380_1 : List zI0 := [(3, 0, 0, 0, 1), (8, 0, 0, 0, 0)]
abbrev zb_380_2 : List zI0 := [(3, 0, 0, 0, 0), (8, 0, 0, 0, 0)]
abbrev zc_380 : List (List zI0) := [zb_380_0, zb_380_1, zb_380_2]
abbrev zb_381_0 : List zI0 := [(0, 1, 1, 0, 0), (3, 0, 0, 0, 0), (0, 0, 1, 0, 0), (6, 181, 0, 11, 288), (81, 0, 0, 0, 0), (10, 2, 0, 0, 0)]
abbrev zb_381_1 : List zI0 := [(3, 0, 0, 0, 1), (8, 0, 0, 0, 0)]
abbrev zb_381_2 : List zI0 := [(3, 0, 0, 0, 0), (8, 0, 0, 0, 0)]
abbrev zc_381 : List (List zI0) := [zb_381_0, zb_381_1, zb_381_2]
abbrev zb_382_0 : List zI0 := [(57, 11, 11, 19, 0), (47, 0, 0, 0, 0), (7, 117, 0, 11, 289), (31, 1, 1, 0, 0), (57, 12, 50, 20, 0), (47, 0, 0, 0, 0), (7, 210, 0, 12, 290), (31, 2, 1, 0, 0), (3, 0, 0, 0, 1), (58, 1, 0, 0, 0), (31, 3, 1, 0, 0), (3, 0, 0, 0, 1), (58, 2, 0, 0, 0), (31, 4, 0, 0, 0), (3, 0, 0, 0, 0), (30, 5, 0, 0, 0), (111, 1, 0, 0, 0)]
abbrev zb_382_1 : List zI0 := [(4, 5, 0, 0, 0), (0, 0, 1, 0, 0), (113, 0, 0, 0, 0), (3, 0, 0, 0, 5), (38, 0, 0, 0, 0), (24, 191, 0, 0, 0), (0, 0, 1, 0, 0), (4, 5, 0, 0, 0), (112, 0, 0, 0, 0), (3, 1, 0, 0, 127), (42, 0, 0, 0, 0), (104, 190, 65, 0, 0)]
abbrev zb_382_2 : List zI0 := [(0, 1, 1, 0, 0), (0, 0, 1, 0, 0), (4, 5, 0, 0, 0), (3, 0, 0, 0, 1), (37, 0, 0, 0, 0), (112, 0, 0, 0, 0), (0, 3, 1, 0, 0), (5, 329, 3, 0, 291), (30, 6, 0, 0, 0), (0, 2, 1, 0, 0), (0, 0, 1, 0, 0), (4, 5, 0, 0, 0), (3, 0, 0, 0, 1), (37, 0, 0, 0, 0), (112, 0, 0, 0, 0), (6, 215, 1, 12, 292), (30, 7, 0, 0, 0), (0, 2, 1, 0, 0), (6, 211, 0, 12, 293), (4, 6, 0, 0, 0), (20, 3, 0, 0, 0), (3, 0, 0, 0, 0), (9, 0, 0, 0, 0)]
abbrev zb_382_3 : List zI0 := [(4, 6, 0, 0, 0), (15, 4, 0, 0, 0), (0, 3, 1, 0, 0), (3, 0, 0, 0, 0), (75, 0, 0, 0, 0), (4, 7, 0, 0, 0), (65, 0, 0, 0, 0), (72, 0, 0, 0, 0), (14, 4, 0, 0, 0), (3, 0, 0, 0, 0), (9, 0, 0, 0, 0)]
abbrev zb_382_4 : List zI0 := [(10, 190, 0, 0, 0)]
abbrev zb_382_5 : List zI0 := [(0, 1, 1, 0, 0), (0, 0, 1, 0, 0), (4, 5, 0, 0, 0), (3, 0, 0, 0, 1), (37, 0, 0, 0, 0), (112, 0, 0, 0, 0), (0, 0, 1, 0, 0), (4, 5, 0, 0, 0), (3, 0, 0, 0, 2), (37, 0, 0, 0, 0), (112, 0, 0, 0, 0), (0, 3, 1, 0, 0), (5, 330, 4, 0, 294), (30, 6, 0, 0, 0), (0, 2, 1, 0, 0), (0, 0, 1, 0, 0), (4, 5, 0, 0, 0), (3, 0, 0, 0, 1), (37, 0, 0, 0, 0), (112, 0, 0, 0, 0), (0, 0, 1, 0, 0), (4, 5, 0, 0, 0), (3, 0, 0, 0, 2), (37, 0, 0, 0, 0), (112, 0, 0, 0, 0), (6, 216, 2, 12, 295), (30, 7, 0, 0, 0), (0, 2, 1, 0, 0), (6, 211, 0, 12, 293), (4, 6, 0, 0, 0), (20, 6, 0, 0, 0), (3, 0, 0, 0, 0), (9, 0, 0, 0, 0)]
abbrev zb_382_6 : List zI0 := [(4, 6, 0, 0, 0), (15, 7, 0, 0, 0), (0, 3, 1, 0, 0), (3, 0, 0, 0, 0), (75, 0, 0, 0, 0), (4, 7, 0, 0, 0), (65, 0, 0, 0, 0), (72, 0, 0, 0, 0), (14, 7, 0, 0, 0), (3, 0, 0, 0, 0), (9, 0, 0, 0, 0)]
abbrev zb_382_7 : List zI0 := [(10, 190, 0, 0, 0)]
abbrev zb_382_8 : List zI0 := [(0, 1, 1, 0, 0), (0, 0, 1, 0, 0), (4, 5, 0, 0, 0), (3, 0, 0, 0, 1), (37, 0, 0, 0, 0), (112, 0, 0, 0, 0), (0, 0, 1, 0, 0), (4, 5, 0, 0, 0), (3, 0, 0, 0, 2), (37, 0, 0, 0, 0), (112, 0, 0, 0, 0), (0, 3, 1, 0, 0), (5, 331, 4, 0, 296), (30, 6, 0, 0, 0), (0, 2, 1, 0, 0), (0, 0, 1, 0, 0), (4, 5, 0, 0, 0), (3, 0, 0, 0, 1), (37, 0, 0, 0, 0), (112, 0, 0, 0, 0), (0, 0, 1, 0, 0), (4, 5, 0, 0, 0), (3, 0, 0, 0, 2), (37, 0, 0, 0, 0), (112, 0, 0, 0, 0), (6, 217, 2, 12, 297), (30, 7, 0, 0, 0), (0, 2, 1, 0, 0), (6, 211, 0, 12, 293), (4, 6, 0, 0, 0), (20, 9, 0, 0, 0), (3, 0, 0, 0, 0), (9, 0, 0, 0, 0)]
abbrev zb_382_9 : List zI0 := [(4, 6, 0, 0, 0), (15, 10, 0, 0, 0), (0, 3, 1, 0, 0), (3, 0, 0, 0, 0), (75, 0, 0, 0, 0), (4, 7, 0, 0, 0), (65, 0, 0, 0, 0), (72, 0, 0, 0, 0), (14, 10, 0, 0, 0), (3, 0, 0, 0, 0), (9, 0, 0, 0, 0)]
abbrev zb_382_10 : List zI0 := [(10, 190, 0, 0, 0)]
abbrev zb_382_11 : List zI0 := [(0, 1, 1, 0, 0), (0, 0, 1, 0, 0), (4, 5, 0, 0, 0), (3, 0, 0, 0, 1), (37, 0, 0, 0, 0), (112, 0, 0, 0, 0), (0, 0, 1, 0, 0), (4, 5, 0, 0, 0), (3, 0, 0, 0, 2), (37, 0, 0, 0, 0), (112, 0, 0, 0, 0), (0, 3, 1, 0, 0), (5, 332, 4, 0, 298), (30, 6, 0, 0, 0), (0, 2, 1, 0, 0), (0, 0, 1, 0, 0), (4, 5, 0, 0, 0), (3, 0, 0, 0, 1), (37, 0, 0, 0, 0), (112, 0, 0, 0, 0), (0, 0, 1, 0, 0), (4, 5, 0, 0, 0), (3, 0, 0, 0, 2), (37, 0, 0, 0, 0), (112, 0, 0, 0, 0), (6, 218, 2, 12, 299), (30, 7, 0, 0, 0), (0, 2, 1, 0, 0), (6, 211, 0, 12, 293), (4, 6, 0, 0, 0), (20, 12, 0, 0, 0), (3, 0, 0, 0, 0), (9, 0, 0, 0, 0)]
abbrev zb_382_12 : List zI0 := [(4, 6, 0, 0, 0), (15, 13, 0, 0, 0), (0, 3, 1, 0, 0), (3, 0, 0, 0, 0), (75, 0, 0, 0, 0), (4, 7, 0, 0, 0), (65, 0, 0, 0, 0), (72, 0, 0, 0, 0), (14, 13, 0, 0, 0), (3, 0, 0, 0, 0), (9, 0, 0, 0, 0)]
abbrev zb_382_13 : List zI0 := [(10, 190, 0, 0, 0)]
abbrev zb_382_14 : List zI0 := [(0, 1, 1, 0, 0), (0, 0, 1, 0, 0), (4, 5, 0, 0, 0), (3, 0, 0, 0, 1), (37, 0, 0, 0, 0), (112, 0, 0, 0, 0), (0, 0, 1, 0, 0), (4, 5, 0, 0, 0), (3, 0, 0, 0, 2), (37, 0, 0, 0, 0), (112, 0, 0, 0, 0), (0, 3, 1, 0, 0), (5, 333, 4, 0, 300), (30, 6, 0, 0, 0), (0, 2, 1, 0, 0), (0, 0, 1, 0, 0), (4, 5, 0, 0, 0), (3, 0, 0, 0, 1), (37, 0, 0, 0, 0), (112, 0, 0, 0, 0), (0, 0, 1, 0, 0), (4, 5, 0, 0, 0), (3, 0, 0, 0, 2), (37, 0, 0, 0, 0), (112, 0, 0, 0, 0), (6, 223, 2, 12, 301), (30, 7, 0, 0, 0), (0, 2, 1, 0, 0), (6, 211, 0, 12, 293), (4, 6, 0, 0, 0), (20, 15, 0, 0, 0), (3, 0, 0, 0, 0), (9, 0, 0, 0, 0)]
abbrev zb_382_15 : List zI0 := [(4, 6, 0, 0, 0), (15, 16, 0, 0, 0), (0, 3, 1, 0, 0), (3, 0, 0, 0, 0), (75, 0, 0, 0, 0), (4, 7, 0, 0, 0), (65, 0, 0, 0, 0), (72, 0, 0, 0, 0), (14, 16, 0, 0, 0), (3, 0, 0, 0, 0), (9, 0, 0, 0, 0)]
abbrev zb_382_16 : List zI0 := [(10, 190, 0, 0, 0)]
abbrev zb_382_17 : List zI0 := [(0, 1, 1, 0, 0), (0, 0, 1, 0, 0), (4, 5, 0, 0, 0), (3, 0, 0, 0, 1), (37, 0, 0, 0, 0), (112, 0, 0, 0, 0), (0, 3, 1, 0, 0), (5, 334, 3, 0, 302), (30, 6, 0, 0, 0), (0, 2, 1, 0, 0), (0, 0, 1, 0, 0), (4, 5, 0, 0, 0), (3, 0, 0, 0, 1), (37, 0, 0, 0, 0), (112, 0, 0, 0, 0), (6, 224, 1, 12, 303), (30, 7, 0, 0, 0), (0, 2, 1, 0, 0), (6, 211, 0, 12, 293), (4, 6, 0, 0, 0), (20, 18, 0, 0, 0), (3, 0, 0, 0, 0), (9, 0, 0, 0, 0)]
abbrev zb_382_18 : List zI0 := [(4, 6, 0, 0, 0), (15, 19, 0, 0, 0), (0, 3, 1, 0, 0), (3, 0, 0, 0, 0), (75, 0, 0, 0, 0), (4, 7, 0, 0, 0), (65, 0, 0, 0, 0), (72, 0, 0, 0, 0), (14, 19, 0, 0, 0), (3, 0, 0, 0, 0), (9, 0, 0, 0, 0)]
abbrev zb_382_19 : List zI0 := [(10, 190, 0, 0, 0)]
abbrev zb_382_20 : List zI0 := [(0, 1, 1, 0, 0), (0, 0, 1, 0, 0), (4, 5, 0, 0, 0), (3, 0, 0, 0, 1), (37, 0, 0, 0, 0), (112, 0, 0, 0, 0), (0, 0, 1, 0, 0), (4, 5, 0, 0, 0), (3, 0, 0, 0, 2), (37, 0, 0, 0, 0), (112, 0, 0, 0, 0), (0, 3, 1, 0, 0), (5, 335, 4, 0, 304), (30, 6, 0, 0, 0), (0, 2, 1, 0, 0), (0, 0, 1, 0, 0), (4, 5, 0, 0, 0), (3, 0, 0, 0, 1), (37, 0, 0, 0, 0), (112, 0, 0, 0, 0), (0, 0, 1, 0, 0), (4, 5, 0, 0, 0), (3, 0, 0, 0, 2), (37, 0, 0, 0, 0), (112, 0, 0, 0, 0), (6, 226, 2, 12, 305), (30, 7, 0, 0, 0), (0, 2, 1, 0, 0), (6, 211, 0, 12, 293), (4, 6, 0, 0, 0), (20, 21, 0, 0, 0), (3, 0, 0, 0, 0), (9, 0, 0, 0, 0)]
abbrev zb_382_21 : List zI0 := [(4, 6, 0, 0, 0), (15, 22, 0, 0, 0), (0, 3, 1, 0, 0), (3, 0, 0, 0, 0), (75, 0, 0, 0, 0), (4, 7, 0, 0, 0), (65, 0, 0, 0, 0), (72, 0, 0, 0, 0), (14, 22, 0, 0, 0), (3, 0, 0, 0, 0), (9, 0, 0, 0, 0)]
abbrev zb_382_22 : List zI0 := [(10, 190, 0, 0, 0)]
abbrev zb_382_23 : List zI0 := [(0, 1, 1, 0, 0), (0, 0, 1, 0, 0), (4, 5, 0, 0, 0), (3, 0, 0, 0, 1), (37, 0, 0, 0, 0), (112, 0, 0, 0, 0), (0, 0, 1, 0, 0), (4, 5, 0, 0, 0), (3, 0, 0, 0, 2), (37, 0, 0, 0, 0), (112, 0, 0, 0, 0), (0, 3, 1, 0, 0), (5, 336, 4, 0, 306), (30, 6, 0, 0, 0), (0, 2, 1, 0, 0), (0, 0, 1, 0, 0), (4, 5, 0, 0, 0), (3, 0, 0, 0, 1), (37, 0, 0, 0, 0), (112, 0, 0, 0, 0), (0, 0, 1, 0, 0), (4, 5, 0, 0, 0), (3, 0, 0, 0, 2), (37, 0, 0, 0, 0), (112, 0, 0, 0, 0), (6, 227, 2, 12, 307), (30, 7, 0, 0, 0), (0, 2, 1, 0, 0), (6, 211, 0, 12, 293), (4, 6, 0, 0, 0), (20, 24, 0, 0, 0), (3, 0, 0, 0, 0), (9, 0, 0, 0, 0)]
abbrev zb_382_24 : List zI0 := [(4, 6, 0, 0, 0), (15, 25, 0, 0, 0), (0, 3, 1, 0, 0), (3, 0, 0, 0, 0), (75, 0, 0, 0, 0), (4, 7, 0, 0, 0), (65, 0, 0, 0, 0), (72, 0, 0, 0, 0), (14, 25, 0, 0, 0), (3, 0, 0, 0, 0), (9, 0, 0, 0, 0)]
abbrev zb_382_25 : List zI0 := [(10, 190, 0, 0, 0)]
abbrev zb_382_26 : List zI0 := [(0, 1, 1, 0, 0), (6, 126, 0, 11, 308), (0, 2, 1, 0, 0), (6, 229, 0, 12, 309), (20, 190, 0, 0, 0), (3, 0, 0, 0, 0), (9, 0, 0, 0, 0)]
abbrev zb_382_27 : List zI0 := [(0, 1, 1, 0, 0), (0, 0, 1, 0, 0), (4, 5, 0, 0, 0), (3, 0, 0, 0, 1), (37, 0, 0, 0, 0), (112, 0, 0, 0, 0), (0, 3, 1, 0, 0), (5, 337, 3, 0, 310), (30, 6, 0, 0, 0), (0, 2, 1, 0, 0), (0, 0, 1, 0, 0), (4, 5, 0, 0, 0), (3, 0, 0, 0, 1), (37, 0, 0, 0, 0), (112, 0, 0, 0, 0), (6, 230, 1, 12, 311), (30, 7, 0, 0, 0), (0, 2, 1, 0, 0), (6, 211, 0, 12, 293), (4, 6, 0, 0, 0), (20, 28, 0, 0, 0), (3, 0, 0, 0, 0), (9, 0, 0, 0, 0)]
abbrev zb_382_28 : List zI0 := [(4, 6, 0, 0, 0), (15, 29, 0, 0, 0), (0, 3, 1, 0, 0), (3, 0, 0, 0, 0), (75, 0, 0, 0, 0), (4, 7, 0, 0, 0), (65, 0, 0, 0, 0), (72, 0, 0, 0, 0), (14, 29, 0, 0, 0), (3, 0, 0, 0, 0), (9, 0, 0, 0, 0)]
abbrev zb_382_29 : List zI0 := [(10, 190, 0, 0, 0)]
abbrev zb_382_30 : List zI0 := [(0, 1, 1, 0, 0), (0, 0, 1, 0, 0), (4, 5, 0, 0, 0), (3, 0, 0, 0, 1), (37, 0, 0, 0, 0), (112, 0, 0, 0, 0), (103, 0, 0, 0, 0), (0, 0, 1, 0, 0), (4, 5, 0, 0, 0), (3, 0, 0, 0, 2), (37, 0, 0, 0, 0), (112, 0, 0, 0, 0), (14, 31, 0, 0, 0), (3, 0, 0, 0, 1), (10, 32, 0, 0, 0)]
abbrev zb_382_31 : List zI0 := [(3, 0, 0, 0, 0), (111, 32, 0, 0, 0)]
abbrev zb_382_32 : List zI0 := [(0, 3, 1, 0, 0), (5, 338, 4, 0, 312), (30, 6, 0, 0, 0), (0, 2, 1, 0, 0), (0, 0, 1, 0, 0), (4, 5, 0, 0, 0), (3, 0, 0, 0, 1), (37, 0, 0, 0, 0), (112, 0, 0, 0, 0), (103, 0, 0, 0, 0), (0, 0, 1, 0, 0), (4, 5, 0, 0, 0), (3, 0, 0, 0, 2), (37, 0, 0, 0, 0), (112, 0, 0, 0, 0), (14, 33, 0, 0, 0), (3, 0, 0, 0, 1), (10, 34, 0, 0, 0)]
abbrev zb_382_33 : List zI0 := [(3, 0, 0, 0, 0), (111, 34, 0, 0, 0)]
abbrev zb_382_34 : List zI0 := [(6, 232, 2, 12, 313), (30, 7, 0, 0, 0), (0, 2, 1, 0, 0), (6, 211, 0, 12, 293), (4, 6, 0, 0, 0), (20, 35, 0, 0, 0), (3, 0, 0, 0, 0), (9, 0, 0, 0, 0)]
abbrev zb_382_35 : List zI0 := [(4, 6, 0, 0, 0), (15, 38, 0, 0, 0), (0, 3, 1, 0, 0), (3, 0, 0, 0, 0), (75, 0, 0, 0, 0), (4, 7, 0, 0, 0), (14, 36, 0, 0, 0), (64, 0, 0, 0, 1), (10, 37, 0, 0, 0)]
abbrev zb_382_36 : List zI0 := [(64, 0, 0, 0, 0), (111, 37, 0, 0, 0)]
abbrev zb_382_37 : List zI0 := [(72, 0, 0, 0, 0), (14, 38, 0, 0, 0), (3, 0, 0, 0, 0), (9, 0, 0, 0, 0)]
abbrev zb_382_38 : List zI0 := [(10, 190, 0, 0, 0)]
abbrev zb_382_39 : List zI0 := [(0, 1, 1, 0, 0), (0, 0, 1, 0, 0), (4, 5, 0, 0, 0), (3, 0, 0, 0, 1), (37, 0, 0, 0, 0), (112, 0, 0, 0, 0), (0, 3, 1, 0, 0), (5, 339, 3, 0, 314), (30, 6, 0, 0, 0), (0, 2, 1, 0, 0), (0, 0, 1, 0, 0), (4, 5, 0, 0, 0), (3, 0, 0, 0, 1), (37, 0, 0, 0, 0), (112, 0, 0, 0, 0), (6, 234, 1, 12, 315), (30, 7, 0, 0, 0), (0, 2, 1, 0, 0), (6, 211, 0, 12, 293), (4, 6, 0, 0, 0), (20, 40, 0, 0, 0), (3, 0, 0, 0, 0), (9, 0, 0, 0, 0)]
abbrev zb_382_40 : List zI0 := [(4, 6, 0, 0, 0), (15, 41, 0, 0, 0), (0, 3, 1, 0, 0), (3, 0, 0, 0, 0), (75, 0, 0, 0, 0), (4, 7, 0, 0, 0), (65, 0, 0, 0, 0), (72, 0, 0, 0, 0), (14, 41, 0, 0, 0), (3, 0, 0, 0, 0), (9, 0, 0, 0, 0)]
abbrev zb_382_41 : List zI0 := [(10, 190, 0, 0, 0)]
abbrev zb_382_42 : List zI0 := [(0, 1, 1, 0, 0), (0, 0, 1, 0, 0), (4, 5, 0, 0, 0), (3, 0, 0, 0, 1), (37, 0, 0, 0, 0), (112, 0, 0, 0, 0), (0, 3, 1, 0, 0), (5, 340, 3, 0, 316), (30, 6, 0, 0, 0), (0, 2, 1, 0, 0), (0, 0, 1, 0, 0), (4, 5, 0, 0, 0), (3, 0, 0, 0, 1), (37, 0, 0, 0, 0), (112, 0, 0, 0, 0), (6, 235, 1, 12, 317), (30, 7, 0, 0, 0), (0, 2, 1, 0, 0), (6, 211, 0, 12, 293), (4, 6, 0, 0, 0), (20, 43, 0, 0, 0), (3, 0, 0, 0, 0), (9, 0, 0, 0, 0)]
abbrev zb_382_43 : List zI0 := [(4, 6, 0, 0, 0), (15, 44, 0, 0, 0), (0, 3, 1, 0, 0), (3, 0, 0, 0, 0), (75, 0, 0, 0, 0), (4, 7, 0, 0, 0), (65, 0, 0, 0, 0), (72, 0, 0, 0, 0), (14, 44, 0, 0, 0), (3, 0, 0, 0, 0), (9, 0, 0, 0, 0)]
abbrev zb_382_44 : List zI0 := [(10, 190, 0, 0, 0)]
abbrev zb_382_45 : List zI0 := [(0, 1, 1, 0, 0), (0, 0, 1, 0, 0), (4, 5, 0, 0, 0), (3, 0, 0, 0, 1), (37, 0, 0, 0, 0), (112, 0, 0, 0, 0), (14, 46, 0, 0, 0), (3, 0, 0, 0, 1), (10, 47, 0, 0, 0)]
abbrev zb_382_46 : List zI0 := [(3, 0, 0, 0, 0), (111, 47, 0, 0, 0)]
abbrev zb_382_47 : List zI0 := [(0, 3, 1, 0, 0), (5, 341, 3, 0, 318), (30, 6, 0, 0, 0), (0, 2, 1, 0, 0), (0, 0, 1, 0, 0), (4, 5, 0, 0, 0), (3, 0, 0, 0, 1), (37, 0, 0, 0, 0), (112, 0, 0, 0, 0), (14, 48, 0, 0, 0), (3, 0, 0, 0, 1), (10, 49, 0, 0, 0)]
abbrev zb_382_48 : List zI0 := [(3, 0, 0, 0, 0), (111, 49, 0, 0, 0)]
abbrev zb_382_49 : List zI0 := [(6, 236, 1, 12, 319), (30, 7, 0, 0, 0), (0, 2, 1, 0, 0), (6, 211, 0, 12, 293), (4, 6, 0, 0, 0), (20, 50, 0, 0, 0), (3, 0, 0, 0, 0), (9, 0, 0, 0, 0)]
abbrev zb_382_50 : List zI0 := [(4, 6, 0, 0, 0), (15, 51, 0, 0, 0), (0, 3, 1, 0, 0), (3, 0, 0, 0, 0), (75, 0, 0, 0, 0), (4, 7, 0, 0, 0), (65, 0, 0, 0, 0), (72, 0, 0, 0, 0), (14, 51, 0, 0, 0), (3, 0, 0, 0, 0), (9, 0, 0, 0, 0)]
abbrev zb_382_51 : List zI0 := [(10, 190, 0, 0, 0)]
abbrev zb_382_52 : List zI0 := [(0, 1, 1, 0, 0), (0, 0, 1, 0, 0), (4, 5, 0, 0, 0), (3, 0, 0, 0, 1), (37, 0, 0, 0, 0), (112, 0, 0, 0, 0), (0, 0, 1, 0, 0), (4, 5, 0, 0, 0), (3, 0, 0, 0, 2), (37, 0, 0, 0, 0), (112, 0, 0, 0, 0), (0, 0, 1, 0, 0), (4, 5, 0, 0, 0), (3, 0, 0, 0, 3), (37, 0, 0, 0, 0), (112, 0, 0, 0, 0), (0, 3, 1, 0, 0), (5, 342, 5, 0, 320), (30, 6, 0, 0, 0), (0, 2, 1, 0, 0), (0, 0, 1, 0, 0), (4, 5, 0, 0, 0), (3, 0, 0, 0, 1), (37, 0, 0, 0, 0), (112, 0, 0, 0, 0), (0, 0, 1, 0, 0), (4, 5, 0, 0, 0), (3, 0, 0, 0, 2), (37, 0, 0, 0, 0), (112, 0, 0, 0, 0), (0, 0, 1, 0, 0), (4, 5, 0, 0, 0), (3, 0, 0, 0, 3), (37, 0, 0, 0, 0), (112, 0, 0, 0, 0), (6, 243, 3, 12, 321), (30, 7, 0, 0, 0), (0, 2, 1, 0, 0), (6, 211, 0, 12, 293), (4, 6, 0, 0, 0), (20, 53, 0, 0, 0), (3, 0, 0, 0, 0), (9, 0, 0, 0, 0)]
abbrev zb_382_53 : List zI0 := [(4, 6, 0, 0, 0), (15, 54, 0, 0, 0), (0, 3, 1, 0, 0), (3, 0, 0, 0, 0), (75, 0, 0, 0, 0), (4, 7, 0, 0, 0), (65, 0, 0, 0, 0), (72, 0, 0, 0, 0), (14, 54, 0, 0, 0), (3, 0, 0, 0, 0), (9, 0, 0, 0, 0)]
abbrev zb_382_54 : List zI0 := [(10, 190, 0, 0, 0)]
abbrev zb_382_55 : List zI0 := [(0, 1, 1, 0, 0), (0, 3, 1, 0, 0), (5, 343, 2, 0, 322), (30, 6, 0, 0, 0), (0, 2, 1, 0, 0), (6, 245, 0, 12, 323), (30, 7, 0, 0, 0), (0, 2, 1, 0, 0), (6, 211, 0, 12, 293), (4, 6, 0, 0, 0), (20, 56, 0, 0, 0), (3, 0, 0, 0, 0), (9, 0, 0, 0, 0)]
abbrev zb_382_56 : List zI0 := [(4, 6, 0, 0, 0), (15, 57, 0, 0, 0), (0, 3, 1, 0, 0), (3, 0, 0, 0, 0), (75, 0, 0, 0, 0), (4, 7, 0, 0, 0), (65, 0, 0, 0, 0), (72, 0, 0, 0, 0), (14, 57, 0, 0, 0), (3, 0, 0, 0, 0), (9, 0, 0, 0, 0)]
abbrev zb_382_57 : List zI0 := [(10, 190, 0, 0, 0)]
abbrev zb_382_58 : List zI0 := [(0, 1, 1, 0, 0), (0, 0, 1, 0, 0), (4, 5, 0, 0, 0), (3, 0, 0, 0, 1), (37, 0, 0, 0, 0), (112, 0, 0, 0, 0), (0, 3, 1, 0, 0), (5, 344, 3, 0, 324), (30, 6, 0, 0, 0), (0, 2, 1, 0, 0), (0, 0, 1, 0, 0), (4, 5, 0, 0, 0), (3, 0, 0, 0, 1), (37, 0, 0, 0, 0), (112, 0, 0, 0, 0), (6, 256, 1, 12, 325), (30, 7, 0, 0, 0), (0, 2, 1, 0, 0), (6, 211, 0, 12, 293), (4, 6, 0, 0, 0), (20, 59, 0, 0, 0), (3, 0, 0, 0, 0), (9, 0, 0, 0, 0)]
abbrev zb_382_59 : List zI0 := [(4, 6, 0, 0, 0), (15, 60, 0, 0, 0), (0, 3, 1, 0, 0), (3, 0, 0, 0, 0), (75, 0, 0, 0, 0), (4, 7, 0, 0, 0), (65, 0, 0, 0, 0), (72, 0, 0, 0, 0), (14, 60, 0, 0, 0), (3, 0, 0, 0, 0), (9, 0, 0, 0, 0)]
abbrev zb_382_60 : List zI0 := [(10, 190, 0, 0, 0)]
abbrev zb_382_61 : List zI0 := [(0, 1, 1, 0, 0), (0, 0, 1, 0, 0), (4, 5, 0, 0, 0), (3, 0, 0, 0, 1), (37, 0, 0, 0, 0), (112, 0, 0, 0, 0), (0, 3, 1, 0, 0), (5, 345, 3, 0, 326), (30, 6, 0, 0, 0), (0, 2, 1, 0, 0), (0, 0, 1, 0, 0), (4, 5, 0, 0, 0), (3, 0, 0, 0, 1), (37, 0, 0, 0, 0), (112, 0, 0, 0, 0), (6, 257, 1, 12, 327), (30, 7, 0, 0, 0), (0, 2, 1, 0, 0), (6, 211, 0, 12, 293), (4, 6, 0, 0, 0), (20, 62, 0, 0, 0), (3, 0, 0, 0, 0), (9, 0, 0, 0, 0)]
abbrev zb_382_62 : List zI0 := [(4, 6, 0, 0, 0), (15, 63, 0, 0, 0), (0, 3, 1, 0, 0), (3, 0, 0, 0, 0), (75, 0, 0, 0, 0), (4, 7, 0, 0, 0), (65, 0, 0, 0, 0), (72, 0, 0, 0, 0), (14, 63, 0, 0, 0), (3, 0, 0, 0, 0), (9, 0, 0, 0, 0)]
abbrev zb_382_63 : List zI0 := [(10, 190, 0, 0, 0)]
abbrev zb_382_64 : List zI0 := [(0, 1, 1, 0, 0), (0, 0, 1, 0, 0), (4, 5, 0, 0, 0), (3, 0, 0, 0, 1), (37, 0, 0, 0, 0), (112, 0, 0, 0, 0), (0, 3, 1, 0, 0), (5, 346, 3, 0, 328), (30, 6, 0, 0, 0), (0, 2, 1, 0, 0), (0, 0, 1, 0, 0), (4, 5, 0, 0, 0), (3, 0, 0, 0, 1), (37, 0, 0, 0, 0), (112, 0, 0, 0, 0), (6, 258, 1, 12, 329), (30, 7, 0, 0, 0), (0, 2, 1, 0, 0), (6, 211, 0, 12, 293), (4, 6, 0, 0, 0), (20, 65, 0, 0, 0), (3, 0, 0, 0, 0), (9, 0, 0, 0, 0)]
abbrev zb_382_65 : List zI0 := [(4, 6, 0, 0, 0), (15, 66, 0, 0, 0), (0, 3, 1, 0, 0), (3, 0, 0, 0, 0), (75, 0, 0, 0, 0), (4, 7, 0, 0, 0), (65, 0, 0, 0, 0), (72, 0, 0, 0, 0), (14, 66, 0, 0, 0), (3, 0, 0, 0, 0), (9, 0, 0, 0, 0)]
abbrev zb_382_66 : List zI0 := [(10, 190, 0, 0, 0)]
abbrev zb_382_67 : List zI0 := [(0, 1, 1, 0, 0), (0, 0, 1, 0, 0), (4, 5, 0, 0, 0), (3, 0, 0, 0, 1), (37, 0, 0, 0, 0), (112, 0, 0, 0, 0), (0, 3, 1, 0, 0), (5, 347, 3, 0, 330), (30, 6, 0, 0, 0), (0, 2, 1, 0, 0), (0, 0, 1, 0, 0), (4, 5, 0, 0, 0), (3, 0, 0, 0, 1), (37, 0, 0, 0, 0), (112, 0, 0, 0, 0), (6, 259, 1, 12, 331), (30, 7, 0, 0, 0), (0, 2, 1, 0, 0), (6, 211, 0, 12, 293), (4, 6, 0, 0, 0), (20, 68, 0, 0, 0), (3, 0, 0, 0, 0), (9, 0, 0, 0, 0)]
abbrev zb_382_68 : List zI0 := [(4, 6, 0, 0, 0), (15, 69, 0, 0, 0), (0, 3, 1, 0, 0), (3, 0, 0, 0, 0), (75, 0, 0, 0, 0), (4, 7, 0, 0, 0), (65, 0, 0, 0, 0), (72, 0, 0, 0, 0), (14, 69, 0, 0, 0), (3, 0, 0, 0, 0), (9, 0, 0, 0, 0)]
abbrev zb_382_69 : List zI0 := [(10, 190, 0, 0, 0)]
abbrev zb_382_70 : List zI0 := [(0, 1, 1, 0, 0), (0, 0, 1, 0, 0), (4, 5, 0, 0, 0), (3, 0, 0, 0, 1), (37, 0, 0, 0, 0), (112, 0, 0, 0, 0), (0, 3, 1, 0, 0), (5, 348, 3, 0, 332), (30, 6, 0, 0, 0), (0, 2, 1, 0, 0), (0, 0, 1, 0, 0), (4, 5, 0, 0, 0), (3, 0, 0, 0, 1), (37, 0, 0, 0, 0), (112, 0, 0, 0, 0), (6, 260, 1, 12, 333), (30, 7, 0, 0, 0), (0, 2, 1, 0, 0), (6, 211, 0, 12, 293), (4, 6, 0, 0, 0), (20, 71, 0, 0, 0), (3, 0, 0, 0, 0), (9, 0, 0, 0, 0)]
abbrev zb_382_71 : List zI0 := [(4, 6, 0, 0, 0), (15, 72, 0, 0, 0), (0, 3, 1, 0, 0), (3, 0, 0, 0, 0), (75, 0, 0, 0, 0), (4, 7, 0, 0, 0), (65, 0, 0, 0, 0), (72, 0, 0, 0, 0), (14, 72, 0, 0, 0), (3, 0, 0, 0, 0), (9, 0, 0, 0, 0)]
abbrev zb_382_72 : List zI0 := [(10, 190, 0, 0, 0)]
abbrev zb_382_73 : List zI0 := [(0, 1, 1, 0, 0), (0, 0, 1, 0, 0), (4, 5, 0, 0, 0), (3, 0, 0, 0, 1), (37, 0, 0, 0, 0), (112, 0, 0, 0, 0), (0, 0, 1, 0, 0), (4, 5, 0, 0, 0), (3, 0, 0, 0, 2), (37, 0, 0, 0, 0), (112, 0, 0, 0, 0), (0, 0, 1, 0, 0), (4, 5, 0, 0, 0), (3, 0, 0, 0, 3), (37, 0, 0, 0, 0), (112, 0, 0, 0, 0), (0, 3, 1, 0, 0), (5, 349, 5, 0, 334), (30, 6, 0, 0, 0), (0, 2, 1, 0, 0), (0, 0, 1, 0, 0), (4, 5, 0, 0, 0), (3, 0, 0, 0, 1), (37, 0, 0, 0, 0), (112, 0, 0, 0, 0), (0, 0, 1, 0, 0), (4, 5, 0, 0, 0), (3, 0, 0, 0, 2), (37, 0, 0, 0, 0), (112, 0, 0, 0, 0), (0, 0, 1, 0, 0), (4, 5, 0, 0, 0), (3, 0, 0, 0, 3), (37, 0, 0, 0, 0), (112, 0, 0, 0, 0), (6, 261, 3, 12, 335), (30, 7, 0, 0, 0), (0, 2, 1, 0, 0), (6, 211, 0, 12, 293), (4, 6, 0, 0, 0), (20, 74, 0, 0, 0), (3, 0, 0, 0, 0), (9, 0, 0, 0, 0)]
abbrev zb_382_74 : List zI0 := [(4, 6, 0, 0, 0), (15, 75, 0, 0, 0), (0, 3, 1, 0, 0), (3, 0, 0, 0, 0), (75, 0, 0, 0, 0), (4, 7, 0, 0, 0), (65, 0, 0, 0, 0), (72, 0, 0, 0, 0), (14, 75, 0, 0, 0), (3, 0, 0, 0, 0), (9, 0, 0, 0, 0)]
abbrev zb_382_75 : List zI0 := [(10, 190, 0, 0, 0)]
abbrev zb_382_76 : List zI0 := [(0, 1, 1, 0, 0), (0, 0, 1, 0, 0), (4, 5, 0, 0, 0), (3, 0, 0, 0, 1), (37, 0, 0, 0, 0), (112, 0, 0, 0, 0), (0, 3, 1, 0, 0), (5, 350, 3, 0, 336), (30, 6, 0, 0, 0), (0, 2, 1, 0, 0), (0, 0, 1, 0, 0), (4, 5, 0, 0, 0), (3, 0, 0, 0, 1), (37, 0, 0, 0, 0), (112, 0, 0, 0, 0), (6, 262, 1, 12, 337), (30, 7, 0, 0, 0), (0, 2, 1, 0, 0), (6, 211, 0, 12, 293), (4, 6, 0, 0, 0), (20, 77, 0, 0, 0), (3, 0, 0, 0, 0), (9, 0, 0, 0, 0)]
abbrev zb_382_77 : List zI0 := [(4, 6, 0, 0, 0), (15, 78, 0, 0, 0), (0, 3, 1, 0, 0), (3, 0, 0, 0, 0), (75, 0, 0, 0, 0), (4, 7, 0, 0, 0), (65, 0, 0, 0, 0), (72, 0, 0, 0, 0), (14, 78, 0, 0, 0), (3, 0, 0, 0, 0), (9, 0, 0, 0, 0)]
abbrev zb_382_78 : List zI0 := [(10, 190, 0, 0, 0)]
abbrev zb_382_79 : List zI0 := [(0, 1, 1, 0, 0), (0, 3, 1, 0, 0), (5, 351, 2, 0, 338), (30, 6, 0, 0, 0), (0, 2, 1, 0, 0), (6, 263, 0, 12, 339), (30, 7, 0, 0, 0), (0, 2, 1, 0, 0), (6, 211, 0, 12, 293), (4, 6, 0, 0, 0), (20, 80, 0, 0, 0), (3, 0, 0, 0, 0), (9, 0, 0, 0, 0)]
abbrev zb_382_80 : List zI0 := [(4, 6, 0, 0, 0), (15, 81, 0, 0, 0), (0, 3, 1, 0, 0), (3, 0, 0, 0, 0), (75, 0, 0, 0, 0), (4, 7, 0, 0, 0), (65, 0, 0, 0, 0), (72, 0, 0, 0, 0), (14, 81, 0, 0, 0), (3, 0, 0, 0, 0), (9, 0, 0, 0, 0)]
abbrev zb_382_81 : List zI0 := [(10, 190, 0, 0, 0)]
abbrev zb_382_82 : List zI0 := [(0, 1, 1, 0, 0), (0, 0, 1, 0, 0), (4, 5, 0, 0, 0), (3, 0, 0, 0, 1), (37, 0, 0, 0, 0), (112, 0, 0, 0, 0), (0, 3, 1, 0, 0), (5, 352, 3, 0, 340), (30, 6, 0, 0, 0), (0, 2, 1, 0, 0), (0, 0, 1, 0, 0), (4, 5, 0, 0, 0), (3, 0, 0, 0, 1), (37, 0, 0, 0, 0), (112, 0, 0, 0, 0), (6, 266, 1, 12, 341), (30, 7, 0, 0, 0), (0, 2, 1, 0, 0), (6, 211, 0, 12, 293), (4, 6, 0, 0, 0), (20, 83, 0, 0, 0), (3, 0, 0, 0, 0), (9, 0, 0, 0, 0)]
abbrev zb_382_83 : List zI0 := [(4, 6, 0, 0, 0), (15, 84, 0, 0, 0), (0, 3, 1, 0, 0), (3, 0, 0, 0, 0), (75, 0, 0, 0, 0), (4, 7, 0, 0, 0), (65, 0, 0, 0, 0), (72, 0, 0, 0, 0), (14, 84, 0, 0, 0), (3, 0, 0, 0, 0), (9, 0, 0, 0, 0)]
abbrev zb_382_84 : List zI0 := [(10, 190, 0, 0, 0)]
abbrev zb_382_85 : List zI0 := [(0, 1, 1, 0, 0), (0, 0, 1, 0, 0), (4, 5, 0, 0, 0), (3, 0, 0, 0, 1), (37, 0, 0, 0, 0), (112, 0, 0, 0, 0), (0, 3, 1, 0, 0), (5, 353, 3, 0, 342), (30, 6, 0, 0, 0), (0, 2, 1, 0, 0), (0, 0, 1, 0, 0), (4, 5, 0, 0, 0), (3, 0, 0, 0, 1), (37, 0, 0, 0, 0), (112, 0, 0, 0, 0), (6, 270, 1, 12, 343), (74, 7, 0, 0, 0), (0, 2, 1, 0, 0), (6, 211, 0, 12, 293), (4, 6, 0, 0, 0), (20, 86, 0, 0, 0), (3, 0, 0, 0, 0), (9, 0, 0, 0, 0)]
abbrev zb_382_86 : List zI0 := [(4, 6, 0, 0, 0), (15, 87, 0, 0, 0), (0, 3, 1, 0, 0), (3, 0, 0, 0, 0), (75, 0, 0, 0, 0), (73, 7, 0, 0, 0), (72, 0, 0, 0, 0), (14, 87, 0, 0, 0), (3, 0, 0, 0, 0), (9, 0, 0, 0, 0)]
abbrev zb_382_87 : List zI0 := [(10, 190, 0, 0, 0)]
abbrev zb_382_88 : List zI0 := [(0, 1, 1, 0, 0), (0, 0, 1, 0, 0), (4, 5, 0, 0, 0), (3, 0, 0, 0, 1), (37, 0, 0, 0, 0), (112, 0, 0, 0, 0), (0, 3, 1, 0, 0), (5, 354, 3, 0, 344), (30, 6, 0, 0, 0), (0, 2, 1, 0, 0), (0, 0, 1, 0, 0), (4, 5, 0, 0, 0), (3, 0, 0, 0, 1), (37, 0, 0, 0, 0), (112, 0, 0, 0, 0), (6, 271, 1, 12, 345), (74, 7, 0, 0, 0), (0, 2, 1, 0, 0), (6, 211, 0, 12, 293), (4, 6, 0, 0, 0), (20, 89, 0, 0, 0), (3, 0, 0, 0, 0), (9, 0, 0, 0, 0)]
abbrev zb_382_89 : List zI0 := [(4, 6, 0, 0, 0), (15, 90, 0, 0, 0), (0, 3, 1, 0, 0), (3, 0, 0, 0, 0), (75, 0, 0, 0, 0), (73, 7, 0, 0, 0), (72, 0, 0, 0, 0), (14, 90, 0, 0, 0), (3, 0, 0, 0, 0), (9, 0, 0, 0, 0)]
abbrev zb_382_90 : List zI0 := [(10, 190, 0, 0, 0)]
abbrev zb_382_91 : List zI0 := [(0, 1, 1, 0, 0), (0, 0, 1, 0, 0), (4, 5, 0, 0, 0), (3, 0, 0, 0, 1), (37, 0, 0, 0, 0), (112, 0, 0, 0, 0), (0, 4, 0, 0, 0), (5, 355, 3, 0, 346), (30, 6, 0, 0, 0), (0, 2, 1, 0, 0), (0, 0, 1, 0, 0), (4, 5, 0, 0, 0), (3, 0, 0, 0, 1), (37, 0, 0, 0, 0), (112, 0, 0, 0, 0), (6, 273, 1, 12, 347), (79, 7, 0, 0, 0), (0, 2, 1, 0, 0), (6, 211, 0, 12, 293), (4, 6, 0, 0, 0), (20, 92, 0, 0, 0), (3, 0, 0, 0, 0), (9, 0, 0, 0, 0)]
abbrev zb_382_92 : List zI0 := [(4, 6, 0, 0, 0), (15, 94, 0, 0, 0), (0, 4, 0, 0, 0), (3, 0, 0, 0, 0), (80, 0, 0, 0, 0), (78, 7, 0, 0, 0), (85, 0, 0, 0, 0), (14, 94, 0, 0, 0), (0, 4, 0, 0, 0), (3, 0, 0, 0, 0), (80, 0, 0, 0, 0), (0, 4, 0, 0, 0), (3, 0, 0, 0, 0), (80, 0, 0, 0, 0), (85, 0, 0, 0, 0), (14, 93, 0, 0, 0), (78, 7, 0, 0, 0), (78, 7, 0, 0, 0), (85, 0, 0, 0, 0), (15, 94, 0, 0, 0), (111, 93, 0, 0, 0)]
abbrev zb_382_93 : List zI0 := [(3, 0, 0, 0, 0), (9, 0, 0, 0, 0)]
abbrev zb_382_94 : List zI0 := [(10, 190, 0, 0, 0)]
abbrev zb_382_95 : List zI0 := [(0, 1, 1, 0, 0), (0, 0, 1, 0, 0), (4, 5, 0, 0, 0), (3, 0, 0, 0, 1), (37, 0, 0, 0, 0), (112, 0, 0, 0, 0), (0, 0, 1, 0, 0), (4, 5, 0, 0, 0), (3, 0, 0, 0, 2), (37, 0, 0, 0, 0), (112, 0, 0, 0, 0), (0, 3, 1, 0, 0), (5, 356, 4, 0, 348), (30, 6, 0, 0, 0), (0, 2, 1, 0, 0), (0, 0, 1, 0, 0), (4, 5, 0, 0, 0), (3, 0, 0, 0, 1), (37, 0, 0, 0, 0), (112, 0, 0, 0, 0), (0, 0, 1, 0, 0), (4, 5, 0, 0, 0), (3, 0, 0, 0, 2), (37, 0, 0, 0, 0), (112, 0, 0, 0, 0), (6, 274, 2, 12, 349), (30, 7, 0, 0, 0), (0, 2, 1, 0, 0), (6, 211, 0, 12, 293), (4, 6, 0, 0, 0), (20, 96, 0, 0, 0), (3, 0, 0, 0, 0), (9, 0, 0, 0, 0)]
abbrev zb_382_96 : List zI0 := [(4, 6, 0, 0, 0), (15, 97, 0, 0, 0), (0, 3, 1, 0, 0), (3, 0, 0, 0, 0), (75, 0, 0, 0, 0), (4, 7, 0, 0, 0), (65, 0, 0, 0, 0), (72, 0, 0, 0, 0), (14, 97, 0, 0, 0), (3, 0, 0, 0, 0), (9, 0, 0, 0, 0)]
abbrev zb_382_97 : List zI0 := [(10, 190, 0, 0, 0)]
abbrev zb_382_98 : List zI0 := [(0, 1, 1, 0, 0), (6, 147, 0, 11, 350), (0, 2, 1, 0, 0), (6, 276, 0, 12, 351), (20, 190, 0, 0, 0), (3, 0, 0, 0, 0), (9, 0, 0, 0, 0)]
abbrev zb_382_99 : List zI0 := [(0, 1, 1, 0, 0), (0, 3, 1, 0, 0), (5, 357, 2, 0, 352), (30, 6, 0, 0, 0), (0, 2, 1, 0, 0), (6, 277, 0, 12, 353), (30, 7, 0, 0, 0), (0, 2, 1, 0, 0), (6, 211, 0, 12, 293), (4, 6, 0, 0, 0), (20, 100, 0, 0, 0), (3, 0, 0, 0, 0), (9, 0, 0, 0, 0)]
abbrev zb_382_100 : List zI0 := [(4, 6, 0, 0, 0), (15, 101, 0, 0, 0), (0, 3, 1, 0, 0), (3, 0, 0, 0, 0), (75, 0, 0, 0, 0), (4, 7, 0, 0, 0), (65, 0, 0, 0, 0), (72, 0, 0, 0, 0), (14, 101, 0, 0, 0), (3, 0, 0, 0, 0), (9, 0, 0, 0, 0)]
abbrev zb_382_101 : List zI0 := [(10, 190, 0, 0, 0)]
abbrev zb_382_102 : List zI0 := [(0, 1, 1, 0, 0), (0, 0, 1, 0, 0), (4, 5, 0, 0, 0), (3, 0, 0, 0, 1), (37, 0, 0, 0, 0), (112, 0, 0, 0, 0), (0, 3, 1, 0, 0), (5, 358, 3, 0, 354), (30, 6, 0, 0, 0), (0, 2, 1, 0, 0), (0, 0, 1, 0, 0), (4, 5, 0, 0, 0), (3, 0, 0, 0, 1), (37, 0, 0, 0, 0), (112, 0, 0, 0, 0), (6, 278, 1, 12, 355), (30, 7, 0, 0, 0), (0, 2, 1, 0, 0), (6, 211, 0, 12, 293), (4, 6, 0, 0, 0), (20, 103, 0, 0, 0), (3, 0, 0, 0, 0), (9, 0, 0, 0, 0)]
abbrev zb_382_103 : List zI0 := [(4, 6, 0, 0, 0), (15, 106, 0, 0, 0), (0, 3, 1, 0, 0), (3, 0, 0, 0, 0), (75, 0, 0, 0, 0), (4, 7, 0, 0, 0), (14, 104, 0, 0, 0), (64, 0, 0, 0, 1), (10, 105, 0, 0, 0)]
abbrev zb_382_104 : List zI0 := [(64, 0, 0, 0, 0), (111, 105, 0, 0, 0)]
abbrev zb_382_105 : List zI0 := [(72, 0, 0, 0, 0), (14, 106, 0, 0, 0), (3, 0, 0, 0, 0), (9, 0, 0, 0, 0)]
abbrev zb_382_106 : List zI0 := [(10, 190, 0, 0, 0)]
abbrev zb_382_107 : List zI0 := [(0, 1, 1, 0, 0), (6, 150, 0, 11, 356), (0, 2, 1, 0, 0), (6, 279, 0, 12, 357), (20, 190, 0, 0, 0), (3, 0, 0, 0, 0), (9, 0, 0, 0, 0)]
abbrev zb_382_108 : List zI0 := [(0, 1, 1, 0, 0), (0, 0, 1, 0, 0), (4, 5, 0, 0, 0), (3, 0, 0, 0, 1), (37, 0, 0, 0, 0), (112, 0, 0, 0, 0), (0, 0, 1, 0, 0), (4, 5, 0, 0, 0), (3, 0, 0, 0, 2), (37, 0, 0, 0, 0), (112, 0, 0, 0, 0), (103, 0, 0, 0, 0), (0, 0, 1, 0, 0), (4, 5, 0, 0, 0), (3, 0, 0, 0, 3), (37, 0, 0, 0, 0), (112, 0, 0, 0, 0), (0, 0, 1, 0, 0), (4, 5, 0, 0, 0), (3, 0, 0, 0, 4), (37, 0, 0, 0, 0), (112, 0, 0, 0, 0), (0, 3, 1, 0, 0), (5, 359, 6, 0, 358), (30, 6, 0, 0, 0), (0, 2, 1, 0, 0), (0, 0, 1, 0, 0), (4, 5, 0, 0, 0), (3, 0, 0, 0, 1), (37, 0, 0, 0, 0), (112, 0, 0, 0, 0), (0, 0, 1, 0, 0), (4, 5, 0, 0, 0), (3, 0, 0, 0, 2), (37, 0, 0, 0, 0), (112, 0, 0, 0, 0), (103, 0, 0, 0, 0), (0, 0, 1, 0, 0), (4, 5, 0, 0, 0), (3, 0, 0, 0, 3), (37, 0, 0, 0, 0), (112, 0, 0, 0, 0), (0, 0, 1, 0, 0), (4, 5, 0, 0, 0), (3, 0, 0, 0, 4), (37, 0, 0, 0, 0), (112, 0, 0, 0, 0), (6, 280, 4, 12, 359), (30, 7, 0, 0, 0), (0, 2, 1, 0, 0), (6, 211, 0, 12, 293), (4, 6, 0, 0, 0), (20, 109, 0, 0, 0), (3, 0, 0, 0, 0), (9, 0, 0, 0, 0)]
abbrev zb_382_109 : List zI0 := [(4, 6, 0, 0, 0), (15, 110, 0, 0, 0), (0, 3, 1, 0, 0), (3, 0, 0, 0, 0), (75, 0, 0, 0, 0), (4, 7, 0, 0, 0), (65, 0, 0, 0, 0), (72, 0, 0, 0, 0), (14, 110, 0, 0, 0), (3, 0, 0, 0, 0), (9, 0, 0, 0, 0)]
abbrev zb_382_110 : List zI0 := [(10, 190, 0, 0, 0)]
abbrev zb_382_111 : List zI0 := [(0, 1, 1, 0, 0), (0, 0, 1, 0, 0), (4, 5, 0, 0, 0), (3, 0, 0, 0, 1), (37, 0, 0, 0, 0), (112, 0, 0, 0, 0), (0, 3, 1, 0, 0), (5, 360, 3, 0, 360), (30, 6, 0, 0, 0), (0, 2, 1, 0, 0), (0, 0, 1, 0, 0), (4, 5, 0, 0, 0), (3, 0, 0, 0, 1), (37, 0, 0, 0, 0), (112, 0, 0, 0, 0), (6, 283, 1, 12, 361), (30, 7, 0, 0, 0), (0, 2, 1, 0, 0), (6, 211, 0, 12, 293), (4, 6, 0, 0, 0), (20, 112, 0, 0, 0), (3, 0, 0, 0, 0), (9, 0, 0, 0, 0)]
abbrev zb_382_112 : List zI0 := [(4, 6, 0, 0, 0), (15, 113, 0, 0, 0), (0, 3, 1, 0, 0), (3, 0, 0, 0, 0), (75, 0, 0, 0, 0), (4, 7, 0, 0, 0), (65, 0, 0, 0, 0), (72, 0, 0, 0, 0), (14, 113, 0, 0, 0), (3, 0, 0, 0, 0), (9, 0, 0, 0, 0)]
abbrev zb_382_113 : List zI0 := [(10, 190, 0, 0, 0)]
abbrev zb_382_114 : List zI0 := [(0, 1, 1, 0, 0), (0, 0, 1, 0, 0), (4, 5, 0, 0, 0), (3, 0, 0, 0, 1), (37, 0, 0, 0, 0), (112, 0, 0, 0, 0), (0, 0, 1, 0, 0), (4, 5, 0, 0, 0), (3, 0, 0, 0, 2), (37, 0, 0, 0, 0), (112, 0, 0, 0, 0), (0, 3, 1, 0, 0), (5, 361, 4, 0, 362), (30, 6, 0, 0, 0), (0, 2, 1, 0, 0), (0, 0, 1, 0, 0), (4, 5, 0, 0, 0), (3, 0, 0, 0, 1), (37, 0, 0, 0, 0), (112, 0, 0, 0, 0), (0, 0, 1, 0, 0), (4, 5, 0, 0, 0), (3, 0, 0, 0, 2), (37, 0, 0, 0, 0), (112, 0, 0, 0, 0), (6, 287, 2, 12, 363), (30, 7, 0, 0, 0), (0, 2, 1, 0, 0), (6, 211, 0, 12, 293), (4, 6, 0, 0, 0), (20, 115, 0, 0, 0), (3, 0, 0, 0, 0), (9, 0, 0, 0, 0)]
abbrev zb_382_115 : List zI0 := [(4, 6, 0, 0, 0), (15, 116, 0, 0, 0), (0, 3, 1, 0, 0), (3, 0, 0, 0, 0), (75, 0, 0, 0, 0), (4, 7, 0, 0, 0), (65, 0, 0, 0, 0), (72, 0, 0, 0, 0), (14, 116, 0, 0, 0), (3, 0, 0, 0, 0), (9, 0, 0, 0, 0)]
abbrev zb_382_116 : List zI0 := [(10, 190, 0, 0, 0)]
abbrev zb_382_117 : List zI0 := [(0, 1, 1, 0, 0), (0, 0, 1, 0, 0), (4, 5, 0, 0, 0), (3, 0, 0, 0, 1), (37, 0, 0, 0, 0), (112, 0, 0, 0, 0), (0, 0, 1, 0, 0), (4, 5, 0, 0, 0), (3, 0, 0, 0, 2), (37, 0, 0, 0, 0), (112, 0, 0, 0, 0), (0, 3, 1, 0, 0), (5, 362, 4, 0, 364), (30, 6, 0, 0, 0), (0, 2, 1, 0, 0), (0, 0, 1, 0, 0), (4, 5, 0, 0, 0), (3, 0, 0, 0, 1), (37, 0, 0, 0, 0), (112, 0, 0, 0, 0), (0, 0, 1, 0, 0), (4, 5, 0, 0, 0), (3, 0, 0, 0, 2), (37, 0, 0, 0, 0), (112, 0, 0, 0, 0), (6, 288, 2, 12, 365), (30, 7, 0, 0, 0), (0, 2, 1, 0, 0), (6, 211, 0, 12, 293), (4, 6, 0, 0, 0), (20, 118, 0, 0, 0), (3, 0, 0, 0, 0), (9, 0, 0, 0, 0)]
abbrev zb_382_118 : List zI0 := [(4, 6, 0, 0, 0), (15, 119, 0, 0, 0), (0, 3, 1, 0, 0), (3, 0, 0, 0, 0), (75, 0, 0, 0, 0), (4, 7, 0, 0, 0), (65, 0, 0, 0, 0), (72, 0, 0, 0, 0), (14, 119, 0, 0, 0), (3, 0, 0, 0, 0), (9, 0, 0, 0, 0)]
abbrev zb_382_119 : List zI0 := [(10, 190, 0, 0, 0)]
abbrev zb_382_120 : List zI0 := [(0, 1, 1, 0, 0), (0, 0, 1, 0, 0), (4, 5, 0, 0, 0), (3, 0, 0, 0, 1), (37, 0, 0, 0, 0), (112, 0, 0, 0, 0), (0, 3, 1, 0, 0), (5, 363, 3, 0, 366), (30, 6, 0, 0, 0), (0, 2, 1, 0, 0), (0, 0, 1, 0, 0), (4, 5, 0, 0, 0), (3, 0, 0, 0, 1), (37, 0, 0, 0, 0), (112, 0, 0, 0, 0), (6, 289, 1, 12, 367), (30, 7, 0, 0, 0), (0, 2, 1, 0, 0), (6, 211, 0, 12, 293), (4, 6, 0, 0, 0), (20, 121, 0, 0, 0), (3, 0, 0, 0, 0), (9, 0, 0, 0, 0)]
abbrev zb_382_121 : List zI0 := [(4, 6, 0, 0, 0), (15, 122, 0, 0, 0), (0, 3, 1, 0, 0), (3, 0, 0, 0, 0), (75, 0, 0, 0, 0), (4, 7, 0, 0, 0), (65, 0, 0, 0, 0), (72, 0, 0, 0, 0), (14, 122, 0, 0, 0), (3, 0, 0, 0, 0), (9, 0, 0, 0, 0)]
abbrev zb_382_122 : List zI0 := [(10, 190, 0, 0, 0)]
abbrev zb_382_123 : List zI0 := [(0, 1, 1, 0, 0), (0, 0, 1, 0, 0), (4, 5, 0, 0, 0), (3, 0, 0, 0, 1), (37, 0, 0, 0, 0), (112, 0, 0, 0, 0), (0, 0, 1, 0, 0), (4, 5, 0, 0, 0), (3, 0, 0, 0, 2), (37, 0, 0, 0, 0), (112, 0, 0, 0, 0), (0, 3, 1, 0, 0), (5, 364, 4, 0, 368), (30, 6, 0, 0, 0), (0, 2, 1, 0, 0), (0, 0, 1, 0, 0), (4, 5, 0, 0, 0), (3, 0, 0, 0, 1), (37, 0, 0, 0, 0), (112, 0, 0, 0, 0), (0, 0, 1, 0, 0), (4, 5, 0, 0, 0), (3, 0, 0, 0, 2), (37, 0, 0, 0, 0), (112, 0, 0, 0, 0), (6, 290, 2, 12, 369), (30, 7, 0, 0, 0), (0, 2, 1, 0, 0), (6, 211, 0, 12, 293), (4, 6, 0, 0, 0), (20, 124, 0, 0, 0), (3, 0, 0, 0, 0), (9, 0, 0, 0, 0)]
abbrev zb_382_124 : List zI0 := [(4, 6, 0, 0, 0), (15, 125, 0, 0, 0), (0, 3, 1, 0, 0), (3, 0, 0, 0, 0), (75, 0, 0, 0, 0), (4, 7, 0, 0, 0), (65, 0, 0, 0, 0), (72, 0, 0, 0, 0), (14, 125, 0, 0, 0), (3, 0, 0, 0, 0), (9, 0, 0, 0, 0)]
abbrev zb_382_125 : List zI0 := [(10, 190, 0, 0, 0)]
abbrev zb_382_126 : List zI0 := [(0, 1, 1, 0, 0), (0, 0, 1, 0, 0), (4, 5, 0, 0, 0), (3, 0, 0, 0, 1), (37, 0, 0, 0, 0), (112, 0, 0, 0, 0), (0, 3, 1, 0, 0), (5, 365, 3, 0, 370), (30, 6, 0, 0, 0), (0, 2, 1, 0, 0), (0, 0, 1, 0, 0), (4, 5, 0, 0, 0), (3, 0, 0, 0, 1), (37, 0, 0, 0, 0), (112, 0, 0, 0, 0), (6, 291, 1, 12, 371), (30, 7, 0, 0, 0), (0, 2, 1, 0, 0), (6, 211, 0, 12, 293), (4, 6, 0, 0, 0), (20, 127, 0, 0, 0), (3, 0, 0, 0, 0), (9, 0, 0, 0, 0)]
abbrev zb_382_127 : List zI0 := [(4, 6, 0, 0, 0), (15, 128, 0, 0, 0), (0, 3, 1, 0, 0), (3, 0, 0, 0, 0), (75, 0, 0, 0, 0), (4, 7, 0, 0, 0), (65, 0, 0, 0, 0), (72, 0, 0, 0, 0), (14, 128, 0, 0, 0), (3, 0, 0, 0, 0), (9, 0, 0, 0, 0)]
abbrev zb_382_128 : List zI0 := [(10, 190, 0, 0, 0)]
abbrev zb_382_129 : List zI0 := [(0, 1, 1, 0, 0), (0, 3, 1, 0, 0), (5, 366, 2, 0, 372), (30, 6, 0, 0, 0), (0, 2, 1, 0, 0), (6, 292, 0, 12, 373), (30, 7, 0, 0, 0), (0, 2, 1, 0, 0), (6, 211, 0, 12, 293), (4, 6, 0, 0, 0), (20, 130, 0, 0, 0), (3, 0, 0, 0, 0), (9, 0, 0, 0, 0)]
abbrev zb_382_130 : List zI0 := [(4, 6, 0, 0, 0), (15, 131, 0, 0, 0), (0, 3, 1, 0, 0), (3, 0, 0, 0, 0), (75, 0, 0, 0, 0), (4, 7, 0, 0, 0), (65, 0, 0, 0, 0), (72, 0, 0, 0, 0), (14, 131, 0, 0, 0), (3, 0, 0, 0, 0), (9, 0, 0, 0, 0)]
abbrev zb_382_131 : List zI0 := [(10, 190, 0, 0, 0)]
abbrev zb_382_132 : List zI0 := [(0, 1, 1, 0, 0), (0, 3, 1, 0, 0), (5, 367, 2, 0, 374), (30, 6, 0, 0, 0), (0, 2, 1, 0, 0), (6, 293, 0, 12, 375), (30, 7, 0, 0, 0), (0, 2, 1, 0, 0), (6, 211, 0, 12, 293), (4, 6, 0, 0, 0), (20, 133, 0, 0, 0), (3, 0, 0, 0, 0), (9, 0, 0, 0, 0)]
abbrev zb_382_133 : List zI0 := [(4, 6, 0, 0, 0), (15, 134, 0, 0, 0), (0, 3, 1, 0, 0), (3, 0, 0, 0, 0), (75, 0, 0, 0, 0), (4, 7, 0, 0, 0), (65, 0, 0, 0, 0), (72, 0, 0, 0, 0), (14, 134, 0, 0, 0), (3, 0, 0, 0, 0), (9, 0, 0, 0, 0)]
abbrev zb_382_134 : List zI0 := [(10, 190, 0, 0, 0)]
abbrev zb_382_135 : List zI0 := [(0, 1, 1, 0, 0), (6, 160, 0, 11, 376), (0, 2, 1, 0, 0), (6, 294, 0, 12, 377), (20, 190, 0, 0, 0), (3, 0, 0, 0, 0), (9, 0, 0, 0, 0)]
abbrev zb_382_136 : List zI0 := [(0, 1, 1, 0, 0), (6, 161, 0, 11, 378), (0, 2, 1, 0, 0), (6, 296, 0, 12, 379), (72, 0, 0, 0, 0), (14, 190, 0, 0, 0), (3, 0, 0, 0, 0), (9, 0, 0, 0, 0)]
abbrev zb_382_137 : List zI0 := [(0, 1, 1, 0, 0), (6, 162, 0, 11, 380), (0, 2, 1, 0, 0), (6, 297, 0, 12, 381), (72, 0, 0, 0, 0), (14, 190, 0, 0, 0), (3, 0, 0, 0, 0), (9, 0, 0, 0, 0)]
abbrev zb_382_138 : List zI0 := [(0, 1, 1, 0, 0), (0, 0, 1, 0, 0), (4, 5, 0, 0, 0), (3, 0, 0, 0, 1), (37, 0, 0, 0, 0), (112, 0, 0, 0, 0), (0, 0, 1, 0, 0), (4, 5, 0, 0, 0), (3, 0, 0, 0, 2), (37, 0, 0, 0, 0), (112, 0, 0, 0, 0), (0, 3, 1, 0, 0), (5, 368, 4, 0, 382), (30, 6, 0, 0, 0), (0, 2, 1, 0, 0), (0, 0, 1, 0, 0), (4, 5, 0, 0, 0), (3, 0, 0, 0, 1), (37, 0, 0, 0, 0), (112, 0, 0, 0, 0), (0, 0, 1, 0, 0), (4, 5, 0, 0, 0), (3, 0, 0, 0, 2), (37, 0, 0, 0, 0), (112, 0, 0, 0, 0), (6, 299, 2, 12, 383), (30, 7, 0, 0, 0), (0, 2, 1, 0, 0), (6, 211, 0, 12, 293), (4, 6, 0, 0, 0), (20, 139, 0, 0, 0), (3, 0, 0, 0, 0), (9, 0, 0, 0, 0)]
abbrev zb_382_139 : List zI0 := [(4, 6, 0, 0, 0), (15, 140, 0, 0, 0), (0, 3, 1, 0, 0), (3, 0, 0, 0, 0), (75, 0, 0, 0, 0), (4, 7, 0, 0, 0), (65, 0, 0, 0, 0), (72, 0, 0, 0, 0), (14, 140, 0, 0, 0), (3, 0, 0, 0, 0), (9, 0, 0, 0, 0)]
abbrev zb_382_140 : List zI0 := [(10, 190, 0, 0, 0)]
abbrev zb_382_141 : List zI0 := [(0, 1, 1, 0, 0), (0, 0, 1, 0, 0), (4, 5, 0, 0, 0), (3, 0, 0, 0, 1), (37, 0, 0, 0, 0), (112, 0, 0, 0, 0), (0, 3, 1, 0, 0), (5, 369, 3, 0, 384), (30, 6, 0, 0, 0), (0, 2, 1, 0, 0), (0, 0, 1, 0, 0), (4, 5, 0, 0, 0), (3, 0, 0, 0, 1), (37, 0, 0, 0, 0), (112, 0, 0, 0, 0), (6, 301, 1, 12, 385), (30, 7, 0, 0, 0), (0, 2, 1, 0, 0), (6, 211, 0, 12, 293), (4, 6, 0, 0, 0), (20, 142, 0, 0, 0), (3, 0, 0, 0, 0), (9, 0, 0, 0, 0)]
abbrev zb_382_142 : List zI0 := [(4, 6, 0, 0, 0), (15, 143, 0, 0, 0), (0, 3, 1, 0, 0), (3, 0, 0, 0, 0), (75, 0, 0, 0, 0), (4, 7, 0, 0, 0), (65, 0, 0, 0, 0), (72, 0, 0, 0, 0), (14, 143, 0, 0, 0), (3, 0, 0, 0, 0), (9, 0, 0, 0, 0)]
abbrev zb_382_143 : List zI0 := [(10, 190, 0, 0, 0)]
abbrev zb_382_144 : List zI0 := [(0, 1, 1, 0, 0), (0, 3, 1, 0, 0), (5, 370, 2, 0, 386), (30, 6, 0, 0, 0), (0, 2, 1, 0, 0), (6, 302, 0, 12, 387), (30, 7, 0, 0, 0), (0, 2, 1, 0, 0), (6, 211, 0, 12, 293), (4, 6, 0, 0, 0), (20, 145, 0, 0, 0), (3, 0, 0, 0, 0), (9, 0, 0, 0, 0)]
abbrev zb_382_145 : List zI0 := [(4, 6, 0, 0, 0), (15, 146, 0, 0, 0), (0, 3, 1, 0, 0), (3, 0, 0, 0, 0), (75, 0, 0, 0, 0), (4, 7, 0, 0, 0), (65, 0, 0, 0, 0), (72, 0, 0, 0, 0), (14, 146, 0, 0, 0), (3, 0, 0, 0, 0), (9, 0, 0, 0, 0)]
abbrev zb_382_146 : List zI0 := [(10, 190, 0, 0, 0)]
abbrev zb_382_147 : List zI0 := [(0, 1, 1, 0, 0), (0, 0, 1, 0, 0), (4, 5, 0, 0, 0), (3, 0, 0, 0, 1), (37, 0, 0, 0, 0), (112, 0, 0, 0, 0), (0, 3, 1, 0, 0), (5, 371, 3, 0, 388), (30, 6, 0, 0, 0), (0, 2, 1, 0, 0), (0, 0, 1, 0, 0), (4, 5, 0, 0, 0), (3, 0, 0, 0, 1), (37, 0, 0, 0, 0), (112, 0, 0, 0, 0), (6, 303, 1, 12, 389), (30, 7, 0, 0, 0), (0, 2, 1, 0, 0), (6, 211, 0, 12, 293), (4, 6, 0, 0, 0), (20, 148, 0, 0, 0), (3, 0, 0, 0, 0), (9, 0, 0, 0, 0)]
abbrev zb_382_148 : List zI0 := [(4, 6, 0, 0, 0), (15, 149, 0, 0, 0), (0, 3, 1, 0, 0), (3, 0, 0, 0, 0), (75, 0, 0, 0, 0), (4, 7, 0, 0, 0), (65, 0, 0, 0, 0), (72, 0, 0, 0, 0), (14, 149, 0, 0, 0), (3, 0, 0, 0, 0), (9, 0, 0, 0, 0)]
abbrev zb_382_149 : List zI0 := [(10, 190, 0, 0, 0)]
abbrev zb_382_150 : List zI0 := [(0, 1, 1, 0, 0), (6, 167, 0, 11, 390), (0, 2, 1, 0, 0), (6, 304, 0, 12, 391), (20, 190, 0, 0, 0), (3, 0, 0, 0, 0), (9, 0, 0, 0, 0)]
abbrev zb_382_151 : List zI0 := [(0, 1, 1, 0, 0), (6, 168, 0, 11, 392), (0, 2, 1, 0, 0), (6, 305, 0, 12, 393), (20, 190, 0, 0, 0), (3, 0, 0, 0, 0), (9, 0, 0, 0, 0)]
abbrev zb_382_152 : List zI0 := [(0, 1, 1, 0, 0), (0, 0, 1, 0, 0), (4, 5, 0, 0, 0), (3, 0, 0, 0, 1), (37, 0, 0, 0, 0), (112, 0, 0, 0, 0), (0, 3, 1, 0, 0), (5, 372, 3, 0, 394), (30, 6, 0, 0, 0), (0, 2, 1, 0, 0), (0, 0, 1, 0, 0), (4, 5, 0, 0, 0), (3, 0, 0, 0, 1), (37, 0, 0, 0, 0), (112, 0, 0, 0, 0), (6, 306, 1, 12, 395), (30, 7, 0, 0, 0), (0, 2, 1, 0, 0), (6, 211, 0, 12, 293), (4, 6, 0, 0, 0), (20, 153, 0, 0, 0), (3, 0, 0, 0, 0), (9, 0, 0, 0, 0)]
abbrev zb_382_153 : List zI0 := [(4, 6, 0, 0, 0), (15, 154, 0, 0, 0), (0, 3, 1, 0, 0), (3, 0, 0, 0, 0), (75, 0, 0, 0, 0), (4, 7, 0, 0, 0), (65, 0, 0, 0, 0), (72, 0, 0, 0, 0), (14, 154, 0, 0, 0), (3, 0, 0, 0, 0), (9, 0, 0, 0, 0)]
abbrev zb_382_154 : List zI0 := [(10, 190, 0, 0, 0)]
abbrev zb_382_155 : List zI0 := [(0, 1, 1, 0, 0), (0, 0, 1, 0, 0), (4, 5, 0, 0, 0), (3, 0, 0, 0, 1), (37, 0, 0, 0, 0), (112, 0, 0, 0, 0), (0, 3, 1, 0, 0), (5, 373, 3, 0, 396), (30, 6, 0, 0, 0), (0, 2, 1, 0, 0), (0, 0, 1, 0, 0), (4, 5, 0, 0, 0), (3, 0, 0, 0, 1), (37, 0, 0, 0, 0), (112, 0, 0, 0, 0), (6, 307, 1, 12, 397), (30, 7, 0, 0, 0), (0, 2, 1, 0, 0), (6, 211, 0, 12, 293), (4, 6, 0, 0, 0), (20, 156, 0, 0, 0), (3, 0, 0, 0, 0), (9, 0, 0, 0, 0)]
abbrev zb_382_156 : List zI0 := [(4, 6, 0, 0, 0), (15, 157, 0, 0, 0), (0, 3, 1, 0, 0), (3, 0, 0, 0, 0), (75, 0, 0, 0, 0), (4, 7, 0, 0, 0), (65, 0, 0, 0, 0), (72, 0, 0, 0, 0), (14, 157, 0, 0, 0), (3, 0, 0, 0, 0), (9, 0, 0, 0, 0)]
abbrev zb_382_157 : List zI0 := [(10, 190, 0, 0, 0)]
abbrev zb_382_158 : List zI0 := [(0, 1, 1, 0, 0), (0, 0, 1, 0, 0), (4, 5, 0, 0, 0), (3, 0, 0, 0, 1), (37, 0, 0, 0, 0), (112, 0, 0, 0, 0), (0, 3, 1, 0, 0), (5, 374, 3, 0, 398), (30, 6, 0, 0, 0), (0, 2, 1, 0, 0), (0, 0, 1, 0, 0), (4, 5, 0, 0, 0), (3, 0, 0, 0, 1), (37, 0, 0, 0, 0), (112, 0, 0, 0, 0), (6, 308, 1, 12, 399), (30, 7, 0, 0, 0), (0, 2, 1, 0, 0), (6, 211, 0, 12, 293), (4, 6, 0, 0, 0), (20, 159, 0, 0, 0), (3, 0, 0, 0, 0), (9, 0, 0, 0, 0)]
abbrev zb_382_159 : List zI0 := [(4, 6, 0, 0, 0), (15, 162, 0, 0, 0), (0, 3, 1, 0, 0), (3, 0, 0, 0, 0), (75, 0, 0, 0, 0), (4, 7, 0, 0, 0), (14, 160, 0, 0, 0), (64, 0, 0, 0, 1), (10, 161, 0, 0, 0)]
abbrev zb_382_160 : List zI0 := [(64, 0, 0, 0, 0), (111, 161, 0, 0, 0)]
abbrev zb_382_161 : List zI0 := [(72, 0, 0, 0, 0), (14, 162, 0, 0, 0), (3, 0, 0, 0, 0), (9, 0, 0, 0, 0)]
abbrev zb_382_162 : List zI0 := [(10, 190, 0, 0, 0)]
abbrev zb_382_163 : List zI0 := [(0, 1, 1, 0, 0), (0, 0, 1, 0, 0), (4, 5, 0, 0, 0), (3, 0, 0, 0, 1), (37, 0, 0, 0, 0), (112, 0, 0, 0, 0), (0, 3, 1, 0, 0), (5, 375, 3, 0, 400), (30, 6, 0, 0, 0), (0, 2, 1, 0, 0), (0, 0, 1, 0, 0), (4, 5, 0, 0, 0), (3, 0, 0, 0, 1), (37, 0, 0, 0, 0), (112, 0, 0, 0, 0), (6, 309, 1, 12, 401), (30, 7, 0, 0, 0), (0, 2, 1, 0, 0), (6, 211, 0, 12, 293), (4, 6, 0, 0, 0), (20, 164, 0, 0, 0), (3, 0, 0, 0, 0), (9, 0, 0, 0, 0)]
abbrev zb_382_164 : List zI0 := [(4, 6, 0, 0, 0), (15, 165, 0, 0, 0), (0, 3, 1, 0, 0), (3, 0, 0, 0, 0), (75, 0, 0, 0, 0), (4, 7, 0, 0, 0), (65, 0, 0, 0, 0), (72, 0, 0, 0, 0), (14, 165, 0, 0, 0), (3, 0, 0, 0, 0), (9, 0, 0, 0, 0)]
abbrev zb_382_165 : List zI0 := [(10, 190, 0, 0, 0)]
abbrev zb_382_166 : List zI0 := [(0, 1, 1, 0, 0), (0, 0, 1, 0, 0), (4, 5, 0, 0, 0), (3, 0, 0, 0, 1), (37, 0, 0, 0, 0), (112, 0, 0, 0, 0), (0, 3, 1, 0, 0), (5, 376, 3, 0, 402), (30, 6, 0, 0, 0), (0, 2, 1, 0, 0), (0, 0, 1, 0, 0), (4, 5, 0, 0, 0), (3, 0, 0, 0, 1), (37, 0, 0, 0, 0), (112, 0, 0, 0, 0), (6, 310, 1, 12, 403), (30, 7, 0, 0, 0), (0, 2, 1, 0, 0), (6, 211, 0, 12, 293), (4, 6, 0, 0, 0), (20, 167, 0, 0, 0), (3, 0, 0, 0, 0), (9, 0, 0, 0, 0)]
abbrev zb_382_167 : List zI0 := [(4, 6, 0, 0, 0), (15, 168, 0, 0, 0), (0, 3, 1, 0, 0), (3, 0, 0, 0, 0), (75, 0, 0, 0, 0), (4, 7, 0, 0, 0), (65, 0, 0, 0, 0), (72, 0, 0, 0, 0), (14, 168, 0, 0, 0), (3, 0, 0, 0, 0), (9, 0, 0, 0, 0)]
abbrev zb_382_168 : List zI0 := [(10, 190, 0, 0, 0)]
abbrev zb_382_169 : List zI0 := [(0, 1, 1, 0, 0), (0, 0, 1, 0, 0), (4, 5, 0, 0, 0), (3, 0, 0, 0, 1), (37, 0, 0, 0, 0), (112, 0, 0, 0, 0), (0, 3, 1, 0, 0), (5, 377, 3, 0, 404), (30, 6, 0, 0, 0), (0, 2, 1, 0, 0), (0, 0, 1, 0, 0), (4, 5, 0, 0, 0), (3, 0, 0, 0, 1), (37, 0, 0, 0, 0), (112, 0, 0, 0, 0), (6, 311, 1, 12, 405), (30, 7, 0, 0, 0), (0, 2, 1, 0, 0), (6, 211, 0, 12, 293), (4, 6, 0, 0, 0), (20, 170, 0, 0, 0), (3, 0, 0, 0, 0), (9, 0, 0, 0, 0)]
abbrev zb_382_170 : List zI0 := [(4, 6, 0, 0, 0), (15, 171, 0, 0, 0), (0, 3, 1, 0, 0), (3, 0, 0, 0, 0), (75, 0, 0, 0, 0), (4, 7, 0, 0, 0), (65, 0, 0, 0, 0), (72, 0, 0, 0, 0), (14, 171, 0, 0, 0), (3, 0, 0, 0, 0), (9, 0, 0, 0, 0)]
abbrev zb_382_171 : List zI0 := [(10, 190, 0, 0, 0)]
abbrev zb_382_172 : List zI0 := [(0, 1, 1, 0, 0), (6, 175, 0, 11, 406), (0, 2, 1, 0, 0), (6, 312, 0, 12, 407), (20, 190, 0, 0, 0), (3, 0, 0, 0, 0), (9, 0, 0, 0, 0)]
abbrev zb_382_173 : List zI0 := [(0, 1, 1, 0, 0), (0, 0, 1, 0, 0), (4, 5, 0, 0, 0), (3, 0, 0, 0, 1), (37, 0, 0, 0, 0), (112, 0, 0, 0, 0), (0, 0, 1, 0, 0), (4, 5, 0, 0, 0), (3, 0, 0, 0, 2), (37, 0, 0, 0, 0), (112, 0, 0, 0, 0), (0, 3, 1, 0, 0), (5, 378, 4, 0, 408), (30, 6, 0, 0, 0), (0, 2, 1, 0, 0), (0, 0, 1, 0, 0), (4, 5, 0, 0, 0), (3, 0, 0, 0, 1), (37, 0, 0, 0, 0), (112, 0, 0, 0, 0), (0, 0, 1, 0, 0), (4, 5, 0, 0, 0), (3, 0, 0, 0, 2), (37, 0, 0, 0, 0), (112, 0, 0, 0, 0), (6, 315, 2, 12, 409), (74, 7, 0, 0, 0), (0, 2, 1, 0, 0), (6, 211, 0, 12, 293), (4, 6, 0, 0, 0), (20, 174, 0, 0, 0), (3, 0, 0, 0, 0), (9, 0, 0, 0, 0)]
abbrev zb_382_174 : List zI0 := [(4, 6, 0, 0, 0), (15, 175, 0, 0, 0), (0, 3, 1, 0, 0), (3, 0, 0, 0, 0), (75, 0, 0, 0, 0), (73, 7, 0, 0, 0), (72, 0, 0, 0, 0), (14, 175, 0, 0, 0), (3, 0, 0, 0, 0), (9, 0, 0, 0, 0)]
abbrev zb_382_175 : List zI0 := [(10, 190, 0, 0, 0)]
abbrev zb_382_176 : List zI0 := [(0, 1, 1, 0, 0), (0, 0, 1, 0, 0), (4, 5, 0, 0, 0), (3, 0, 0, 0, 1), (37, 0, 0, 0, 0), (112, 0, 0, 0, 0), (0, 0, 1, 0, 0), (4, 5, 0, 0, 0), (3, 0, 0, 0, 2), (37, 0, 0, 0, 0), (112, 0, 0, 0, 0), (0, 3, 1, 0, 0), (5, 379, 4, 0, 410), (30, 6, 0, 0, 0), (0, 2, 1, 0, 0), (0, 0, 1, 0, 0), (4, 5, 0, 0, 0), (3, 0, 0, 0, 1), (37, 0, 0, 0, 0), (112, 0, 0, 0, 0), (0, 0, 1, 0, 0), (4, 5, 0, 0, 0), (3, 0, 0, 0, 2), (37, 0, 0, 0, 0), (112, 0, 0, 0, 0), (6, 316, 2, 12, 411), (74, 7, 0, 0, 0), (0, 2, 1, 0, 0), (6, 211, 0, 12, 293), (4, 6, 0, 0, 0), (20, 177, 0, 0, 0), (3, 0, 0, 0, 0), (9, 0, 0, 0, 0)]
abbrev zb_382_177 : List zI0 := [(4, 6, 0, 0, 0), (15, 178, 0, 0, 0), (0, 3, 1, 0, 0), (3, 0, 0, 0, 0), (75, 0, 0, 0, 0), (73, 7, 0, 0, 0), (72, 0, 0, 0, 0), (14, 178, 0, 0, 0), (3, 0, 0, 0, 0), (9, 0, 0, 0, 0)]
abbrev zb_382_178 : List zI0 := [(10, 190, 0, 0, 0)]
abbrev zb_382_179 : List zI0 := [(0, 1, 1, 0, 0), (6, 178, 0, 11, 412), (0, 2, 1, 0, 0), (6, 317, 0, 12, 413), (72, 0, 0, 0, 0), (14, 190, 0, 0, 0), (3, 0, 0, 0, 0), (9, 0, 0, 0, 0)]
abbrev zb_382_180 : List zI0 := [(0, 1, 1, 0, 0), (6, 179, 0, 11, 414), (0, 2, 1, 0, 0), (6, 318, 0, 12, 415), (20, 190, 0, 0, 0), (3, 0, 0, 0, 0), (9, 0, 0, 0, 0)]
abbrev zb_382_181 : List zI0 := [(0, 1, 1, 0, 0), (0, 4, 0, 0, 0), (5, 380, 2, 0, 416), (30, 6, 0, 0, 0), (0, 2, 1, 0, 0), (6, 319, 0, 12, 417), (89, 7, 0, 0, 0), (0, 2, 1, 0, 0), (6, 211, 0, 12, 293), (4, 6, 0, 0, 0), (20, 182, 0, 0, 0), (3, 0, 0, 0, 0), (9, 0, 0, 0, 0)]
abbrev zb_382_182 : List zI0 := [(4, 6, 0, 0, 0), (15, 184, 0, 0, 0), (0, 4, 0, 0, 0), (3, 0, 0, 0, 0), (80, 0, 0, 0, 0), (88, 7, 0, 0, 0), (97, 0, 0, 0, 0), (85, 0, 0, 0, 0), (14, 184, 0, 0, 0), (0, 4, 0, 0, 0), (3, 0, 0, 0, 0), (80, 0, 0, 0, 0), (0, 4, 0, 0, 0), (3, 0, 0, 0, 0), (80, 0, 0, 0, 0), (85, 0, 0, 0, 0), (14, 183, 0, 0, 0), (88, 7, 0, 0, 0), (88, 7, 0, 0, 0), (94, 0, 0, 0, 0), (15, 184, 0, 0, 0), (111, 183, 0, 0, 0)]
abbrev zb_382_183 : List zI0 := [(3, 0, 0, 0, 0), (9, 0, 0, 0, 0)]
abbrev zb_382_184 : List zI0 := [(10, 190, 0, 0, 0)]
abbrev zb_382_185 : List zI0 := [(0, 1, 1, 0, 0), (0, 4, 0, 0, 0), (5, 381, 2, 0, 418), (30, 6, 0, 0, 0), (0, 2, 1, 0, 0), (6, 320, 0, 12, 419), (79, 7, 0, 0, 0), (0, 2, 1, 0, 0), (6, 211, 0, 12, 293), (4, 6, 0, 0, 0), (20, 186, 0, 0, 0), (3, 0, 0, 0, 0), (9, 0, 0, 0, 0)]
abbrev zb_382_186 : List zI0 := [(4, 6, 0, 0, 0), (15, 188, 0, 0, 0), (0, 4, 0, 0, 0), (3, 0, 0, 0, 0), (80, 0, 0, 0, 0), (78, 7, 0, 0, 0), (85, 0, 0, 0, 0), (14, 188, 0, 0, 0), (0, 4, 0, 0, 0), (3, 0, 0, 0, 0), (80, 0, 0, 0, 0), (0, 4, 0, 0, 0), (3, 0, 0, 0, 0), (80, 0, 0, 0, 0), (85, 0, 0, 0, 0), (14, 187, 0, 0, 0), (78, 7, 0, 0, 0), (78, 7, 0, 0, 0), (85, 0, 0, 0, 0), (15, 188, 0, 0, 0), (111, 187, 0, 0, 0)]
abbrev zb_382_187 : List zI0 := [(3, 0, 0, 0, 0), (9, 0, 0, 0, 0)]
abbrev zb_382_188 : List zI0 := [(10, 190, 0, 0, 0)]
abbrev zb_382_189 : List zI0 := [(0, 1, 1, 0, 0), (6, 182, 0, 11, 420), (0, 2, 1, 0, 0), (6, 321, 0, 12, 421), (20, 190, 0, 0, 0), (3, 0, 0, 0, 0), (9, 0, 0, 0, 0)]
abbrev zb_382_190 : List zI0 := [(32, 5, 0, 0, 5), (10, 1, 0, 0, 0)]
abbrev zb_382_191 : List zI0 := [(3, 0, 0, 0, 1), (9, 0, 0, 0, 0)]
set_option maxRecDepth 100000 in
abbrev zc_382 : List (List zI0) := [zb_382_0, zb_382_1, zb_382_2, zb_382_3, zb_382_4, zb_382_5, zb_382_6, zb_382_7, zb_382_8, zb_382_9, zb_382_10, zb_382_11, zb_382_12, zb_382_13, zb_382_14, zb_382_15, zb_382_16, zb_382_17, zb_382_18, zb_382_19, zb_382_20, zb_382_21, zb_382_22, zb_382_23, zb_382_24, zb_382_25, zb_382_26, zb_382_27, zb_382_28, zb_382_29, zb_382_30, zb_382_31, zb_382_32, zb_382_33, zb_382_34, zb_382_35, zb_382_36, zb_382_37, zb_382_38, zb_382_39, zb_382_40, zb_382_41, zb_382_42, zb_382_43, zb_382_44, zb_382_45, zb_382_46, zb_382_47, zb_382_48, zb_382_49, zb_382_50, zb_382_51, zb_382_52, zb_382_53, zb_382_54, zb_382_55, zb_382_56, zb_382_57, zb_382_58, zb_382_59, zb_382_60, zb_382_61, zb_382_62, zb_382_63, zb_382_64, zb_382_65, zb_382_66, zb_382_67, zb_382_68, zb_382_69, zb_382_70, zb_382_71, zb_382_72, zb_382_73, zb_382_74, zb_382_75, zb_382_76, zb_382_77, zb_382_78, zb_382_79, zb_382_80, zb_382_81, zb_382_82, zb_382_83, zb_382_84, zb_382_85, zb_382_86, zb_382_87, zb_382_88, zb_382_89, zb_382_90, zb_382_91, zb_382_92, zb_382_93, zb_382_94, zb_382_95, zb_382_96, zb_382_97, zb_382_98, zb_382_99, zb_382_100, zb_382_101, zb_382_102, zb_382_103, zb_382_104, zb_382_105, zb_382_106, zb_382_107, zb_382_108, zb_382_109, zb_382_110, zb_382_111, zb_382_112, zb_382_113, zb_382_114, zb_382_115, zb_382_116, zb_382_117, zb_382_118, zb_382_119, zb_382_120, zb_382_121, zb_382_122, zb_382_123, zb_382_124, zb_382_125, zb_382_126, zb_382_127, zb_382_128, zb_382_129, zb_382_130, zb_382_131, zb_382_132, zb_382_133, zb_382_134, zb_382_135, zb_382_136, zb_382_137, zb_382_138, zb_382_139, zb_382_140, zb_382_141, zb_382_142, zb_382_143, zb_382_144, zb_382_145, zb_382_146, zb_382_147, zb_382_148, zb_382_149, zb_382_150, zb_382_151, zb_382_152, zb_382_153, zb_382_154, zb_382_155, zb_382_156, zb_382_157, zb_382_158, zb_382_159, zb_382_160, zb_382_161, zb_382_162, zb_382_163, zb_382_164, zb_382_165, zb_382_166, zb_382_167, zb_382_168, zb_382_169, zb_382_170, zb_382_171, zb_382_172, zb_382_173, zb_382_174, zb_382_175, zb_382_176, zb_382_177, zb_382_178, zb_382_179, zb_382_180, zb_382_181, zb_382_182, zb_382_183, zb_382_184, zb_382_185, zb_382_186, zb_382_187, zb_382_188, zb_382_189, zb_382_190, zb_382_191]
set_option maxRecDepth 100000 in
def zCD : List (List (List zI0)) := [zc_0, zc_1, zc_2, zc_3, zc_4, zc_5, zc_6, zc_7, zc_8, zc_9, zc_10, zc_11, zc_12, zc_13, zc_14, zc_15, zc_16, zc_17, zc_18, zc_19, zc_20, zc_21, zc_22, zc_23, zc_24, zc_25, zc_26, zc_27, zc_28, zc_29, zc_30, zc_31, zc_32, zc_33, zc_34, zc_35, zc_36, zc_37, zc_38, zc_39, zc_40, zc_41, zc_42, zc_43, zc_44, zc_45, zc_46, zc_47, zc_48, zc_49, zc_50, zc_51, zc_52, zc_53, zc_54, zc_55, zc_56, zc_57, zc_58, zc_59, zc_60, zc_61, zc_62, zc_63, zc_64, zc_65, zc_66, zc_67, zc_68, zc_69, zc_70, zc_71, zc_72, zc_73, zc_74, zc_75, zc_76, zc_77, zc_78, zc_79, zc_80, zc_81, zc_82, zc_83, zc_84, zc_85, zc_86, zc_87, zc_88, zc_89, zc_90, zc_91, zc_92, zc_93, zc_94, zc_95, zc_96, zc_97, zc_98, zc_99, zc_100, zc_101, zc_102, zc_103, zc_104, zc_105, zc_106, zc_107, zc_108, zc_109, zc_110, zc_111, zc_112, zc_113, zc_114, zc_115, zc_116, zc_117, zc_118, zc_119, zc_120, zc_121, zc_122, zc_123, zc_124, zc_125, zc_126, zc_127, zc_128, zc_129, zc_130, zc_131, zc_132, zc_133, zc_134, zc_135, zc_136, zc_137, zc_138, zc_139, zc_140, zc_141, zc_142, zc_143, zc_144, zc_145, zc_146, zc_147, zc_148, zc_149, zc_150, zc_151, zc_152, zc_153, zc_154, zc_155, zc_156, zc_157, zc_158, zc_159, zc_160, zc_161, zc_162, zc_163, zc_164, zc_165, zc_166, zc_167, zc_168, zc_169, zc_170, zc_171, zc_172, zc_173, zc_174, zc_175, zc_176, zc_177, zc_178, zc_179, zc_180, zc_181, zc_182, zc_183, zc_184, zc_185, zc_186, zc_187, zc_188, zc_189, zc_190, zc_191, zc_192, zc_193, zc_194, zc_195, zc_196, zc_197, zc_198, zc_199, zc_200, zc_201, zc_202, zc_203, zc_204, zc_205, zc_206, zc_207, zc_208, zc_209, zc_210, zc_211, zc_212, zc_213, zc_214, zc_215, zc_216, zc_217, zc_218, zc_219, zc_220, zc_221, zc_222, zc_223, zc_224, zc_225, zc_226, zc_227, zc_228, zc_229, zc_230, zc_231, zc_232, zc_233, zc_234, zc_235, zc_236, zc_237, zc_238, zc_239, zc_240, zc_241, zc_242, zc_243, zc_244, zc_245, zc_246, zc_247, zc_248, zc_249, zc_250, zc_251, zc_252, zc_253, zc_254, zc_255, zc_256, zc_257, zc_258, zc_259, zc_260, zc_261, zc_262, zc_263, zc_264, zc_265, zc_266, zc_267, zc_268, zc_269, zc_270, zc_271, zc_272, zc_273, zc_274, zc_275, zc_276, zc_277, zc_278, zc_279, zc_280, zc_281, zc_282, zc_283, zc_284, zc_285, zc_286, zc_287, zc_288, zc_289, zc_290, zc_291, zc_292, zc_293, zc_294, zc_295, zc_296, zc_297, zc_298, zc_299, zc_300, zc_301, zc_302, zc_303, zc_304, zc_305, zc_306, zc_307, zc_308, zc_309, zc_310, zc_311, zc_312, zc_313, zc_314, zc_315, zc_316, zc_317, zc_318, zc_319, zc_320, zc_321, zc_322, zc_323, zc_324, zc_325, zc_326, zc_327, zc_328, zc_329, zc_330, zc_331, zc_332, zc_333, zc_334, zc_335, zc_336, zc_337, zc_338, zc_339, zc_340, zc_341, zc_342, zc_343, zc_344, zc_345, zc_346, zc_347, zc_348, zc_349, zc_350, zc_351, zc_352, zc_353, zc_354, zc_355, zc_356, zc_357, zc_358, zc_359, zc_360, zc_361, zc_362, zc_363, zc_364, zc_365, zc_366, zc_367, zc_368, zc_369, zc_370, zc_371, zc_372, zc_373, zc_374, zc_375, zc_376, zc_377, zc_378, zc_379, zc_380, zc_381, zc_382]
set_option maxRecDepth 100000 in
def zBPl : List (List Nat) := [[0, 35, 63],
  [0, 19, 38, 57, 67],
  [0, 10, 30, 36],
  [0, 14, 44, 50],
  [0, 14, 48, 54],
  [0, 10, 31],
  [0, 2, 25, 31],
  [0, 55, 100, 101, 110],
  [0, 10, 43, 49],
  [0, 36, 47],
  [0, 42],
  [0, 14, 15, 36, 79],
  [0, 13, 37, 41, 42, 49, 51, 98],
  [0, 37, 41, 42],
  [0, 16, 17, 48, 71],
  [0, 21, 29, 30, 57, 62, 72, 73],
  [0, 31],
  [0],
  [0, 5, 47, 83, 84],
  [0, 14, 15, 29, 30, 58, 76, 77, 78, 90, 92, 98, 156, 160, 161, 184, 190],
  [0],
  [0, 12, 13],
  [0, 33, 34],
  [0],
  [0, 52],
  [0, 18],
  [0],
  [0, 27, 47],
  [0, 50, 51],
  [0, 29],
  [0, 19, 21],
  [0, 13, 36],
  [0],
  [0],
  [0, 62, 66, 67, 70],
  [0],
  [0, 30, 31],
  [0, 26, 30],
  [0, 15, 16],
  [0, 25, 26],
  [0, 21, 22],
  [0],
  [0, 17],
  [0],
  [0, 11, 13, 49, 50],
  [0, 13, 14],
  [0, 11, 12],
  [0, 56],
  [0, 19, 21],
  [0, 4, 24, 30],
  [0],
  [0, 14, 23, 71, 77],
  [0, 2, 33, 39],
  [0],
  [0],
  [0],
  [0, 5, 23, 25, 36, 44, 45],
  [0, 18, 19],
  [0, 15, 16],
  [0, 29, 30],
  [0, 22, 23],
  [0, 9, 68, 81],
  [0, 26],
  [0, 31, 32],
  [0, 43, 44, 96, 97, 123, 137, 158],
  [0, 19],
  [0, 4, 14, 36, 52],
  [0, 5, 26, 32],
  [0],
  [0, 27, 31, 32],
  [0],
  [0],
  [0, 14, 24, 39, 40],
  [0, 15, 32, 33],
  [0],
  [0, 21, 22],
  [0, 18, 19],
  [0],
  [0],
  [0],
  [0],
  [0, 11, 12],
  [0],
  [0, 41, 42],
  [0, 30, 38, 93, 99],
  [0, 7, 43, 47, 57],
  [0, 17, 20, 24, 51, 52, 60, 61, 82, 88, 98],
  [0, 2, 43],
  [0, 20],
  [0, 23],
  [0],
  [0],
  [0],
  [0, 32, 33],
  [0, 6, 26],
  [0],
  [0, 13, 15],
  [0, 4, 44],
  [0, 13, 22],
  [0, 2, 20, 21, 24, 44, 50, 61, 67],
  [0],
  [0],
  [0],
  [0],
  [0, 18],
  [0],
  [0],
  [0],
  [0],
  [0, 20, 21, 22, 41, 42, 43, 55, 59, 60],
  [0, 10, 11, 23, 35, 39, 40, 54, 55],
  [0, 16, 17, 18, 47, 48, 49, 67, 68, 75, 76],
  [0, 13, 14],
  [0, 67],
  [0, 4, 54, 70, 121, 127],
  [0, 4, 37, 43],
  [0, 19, 74, 80],
  [0, 67, 95, 97, 129],
  [0, 26, 36],
  [0, 33, 43],
  [0, 31],
  [0],
  [0, 29, 39],
  [0, 27, 37, 39, 66, 111, 117],
  [0, 35],
  [0, 32],
  [0, 13, 44],
  [0],
  [0, 34],
  [0],
  [0, 16, 26],
  [0, 20],
  [0, 40, 69, 70],
  [0, 22, 32],
  [0],
  [0],
  [0, 37, 48],
  [0, 26, 37],
  [0, 37, 48],
  [0, 27, 51],
  [0, 18, 29, 45],
  [0],
  [0],
  [0],
  [0],
  [0],
  [0],
  [0],
  [0],
  [0],
  [0],
  [0, 26, 64],
  [0],
  [0, 9, 20, 38],
  [0],
  [0],
  [0, 40],
  [0, 18],
  [0],
  [0, 22, 33],
  [0],
  [0],
  [0],
  [0, 36, 47],
  [0],
  [0, 21],
  [0, 26],
  [0],
  [0],
  [0],
  [0],
  [0],
  [0],
  [0],
  [0],
  [0],
  [0],
  [0],
  [0, 6, 63, 75, 107],
  [0],
  [0, 8, 44, 50],
  [0],
  [0, 35, 36],
  [0, 21, 32],
  [0, 13, 24],
  [0, 16, 27],
  [0, 30, 41],
  [0, 21, 32],
  [0, 23],
  [0, 22],
  [0, 21],
  [0, 21],
  [0, 21],
  [0, 21],
  [0, 21],
  [0, 18],
  [0, 18],
  [0],
  [0, 10, 21],
  [0, 4, 39],
  [0, 40, 66, 77, 110, 121, 122],
  [0],
  [0, 10, 43, 49],
  [0, 5, 42, 54, 55],
  [0, 18, 22],
  [0, 18, 22],
  [0, 9, 45],
  [0, 5, 22],
  [0],
  [0, 8, 19, 20, 26, 52, 54, 80, 99, 100],
  [0, 305, 318, 337, 343, 345, 363],
  [0],
  [0, 9, 10],
  [0, 14, 15],
  [0, 18, 19],
  [0, 15, 16, 37, 38, 45, 47],
  [0, 29, 30, 56, 60, 61, 68, 70, 137, 138],
  [0, 28, 29, 51, 52, 59, 61],
  [0, 29, 30, 37, 39, 58, 59],
  [0, 17, 18],
  [0, 39, 40],
  [0],
  [0],
  [0, 40, 44, 45, 52, 54, 66, 96, 156, 173, 180, 197, 203, 209, 246, 269, 275, 306, 309, 343, 352, 359, 362, 402, 430],
  [0, 15, 16, 45, 49, 50, 57, 59, 61, 78, 123, 129, 179, 185],
  [0, 13, 14],
  [0, 28, 29, 49, 50, 57, 59],
  [0, 28, 29, 51, 52, 59, 61],
  [0],
  [0, 9, 47],
  [0, 16, 21],
  [0, 10, 20, 30, 40, 41],
  [0, 12, 13, 32, 34],
  [0, 11, 12],
  [0, 14, 15, 34, 36, 48, 56, 92, 98, 100, 118],
  [0, 19, 20, 39, 41, 60, 93],
  [0, 12, 13, 32, 34, 66, 72, 75, 93, 94, 102, 103, 128],
  [0],
  [0, 7, 33, 34, 42, 59, 60],
  [0, 4, 21, 34, 35],
  [0],
  [0, 37, 38],
  [0, 13, 14],
  [0, 18, 22, 23, 46, 47, 54, 56, 74, 78, 79, 98, 100, 149, 150],
  [0],
  [0, 4, 23, 37, 41, 42, 61, 63, 75, 98, 99, 145, 147, 154, 174, 180, 209, 211, 238, 239, 246, 270, 281],
  [0, 2, 9, 38, 44, 50],
  [0],
  [0],
  [0, 4, 11, 46, 47, 55, 61, 127],
  [0, 25, 29, 30],
  [0, 14, 22, 63, 72, 78, 91],
  [0, 35, 54, 60, 76, 97, 103, 118, 135, 146, 167, 173],
  [0, 14, 15, 34, 35, 58, 59, 66, 70, 71],
  [0, 11],
  [0, 24, 32, 45],
  [0, 20, 21, 28, 30],
  [0, 10, 42, 46],
  [0, 10, 58, 69, 70, 92, 96, 97, 106],
  [0, 10, 62, 63, 90, 94, 95, 104, 161, 207],
  [0, 40, 44, 45, 52, 54],
  [0, 26, 30, 31, 61, 62, 69, 71],
  [0, 14, 20, 30, 31, 42, 48],
  [0, 12, 13, 24, 31],
  [0, 21, 22, 25, 48, 49, 57],
  [0, 15, 16],
  [0, 15, 16, 27, 32],
  [0, 6, 31],
  [0, 4, 27, 28, 36],
  [0, 15, 16, 35, 36, 43, 45, 59, 63],
  [0],
  [0],
  [0, 14, 15, 29, 30, 59, 60, 61, 67, 127, 131, 132, 155, 161],
  [0, 16, 17, 36, 37, 44, 46, 48, 71, 92, 93],
  [0, 21, 25, 26, 35],
  [0, 4, 41],
  [0],
  [0, 12, 13, 24, 36],
  [0, 15, 73, 74],
  [0],
  [0, 28, 43, 47, 48, 81, 85, 86, 108, 109, 130, 131, 138, 140],
  [0, 11, 12, 34, 38, 39, 53, 54],
  [0, 16, 17, 18, 42, 43, 44, 62, 63, 70, 71],
  [0, 15, 16, 25, 29, 86, 87, 112, 114, 135, 140, 153, 160, 168],
  [0, 18, 19],
  [0, 4, 20],
  [0, 25, 28, 35, 36, 40, 61, 62, 70],
  [0, 14, 15, 37, 38, 57, 59, 64, 101, 102, 121],
  [0, 21, 25, 26, 45, 47],
  [0, 16, 17, 36, 38],
  [0, 28, 29, 50, 51, 70, 71, 78, 80, 112, 113],
  [0, 15, 16, 35, 36, 43, 45, 94, 95, 151, 152, 180, 210],
  [0, 12, 13, 22],
  [0, 15, 19, 20, 29],
  [0],
  [0, 10, 33, 62, 89, 90, 99, 113, 133, 141, 144],
  [0],
  [0],
  [0, 13, 49, 50],
  [0, 25, 26, 47, 48, 72, 76, 77, 84, 86],
  [0, 4, 48, 49, 57],
  [0, 12, 13, 22],
  [0, 12, 13, 22, 34, 50, 63, 78, 84, 128, 138, 148, 149, 187, 193],
  [0, 15, 19, 41, 50, 51, 60, 62, 82],
  [0],
  [0],
  [0, 17, 23],
  [0, 17, 23],
  [0, 25, 26],
  [0, 17, 23],
  [0, 17, 23],
  [0, 16, 22],
  [0],
  [0, 5, 21],
  [0, 20, 24, 25, 34, 87, 89],
  [0],
  [0],
  [0, 11, 53, 65, 94],
  [0],
  [0, 12, 13, 22, 26, 47, 48, 56],
  [0, 12, 13, 22, 26, 49],
  [0],
  [0, 10, 11],
  [0, 12],
  [0],
  [0, 18],
  [0, 9, 10],
  [0, 9, 10],
  [0, 5, 20],
  [0, 13, 16, 18],
  [0, 15, 19, 23, 25],
  [0, 15, 19, 23, 25],
  [0, 15, 19, 21],
  [0, 15, 19, 21],
  [0, 13, 16, 18],
  [0, 15, 19, 23, 25],
  [0, 15, 19, 23, 25],
  [0, 13, 15],
  [0, 15, 16, 22, 26, 28],
  [0, 13, 16, 18],
  [0, 13, 16, 18],
  [0, 13, 16, 18],
  [0, 17, 21, 25, 29, 31],
  [0, 12, 15, 17],
  [0, 13, 16, 19, 21],
  [0, 13, 16, 19, 21],
  [0, 13, 16, 19, 21],
  [0, 13, 16, 19, 21],
  [0, 13, 16, 19, 21],
  [0, 17, 21, 23],
  [0, 13, 15],
  [0, 12, 14],
  [0, 13, 15],
  [0, 12, 15, 17],
  [0, 12, 15, 17],
  [0, 12, 15, 17],
  [0, 15, 17],
  [0, 12, 14],
  [0, 14, 15, 20, 22],
  [0, 19, 23, 27, 31, 33],
  [0, 13, 15],
  [0, 15, 19, 23, 25],
  [0, 15, 19, 21],
  [0, 13, 16, 18],
  [0, 15, 19, 23, 27, 29],
  [0, 13, 16, 18],
  [0, 12, 14],
  [0, 12, 14],
  [0, 15, 19, 23, 27, 29],
  [0, 13, 15],
  [0, 12, 14],
  [0, 13, 16, 18],
  [0, 13, 15],
  [0, 13, 15],
  [0, 14, 15, 20, 22],
  [0, 13, 15],
  [0, 13, 15],
  [0, 13, 15],
  [0, 14, 16],
  [0, 14, 16],
  [0, 12, 14],
  [0, 11, 13],
  [0, 28, 320, 356, 373, 376, 424, 441, 444, 492, 509, 512, 560, 577, 580, 628, 645, 648, 684, 701, 704, 752, 769, 772, 820, 837, 840, 853, 889, 906, 909, 930, 931, 958, 959, 975, 992, 993, 999, 1002, 1038, 1055, 1058, 1094, 1111, 1114, 1128, 1129, 1149, 1150, 1166, 1183, 1186, 1246, 1263, 1266, 1290, 1307, 1310, 1346, 1363, 1366, 1402, 1419, 1422, 1458, 1475, 1478, 1514, 1531, 1534, 1570, 1587, 1590, 1650, 1667, 1670, 1706, 1723, 1726, 1750, 1767, 1770, 1806, 1823, 1826, 1862, 1878, 1881, 1917, 1933, 1936, 1973, 2008, 2010, 2013, 2061, 2078, 2081, 2094, 2118, 2135, 2138, 2174, 2191, 2192, 2198, 2201, 2214, 2288, 2305, 2308, 2344, 2361, 2364, 2412, 2429, 2432, 2480, 2497, 2500, 2536, 2553, 2556, 2604, 2621, 2624, 2660, 2677, 2680, 2704, 2721, 2724, 2748, 2765, 2768, 2781, 2795, 2809, 2857, 2874, 2877, 2913, 2930, 2933, 2957, 2974, 2977, 3013, 3030, 3033, 3046, 3059, 3095, 3112, 3115, 3151, 3168, 3171, 3207, 3224, 3225, 3231, 3234, 3270, 3287, 3290, 3326, 3343, 3346, 3382, 3399, 3402, 3415, 3463, 3479, 3482, 3530, 3546, 3549, 3563, 3576, 3601, 3637, 3639, 3642, 3667, 3702, 3704, 3707, 3720, 3726]]
def zbp (m b : Nat) : Nat := (zBPl.getD m []).getD b 0
set_option maxRecDepth 100000 in
def zHDl : List (List (Nat × (Nat × Nat))) := [[], [], [], [], [], [], [], [], [], [], [], [], [], [], [], [], [], [], [], [], [], [], [], [], [], [], [], [], [], [], [], [], [], [], [], [], [], [], [], [], [], [], [], [], [], [], [], [], [], [], [], [], [], [], [], [], [], [], [], [], [], [], [], [], [], [], [], [], [], [], [], [], [], [], [], [], [], [], [], [], [], [], [], [], [], [], [], [], [], [], [], [], [], [], [], [], [], [], [], [], [], [], [], [], [], [], [], [], [], [], [], [], [], [], [], [], [], [], [], [], [], [], [], [], [], [], [], [], [], [], [], [], [], [], [], [], [], [], [], [], [], [], [], [], [], [], [], [], [], [], [], [], [], [], [], [], [], [], [], [], [], [], [], [], [], [], [], [], [], [], [], [], [], [], [], [], [], [], [], [], [], [], [], [], [], [], [], [], [], [], [], [], [], [], [], [], [], [], [], [], [], [], [], [], [], [], [], [], [], [], [], [], [], [], [], [], [], [], [], [], [], [], [], [], [], [], [], [], [], [], [], [], [], [], [], [], [], [], [], [], [], [], [], [], [], [], [], [], [], [], [], [], [], [], [], [], [], [], [], [], [], [], [], [], [], [], [], [], [], [], [], [], [], [], [], [], [], [], [], [], [], [], [], [], [], [], [], [], [], [], [], [], [], [], [], [], [], [], [], [], [], [], [], [], [], [], [], [], [], [], [], [], [], [], [], [], [], [], [], [], [], [], [], [], [], [], [], [], [], [(0, (1, 3)), (1, (2, 3))], [(2, (1, 4)), (0, (2, 4)), (3, (3, 4))], [(2, (1, 4)), (0, (2, 4)), (3, (3, 4))], [(2, (1, 4)), (0, (2, 4))], [(2, (1, 4)), (0, (2, 4))], [(0, (1, 3)), (1, (2, 3))], [(2, (1, 4)), (0, (2, 4)), (3, (3, 4))], [(2, (1, 4)), (0, (2, 4)), (3, (3, 4))], [(2, (1, 3))], [(0, (3, 4)), (1, (4, 4))], [(0, (1, 3)), (1, (2, 3))], [(0, (1, 3)), (1, (2, 3))], [(3, (1, 3)), (1, (2, 3))], [(2, (1, 5)), (0, (2, 5)), (3, (3, 5)), (1, (4, 5))], [(3, (1, 2)), (1, (2, 2))], [(2, (1, 3)), (1, (2, 3)), (3, (3, 3))], [(2, (1, 3)), (1, (2, 3)), (3, (3, 3))], [(2, (1, 3)), (1, (2, 3)), (3, (3, 3))], [(2, (1, 3)), (1, (2, 3)), (3, (3, 3))], [(2, (1, 3)), (1, (2, 3)), (3, (3, 3))], [(2, (1, 5)), (4, (2, 5))], [(4, (1, 3))], [(1, (1, 2))], [(0, (1, 3))], [(0, (1, 3)), (5, (2, 3))], [(0, (1, 3)), (5, (2, 3))], [(0, (1, 3)), (1, (2, 3))], [(0, (1, 4))], [(5, (1, 2))], [(2, (3, 3))], [(2, (1, 6)), (0, (2, 6)), (3, (3, 6)), (1, (4, 6))], [(0, (1, 3))], [(2, (1, 4)), (0, (2, 4)), (1, (3, 4))], [(0, (1, 4)), (1, (2, 4))], [(0, (1, 3)), (1, (2, 3))], [(2, (1, 4)), (0, (2, 4)), (3, (3, 4)), (1, (4, 4))], [(0, (1, 3)), (1, (2, 3))], [(1, (1, 2))], [(1, (1, 2))], [(2, (1, 4)), (0, (2, 4)), (3, (3, 4)), (1, (4, 4))], [(0, (1, 3))], [(1, (1, 2))], [(2, (1, 3)), (4, (2, 3))], [(2, (1, 3))], [(2, (1, 3))], [(2, (3, 3))], [(2, (1, 3))], [(2, (1, 3))], [(2, (1, 3))], [(0, (1, 4))], [(0, (1, 4))], [(5, (1, 2))], [(5, (1, 2))], []]
set_option maxRecDepth 100000 in
def zSWl : List (List Nat) := [[], [], [], [], [], [], [], [], [], [], [], [], [], [], [], [], [], [], [], [], [], [], [], [], [], [], [], [], [], [], [], [], [], [], [], [], [], [], [], [], [], [], [], [], [], [], [], [], [], [], [], [], [], [], [], [], [], [], [], [], [], [], [], [], [], [], [], [], [], [], [], [], [], [], [], [], [], [], [], [], [], [], [], [], [], [], [], [], [], [], [], [], [], [], [], [], [], [], [], [], [], [], [], [], [], [], [], [], [], [], [], [], [], [], [], [], [], [], [], [], [], [], [], [], [], [], [], [], [], [], [], [], [], [], [], [], [], [], [], [], [], [], [], [], [], [], [], [], [], [], [], [], [], [], [], [], [], [], [], [], [], [], [], [], [], [], [], [], [], [], [], [], [], [], [], [], [], [], [], [], [], [], [], [], [], [], [], [], [], [], [], [], [], [], [], [], [], [], [], [], [], [], [], [], [], [], [], [], [], [], [], [], [], [], [], [], [], [], [], [], [], [], [], [], [], [], [], [], [], [], [], [], [], [], [], [], [], [], [], [], [], [], [], [], [], [], [], [], [], [], [], [], [], [], [], [], [], [], [], [], [], [], [], [], [], [], [], [], [], [], [], [], [], [], [], [], [], [], [], [], [], [], [], [], [], [], [], [], [], [], [], [], [], [], [], [], [], [], [], [], [], [], [], [], [], [], [], [], [], [], [], [], [], [], [], [], [], [], [], [], [], [], [], [], [], [], [], [], [], [], [], [], [], [], [], [], [], [], [], [], [], [], [], [], [], [], [], [], [], [], [], [], [], [], [], [], [], [], [], [], [], [], [], [], [], [], [], [], [], [], [], [], [], [], [], [], [], [], [], [], [], [], [2, 5, 8, 11, 14, 17, 20, 23, 26, 27, 30, 39, 42, 45, 52, 55, 58, 61, 64, 67, 70, 73, 76, 79, 82, 85, 88, 91, 95, 98, 99, 102, 107, 108, 111, 114, 117, 120, 123, 126, 129, 132, 135, 136, 137, 138, 141, 144, 147, 150, 151, 152, 155, 158, 163, 166, 169, 172, 173, 176, 179, 180, 181, 185, 189]]
end
section
/-! ===== RUN: an interpreter over the pure memory. zI: an operation and its four numbers; zN: the locals; zMm: number of cells, shapes, memory, slots made ===== -/
abbrev zI : Type := Nat × (Nat × (Nat × (Nat × Int)))
abbrev zN : Type := List (Option zv_V)
abbrev zMm : Type := Nat × (zk_S × (zm_D × Nat))
abbrev zRr : Type := ((Option zv_V) ⊕ Nat) × zMm
abbrev zKk : Type := zN → List zv_V → zMm → Option zRr
abbrev zSs : Type := Nat × (Nat → Int)
def zw (x : Int) : Int := (x + 2147483648) % 4294967296 - 2147483648
def zwl (x : Int) : Int := (x + 9223372036854775808) % 18446744073709551616 - 9223372036854775808
def zlc (x y : Int) : Int := if zwl x < zwl y then -1 else if zwl x = zwl y then 0 else 1
def zn64 (x : UInt64) : Bool := decide (x &&& 0x7fffffffffffffff ≤ 0x7ff0000000000000)
def zn32 (x : UInt32) : Bool := decide (x &&& 0x7fffffff ≤ 0x7f800000)
def zget : zN → Nat → Option zv_V
  | [], _ => none
  | v :: _, 0 => v
  | _ :: L, i + 1 => zget L i
def zk1 : Option zv_V → Option zv_V
  | some (.inl x) => some (.inl x)
  | some (.inr (.inr (.inr x))) => some (.inr (.inr (.inr x)))
  | _ => none
def zst1 : zN → Nat → zv_V → zN
  | [], _, _ => []
  | _ :: L, 0, v => some v :: L
  | x :: L, 1, v => zk1 x :: zst1 L 0 v
  | x :: L, n + 2, v => x :: zst1 L (n + 1) v
def zst2 : zN → Nat → zv_V → zN
  | [], _, _ => []
  | [_], 0, _ => [none]
  | _ :: _ :: L, 0, v => some v :: none :: L
  | x :: L, 1, v => zk1 x :: zst2 L 0 v
  | x :: L, n + 2, v => x :: zst2 L (n + 1) v
def zclr : zN → Nat → zN
  | [], _ => []
  | _ :: L, 0 => none :: L
  | x :: L, n + 1 => x :: zclr L n
def zpop : Nat → List zv_V → List zv_V → Option (List zv_V × List zv_V)
  | 0, st, acc => some (acc, st)
  | k + 1, v :: st, acc => zpop k st (v :: acc)
  | _ + 1, [], _ => none
def zlook : List (Nat × (Nat × Nat)) → Nat → Option (Nat × Nat)
  | [], _ => none
  | (x, b) :: r, y => if x = y then some b else zlook r y
def zaft (hl : List (Nat × (Nat × Nat))) (next : zKk) (jump : Nat → zKk) (L : zN) (rest : List zv_V) : Option zRr → Option zRr
  | none => none
  | some (.inl v, M) => next L (v.toList ++ rest) M
  | some (.inr x, M) => match hl with
    | [] => some (.inr x, M)
    | h :: t => match zlook (h :: t) x with
      | some (b, k) => jump b (zclr L k) [] M
      | none => none
def zaI : zk_K → Option Nat
  | some (.inr (.int, N)) => some N
  | _ => none
def zaL : zk_K → Option Nat
  | some (.inr (.long, N)) => some N
  | _ => none
def zaD : zk_K → Option Nat
  | some (.inr (.double, N)) => some N
  | _ => none
def zaC : zk_K → Option Nat
  | some (.inr (.char, N)) => some N
  | _ => none
def zaZ : zk_K → Option Nat
  | some (.inr (.boolean, N)) => some N
  | _ => none
def zaR : zk_K → Option Nat
  | some (.inr (.object _, N)) => some N
  | some (.inr (.array _, N)) => some N
  | _ => none
def zaO : zk_K → Option (String × Nat)
  | some (.inr (.object C, N)) => some (C, N)
  | _ => none
def zaX : zk_K → Option Nat
  | some (.inr (_, N)) => some N
  | _ => none
def zaB : zk_K → Option Nat
  | some (.inl c) => some c
  | _ => none
def zm_z (d : zm_D) (r : Int) : zm_D := fun a k => if a = r then 0 else d a k
def zm_zz (d : zm_D) (r : Int) : zm_D := fun a k => if r ≤ a then 0 else d a k
abbrev znA : Nat → FieldType := znA9
/-- an object of the class that is called C -/
def zoc (k : zk_K) (C : String) : Bool := match k with
  | some (.inl c) => decide (zcn c = C)
  | _ => false
/-- new int[N][K]: the outer array, then the inner ones -/
def zmul2 (M : zMm) (N K : Nat) : zMm := (M.1 + 1 + N, ((fun r => if r = (M.1 : Int) + 1 then some (.inr (.array .int, N)) else if (M.1 : Int) + 2 ≤ r ∧ r < (M.1 : Int) + 2 + N then some (.inr (.int, K)) else M.2.1 r), ((fun r j => if (M.1 : Int) + 1 ≤ r then (if r = (M.1 : Int) + 1 ∧ (0 ≤ j ∧ j < N) then (M.1 : Int) + 2 + j else 0) else M.2.2.1 r j), M.2.2.2 + N + N * K)))
/-- new int[N][K][J]: the outer array; then each one of its arrays with the inner ones behind it -/
def zmul3 (M : zMm) (N K J : Nat) : zMm := (M.1 + 1 + N * (K + 1), ((fun r => if r = (M.1 : Int) + 1 then some (.inr (.array (.array .int), N)) else if (M.1 : Int) + 2 ≤ r ∧ r < (M.1 : Int) + 2 + N * (K + 1) then (if (r - ((M.1 : Int) + 2)) % ((K : Int) + 1) = 0 then some (.inr (.array .int, K)) else some (.inr (.int, J))) else M.2.1 r), ((fun r j => if (M.1 : Int) + 1 ≤ r then (if r = (M.1 : Int) + 1 ∧ (0 ≤ j ∧ j < N) then (M.1 : Int) + 2 + j * (K + 1) else if (r < (M.1 : Int) + 2 + N * (K + 1) ∧ (M.1 : Int) + 2 ≤ r) ∧ ((r - ((M.1 : Int) + 2)) % ((K : Int) + 1) = 0 ∧ (0 ≤ j ∧ j < K)) then r + 1 + j else 0) else M.2.2.1 r j), M.2.2.2 + N + N * K + N * K * J)))
/-- what an operation is given: two numbers more, the depth, the script, what comes next, the blocks, calls, handlers -/
abbrev zOo : Type := Nat → Nat → Nat → Int → Nat → zSs → List (Nat × (Nat × Nat)) → List Nat → zKk → (Nat → zKk) → (Nat → List zv_V → zMm → Option zRr) → zKk
def zo_iadd : zOo := fun a b c k D S hl sw next jump call L st M => match st with
  | .inl (.inl y) :: .inl (.inl x) :: st => next L ((zv_i (x + y)) :: st) M
  | _ => none
def zo_isub : zOo := fun a b c k D S hl sw next jump call L st M => match st with
  | .inl (.inl y) :: .inl (.inl x) :: st => next L ((zv_i (x - y)) :: st) M
  | _ => none
def zo_imul : zOo := fun a b c k D S hl sw next jump call L st M => match st with
  | .inl (.inl y) :: .inl (.inl x) :: st => next L ((zv_i (x * y)) :: st) M
  | _ => none
def zo_idiv : zOo := fun a b c k D S hl sw next jump call L st M => match st with
  | .inl (.inl y) :: .inl (.inl x) :: st => if zw y ≠ 0 then next L ((zv_i ((zw x).tdiv (zw y))) :: st) M else none
  | _ => none
def zo_irem : zOo := fun a b c k D S hl sw next jump call L st M => match st with
  | .inl (.inl y) :: .inl (.inl x) :: st => if zw y ≠ 0 then next L ((zv_i ((zw x).tmod (zw y))) :: st) M else none
  | _ => none
def zo_iand : zOo := fun a b c k D S hl sw next jump call L st M => match st with
  | .inl (.inl y) :: .inl (.inl x) :: st => next L ((zv_i (zb_and x y)) :: st) M
  | _ => none
def zo_ior : zOo := fun a b c k D S hl sw next jump call L st M => match st with
  | .inl (.inl y) :: .inl (.inl x) :: st => next L ((zv_i (zb_or x y)) :: st) M
  | _ => none
def zo_ishl : zOo := fun a b c k D S hl sw next jump call L st M => match st with
  | .inl (.inl y) :: .inl (.inl x) :: st => next L ((zv_i (zb_shl x y)) :: st) M
  | _ => none
def zo_iushr : zOo := fun a b c k D S hl sw next jump call L st M => match st with
  | .inl (.inl y) :: .inl (.inl x) :: st => next L ((zv_i (zb_ushr x y)) :: st) M
  | _ => none
def zo_ixor : zOo := fun a b c k D S hl sw next jump call L st M => match st with
  | .inl (.inl y) :: .inl (.inl x) :: st => next L ((zv_i (zb_xor x y)) :: st) M
  | _ => none
def zo_i2l : zOo := fun a b c k D S hl sw next jump call L st M => match st with
  | .inl (.inl x) :: st => next L ((zv_l (zw x)) :: st) M
  | _ => none
def zo_l2i : zOo := fun a b c k D S hl sw next jump call L st M => match st with
  | .inr (.inl x) :: st => next L ((zv_i x) :: st) M
  | _ => none
def zo_ladd : zOo := fun a b c k D S hl sw next jump call L st M => match st with
  | .inr (.inl y) :: .inr (.inl x) :: st => next L ((zv_l (x + y)) :: st) M
  | _ => none
def zo_lsub : zOo := fun a b c k D S hl sw next jump call L st M => match st with
  | .inr (.inl y) :: .inr (.inl x) :: st => next L ((zv_l (x - y)) :: st) M
  | _ => none
def zo_lmul : zOo := fun a b c k D S hl sw next jump call L st M => match st with
  | .inr (.inl y) :: .inr (.inl x) :: st => next L ((zv_l (x * y)) :: st) M
  | _ => none
def zo_ldiv : zOo := fun a b c k D S hl sw next jump call L st M => match st with
  | .inr (.inl y) :: .inr (.inl x) :: st => if zwl y ≠ 0 then next L ((zv_l ((zwl x).tdiv (zwl y))) :: st) M else none
  | _ => none
def zo_lrem : zOo := fun a b c k D S hl sw next jump call L st M => match st with
  | .inr (.inl y) :: .inr (.inl x) :: st => if zwl y ≠ 0 then next L ((zv_l ((zwl x).tmod (zwl y))) :: st) M else none
  | _ => none
def zo_lcmp : zOo := fun a b c k D S hl sw next jump call L st M => match st with
  | .inr (.inl y) :: .inr (.inl x) :: st => next L ((zv_i (zlc x y)) :: st) M
  | _ => none
def zo_dadd : zOo := fun a b c k D S hl sw next jump call L st M => match st with
  | .inr (.inr (.inl y)) :: .inr (.inr (.inl x)) :: st => if zn64 (FP.dadd x y) = true then next L ((zv_d (FP.dadd x y)) :: st) M else none
  | _ => none
def zo_dmul : zOo := fun a b c k D S hl sw next jump call L st M => match st with
  | .inr (.inr (.inl y)) :: .inr (.inr (.inl x)) :: st => if zn64 (FP.dmul x y) = true then next L ((zv_d (FP.dmul x y)) :: st) M else none
  | _ => none
def zo_ddiv : zOo := fun a b c k D S hl sw next jump call L st M => match st with
  | .inr (.inr (.inl y)) :: .inr (.inr (.inl x)) :: st => if zn64 (FP.ddiv x y) = true then next L ((zv_d (FP.ddiv x y)) :: st) M else none
  | _ => none
def zo_i2d : zOo := fun a b c k D S hl sw next jump call L st M => match st with
  | .inl (.inl x) :: st => next L ((zv_d (FP.i2d (Int32.ofInt x))) :: st) M
  | _ => none
def zo_fdiv : zOo := fun a b c k D S hl sw next jump call L st M => match st with
  | .inr (.inr (.inr y)) :: .inr (.inr (.inr x)) :: st => if zn32 (FP.fdiv x y) = true then next L ((zv_f (FP.fdiv x y)) :: st) M else none
  | _ => none
def zo_fmul : zOo := fun a b c k D S hl sw next jump call L st M => match st with
  | .inr (.inr (.inr y)) :: .inr (.inr (.inr x)) :: st => if zn32 (FP.fmul x y) = true then next L ((zv_f (FP.fmul x y)) :: st) M else none
  | _ => none
def zo_fsub : zOo := fun a b c k D S hl sw next jump call L st M => match st with
  | .inr (.inr (.inr y)) :: .inr (.inr (.inr x)) :: st => if zn32 (FP.fsub x y) = true then next L ((zv_f (FP.fsub x y)) :: st) M else none
  | _ => none
def zo_fneg : zOo := fun a b c k D S hl sw next jump call L st M => match st with
  | .inr (.inr (.inr x)) :: st => next L ((zv_f (FP.fneg x)) :: st) M
  | _ => none
def zo_i2f : zOo := fun a b c k D S hl sw next jump call L st M => match st with
  | .inl (.inl x) :: st => next L ((zv_f (FP.i2f (Int32.ofInt x))) :: st) M
  | _ => none
def zo_f2i : zOo := fun a b c k D S hl sw next jump call L st M => match st with
  | .inr (.inr (.inr x)) :: st => next L ((zv_i ((FP.f2i x).toInt)) :: st) M
  | _ => none
def zo_f2d : zOo := fun a b c k D S hl sw next jump call L st M => match st with
  | .inr (.inr (.inr x)) :: st => if zn64 (FP.f2d x) = true then next L ((zv_d (FP.f2d x)) :: st) M else none
  | _ => none
def zo_i2c : zOo := fun a b c k D S hl sw next jump call L st M => match st with
  | .inl (.inl x) :: st => next L ((zv_i ((zw x) % 65536)) :: st) M
  | _ => none
def zo_dcmp : zOo := fun a b c k D S hl sw next jump call L st M => match st with
  | .inr (.inr (.inl y)) :: .inr (.inr (.inl x)) :: st => next L ((zv_i (Op.cmpValue (FP.dcmp x y) (if a = 1 then .g else .l)).toInt) :: st) M
  | _ => none
def zo_fcmp : zOo := fun a b c k D S hl sw next jump call L st M => match st with
  | .inr (.inr (.inr y)) :: .inr (.inr (.inr x)) :: st => next L ((zv_i (Op.cmpValue (FP.fcmp x y) (if a = 1 then .g else .l)).toInt) :: st) M
  | _ => none
def zo_iconst : zOo := fun a b c k D S hl sw next jump call L st M => next L ((zv_i k) :: st) M
def zo_lconst : zOo := fun a b c k D S hl sw next jump call L st M => next L ((zv_l k) :: st) M
def zo_fldc : zOo := fun a b c k D S hl sw next jump call L st M => next L ((zv_f (UInt32.ofNat k.toNat)) :: st) M
def zo_dldc : zOo := fun a b c k D S hl sw next jump call L st M => next L ((zv_d (UInt64.ofNat k.toNat)) :: st) M
def zo_fconst : zOo := fun a b c k D S hl sw next jump call L st M => next L ((zv_f (if a = 0 then FP.fconst0 else if a = 1 then FP.fconst1 else FP.fconst2)) :: st) M
def zo_dconst : zOo := fun a b c k D S hl sw next jump call L st M => next L ((zv_d (if a = 0 then FP.dconst0 else FP.dconst1)) :: st) M
def zo_null : zOo := fun a b c k D S hl sw next jump call L st M => next L ((zv_a 0) :: st) M
def zo_f2bits : zOo := fun a b c k D S hl sw next jump call L st M => match st with
  | .inr (.inr (.inr x)) :: st => if st.length ≤ 4 ∧ 0 < D then next L ((zv_i (x.toInt32.toInt)) :: st) M else none
  | _ => none
def zo_objinit : zOo := fun a b c k D S hl sw next jump call L st M => match st with
  | .inl (.inr x) :: st => if 0 < x ∧ (st.length ≤ 4 ∧ 0 < D) then next L (st) M else none
  | _ => none
def zo_aload : zOo := fun a b c k D S hl sw next jump call L st M => match zget L a with
  | some (.inl (.inr x)) => next L (zv_a x :: st) M
  | _ => none
def zo_iload : zOo := fun a b c k D S hl sw next jump call L st M => match zget L a with
  | some (.inl (.inl x)) => next L (zv_i x :: st) M
  | _ => none
def zo_lload : zOo := fun a b c k D S hl sw next jump call L st M => match zget L a with
  | some (.inr (.inl x)) => next L (zv_l x :: st) M
  | _ => none
def zo_dload : zOo := fun a b c k D S hl sw next jump call L st M => match zget L a with
  | some (.inr (.inr (.inl x))) => next L (zv_d x :: st) M
  | _ => none
def zo_fload : zOo := fun a b c k D S hl sw next jump call L st M => match zget L a with
  | some (.inr (.inr (.inr x))) => next L (zv_f x :: st) M
  | _ => none
def zo_astore : zOo := fun a b c k D S hl sw next jump call L st M => match st with
  | .inl (.inr x) :: st => next (zst1 L a (zv_a x)) st M
  | _ => none
def zo_istore : zOo := fun a b c k D S hl sw next jump call L st M => match st with
  | .inl (.inl x) :: st => next (zst1 L a (zv_i x)) st M
  | _ => none
def zo_lstore : zOo := fun a b c k D S hl sw next jump call L st M => match st with
  | .inr (.inl x) :: st => next (zst2 L a (zv_l x)) st M
  | _ => none
def zo_dstore : zOo := fun a b c k D S hl sw next jump call L st M => match st with
  | .inr (.inr (.inl x)) :: st => next (zst2 L a (zv_d x)) st M
  | _ => none
def zo_fstore : zOo := fun a b c k D S hl sw next jump call L st M => match st with
  | .inr (.inr (.inr x)) :: st => next (zst1 L a (zv_f x)) st M
  | _ => none
def zo_if14 : zOo := fun a b c k D S hl sw next jump call L st M => match st with
  | .inl (.inl x) :: st => if zw x = 0 then jump a L st M else next L st M
  | _ => none
def zo_if15 : zOo := fun a b c k D S hl sw next jump call L st M => match st with
  | .inl (.inl x) :: st => if ¬ zw x = 0 then jump a L st M else next L st M
  | _ => none
def zo_if16 : zOo := fun a b c k D S hl sw next jump call L st M => match st with
  | .inl (.inl x) :: st => if zw x < 0 then jump a L st M else next L st M
  | _ => none
def zo_if17 : zOo := fun a b c k D S hl sw next jump call L st M => match st with
  | .inl (.inl x) :: st => if 0 ≤ zw x then jump a L st M else next L st M
  | _ => none
def zo_if18 : zOo := fun a b c k D S hl sw next jump call L st M => match st with
  | .inl (.inl x) :: st => if 0 < zw x then jump a L st M else next L st M
  | _ => none
def zo_if19 : zOo := fun a b c k D S hl sw next jump call L st M => match st with
  | .inl (.inl x) :: st => if zw x ≤ 0 then jump a L st M else next L st M
  | _ => none
def zo_ic20 : zOo := fun a b c k D S hl sw next jump call L st M => match st with
  | .inl (.inl y) :: .inl (.inl x) :: st => if zw x = zw y then jump a L st M else next L st M
  | _ => none
def zo_ic21 : zOo := fun a b c k D S hl sw next jump call L st M => match st with
  | .inl (.inl y) :: .inl (.inl x) :: st => if ¬ zw x = zw y then jump a L st M else next L st M
  | _ => none
def zo_ic22 : zOo := fun a b c k D S hl sw next jump call L st M => match st with
  | .inl (.inl y) :: .inl (.inl x) :: st => if zw x < zw y then jump a L st M else next L st M
  | _ => none
def zo_ic23 : zOo := fun a b c k D S hl sw next jump call L st M => match st with
  | .inl (.inl y) :: .inl (.inl x) :: st => if zw y ≤ zw x then jump a L st M else next L st M
  | _ => none
def zo_ic24 : zOo := fun a b c k D S hl sw next jump call L st M => match st with
  | .inl (.inl y) :: .inl (.inl x) :: st => if zw y < zw x then jump a L st M else next L st M
  | _ => none
def zo_ic25 : zOo := fun a b c k D S hl sw next jump call L st M => match st with
  | .inl (.inl y) :: .inl (.inl x) :: st => if zw x ≤ zw y then jump a L st M else next L st M
  | _ => none
def zo_in26 : zOo := fun a b c k D S hl sw next jump call L st M => match st with
  | .inl (.inr x) :: st => if x = 0 then jump a L st M else next L st M
  | _ => none
def zo_in27 : zOo := fun a b c k D S hl sw next jump call L st M => match st with
  | .inl (.inr x) :: st => if ¬ x = 0 then jump a L st M else next L st M
  | _ => none
def zo_ia28 : zOo := fun a b c k D S hl sw next jump call L st M => match st with
  | .inl (.inr y) :: .inl (.inr x) :: st => if 0 ≤ x ∧ 0 ≤ y then (if x = y then jump a L st M else next L st M) else none
  | _ => none
def zo_ia29 : zOo := fun a b c k D S hl sw next jump call L st M => match st with
  | .inl (.inr y) :: .inl (.inr x) :: st => if 0 ≤ x ∧ 0 ≤ y then (if ¬ x = y then jump a L st M else next L st M) else none
  | _ => none
def zo_goto : zOo := fun a b c k D S hl sw next jump call L st M => jump a L st M
def zo_fall : zOo := fun a b c k D S hl sw next jump call L st M => jump a L st M
def zo_iinc : zOo := fun a b c k D S hl sw next jump call L st M => match zget L a with
  | some (.inl (.inl x)) => next (zst1 L a (zv_i (x + k))) st M
  | _ => none
def zo_dup : zOo := fun a b c k D S hl sw next jump call L st M => match st with
  | .inl x :: st => next L (.inl x :: .inl x :: st) M
  | .inr (.inr (.inr x)) :: st => next L (zv_f x :: zv_f x :: st) M
  | _ => none
def zo_dup2 : zOo := fun a b c k D S hl sw next jump call L st M => match st with
  | .inl x :: .inl y :: st => next L (.inl x :: .inl y :: .inl x :: .inl y :: st) M
  | _ => none
def zo_pop : zOo := fun a b c k D S hl sw next jump call L st M => match st with
  | .inl _ :: st => next L st M
  | _ => none
def zo_getI : zOo := fun a b c k D S hl sw next jump call L st M => match st with
  | .inl (.inr r) :: st => if 0 < r ∧ zaB (M.2.1 r) = some a then next L (zv_i (M.2.2.1 r k) :: st) M else none
  | _ => none
def zo_getA : zOo := fun a b c k D S hl sw next jump call L st M => match st with
  | .inl (.inr r) :: st => if 0 < r ∧ zaB (M.2.1 r) = some a then next L (zv_a (M.2.2.1 r k) :: st) M else none
  | _ => none
def zo_putI : zOo := fun a b c k D S hl sw next jump call L st M => match st with
  | .inl (.inl x) :: .inl (.inr r) :: st => if 0 < r ∧ zaB (M.2.1 r) = some a then next L st (M.1, (M.2.1, (zm_u M.2.2.1 r k x, M.2.2.2))) else none
  | _ => none
def zo_putZ : zOo := fun a b c k D S hl sw next jump call L st M => match st with
  | .inl (.inl x) :: .inl (.inr r) :: st => if (0 < r ∧ zaB (M.2.1 r) = some a) ∧ (x = 0 ∨ x = 1) then next L st (M.1, (M.2.1, (zm_u M.2.2.1 r k x, M.2.2.2))) else none
  | _ => none
def zo_putA : zOo := fun a b c k D S hl sw next jump call L st M => match st with
  | .inl (.inr x) :: .inl (.inr r) :: st => if 0 < r ∧ zaB (M.2.1 r) = some a then next L st (M.1, (M.2.1, (zm_u M.2.2.1 r k x, M.2.2.2))) else none
  | _ => none
def zo_iaload : zOo := fun a b c k D S hl sw next jump call L st M => match st with
  | .inl (.inl i) :: .inl (.inr r) :: st => (match zaI (M.2.1 r) with
    | some N => if (0 < r ∧ N ≤ 1000000) ∧ (0 ≤ zw i ∧ zw i < N) then next L (zv_i (M.2.2.1 r (zw i)) :: st) M else none
    | none => none)
  | _ => none
def zo_aaload : zOo := fun a b c k D S hl sw next jump call L st M => match st with
  | .inl (.inl i) :: .inl (.inr r) :: st => (match zaR (M.2.1 r) with
    | some N => if (0 < r ∧ N ≤ 1000000) ∧ (0 ≤ zw i ∧ zw i < N) then next L (zv_a (M.2.2.1 r (zw i)) :: st) M else none
    | none => none)
  | _ => none
def zo_laload : zOo := fun a b c k D S hl sw next jump call L st M => match st with
  | .inl (.inl i) :: .inl (.inr r) :: st => (match zaL (M.2.1 r) with
    | some N => if (0 < r ∧ N ≤ 1000000) ∧ (0 ≤ zw i ∧ zw i < N) then next L (zv_l (M.2.2.1 r (zw i)) :: st) M else none
    | none => none)
  | _ => none
def zo_daload : zOo := fun a b c k D S hl sw next jump call L st M => match st with
  | .inl (.inl i) :: .inl (.inr r) :: st => (match zaD (M.2.1 r) with
    | some N => if (0 < r ∧ N ≤ 1000000) ∧ (0 ≤ zw i ∧ zw i < N) then next L (zv_d (UInt64.ofNat (M.2.2.1 r (zw i)).toNat) :: st) M else none
    | none => none)
  | _ => none
def zo_caload : zOo := fun a b c k D S hl sw next jump call L st M => match st with
  | .inl (.inl i) :: .inl (.inr r) :: st => (match zaC (M.2.1 r) with
    | some N => if (0 < r ∧ N ≤ 1000000) ∧ (0 ≤ zw i ∧ zw i < N) then next L (zv_i (M.2.2.1 r (zw i)) :: st) M else none
    | none => none)
  | _ => none
def zo_zaload : zOo := fun a b c k D S hl sw next jump call L st M => match st with
  | .inl (.inl i) :: .inl (.inr r) :: st => (match zaZ (M.2.1 r) with
    | some N => if (0 < r ∧ N ≤ 1000000) ∧ (0 ≤ zw i ∧ zw i < N) then next L (zv_i (M.2.2.1 r (zw i)) :: st) M else none
    | none => none)
  | _ => none
def zo_iastore : zOo := fun a b c k D S hl sw next jump call L st M => match st with
  | .inl (.inl x) :: .inl (.inl i) :: .inl (.inr r) :: st => (match zaI (M.2.1 r) with
    | some N => if ((0 < r ∧ N ≤ 1000000) ∧ (0 ≤ zw i ∧ zw i < N)) then next L st (M.1, (M.2.1, (zm_u M.2.2.1 r (zw i) x, M.2.2.2))) else none
    | none => none)
  | _ => none
def zo_lastore : zOo := fun a b c k D S hl sw next jump call L st M => match st with
  | .inr (.inl x) :: .inl (.inl i) :: .inl (.inr r) :: st => (match zaL (M.2.1 r) with
    | some N => if ((0 < r ∧ N ≤ 1000000) ∧ (0 ≤ zw i ∧ zw i < N)) then next L st (M.1, (M.2.1, (zm_u M.2.2.1 r (zw i) x, M.2.2.2))) else none
    | none => none)
  | _ => none
def zo_dastore : zOo := fun a b c k D S hl sw next jump call L st M => match st with
  | .inr (.inr (.inl x)) :: .inl (.inl i) :: .inl (.inr r) :: st => (match zaD (M.2.1 r) with
    | some N => if ((0 < r ∧ N ≤ 1000000) ∧ (0 ≤ zw i ∧ zw i < N)) then next L st (M.1, (M.2.1, (zm_u M.2.2.1 r (zw i) x.toNat, M.2.2.2))) else none
    | none => none)
  | _ => none
def zo_castore : zOo := fun a b c k D S hl sw next jump call L st M => match st with
  | .inl (.inl x) :: .inl (.inl i) :: .inl (.inr r) :: st => (match zaC (M.2.1 r) with
    | some N => if ((0 < r ∧ N ≤ 1000000) ∧ (0 ≤ zw i ∧ zw i < N)) ∧ (0 ≤ x ∧ x < 65536) then next L st (M.1, (M.2.1, (zm_u M.2.2.1 r (zw i) x, M.2.2.2))) else none
    | none => none)
  | _ => none
def zo_zastore : zOo := fun a b c k D S hl sw next jump call L st M => match st with
  | .inl (.inl x) :: .inl (.inl i) :: .inl (.inr r) :: st => (match zaZ (M.2.1 r) with
    | some N => if ((0 < r ∧ N ≤ 1000000) ∧ (0 ≤ zw i ∧ zw i < N)) ∧ (x = 0 ∨ x = 1) then next L st (M.1, (M.2.1, (zm_u M.2.2.1 r (zw i) x, M.2.2.2))) else none
    | none => none)
  | _ => none
def zo_aastore : zOo := fun a b c k D S hl sw next jump call L st M => match st with
  | .inl (.inr x) :: .inl (.inl i) :: .inl (.inr r) :: st => (match zaO (M.2.1 r) with
    | some (C, N) => if ((0 < r ∧ N ≤ 1000000) ∧ (0 ≤ zw i ∧ zw i < N)) ∧ (x = 0 ∨ (0 < x ∧ zoc (M.2.1 x) C = true)) then next L st (M.1, (M.2.1, (zm_u M.2.2.1 r (zw i) x, M.2.2.2))) else none
    | none => none)
  | _ => none
def zo_alen : zOo := fun a b c k D S hl sw next jump call L st M => match st with
  | .inl (.inr r) :: st => (match zaX (M.2.1 r) with
    | some N => if 0 < r then next L (zv_i (N : Int) :: st) M else none
    | none => none)
  | _ => none
def zo_sald : zOo := fun a b c k D S hl sw next jump call L st M => match st with
  | .inl (.inl i) :: .inl (.inr r) :: st => if r = -1 ∧ (0 ≤ zw i ∧ zw i < S.1) then next L (zv_i (S.2 (zw i).toNat) :: st) M else none
  | _ => none
def zo_slen : zOo := fun a b c k D S hl sw next jump call L st M => match st with
  | .inl (.inr r) :: st => if r = -1 then next L (zv_i (S.1 : Int) :: st) M else none
  | _ => none
def zo_vret : zOo := fun a b c k D S hl sw next jump call L st M => match st with
  | [] => some (.inl none, M)
  | _ => none
def zo_iret : zOo := fun a b c k D S hl sw next jump call L st M => match st with
  | [.inl (.inl x)] => some (.inl (some (zv_i x)), M)
  | _ => none
def zo_zret : zOo := fun a b c k D S hl sw next jump call L st M => match st with
  | [.inl (.inl x)] => if x = 0 ∨ x = 1 then some (.inl (some (zv_i x)), M) else none
  | _ => none
def zo_aret : zOo := fun a b c k D S hl sw next jump call L st M => match st with
  | [.inl (.inr x)] => some (.inl (some (zv_a x)), M)
  | _ => none
def zo_lret : zOo := fun a b c k D S hl sw next jump call L st M => match st with
  | [.inr (.inl x)] => some (.inl (some (zv_l x)), M)
  | _ => none
def zo_dret : zOo := fun a b c k D S hl sw next jump call L st M => match st with
  | [.inr (.inr (.inl x))] => some (.inl (some (zv_d x)), M)
  | _ => none
def zo_fret : zOo := fun a b c k D S hl sw next jump call L st M => match st with
  | [.inr (.inr (.inr x))] => some (.inl (some (zv_f x)), M)
  | _ => none
def zo_throw : zOo := fun a b c k D S hl sw next jump call L st M => if 12 ≤ D ∧ st.length ≤ 8 then some (.inr a, (M.1 + 1, (M.2.1, (M.2.2.1, M.2.2.2 + 6)))) else none
def zo_throwW : zOo := fun a b c k D S hl sw next jump call L st M => if 12 ≤ D ∧ st.length ≤ 8 then some (.inr a, (M.1 + 1, (M.2.1, (M.2.2.1, M.2.2.2 + 6)))) else none
def zo_new : zOo := fun a b c k D S hl sw next jump call L st M => next L (zv_a ((M.1 : Int) + 1) :: st) (M.1 + 1, (zk_u M.2.1 ((M.1 : Int) + 1) (some (.inl a)), (zm_z M.2.2.1 ((M.1 : Int) + 1), M.2.2.2 + b)))
def zo_newarr : zOo := fun a b c k D S hl sw next jump call L st M => match st with
  | .inl (.inl x) :: st => if 0 ≤ x ∧ x ≤ 65536 then next L (zv_a ((M.1 : Int) + 1) :: st) (M.1 + 1, (zk_u M.2.1 ((M.1 : Int) + 1) (some (.inr (znA a, x.toNat))), (zm_z M.2.2.1 ((M.1 : Int) + 1), M.2.2.2 + x.toNat))) else none
  | _ => none
def zo_anew : zOo := fun a b c k D S hl sw next jump call L st M => match st with
  | .inl (.inl x) :: st => if 0 ≤ x ∧ x ≤ 65536 then next L (zv_a ((M.1 : Int) + 1) :: st) (M.1 + 1, (zk_u M.2.1 ((M.1 : Int) + 1) (some (.inr (.object (zcn a), x.toNat))), (zm_z M.2.2.1 ((M.1 : Int) + 1), M.2.2.2 + x.toNat))) else none
  | _ => none
def zo_multi2 : zOo := fun a b c k D S hl sw next jump call L st M => match st with
  | .inl (.inl y) :: .inl (.inl x) :: st => if (0 ≤ x ∧ x ≤ 1000) ∧ (0 ≤ y ∧ y ≤ 1000) then next L (zv_a ((M.1 : Int) + 1) :: st) (zmul2 M x.toNat y.toNat) else none
  | _ => none
def zo_multi3 : zOo := fun a b c k D S hl sw next jump call L st M => match st with
  | .inl (.inl z) :: .inl (.inl y) :: .inl (.inl x) :: st => if (0 ≤ x ∧ x ≤ 100) ∧ ((0 ≤ y ∧ y ≤ 100) ∧ (0 ≤ z ∧ z ≤ 100)) then next L (zv_a ((M.1 : Int) + 1) :: st) (zmul3 M x.toNat y.toNat z.toNat) else none
  | _ => none
def zo_callS : zOo := fun a b c k D S hl sw next jump call L st M => match zpop b st [] with
  | some (As, rest) => if rest.length ≤ 4 ∧ 0 < D then zaft hl next jump L rest (call a As M) else none
  | none => none
def zo_callV : zOo := fun a b c k D S hl sw next jump call L st M => match zpop b st [] with
  | some (As, .inl (.inr r) :: rest) => if (0 < r ∧ zaB (M.2.1 r) = some c) ∧ (rest.length ≤ 4 ∧ 0 < D) then zaft hl next jump L rest (call a (zv_a r :: As) M) else none
  | _ => none
def zo_callI : zOo := fun a b c k D S hl sw next jump call L st M => match zpop b st [] with
  | some (As, .inl (.inr r) :: rest) => if 0 < r ∧ (rest.length ≤ 4 ∧ 0 < D) then zaft hl next jump L rest (call a (zv_a r :: As) M) else none
  | _ => none
def zo_acopy : zOo := fun a b c k D S hl sw next jump call L st M => match st with
  | .inl (.inl x) :: .inl (.inl q) :: .inl (.inr r2) :: .inl (.inl p) :: .inl (.inr r1) :: st => (match zaI (M.2.1 r1), zaI (M.2.1 r2) with
    | some N1, some N2 => if (((0 < r1 ∧ 0 < r2) ∧ (N1 ≤ 1000000 ∧ N2 ≤ 1000000)) ∧ (0 ≤ zw p ∧ 0 ≤ zw q)) ∧ ((0 ≤ zw x ∧ zw p + zw x ≤ N1) ∧ (zw q + zw x ≤ N2 ∧ (st.length ≤ 4 ∧ 0 < D))) then next L st (M.1, (M.2.1, (zm_cp M.2.2.1 r1 (zw p) r2 (zw q) (zw x), M.2.2.2))) else none
    | _, _ => none)
  | _ => none
def zo_tsw : zOo := fun a b c k D S hl sw next jump call L st M => match st with
  | .inl (.inl x) :: st => (match (if 0 ≤ zw x then sw[(zw x).toNat]? else none) with
    | some t => jump t L st M
    | none => jump a L st M)
  | _ => none
def zstep : Nat → zOo
  | 0 => zo_aload
  | 1 => zo_getI
  | 2 => zo_getA
  | 3 => zo_iconst
  | 4 => zo_iload
  | 5 => zo_callS
  | 6 => zo_callV
  | 7 => zo_callI
  | 8 => zo_iret
  | 9 => zo_zret
  | 10 => zo_goto
  | 11 => zo_putI
  | 12 => zo_putZ
  | 13 => zo_putA
  | 14 => zo_if14
  | 15 => zo_if15
  | 16 => zo_if16
  | 17 => zo_if17
  | 18 => zo_if18
  | 19 => zo_if19
  | 20 => zo_ic20
  | 21 => zo_ic21
  | 22 => zo_ic22
  | 23 => zo_ic23
  | 24 => zo_ic24
  | 25 => zo_ic25
  | 26 => zo_in26
  | 27 => zo_in27
  | 28 => zo_ia28
  | 29 => zo_ia29
  | 30 => zo_istore
  | 31 => zo_astore
  | 32 => zo_iinc
  | 33 => zo_iaload
  | 34 => zo_aaload
  | 35 => zo_iastore
  | 36 => zo_alen
  | 37 => zo_iadd
  | 38 => zo_isub
  | 39 => zo_imul
  | 40 => zo_idiv
  | 41 => zo_irem
  | 42 => zo_iand
  | 43 => zo_ior
  | 44 => zo_ishl
  | 45 => zo_iushr
  | 46 => zo_ixor
  | 47 => zo_dup
  | 48 => zo_dup2
  | 49 => zo_pop
  | 50 => zo_vret
  | 51 => zo_aret
  | 52 => zo_lret
  | 53 => zo_dret
  | 54 => zo_fret
  | 55 => zo_throw
  | 56 => zo_throwW
  | 57 => zo_new
  | 58 => zo_newarr
  | 59 => zo_anew
  | 60 => zo_multi2
  | 61 => zo_multi3
  | 62 => zo_aastore
  | 64 => zo_lconst
  | 65 => zo_i2l
  | 66 => zo_l2i
  | 67 => zo_ladd
  | 68 => zo_lsub
  | 69 => zo_lmul
  | 70 => zo_ldiv
  | 71 => zo_lrem
  | 72 => zo_lcmp
  | 73 => zo_lload
  | 74 => zo_lstore
  | 75 => zo_laload
  | 76 => zo_lastore
  | 77 => zo_dconst
  | 78 => zo_dload
  | 79 => zo_dstore
  | 80 => zo_daload
  | 81 => zo_dastore
  | 82 => zo_dadd
  | 83 => zo_dmul
  | 84 => zo_ddiv
  | 85 => zo_dcmp
  | 86 => zo_i2d
  | 87 => zo_fconst
  | 88 => zo_fload
  | 89 => zo_fstore
  | 90 => zo_fdiv
  | 91 => zo_fmul
  | 92 => zo_fsub
  | 93 => zo_fneg
  | 94 => zo_fcmp
  | 95 => zo_i2f
  | 96 => zo_f2i
  | 97 => zo_f2d
  | 98 => zo_fldc
  | 99 => zo_caload
  | 100 => zo_castore
  | 101 => zo_zaload
  | 102 => zo_zastore
  | 103 => zo_i2c
  | 104 => zo_tsw
  | 105 => zo_null
  | 106 => zo_acopy
  | 107 => zo_f2bits
  | 108 => zo_objinit
  | 109 => zo_dldc
  | 111 => zo_fall
  | 112 => zo_sald
  | 113 => zo_slen
  | _ => fun _ _ _ _ _ _ _ _ _ _ _ _ _ _ => none
/-- the blocks of a method, its handlers, its switch, its locals -/
def zcd (m b : Nat) : List zI := (zCD.getD m []).getD b []
def zhl (m : Nat) : List (Nat × (Nat × Nat)) := zHDl.getD m []
def zsw (m : Nat) : List Nat := zSWl.getD m []
def znl (m : Nat) : Nat := zm_n (zMM m)
def zarg : Nat → List zv_V → zN
  | 0, _ => []
  | n + 1, [] => none :: zarg n []
  | n + 1, .inl x :: vs => some (.inl x) :: zarg n vs
  | n + 1, .inr (.inr (.inr x)) :: vs => some (zv_f x) :: zarg n vs
  | n + 2, v :: vs => some v :: none :: zarg n vs
  | 1, _ :: _ => [none]
def zrun (S : zSs) : Nat → Nat → Nat → List zI → zKk
  | 0, _, _, _ => fun _ _ _ => none
  | _ + 1, _, _, [] => fun _ _ _ => none
  | N + 1, D, m, (o, a, b, c, k) :: is => zstep o a b c k D S (zhl m) (zsw m) (zrun S N D m is) (fun b => zrun S N D m (zcd m b)) (fun m' As M => if zs_w As ≤ znl m' then zrun S N (D - 1) m' (zcd m' 0) (zarg (znl m') As) [] M else none)
/-- from here the run ends with Q -/
def zB (S : zSs) (D m : Nat) (is : List zI) (L : zN) (st : List zv_V) (n : Nat) (sh : zk_S) (d : zm_D) (u : Nat) (Q : ((Option zv_V) ⊕ Nat) → Nat → zk_S → zm_D → Nat → Prop) : Prop :=
  ∃ N r, zrun S N D m is L st (n, sh, d, u) = some r ∧ Q r.1 r.2.1 r.2.2.1 r.2.2.2.1 r.2.2.2.2
def zJ (S : zSs) (D m b : Nat) (L : zN) (st : List zv_V) (n : Nat) (sh : zk_S) (d : zm_D) (u : Nat) (Q : ((Option zv_V) ⊕ Nat) → Nat → zk_S → zm_D → Nat → Prop) : Prop := zB S D m (zcd m b) L st n sh d u Q
def zE (S : zSs) (D m : Nat) (As : List zv_V) (n : Nat) (sh : zk_S) (d : zm_D) (u : Nat) (Q : ((Option zv_V) ⊕ Nat) → Nat → zk_S → zm_D → Nat → Prop) : Prop := zs_w As ≤ znl m ∧ zB S D m (zcd m 0) (zarg (znl m) As) [] n sh d u Q
end
section
/-! ===== RULES: more fuel; what zB says of each operation ===== -/
def zMono (f : zOo) : Prop := ∀ (a b c : Nat) (k : Int) (D : Nat) (S : zSs) (hl : List (Nat × (Nat × Nat))) (sw : List Nat) (next next' : zKk) (jump jump' : Nat → zKk) (call call' : Nat → List zv_V → zMm → Option zRr),
  (∀ L st M r, next L st M = some r → next' L st M = some r) → (∀ b L st M r, jump b L st M = some r → jump' b L st M = some r) → (∀ m As M r, call m As M = some r → call' m As M = some r) →
  ∀ L st M r, f a b c k D S hl sw next jump call L st M = some r → f a b c k D S hl sw next' jump' call' L st M = some r
theorem zaft_mono {hl : List (Nat × (Nat × Nat))} {next next' : zKk} {jump jump' : Nat → zKk} {L : zN} {rest : List zv_V} {x y : Option zRr} (hn : ∀ L st M r, next L st M = some r → next' L st M = some r) (hj : ∀ b L st M r, jump b L st M = some r → jump' b L st M = some r) (hx : ∀ r, x = some r → y = some r) (r : zRr) (h : zaft hl next jump L rest x = some r) : zaft hl next' jump' L rest y = some r := by
  cases x with
  | none => cases h
  | some q =>
    rw [hx q rfl]
    obtain ⟨v | x, M⟩ := q
    · exact hn _ _ _ _ h
    · cases hl with
      | nil => exact h
      | cons h0 t =>
        simp only [zaft] at h ⊢
        split at h
        · exact hj _ _ _ _ _ h
        · cases h
theorem zmo_aload : zMono zo_aload := by
  intro a b c k D S hl sw next next' jump jump' call call' hn hj hc L st M r
  unfold zo_aload
  repeat' split
  all_goals first | exact id | exact hn _ _ _ _ | exact hj _ _ _ _ _ | (intro h; cases h; done) | exact zaft_mono hn hj (hc _ _ _) _
theorem zmo_getI : zMono zo_getI := by
  intro a b c k D S hl sw next next' jump jump' call call' hn hj hc L st M r
  unfold zo_getI
  repeat' split
  all_goals first | exact id | exact hn _ _ _ _ | exact hj _ _ _ _ _ | (intro h; cases h; done) | exact zaft_mono hn hj (hc _ _ _) _
theorem zmo_getA : zMono zo_getA := by
  intro a b c k D S hl sw next next' jump jump' call call' hn hj hc L st M r
  unfold zo_getA
  repeat' split
  all_goals first | exact id | exact hn _ _ _ _ | exact hj _ _ _ _ _ | (intro h; cases h; done) | exact zaft_mono hn hj (hc _ _ _) _
theorem zmo_iconst : zMono zo_iconst := by
  intro a b c k D S hl sw next next' jump jump' call call' hn hj hc L st M r
  unfold zo_iconst
  repeat' split
  all_goals first | exact id | exact hn _ _ _ _ | exact hj _ _ _ _ _ | (intro h; cases h; done) | exact zaft_mono hn hj (hc _ _ _) _
theorem zmo_iload : zMono zo_iload := by
  intro a b c k D S hl sw next next' jump jump' call call' hn hj hc L st M r
  unfold zo_iload
  repeat' split
  all_goals first | exact id | exact hn _ _ _ _ | exact hj _ _ _ _ _ | (intro h; cases h; done) | exact zaft_mono hn hj (hc _ _ _) _
theorem zmo_callS : zMono zo_callS := by
  intro a b c k D S hl sw next next' jump jump' call call' hn hj hc L st M r
  unfold zo_callS
  repeat' split
  all_goals first | exact id | exact hn _ _ _ _ | exact hj _ _ _ _ _ | (intro h; cases h; done) | exact zaft_mono hn hj (hc _ _ _) _
theorem zmo_callV : zMono zo_callV := by
  intro a b c k D S hl sw next next' jump jump' call call' hn hj hc L st M r
  unfold zo_callV
  repeat' split
  all_goals first | exact id | exact hn _ _ _ _ | exact hj _ _ _ _ _ | (intro h; cases h; done) | exact zaft_mono hn hj (hc _ _ _) _
theorem zmo_callI : zMono zo_callI := by
  intro a b c k D S hl sw next next' jump jump' call call' hn hj hc L st M r
  unfold zo_callI
  repeat' split
  all_goals first | exact id | exact hn _ _ _ _ | exact hj _ _ _ _ _ | (intro h; cases h; done) | exact zaft_mono hn hj (hc _ _ _) _
theorem zmo_iret : zMono zo_iret := by
  intro a b c k D S hl sw next next' jump jump' call call' hn hj hc L st M r
  unfold zo_iret
  repeat' split
  all_goals first | exact id | exact hn _ _ _ _ | exact hj _ _ _ _ _ | (intro h; cases h; done) | exact zaft_mono hn hj (hc _ _ _) _
theorem zmo_zret : zMono zo_zret := by
  intro a b c k D S hl sw next next' jump jump' call call' hn hj hc L st M r
  unfold zo_zret
  repeat' split
  all_goals first | exact id | exact hn _ _ _ _ | exact hj _ _ _ _ _ | (intro h; cases h; done) | exact zaft_mono hn hj (hc _ _ _) _
theorem zmo_goto : zMono zo_goto := by
  intro a b c k D S hl sw next next' jump jump' call call' hn hj hc L st M r
  unfold zo_goto
  repeat' split
  all_goals first | exact id | exact hn _ _ _ _ | exact hj _ _ _ _ _ | (intro h; cases h; done) | exact zaft_mono hn hj (hc _ _ _) _
theorem zmo_putI : zMono zo_putI := by
  intro a b c k D S hl sw next next' jump jump' call call' hn hj hc L st M r
  unfold zo_putI
  repeat' split
  all_goals first | exact id | exact hn _ _ _ _ | exact hj _ _ _ _ _ | (intro h; cases h; done) | exact zaft_mono hn hj (hc _ _ _) _
theorem zmo_putZ : zMono zo_putZ := by
  intro a b c k D S hl sw next next' jump jump' call call' hn hj hc L st M r
  unfold zo_putZ
  repeat' split
  all_goals first | exact id | exact hn _ _ _ _ | exact hj _ _ _ _ _ | (intro h; cases h; done) | exact zaft_mono hn hj (hc _ _ _) _
theorem zmo_putA : zMono zo_putA := by
  intro a b c k D S hl sw next next' jump jump' call call' hn hj hc L st M r
  unfold zo_putA
  repeat' split
  all_goals first | exact id | exact hn _ _ _ _ | exact hj _ _ _ _ _ | (intro h; cases h; done) | exact zaft_mono hn hj (hc _ _ _) _
theorem zmo_if14 : zMono zo_if14 := by
  intro a b c k D S hl sw next next' jump jump' call call' hn hj hc L st M r
  unfold zo_if14
  repeat' split
  all_goals first | exact id | exact hn _ _ _ _ | exact hj _ _ _ _ _ | (intro h; cases h; done) | exact zaft_mono hn hj (hc _ _ _) _
theorem zmo_if15 : zMono zo_if15 := by
  intro a b c k D S hl sw next next' jump jump' call call' hn hj hc L st M r
  unfold zo_if15
  repeat' split
  all_goals first | exact id | exact hn _ _ _ _ | exact hj _ _ _ _ _ | (intro h; cases h; done) | exact zaft_mono hn hj (hc _ _ _) _
theorem zmo_if16 : zMono zo_if16 := by
  intro a b c k D S hl sw next next' jump jump' call call' hn hj hc L st M r
  unfold zo_if16
  repeat' split
  all_goals first | exact id | exact hn _ _ _ _ | exact hj _ _ _ _ _ | (intro h; cases h; done) | exact zaft_mono hn hj (hc _ _ _) _
theorem zmo_if17 : zMono zo_if17 := by
  intro a b c k D S hl sw next next' jump jump' call call' hn hj hc L st M r
  unfold zo_if17
  repeat' split
  all_goals first | exact id | exact hn _ _ _ _ | exact hj _ _ _ _ _ | (intro h; cases h; done) | exact zaft_mono hn hj (hc _ _ _) _
theorem zmo_if18 : zMono zo_if18 := by
  intro a b c k D S hl sw next next' jump jump' call call' hn hj hc L st M r
  unfold zo_if18
  repeat' split
  all_goals first | exact id | exact hn _ _ _ _ | exact hj _ _ _ _ _ | (intro h; cases h; done) | exact zaft_mono hn hj (hc _ _ _) _
theorem zmo_if19 : zMono zo_if19 := by
  intro a b c k D S hl sw next next' jump jump' call call' hn hj hc L st M r
  unfold zo_if19
  repeat' split
  all_goals first | exact id | exact hn _ _ _ _ | exact hj _ _ _ _ _ | (intro h; cases h; done) | exact zaft_mono hn hj (hc _ _ _) _
theorem zmo_ic20 : zMono zo_ic20 := by
  intro a b c k D S hl sw next next' jump jump' call call' hn hj hc L st M r
  unfold zo_ic20
  repeat' split
  all_goals first | exact id | exact hn _ _ _ _ | exact hj _ _ _ _ _ | (intro h; cases h; done) | exact zaft_mono hn hj (hc _ _ _) _
theorem zmo_ic21 : zMono zo_ic21 := by
  intro a b c k D S hl sw next next' jump jump' call call' hn hj hc L st M r
  unfold zo_ic21
  repeat' split
  all_goals first | exact id | exact hn _ _ _ _ | exact hj _ _ _ _ _ | (intro h; cases h; done) | exact zaft_mono hn hj (hc _ _ _) _
theorem zmo_ic22 : zMono zo_ic22 := by
  intro a b c k D S hl sw next next' jump jump' call call' hn hj hc L st M r
  unfold zo_ic22
  repeat' split
  all_goals first | exact id | exact hn _ _ _ _ | exact hj _ _ _ _ _ | (intro h; cases h; done) | exact zaft_mono hn hj (hc _ _ _) _
theorem zmo_ic23 : zMono zo_ic23 := by
  intro a b c k D S hl sw next next' jump jump' call call' hn hj hc L st M r
  unfold zo_ic23
  repeat' split
  all_goals first | exact id | exact hn _ _ _ _ | exact hj _ _ _ _ _ | (intro h; cases h; done) | exact zaft_mono hn hj (hc _ _ _) _
theorem zmo_ic24 : zMono zo_ic24 := by
  intro a b c k D S hl sw next next' jump jump' call call' hn hj hc L st M r
  unfold zo_ic24
  repeat' split
  all_goals first | exact id | exact hn _ _ _ _ | exact hj _ _ _ _ _ | (intro h; cases h; done) | exact zaft_mono hn hj (hc _ _ _) _
theorem zmo_ic25 : zMono zo_ic25 := by
  intro a b c k D S hl sw next next' jump jump' call call' hn hj hc L st M r
  unfold zo_ic25
  repeat' split
  all_goals first | exact id | exact hn _ _ _ _ | exact hj _ _ _ _ _ | (intro h; cases h; done) | exact zaft_mono hn hj (hc _ _ _) _
theorem zmo_in26 : zMono zo_in26 := by
  intro a b c k D S hl sw next next' jump jump' call call' hn hj hc L st M r
  unfold zo_in26
  repeat' split
  all_goals first | exact id | exact hn _ _ _ _ | exact hj _ _ _ _ _ | (intro h; cases h; done) | exact zaft_mono hn hj (hc _ _ _) _
theorem zmo_in27 : zMono zo_in27 := by
  intro a b c k D S hl sw next next' jump jump' call call' hn hj hc L st M r
  unfold zo_in27
  repeat' split
  all_goals first | exact id | exact hn _ _ _ _ | exact hj _ _ _ _ _ | (intro h; cases h; done) | exact zaft_mono hn hj (hc _ _ _) _
theorem zmo_ia28 : zMono zo_ia28 := by
  intro a b c k D S hl sw next next' jump jump' call call' hn hj hc L st M r
  unfold zo_ia28
  repeat' split
  all_goals first | exact id | exact hn _ _ _ _ | exact hj _ _ _ _ _ | (intro h; cases h; done) | exact zaft_mono hn hj (hc _ _ _) _
theorem zmo_ia29 : zMono zo_ia29 := by
  intro a b c k D S hl sw next next' jump jump' call call' hn hj hc L st M r
  unfold zo_ia29
  repeat' split
  all_goals first | exact id | exact hn _ _ _ _ | exact hj _ _ _ _ _ | (intro h; cases h; done) | exact zaft_mono hn hj (hc _ _ _) _
theorem zmo_istore : zMono zo_istore := by
  intro a b c k D S hl sw next next' jump jump' call call' hn hj hc L st M r
  unfold zo_istore
  repeat' split
  all_goals first | exact id | exact hn _ _ _ _ | exact hj _ _ _ _ _ | (intro h; cases h; done) | exact zaft_mono hn hj (hc _ _ _) _
theorem zmo_astore : zMono zo_astore := by
  intro a b c k D S hl sw next next' jump jump' call call' hn hj hc L st M r
  unfold zo_astore
  repeat' split
  all_goals first | exact id | exact hn _ _ _ _ | exact hj _ _ _ _ _ | (intro h; cases h; done) | exact zaft_mono hn hj (hc _ _ _) _
theorem zmo_iinc : zMono zo_iinc := by
  intro a b c k D S hl sw next next' jump jump' call call' hn hj hc L st M r
  unfold zo_iinc
  repeat' split
  all_goals first | exact id | exact hn _ _ _ _ | exact hj _ _ _ _ _ | (intro h; cases h; done) | exact zaft_mono hn hj (hc _ _ _) _
theorem zmo_iaload : zMono zo_iaload := by
  intro a b c k D S hl sw next next' jump jump' call call' hn hj hc L st M r
  unfold zo_iaload
  repeat' split
  all_goals first | exact id | exact hn _ _ _ _ | exact hj _ _ _ _ _ | (intro h; cases h; done) | exact zaft_mono hn hj (hc _ _ _) _
theorem zmo_aaload : zMono zo_aaload := by
  intro a b c k D S hl sw next next' jump jump' call call' hn hj hc L st M r
  unfold zo_aaload
  repeat' split
  all_goals first | exact id | exact hn _ _ _ _ | exact hj _ _ _ _ _ | (intro h; cases h; done) | exact zaft_mono hn hj (hc _ _ _) _
theorem zmo_iastore : zMono zo_iastore := by
  intro a b c k D S hl sw next next' jump jump' call call' hn hj hc L st M r
  unfold zo_iastore
  repeat' split
  all_goals first | exact id | exact hn _ _ _ _ | exact hj _ _ _ _ _ | (intro h; cases h; done) | exact zaft_mono hn hj (hc _ _ _) _
theorem zmo_alen : zMono zo_alen := by
  intro a b c k D S hl sw next next' jump jump' call call' hn hj hc L st M r
  unfold zo_alen
  repeat' split
  all_goals first | exact id | exact hn _ _ _ _ | exact hj _ _ _ _ _ | (intro h; cases h; done) | exact zaft_mono hn hj (hc _ _ _) _
theorem zmo_iadd : zMono zo_iadd := by
  intro a b c k D S hl sw next next' jump jump' call call' hn hj hc L st M r
  unfold zo_iadd
  repeat' split
  all_goals first | exact id | exact hn _ _ _ _ | exact hj _ _ _ _ _ | (intro h; cases h; done) | exact zaft_mono hn hj (hc _ _ _) _
theorem zmo_isub : zMono zo_isub := by
  intro a b c k D S hl sw next next' jump jump' call call' hn hj hc L st M r
  unfold zo_isub
  repeat' split
  all_goals first | exact id | exact hn _ _ _ _ | exact hj _ _ _ _ _ | (intro h; cases h; done) | exact zaft_mono hn hj (hc _ _ _) _
theorem zmo_imul : zMono zo_imul := by
  intro a b c k D S hl sw next next' jump jump' call call' hn hj hc L st M r
  unfold zo_imul
  repeat' split
  all_goals first | exact id | exact hn _ _ _ _ | exact hj _ _ _ _ _ | (intro h; cases h; done) | exact zaft_mono hn hj (hc _ _ _) _
theorem zmo_idiv : zMono zo_idiv := by
  intro a b c k D S hl sw next next' jump jump' call call' hn hj hc L st M r
  unfold zo_idiv
  repeat' split
  all_goals first | exact id | exact hn _ _ _ _ | exact hj _ _ _ _ _ | (intro h; cases h; done) | exact zaft_mono hn hj (hc _ _ _) _
theorem zmo_irem : zMono zo_irem := by
  intro a b c k D S hl sw next next' jump jump' call call' hn hj hc L st M r
  unfold zo_irem
  repeat' split
  all_goals first | exact id | exact hn _ _ _ _ | exact hj _ _ _ _ _ | (intro h; cases h; done) | exact zaft_mono hn hj (hc _ _ _) _
theorem zmo_iand : zMono zo_iand := by
  intro a b c k D S hl sw next next' jump jump' call call' hn hj hc L st M r
  unfold zo_iand
  repeat' split
  all_goals first | exact id | exact hn _ _ _ _ | exact hj _ _ _ _ _ | (intro h; cases h; done) | exact zaft_mono hn hj (hc _ _ _) _
theorem zmo_ior : zMono zo_ior := by
  intro a b c k D S hl sw next next' jump jump' call call' hn hj hc L st M r
  unfold zo_ior
  repeat' split
  all_goals first | exact id | exact hn _ _ _ _ | exact hj _ _ _ _ _ | (intro h; cases h; done) | exact zaft_mono hn hj (hc _ _ _) _
theorem zmo_ishl : zMono zo_ishl := by
  intro a b c k D S hl sw next next' jump jump' call call' hn hj hc L st M r
  unfold zo_ishl
  repeat' split
  all_goals first | exact id | exact hn _ _ _ _ | exact hj _ _ _ _ _ | (intro h; cases h; done) | exact zaft_mono hn hj (hc _ _ _) _
theorem zmo_iushr : zMono zo_iushr := by
  intro a b c k D S hl sw next next' jump jump' call call' hn hj hc L st M r
  unfold zo_iushr
  repeat' split
  all_goals first | exact id | exact hn _ _ _ _ | exact hj _ _ _ _ _ | (intro h; cases h; done) | exact zaft_mono hn hj (hc _ _ _) _
theorem zmo_ixor : zMono zo_ixor := by
  intro a b c k D S hl sw next next' jump jump' call call' hn hj hc L st M r
  unfold zo_ixor
  repeat' split
  all_goals first | exact id | exact hn _ _ _ _ | exact hj _ _ _ _ _ | (intro h; cases h; done) | exact zaft_mono hn hj (hc _ _ _) _
theorem zmo_dup : zMono zo_dup := by
  intro a b c k D S hl sw next next' jump jump' call call' hn hj hc L st M r
  unfold zo_dup
  repeat' split
  all_goals first | exact id | exact hn _ _ _ _ | exact hj _ _ _ _ _ | (intro h; cases h; done) | exact zaft_mono hn hj (hc _ _ _) _
theorem zmo_dup2 : zMono zo_dup2 := by
  intro a b c k D S hl sw next next' jump jump' call call' hn hj hc L st M r
  unfold zo_dup2
  repeat' split
  all_goals first | exact id | exact hn _ _ _ _ | exact hj _ _ _ _ _ | (intro h; cases h; done) | exact zaft_mono hn hj (hc _ _ _) _
theorem zmo_pop : zMono zo_pop := by
  intro a b c k D S hl sw next next' jump jump' call call' hn hj hc L st M r
  unfold zo_pop
  repeat' split
  all_goals first | exact id | exact hn _ _ _ _ | exact hj _ _ _ _ _ | (intro h; cases h; done) | exact zaft_mono hn hj (hc _ _ _) _
theorem zmo_vret : zMono zo_vret := by
  intro a b c k D S hl sw next next' jump jump' call call' hn hj hc L st M r
  unfold zo_vret
  repeat' split
  all_goals first | exact id | exact hn _ _ _ _ | exact hj _ _ _ _ _ | (intro h; cases h; done) | exact zaft_mono hn hj (hc _ _ _) _
theorem zmo_aret : zMono zo_aret := by
  intro a b c k D S hl sw next next' jump jump' call call' hn hj hc L st M r
  unfold zo_aret
  repeat' split
  all_goals first | exact id | exact hn _ _ _ _ | exact hj _ _ _ _ _ | (intro h; cases h; done) | exact zaft_mono hn hj (hc _ _ _) _
theorem zmo_lret : zMono zo_lret := by
  intro a b c k D S hl sw next next' jump jump' call call' hn hj hc L st M r
  unfold zo_lret
  repeat' split
  all_goals first | exact id | exact hn _ _ _ _ | exact hj _ _ _ _ _ | (intro h; cases h; done) | exact zaft_mono hn hj (hc _ _ _) _
theorem zmo_dret : zMono zo_dret := by
  intro a b c k D S hl sw next next' jump jump' call call' hn hj hc L st M r
  unfold zo_dret
  repeat' split
  all_goals first | exact id | exact hn _ _ _ _ | exact hj _ _ _ _ _ | (intro h; cases h; done) | exact zaft_mono hn hj (hc _ _ _) _
theorem zmo_fret : zMono zo_fret := by
  intro a b c k D S hl sw next next' jump jump' call call' hn hj hc L st M r
  unfold zo_fret
  repeat' split
  all_goals first | exact id | exact hn _ _ _ _ | exact hj _ _ _ _ _ | (intro h; cases h; done) | exact zaft_mono hn hj (hc _ _ _) _
theorem zmo_throw : zMono zo_throw := by
  intro a b c k D S hl sw next next' jump jump' call call' hn hj hc L st M r
  unfold zo_throw
  repeat' split
  all_goals first | exact id | exact hn _ _ _ _ | exact hj _ _ _ _ _ | (intro h; cases h; done) | exact zaft_mono hn hj (hc _ _ _) _
theorem zmo_throwW : zMono zo_throwW := by
  intro a b c k D S hl sw next next' jump jump' call call' hn hj hc L st M r
  unfold zo_throwW
  repeat' split
  all_goals first | exact id | exact hn _ _ _ _ | exact hj _ _ _ _ _ | (intro h; cases h; done) | exact zaft_mono hn hj (hc _ _ _) _
theorem zmo_new : zMono zo_new := by
  intro a b c k D S hl sw next next' jump jump' call call' hn hj hc L st M r
  unfold zo_new
  repeat' split
  all_goals first | exact id | exact hn _ _ _ _ | exact hj _ _ _ _ _ | (intro h; cases h; done) | exact zaft_mono hn hj (hc _ _ _) _
theorem zmo_newarr : zMono zo_newarr := by
  intro a b c k D S hl sw next next' jump jump' call call' hn hj hc L st M r
  unfold zo_newarr
  repeat' split
  all_goals first | exact id | exact hn _ _ _ _ | exact hj _ _ _ _ _ | (intro h; cases h; done) | exact zaft_mono hn hj (hc _ _ _) _
theorem zmo_anew : zMono zo_anew := by
  intro a b c k D S hl sw next next' jump jump' call call' hn hj hc L st M r
  unfold zo_anew
  repeat' split
  all_goals first | exact id | exact hn _ _ _ _ | exact hj _ _ _ _ _ | (intro h; cases h; done) | exact zaft_mono hn hj (hc _ _ _) _
theorem zmo_multi2 : zMono zo_multi2 := by
  intro a b c k D S hl sw next next' jump jump' call call' hn hj hc L st M r
  unfold zo_multi2
  repeat' split
  all_goals first | exact id | exact hn _ _ _ _ | exact hj _ _ _ _ _ | (intro h; cases h; done) | exact zaft_mono hn hj (hc _ _ _) _
theorem zmo_multi3 : zMono zo_multi3 := by
  intro a b c k D S hl sw next next' jump jump' call call' hn hj hc L st M r
  unfold zo_multi3
  repeat' split
  all_goals first | exact id | exact hn _ _ _ _ | exact hj _ _ _ _ _ | (intro h; cases h; done) | exact zaft_mono hn hj (hc _ _ _) _
theorem zmo_aastore : zMono zo_aastore := by
  intro a b c k D S hl sw next next' jump jump' call call' hn hj hc L st M r
  unfold zo_aastore
  repeat' split
  all_goals first | exact id | exact hn _ _ _ _ | exact hj _ _ _ _ _ | (intro h; cases h; done) | exact zaft_mono hn hj (hc _ _ _) _
theorem zmo_lconst : zMono zo_lconst := by
  intro a b c k D S hl sw next next' jump jump' call call' hn hj hc L st M r
  unfold zo_lconst
  repeat' split
  all_goals first | exact id | exact hn _ _ _ _ | exact hj _ _ _ _ _ | (intro h; cases h; done) | exact zaft_mono hn hj (hc _ _ _) _
theorem zmo_i2l : zMono zo_i2l := by
  intro a b c k D S hl sw next next' jump jump' call call' hn hj hc L st M r
  unfold zo_i2l
  repeat' split
  all_goals first | exact id | exact hn _ _ _ _ | exact hj _ _ _ _ _ | (intro h; cases h; done) | exact zaft_mono hn hj (hc _ _ _) _
theorem zmo_l2i : zMono zo_l2i := by
  intro a b c k D S hl sw next next' jump jump' call call' hn hj hc L st M r
  unfold zo_l2i
  repeat' split
  all_goals first | exact id | exact hn _ _ _ _ | exact hj _ _ _ _ _ | (intro h; cases h; done) | exact zaft_mono hn hj (hc _ _ _) _
theorem zmo_ladd : zMono zo_ladd := by
  intro a b c k D S hl sw next next' jump jump' call call' hn hj hc L st M r
  unfold zo_ladd
  repeat' split
  all_goals first | exact id | exact hn _ _ _ _ | exact hj _ _ _ _ _ | (intro h; cases h; done) | exact zaft_mono hn hj (hc _ _ _) _
theorem zmo_lsub : zMono zo_lsub := by
  intro a b c k D S hl sw next next' jump jump' call call' hn hj hc L st M r
  unfold zo_lsub
  repeat' split
  all_goals first | exact id | exact hn _ _ _ _ | exact hj _ _ _ _ _ | (intro h; cases h; done) | exact zaft_mono hn hj (hc _ _ _) _
theorem zmo_lmul : zMono zo_lmul := by
  intro a b c k D S hl sw next next' jump jump' call call' hn hj hc L st M r
  unfold zo_lmul
  repeat' split
  all_goals first | exact id | exact hn _ _ _ _ | exact hj _ _ _ _ _ | (intro h; cases h; done) | exact zaft_mono hn hj (hc _ _ _) _
theorem zmo_ldiv : zMono zo_ldiv := by
  intro a b c k D S hl sw next next' jump jump' call call' hn hj hc L st M r
  unfold zo_ldiv
  repeat' split
  all_goals first | exact id | exact hn _ _ _ _ | exact hj _ _ _ _ _ | (intro h; cases h; done) | exact zaft_mono hn hj (hc _ _ _) _
theorem zmo_lrem : zMono zo_lrem := by
  intro a b c k D S hl sw next next' jump jump' call call' hn hj hc L st M r
  unfold zo_lrem
  repeat' split
  all_goals first | exact id | exact hn _ _ _ _ | exact hj _ _ _ _ _ | (intro h; cases h; done) | exact zaft_mono hn hj (hc _ _ _) _
theorem zmo_lcmp : zMono zo_lcmp := by
  intro a b c k D S hl sw next next' jump jump' call call' hn hj hc L st M r
  unfold zo_lcmp
  repeat' split
  all_goals first | exact id | exact hn _ _ _ _ | exact hj _ _ _ _ _ | (intro h; cases h; done) | exact zaft_mono hn hj (hc _ _ _) _
theorem zmo_lload : zMono zo_lload := by
  intro a b c k D S hl sw next next' jump jump' call call' hn hj hc L st M r
  unfold zo_lload
  repeat' split
  all_goals first | exact id | exact hn _ _ _ _ | exact hj _ _ _ _ _ | (intro h; cases h; done) | exact zaft_mono hn hj (hc _ _ _) _
theorem zmo_lstore : zMono zo_lstore := by
  intro a b c k D S hl sw next next' jump jump' call call' hn hj hc L st M r
  unfold zo_lstore
  repeat' split
  all_goals first | exact id | exact hn _ _ _ _ | exact hj _ _ _ _ _ | (intro h; cases h; done) | exact zaft_mono hn hj (hc _ _ _) _
theorem zmo_laload : zMono zo_laload := by
  intro a b c k D S hl sw next next' jump jump' call call' hn hj hc L st M r
  unfold zo_laload
  repeat' split
  all_goals first | exact id | exact hn _ _ _ _ | exact hj _ _ _ _ _ | (intro h; cases h; done) | exact zaft_mono hn hj (hc _ _ _) _
theorem zmo_lastore : zMono zo_lastore := by
  intro a b c k D S hl sw next next' jump jump' call call' hn hj hc L st M r
  unfold zo_lastore
  repeat' split
  all_goals first | exact id | exact hn _ _ _ _ | exact hj _ _ _ _ _ | (intro h; cases h; done) | exact zaft_mono hn hj (hc _ _ _) _
theorem zmo_dconst : zMono zo_dconst := by
  intro a b c k D S hl sw next next' jump jump' call call' hn hj hc L st M r
  unfold zo_dconst
  repeat' split
  all_goals first | exact id | exact hn _ _ _ _ | exact hj _ _ _ _ _ | (intro h; cases h; done) | exact zaft_mono hn hj (hc _ _ _) _
theorem zmo_dload : zMono zo_dload := by
  intro a b c k D S hl sw next next' jump jump' call call' hn hj hc L st M r
  unfold zo_dload
  repeat' split
  all_goals first | exact id | exact hn _ _ _ _ | exact hj _ _ _ _ _ | (intro h; cases h; done) | exact zaft_mono hn hj (hc _ _ _) _
theorem zmo_dstore : zMono zo_dstore := by
  intro a b c k D S hl sw next next' jump jump' call call' hn hj hc L st M r
  unfold zo_dstore
  repeat' split
  all_goals first | exact id | exact hn _ _ _ _ | exact hj _ _ _ _ _ | (intro h; cases h; done) | exact zaft_mono hn hj (hc _ _ _) _
theorem zmo_daload : zMono zo_daload := by
  intro a b c k D S hl sw next next' jump jump' call call' hn hj hc L st M r
  unfold zo_daload
  repeat' split
  all_goals first | exact id | exact hn _ _ _ _ | exact hj _ _ _ _ _ | (intro h; cases h; done) | exact zaft_mono hn hj (hc _ _ _) _
theorem zmo_dastore : zMono zo_dastore := by
  intro a b c k D S hl sw next next' jump jump' call call' hn hj hc L st M r
  unfold zo_dastore
  repeat' split
  all_goals first | exact id | exact hn _ _ _ _ | exact hj _ _ _ _ _ | (intro h; cases h; done) | exact zaft_mono hn hj (hc _ _ _) _
theorem zmo_dadd : zMono zo_dadd := by
  intro a b c k D S hl sw next next' jump jump' call call' hn hj hc L st M r
  unfold zo_dadd
  repeat' split
  all_goals first | exact id | exact hn _ _ _ _ | exact hj _ _ _ _ _ | (intro h; cases h; done) | exact zaft_mono hn hj (hc _ _ _) _
theorem zmo_dmul : zMono zo_dmul := by
  intro a b c k D S hl sw next next' jump jump' call call' hn hj hc L st M r
  unfold zo_dmul
  repeat' split
  all_goals first | exact id | exact hn _ _ _ _ | exact hj _ _ _ _ _ | (intro h; cases h; done) | exact zaft_mono hn hj (hc _ _ _) _
theorem zmo_ddiv : zMono zo_ddiv := by
  intro a b c k D S hl sw next next' jump jump' call call' hn hj hc L st M r
  unfold zo_ddiv
  repeat' split
  all_goals first | exact id | exact hn _ _ _ _ | exact hj _ _ _ _ _ | (intro h; cases h; done) | exact zaft_mono hn hj (hc _ _ _) _
theorem zmo_dcmp : zMono zo_dcmp := by
  intro a b c k D S hl sw next next' jump jump' call call' hn hj hc L st M r
  unfold zo_dcmp
  repeat' split
  all_goals first | exact id | exact hn _ _ _ _ | exact hj _ _ _ _ _ | (intro h; cases h; done) | exact zaft_mono hn hj (hc _ _ _) _
theorem zmo_i2d : zMono zo_i2d := by
  intro a b c k D S hl sw next next' jump jump' call call' hn hj hc L st M r
  unfold zo_i2d
  repeat' split
  all_goals first | exact id | exact hn _ _ _ _ | exact hj _ _ _ _ _ | (intro h; cases h; done) | exact zaft_mono hn hj (hc _ _ _) _
theorem zmo_fconst : zMono zo_fconst := by
  intro a b c k D S hl sw next next' jump jump' call call' hn hj hc L st M r
  unfold zo_fconst
  repeat' split
  all_goals first | exact id | exact hn _ _ _ _ | exact hj _ _ _ _ _ | (intro h; cases h; done) | exact zaft_mono hn hj (hc _ _ _) _
theorem zmo_fload : zMono zo_fload := by
  intro a b c k D S hl sw next next' jump jump' call call' hn hj hc L st M r
  unfold zo_fload
  repeat' split
  all_goals first | exact id | exact hn _ _ _ _ | exact hj _ _ _ _ _ | (intro h; cases h; done) | exact zaft_mono hn hj (hc _ _ _) _
theorem zmo_fstore : zMono zo_fstore := by
  intro a b c k D S hl sw next next' jump jump' call call' hn hj hc L st M r
  unfold zo_fstore
  repeat' split
  all_goals first | exact id | exact hn _ _ _ _ | exact hj _ _ _ _ _ | (intro h; cases h; done) | exact zaft_mono hn hj (hc _ _ _) _
theorem zmo_fdiv : zMono zo_fdiv := by
  intro a b c k D S hl sw next next' jump jump' call call' hn hj hc L st M r
  unfold zo_fdiv
  repeat' split
  all_goals first | exact id | exact hn _ _ _ _ | exact hj _ _ _ _ _ | (intro h; cases h; done) | exact zaft_mono hn hj (hc _ _ _) _
theorem zmo_fmul : zMono zo_fmul := by
  intro a b c k D S hl sw next next' jump jump' call call' hn hj hc L st M r
  unfold zo_fmul
  repeat' split
  all_goals first | exact id | exact hn _ _ _ _ | exact hj _ _ _ _ _ | (intro h; cases h; done) | exact zaft_mono hn hj (hc _ _ _) _
theorem zmo_fsub : zMono zo_fsub := by
  intro a b c k D S hl sw next next' jump jump' call call' hn hj hc L st M r
  unfold zo_fsub
  repeat' split
  all_goals first | exact id | exact hn _ _ _ _ | exact hj _ _ _ _ _ | (intro h; cases h; done) | exact zaft_mono hn hj (hc _ _ _) _
theorem zmo_fneg : zMono zo_fneg := by
  intro a b c k D S hl sw next next' jump jump' call call' hn hj hc L st M r
  unfold zo_fneg
  repeat' split
  all_goals first | exact id | exact hn _ _ _ _ | exact hj _ _ _ _ _ | (intro h; cases h; done) | exact zaft_mono hn hj (hc _ _ _) _
theorem zmo_fcmp : zMono zo_fcmp := by
  intro a b c k D S hl sw next next' jump jump' call call' hn hj hc L st M r
  unfold zo_fcmp
  repeat' split
  all_goals first | exact id | exact hn _ _ _ _ | exact hj _ _ _ _ _ | (intro h; cases h; done) | exact zaft_mono hn hj (hc _ _ _) _
theorem zmo_i2f : zMono zo_i2f := by
  intro a b c k D S hl sw next next' jump jump' call call' hn hj hc L st M r
  unfold zo_i2f
  repeat' split
  all_goals first | exact id | exact hn _ _ _ _ | exact hj _ _ _ _ _ | (intro h; cases h; done) | exact zaft_mono hn hj (hc _ _ _) _
theorem zmo_f2i : zMono zo_f2i := by
  intro a b c k D S hl sw next next' jump jump' call call' hn hj hc L st M r
  unfold zo_f2i
  repeat' split
  all_goals first | exact id | exact hn _ _ _ _ | exact hj _ _ _ _ _ | (intro h; cases h; done) | exact zaft_mono hn hj (hc _ _ _) _
theorem zmo_f2d : zMono zo_f2d := by
  intro a b c k D S hl sw next next' jump jump' call call' hn hj hc L st M r
  unfold zo_f2d
  repeat' split
  all_goals first | exact id | exact hn _ _ _ _ | exact hj _ _ _ _ _ | (intro h; cases h; done) | exact zaft_mono hn hj (hc _ _ _) _
theorem zmo_fldc : zMono zo_fldc := by
  intro a b c k D S hl sw next next' jump jump' call call' hn hj hc L st M r
  unfold zo_fldc
  repeat' split
  all_goals first | exact id | exact hn _ _ _ _ | exact hj _ _ _ _ _ | (intro h; cases h; done) | exact zaft_mono hn hj (hc _ _ _) _
theorem zmo_caload : zMono zo_caload := by
  intro a b c k D S hl sw next next' jump jump' call call' hn hj hc L st M r
  unfold zo_caload
  repeat' split
  all_goals first | exact id | exact hn _ _ _ _ | exact hj _ _ _ _ _ | (intro h; cases h; done) | exact zaft_mono hn hj (hc _ _ _) _
theorem zmo_castore : zMono zo_castore := by
  intro a b c k D S hl sw next next' jump jump' call call' hn hj hc L st M r
  unfold zo_castore
  repeat' split
  all_goals first | exact id | exact hn _ _ _ _ | exact hj _ _ _ _ _ | (intro h; cases h; done) | exact zaft_mono hn hj (hc _ _ _) _
theorem zmo_zaload : zMono zo_zaload := by
  intro a b c k D S hl sw next next' jump jump' call call' hn hj hc L st M r
  unfold zo_zaload
  repeat' split
  all_goals first | exact id | exact hn _ _ _ _ | exact hj _ _ _ _ _ | (intro h; cases h; done) | exact zaft_mono hn hj (hc _ _ _) _
theorem zmo_zastore : zMono zo_zastore := by
  intro a b c k D S hl sw next next' jump jump' call call' hn hj hc L st M r
  unfold zo_zastore
  repeat' split
  all_goals first | exact id | exact hn _ _ _ _ | exact hj _ _ _ _ _ | (intro h; cases h; done) | exact zaft_mono hn hj (hc _ _ _) _
theorem zmo_i2c : zMono zo_i2c := by
  intro a b c k D S hl sw next next' jump jump' call call' hn hj hc L st M r
  unfold zo_i2c
  repeat' split
  all_goals first | exact id | exact hn _ _ _ _ | exact hj _ _ _ _ _ | (intro h; cases h; done) | exact zaft_mono hn hj (hc _ _ _) _
theorem zmo_tsw : zMono zo_tsw := by
  intro a b c k D S hl sw next next' jump jump' call call' hn hj hc L st M r
  unfold zo_tsw
  repeat' split
  all_goals first | exact id | exact hn _ _ _ _ | exact hj _ _ _ _ _ | (intro h; cases h; done) | exact zaft_mono hn hj (hc _ _ _) _
theorem zmo_null : zMono zo_null := by
  intro a b c k D S hl sw next next' jump jump' call call' hn hj hc L st M r
  unfold zo_null
  repeat' split
  all_goals first | exact id | exact hn _ _ _ _ | exact hj _ _ _ _ _ | (intro h; cases h; done) | exact zaft_mono hn hj (hc _ _ _) _
theorem zmo_acopy : zMono zo_acopy := by
  intro a b c k D S hl sw next next' jump jump' call call' hn hj hc L st M r
  unfold zo_acopy
  repeat' split
  all_goals first | exact id | exact hn _ _ _ _ | exact hj _ _ _ _ _ | (intro h; cases h; done) | exact zaft_mono hn hj (hc _ _ _) _
theorem zmo_f2bits : zMono zo_f2bits := by
  intro a b c k D S hl sw next next' jump jump' call call' hn hj hc L st M r
  unfold zo_f2bits
  repeat' split
  all_goals first | exact id | exact hn _ _ _ _ | exact hj _ _ _ _ _ | (intro h; cases h; done) | exact zaft_mono hn hj (hc _ _ _) _
theorem zmo_objinit : zMono zo_objinit := by
  intro a b c k D S hl sw next next' jump jump' call call' hn hj hc L st M r
  unfold zo_objinit
  repeat' split
  all_goals first | exact id | exact hn _ _ _ _ | exact hj _ _ _ _ _ | (intro h; cases h; done) | exact zaft_mono hn hj (hc _ _ _) _
theorem zmo_dldc : zMono zo_dldc := by
  intro a b c k D S hl sw next next' jump jump' call call' hn hj hc L st M r
  unfold zo_dldc
  repeat' split
  all_goals first | exact id | exact hn _ _ _ _ | exact hj _ _ _ _ _ | (intro h; cases h; done) | exact zaft_mono hn hj (hc _ _ _) _
theorem zmo_fall : zMono zo_fall := by
  intro a b c k D S hl sw next next' jump jump' call call' hn hj hc L st M r
  unfold zo_fall
  repeat' split
  all_goals first | exact id | exact hn _ _ _ _ | exact hj _ _ _ _ _ | (intro h; cases h; done) | exact zaft_mono hn hj (hc _ _ _) _
theorem zmo_sald : zMono zo_sald := by
  intro a b c k D S hl sw next next' jump jump' call call' hn hj hc L st M r
  unfold zo_sald
  repeat' split
  all_goals first | exact id | exact hn _ _ _ _ | exact hj _ _ _ _ _ | (intro h; cases h; done) | exact zaft_mono hn hj (hc _ _ _) _
theorem zmo_slen : zMono zo_slen := by
  intro a b c k D S hl sw next next' jump jump' call call' hn hj hc L st M r
  unfold zo_slen
  repeat' split
  all_goals first | exact id | exact hn _ _ _ _ | exact hj _ _ _ _ _ | (intro h; cases h; done) | exact zaft_mono hn hj (hc _ _ _) _
theorem zmo_no : zMono (fun _ _ _ _ _ _ _ _ _ _ _ _ _ _ => none) := by
  intro a b c k D S hl sw next next' jump jump' call call' hn hj hc L st M r h
  cases h
theorem zstep_mono (o : Nat) : zMono (zstep o) := by
  unfold zstep
  split
  · exact zmo_aload
  · exact zmo_getI
  · exact zmo_getA
  · exact zmo_iconst
  · exact zmo_iload
  · exact zmo_callS
  · exact zmo_callV
  · exact zmo_callI
  · exact zmo_iret
  · exact zmo_zret
  · exact zmo_goto
  · exact zmo_putI
  · exact zmo_putZ
  · exact zmo_putA
  · exact zmo_if14
  · exact zmo_if15
  · exact zmo_if16
  · exact zmo_if17
  · exact zmo_if18
  · exact zmo_if19
  · exact zmo_ic20
  · exact zmo_ic21
  · exact zmo_ic22
  · exact zmo_ic23
  · exact zmo_ic24
  · exact zmo_ic25
  · exact zmo_in26
  · exact zmo_in27
  · exact zmo_ia28
  · exact zmo_ia29
  · exact zmo_istore
  · exact zmo_astore
  · exact zmo_iinc
  · exact zmo_iaload
  · exact zmo_aaload
  · exact zmo_iastore
  · exact zmo_alen
  · exact zmo_iadd
  · exact zmo_isub
  · exact zmo_imul
  · exact zmo_idiv
  · exact zmo_irem
  · exact zmo_iand
  · exact zmo_ior
  · exact zmo_ishl
  · exact zmo_iushr
  · exact zmo_ixor
  · exact zmo_dup
  · exact zmo_dup2
  · exact zmo_pop
  · exact zmo_vret
  · exact zmo_aret
  · exact zmo_lret
  · exact zmo_dret
  · exact zmo_fret
  · exact zmo_throw
  · exact zmo_throwW
  · exact zmo_new
  · exact zmo_newarr
  · exact zmo_anew
  · exact zmo_multi2
  · exact zmo_multi3
  · exact zmo_aastore
  · exact zmo_lconst
  · exact zmo_i2l
  · exact zmo_l2i
  · exact zmo_ladd
  · exact zmo_lsub
  · exact zmo_lmul
  · exact zmo_ldiv
  · exact zmo_lrem
  · exact zmo_lcmp
  · exact zmo_lload
  · exact zmo_lstore
  · exact zmo_laload
  · exact zmo_lastore
  · exact zmo_dconst
  · exact zmo_dload
  · exact zmo_dstore
  · exact zmo_daload
  · exact zmo_dastore
  · exact zmo_dadd
  · exact zmo_dmul
  · exact zmo_ddiv
  · exact zmo_dcmp
  · exact zmo_i2d
  · exact zmo_fconst
  · exact zmo_fload
  · exact zmo_fstore
  · exact zmo_fdiv
  · exact zmo_fmul
  · exact zmo_fsub
  · exact zmo_fneg
  · exact zmo_fcmp
  · exact zmo_i2f
  · exact zmo_f2i
  · exact zmo_f2d
  · exact zmo_fldc
  · exact zmo_caload
  · exact zmo_castore
  · exact zmo_zaload
  · exact zmo_zastore
  · exact zmo_i2c
  · exact zmo_tsw
  · exact zmo_null
  · exact zmo_acopy
  · exact zmo_f2bits
  · exact zmo_objinit
  · exact zmo_dldc
  · exact zmo_fall
  · exact zmo_sald
  · exact zmo_slen
  · exact zmo_no
theorem zrun_mono {S : zSs} : ∀ (N D m : Nat) (is : List zI) (L : zN) (st : List zv_V) (M : zMm) (r : zRr), zrun S N D m is L st M = some r → zrun S (N + 1) D m is L st M = some r
  | 0, _, _, _, _, _, _, _, h => by cases h
  | N + 1, D, m, [], _, _, _, _, h => by cases h
  | N + 1, D, m, (o, a, b, c, k) :: is, L, st, M, r, h =>
    zstep_mono o a b c k D S (zhl m) (zsw m) _ _ _ _ _ _ (fun L st M r h => zrun_mono N D m is L st M r h) (fun b L st M r h => zrun_mono N D m (zcd m b) L st M r h) (fun m' As M r h => by
      by_cases hw : zs_w As ≤ znl m'
      · rw [if_pos hw] at h ⊢
        exact zrun_mono N (D - 1) m' (zcd m' 0) (zarg (znl m') As) [] M r h
      · rw [if_neg hw] at h; cases h) L st M r h
theorem zrun_more {S : zSs} {N D m : Nat} {is : List zI} {L : zN} {st : List zv_V} {M : zMm} {r : zRr} (h : zrun S N D m is L st M = some r) : ∀ K, zrun S (N + K) D m is L st M = some r
  | 0 => h
  | K + 1 => zrun_mono _ _ _ _ _ _ _ _ (zrun_more h K)
theorem zrun_s {S : zSs} {N D m o a b c : Nat} {k : Int} {is : List zI} {L : zN} {st : List zv_V} {M : zMm} : zrun S (N + 1) D m ((o, a, b, c, k) :: is) L st M = zstep o a b c k D S (zhl m) (zsw m) (zrun S N D m is) (fun b => zrun S N D m (zcd m b)) (fun m' As M => if zs_w As ≤ znl m' then zrun S N (D - 1) m' (zcd m' 0) (zarg (znl m') As) [] M else none) L st M := rfl
theorem zs_aload : zstep 0 = zo_aload := rfl
theorem zs_getI : zstep 1 = zo_getI := rfl
theorem zs_getA : zstep 2 = zo_getA := rfl
theorem zs_iconst : zstep 3 = zo_iconst := rfl
theorem zs_iload : zstep 4 = zo_iload := rfl
theorem zs_callS : zstep 5 = zo_callS := rfl
theorem zs_callV : zstep 6 = zo_callV := rfl
theorem zs_callI : zstep 7 = zo_callI := rfl
theorem zs_iret : zstep 8 = zo_iret := rfl
theorem zs_zret : zstep 9 = zo_zret := rfl
theorem zs_goto : zstep 10 = zo_goto := rfl
theorem zs_putI : zstep 11 = zo_putI := rfl
theorem zs_putZ : zstep 12 = zo_putZ := rfl
theorem zs_putA : zstep 13 = zo_putA := rfl
theorem zs_if14 : zstep 14 = zo_if14 := rfl
theorem zs_if15 : zstep 15 = zo_if15 := rfl
theorem zs_if16 : zstep 16 = zo_if16 := rfl
theorem zs_if17 : zstep 17 = zo_if17 := rfl
theorem zs_if18 : zstep 18 = zo_if18 := rfl
theorem zs_if19 : zstep 19 = zo_if19 := rfl
theorem zs_ic20 : zstep 20 = zo_ic20 := rfl
theorem zs_ic21 : zstep 21 = zo_ic21 := rfl
theorem zs_ic22 : zstep 22 = zo_ic22 := rfl
theorem zs_ic23 : zstep 23 = zo_ic23 := rfl
theorem zs_ic24 : zstep 24 = zo_ic24 := rfl
theorem zs_ic25 : zstep 25 = zo_ic25 := rfl
theorem zs_in26 : zstep 26 = zo_in26 := rfl
theorem zs_in27 : zstep 27 = zo_in27 := rfl
theorem zs_ia28 : zstep 28 = zo_ia28 := rfl
theorem zs_ia29 : zstep 29 = zo_ia29 := rfl
theorem zs_istore : zstep 30 = zo_istore := rfl
theorem zs_astore : zstep 31 = zo_astore := rfl
theorem zs_iinc : zstep 32 = zo_iinc := rfl
theorem zs_iaload : zstep 33 = zo_iaload := rfl
theorem zs_aaload : zstep 34 = zo_aaload := rfl
theorem zs_iastore : zstep 35 = zo_iastore := rfl
theorem zs_alen : zstep 36 = zo_alen := rfl
theorem zs_iadd : zstep 37 = zo_iadd := rfl
theorem zs_isub : zstep 38 = zo_isub := rfl
theorem zs_imul : zstep 39 = zo_imul := rfl
theorem zs_idiv : zstep 40 = zo_idiv := rfl
theorem zs_irem : zstep 41 = zo_irem := rfl
theorem zs_iand : zstep 42 = zo_iand := rfl
theorem zs_ior : zstep 43 = zo_ior := rfl
theorem zs_ishl : zstep 44 = zo_ishl := rfl
theorem zs_iushr : zstep 45 = zo_iushr := rfl
theorem zs_ixor : zstep 46 = zo_ixor := rfl
theorem zs_dup : zstep 47 = zo_dup := rfl
theorem zs_dup2 : zstep 48 = zo_dup2 := rfl
theorem zs_pop : zstep 49 = zo_pop := rfl
theorem zs_vret : zstep 50 = zo_vret := rfl
theorem zs_aret : zstep 51 = zo_aret := rfl
theorem zs_lret : zstep 52 = zo_lret := rfl
theorem zs_dret : zstep 53 = zo_dret := rfl
theorem zs_fret : zstep 54 = zo_fret := rfl
theorem zs_throw : zstep 55 = zo_throw := rfl
theorem zs_throwW : zstep 56 = zo_throwW := rfl
theorem zs_new : zstep 57 = zo_new := rfl
theorem zs_newarr : zstep 58 = zo_newarr := rfl
theorem zs_anew : zstep 59 = zo_anew := rfl
theorem zs_multi2 : zstep 60 = zo_multi2 := rfl
theorem zs_multi3 : zstep 61 = zo_multi3 := rfl
theorem zs_aastore : zstep 62 = zo_aastore := rfl
theorem zs_lconst : zstep 64 = zo_lconst := rfl
theorem zs_i2l : zstep 65 = zo_i2l := rfl
theorem zs_l2i : zstep 66 = zo_l2i := rfl
theorem zs_ladd : zstep 67 = zo_ladd := rfl
theorem zs_lsub : zstep 68 = zo_lsub := rfl
theorem zs_lmul : zstep 69 = zo_lmul := rfl
theorem zs_ldiv : zstep 70 = zo_ldiv := rfl
theorem zs_lrem : zstep 71 = zo_lrem := rfl
theorem zs_lcmp : zstep 72 = zo_lcmp := rfl
theorem zs_lload : zstep 73 = zo_lload := rfl
theorem zs_lstore : zstep 74 = zo_lstore := rfl
theorem zs_laload : zstep 75 = zo_laload := rfl
theorem zs_lastore : zstep 76 = zo_lastore := rfl
theorem zs_dconst : zstep 77 = zo_dconst := rfl
theorem zs_dload : zstep 78 = zo_dload := rfl
theorem zs_dstore : zstep 79 = zo_dstore := rfl
theorem zs_daload : zstep 80 = zo_daload := rfl
theorem zs_dastore : zstep 81 = zo_dastore := rfl
theorem zs_dadd : zstep 82 = zo_dadd := rfl
theorem zs_dmul : zstep 83 = zo_dmul := rfl
theorem zs_ddiv : zstep 84 = zo_ddiv := rfl
theorem zs_dcmp : zstep 85 = zo_dcmp := rfl
theorem zs_i2d : zstep 86 = zo_i2d := rfl
theorem zs_fconst : zstep 87 = zo_fconst := rfl
theorem zs_fload : zstep 88 = zo_fload := rfl
theorem zs_fstore : zstep 89 = zo_fstore := rfl
theorem zs_fdiv : zstep 90 = zo_fdiv := rfl
theorem zs_fmul : zstep 91 = zo_fmul := rfl
theorem zs_fsub : zstep 92 = zo_fsub := rfl
theorem zs_fneg : zstep 93 = zo_fneg := rfl
theorem zs_fcmp : zstep 94 = zo_fcmp := rfl
theorem zs_i2f : zstep 95 = zo_i2f := rfl
theorem zs_f2i : zstep 96 = zo_f2i := rfl
theorem zs_f2d : zstep 97 = zo_f2d := rfl
theorem zs_fldc : zstep 98 = zo_fldc := rfl
theorem zs_caload : zstep 99 = zo_caload := rfl
theorem zs_castore : zstep 100 = zo_castore := rfl
theorem zs_zaload : zstep 101 = zo_zaload := rfl
theorem zs_zastore : zstep 102 = zo_zastore := rfl
theorem zs_i2c : zstep 103 = zo_i2c := rfl
theorem zs_tsw : zstep 104 = zo_tsw := rfl
theorem zs_null : zstep 105 = zo_null := rfl
theorem zs_acopy : zstep 106 = zo_acopy := rfl
theorem zs_f2bits : zstep 107 = zo_f2bits := rfl
theorem zs_objinit : zstep 108 = zo_objinit := rfl
theorem zs_dldc : zstep 109 = zo_dldc := rfl
theorem zs_fall : zstep 111 = zo_fall := rfl
theorem zs_sald : zstep 112 = zo_sald := rfl
theorem zs_slen : zstep 113 = zo_slen := rfl
section ZB
variable {S : zSs} {D m n u a b c : Nat} {k : Int} {is is' : List zI} {i : zI} {L L' : zN} {st st' : List zv_V} {sh sh' : zk_S} {d d' : zm_D} {n' u' : Nat} {Q : ((Option zv_V) ⊕ Nat) → Nat → zk_S → zm_D → Nat → Prop}
theorem zB_next (h : ∀ N, zrun S (N + 1) D m (i :: is) L st (n, sh, d, u) = zrun S N D m is' L' st' (n', sh', d', u')) : zB S D m (i :: is) L st n sh d u Q ↔ zB S D m is' L' st' n' sh' d' u' Q := by
  constructor
  · rintro ⟨N, r, h1, h2⟩
    cases N with
    | zero => cases h1
    | succ N => exact ⟨N, r, (h N).symm.trans h1, h2⟩
  · rintro ⟨N, r, h1, h2⟩
    exact ⟨N + 1, r, (h N).trans h1, h2⟩
theorem zB_none (h : ∀ N, zrun S (N + 1) D m (i :: is) L st (n, sh, d, u) = none) : zB S D m (i :: is) L st n sh d u Q ↔ False := by
  constructor
  · rintro ⟨N, r, h1, h2⟩
    cases N with
    | zero => cases h1
    | succ N => rw [h N] at h1; cases h1
  · exact False.elim
theorem zB_ret {x : (Option zv_V) ⊕ Nat} (h : ∀ N, zrun S (N + 1) D m (i :: is) L st (n, sh, d, u) = some (x, n', sh', d', u')) : zB S D m (i :: is) L st n sh d u Q ↔ Q x n' sh' d' u' := by
  constructor
  · rintro ⟨N, r', h1, h2⟩
    cases N with
    | zero => cases h1
    | succ N =>
      cases (h N).symm.trans h1
      exact h2
  · intro q
    exact ⟨1, _, h 0, q⟩
theorem zB_guard {g : Prop} [Decidable g] (h : ∀ N, zrun S (N + 1) D m (i :: is) L st (n, sh, d, u) = if g then zrun S N D m is' L' st' (n', sh', d', u') else none) : zB S D m (i :: is) L st n sh d u Q ↔ g ∧ zB S D m is' L' st' n' sh' d' u' Q := by
  by_cases hg : g
  · rw [zB_next (fun N => (h N).trans (if_pos hg))]
    exact ⟨fun q => ⟨hg, q⟩, fun q => q.2⟩
  · rw [zB_none (fun N => (h N).trans (if_neg hg))]
    exact ⟨False.elim, fun q => (hg q.1).elim⟩
theorem zB_gret {g : Prop} [Decidable g] {x : (Option zv_V) ⊕ Nat} (h : ∀ N, zrun S (N + 1) D m (i :: is) L st (n, sh, d, u) = if g then some (x, n', sh', d', u') else none) : zB S D m (i :: is) L st n sh d u Q ↔ g ∧ Q x n' sh' d' u' := by
  by_cases hg : g
  · rw [zB_ret (fun N => (h N).trans (if_pos hg))]
    exact ⟨fun q => ⟨hg, q⟩, fun q => q.2⟩
  · rw [zB_none (fun N => (h N).trans (if_neg hg))]
    exact ⟨False.elim, fun q => (hg q.1).elim⟩
theorem zB_if {g : Prop} [Decidable g] {b1 : Nat} (h : ∀ N, zrun S (N + 1) D m (i :: is) L st (n, sh, d, u) = if g then zrun S N D m (zcd m b1) L' st' (n, sh, d, u) else zrun S N D m is' L' st' (n, sh, d, u)) : zB S D m (i :: is) L st n sh d u Q ↔ if g then zJ S D m b1 L' st' n sh d u Q else zB S D m is' L' st' n sh d u Q := by
  by_cases hg : g
  · rw [zB_next (fun N => (h N).trans (if_pos hg)), if_pos hg]; rfl
  · rw [zB_next (fun N => (h N).trans (if_neg hg)), if_neg hg]
theorem zB_gif {g0 g : Prop} [Decidable g0] [Decidable g] {b1 : Nat} (h : ∀ N, zrun S (N + 1) D m (i :: is) L st (n, sh, d, u) = if g0 then (if g then zrun S N D m (zcd m b1) L' st' (n, sh, d, u) else zrun S N D m is' L' st' (n, sh, d, u)) else none) : zB S D m (i :: is) L st n sh d u Q ↔ g0 ∧ if g then zJ S D m b1 L' st' n sh d u Q else zB S D m is' L' st' n sh d u Q := by
  by_cases hg : g0
  · rw [zB_if (fun N => (h N).trans (if_pos hg))]
    exact ⟨fun q => ⟨hg, q⟩, fun q => q.2⟩
  · rw [zB_none (fun N => (h N).trans (if_neg hg))]
    exact ⟨False.elim, fun q => (hg q.1).elim⟩
def zKa : Option zv_V → (Int → Prop) → Prop
  | some (.inl (.inr x)), f => f x
  | _, _ => False
def zKi : Option zv_V → (Int → Prop) → Prop
  | some (.inl (.inl x)), f => f x
  | _, _ => False
def zKl : Option zv_V → (Int → Prop) → Prop
  | some (.inr (.inl x)), f => f x
  | _, _ => False
def zKd : Option zv_V → (UInt64 → Prop) → Prop
  | some (.inr (.inr (.inl x))), f => f x
  | _, _ => False
def zKf : Option zv_V → (UInt32 → Prop) → Prop
  | some (.inr (.inr (.inr x))), f => f x
  | _, _ => False
def zO {α : Type} : Option α → (α → Prop) → Prop
  | some x, f => f x
  | none, _ => False
def zKp : Option (List zv_V × List zv_V) → (List zv_V → List zv_V → Prop) → Prop
  | some (As, rest), f => f As rest
  | none, _ => False
def zKr : Option (List zv_V × List zv_V) → (List zv_V → Int → List zv_V → Prop) → Prop
  | some (As, .inl (.inr r) :: rest), f => f As r rest
  | _, _ => False
theorem zKa_s {x : Int} {f : Int → Prop} : zKa (some (zv_a x)) f = f x := rfl
theorem zKi_s {x : Int} {f : Int → Prop} : zKi (some (zv_i x)) f = f x := rfl
theorem zKl_s {x : Int} {f : Int → Prop} : zKl (some (zv_l x)) f = f x := rfl
theorem zKd_s {x : UInt64} {f : UInt64 → Prop} : zKd (some (zv_d x)) f = f x := rfl
theorem zKf_s {x : UInt32} {f : UInt32 → Prop} : zKf (some (zv_f x)) f = f x := rfl
theorem zO_s {α : Type} {x : α} {f : α → Prop} : zO (some x) f = f x := rfl
theorem zKp_s {As rest : List zv_V} {f : List zv_V → List zv_V → Prop} : zKp (some (As, rest)) f = f As rest := rfl
theorem zKr_s {As rest : List zv_V} {r : Int} {f : List zv_V → Int → List zv_V → Prop} : zKr (some (As, zv_a r :: rest)) f = f As r rest := rfl
theorem zget_0 {v : Option zv_V} : zget (v :: L) 0 = v := rfl
theorem zget_s {v : Option zv_V} {j : Nat} : zget (v :: L) (j + 1) = zget L j := rfl
theorem zst1_0 {x : Option zv_V} {v : zv_V} : zst1 (x :: L) 0 v = some v :: L := rfl
theorem zst1_1 {x : Option zv_V} {v : zv_V} : zst1 (x :: L) 1 v = zk1 x :: zst1 L 0 v := rfl
theorem zst1_s {x : Option zv_V} {j : Nat} {v : zv_V} : zst1 (x :: L) (j + 2) v = x :: zst1 L (j + 1) v := rfl
theorem zst2_0 {x y : Option zv_V} {v : zv_V} : zst2 (x :: y :: L) 0 v = some v :: none :: L := rfl
theorem zst2_1 {x : Option zv_V} {v : zv_V} : zst2 (x :: L) 1 v = zk1 x :: zst2 L 0 v := by cases L <;> rfl
theorem zst2_s {x : Option zv_V} {j : Nat} {v : zv_V} : zst2 (x :: L) (j + 2) v = x :: zst2 L (j + 1) v := by cases L <;> rfl
theorem zk1_n : zk1 none = none := rfl
theorem zk1_i {x : Int} : zk1 (some (zv_i x)) = some (zv_i x) := rfl
theorem zk1_a {x : Int} : zk1 (some (zv_a x)) = some (zv_a x) := rfl
theorem zk1_f {x : UInt32} : zk1 (some (zv_f x)) = some (zv_f x) := rfl
theorem zk1_l {x : Int} : zk1 (some (zv_l x)) = none := rfl
theorem zk1_d {x : UInt64} : zk1 (some (zv_d x)) = none := rfl
theorem zpop_0 {acc : List zv_V} : zpop 0 st acc = some (acc, st) := rfl
theorem zpop_s {j : Nat} {v : zv_V} {acc : List zv_V} : zpop (j + 1) (v :: st) acc = zpop j st (v :: acc) := rfl
/-- behind a call -/
def zA (S : zSs) (D m : Nat) (is : List zI) (L : zN) (rest : List zv_V) (Q : ((Option zv_V) ⊕ Nat) → Nat → zk_S → zm_D → Nat → Prop) (o : (Option zv_V) ⊕ Nat) (n : Nat) (sh : zk_S) (d : zm_D) (u : Nat) : Prop := match o with
  | .inl v => zB S D m is L (v.toList ++ rest) n sh d u Q
  | .inr x => match zhl m with
    | [] => Q (.inr x) n sh d u
    | h :: t => match zlook (h :: t) x with
      | some (b, k) => zJ S D m b (zclr L k) [] n sh d u Q
      | none => False
theorem zA_s {v : zv_V} {rest : List zv_V} : zA S D m is L rest Q (.inl (some v)) n sh d u = zB S D m is L (v :: rest) n sh d u Q := rfl
theorem zA_n {rest : List zv_V} : zA S D m is L rest Q (.inl none) n sh d u = zB S D m is L rest n sh d u Q := rfl
theorem zA_x {x : Nat} {rest : List zv_V} (h : zhl m = []) : zA S D m is L rest Q (.inr x) n sh d u = Q (.inr x) n sh d u := by unfold zA; simp only [h]
theorem zB_call {rest As : List zv_V} {g : Prop} [Decidable g] (h : ∀ N, zrun S (N + 1) D m (i :: is) L st (n, sh, d, u) = if g then zaft (zhl m) (zrun S N D m is) (fun b => zrun S N D m (zcd m b)) L rest (if zs_w As ≤ znl a then zrun S N (D - 1) a (zcd a 0) (zarg (znl a) As) [] (n, sh, d, u) else none) else none) :
    zB S D m (i :: is) L st n sh d u Q ↔ g ∧ zE S (D - 1) a As n sh d u (zA S D m is L rest Q) := by
  by_cases hg : g
  · by_cases hw : zs_w As ≤ znl a
    · constructor
      · rintro ⟨N, r, h1, h2⟩
        refine ⟨hg, hw, ?_⟩
        cases N with
        | zero => cases h1
        | succ N =>
          rw [h N, if_pos hg, if_pos hw] at h1
          cases hc : zrun S N (D - 1) a (zcd a 0) (zarg (znl a) As) [] (n, sh, d, u) with
          | none => rw [hc] at h1; cases h1
          | some q =>
            rw [hc] at h1
            refine ⟨N, q, hc, ?_⟩
            obtain ⟨v | x, n1, sh1, d1, u1⟩ := q
            · exact ⟨N, r, h1, h2⟩
            · show zA S D m is L rest Q (.inr x) n1 sh1 d1 u1
              unfold zA
              simp only [zaft] at h1
              cases hh : zhl m with
              | nil => rw [hh] at h1; cases h1; exact h2
              | cons h0 t =>
                rw [hh] at h1
                dsimp only at h1 ⊢
                cases hk : zlook (h0 :: t) x with
                | none => rw [hk] at h1; cases h1
                | some y =>
                  rw [hk] at h1
                  exact ⟨N, r, h1, h2⟩
      · rintro ⟨-, -, N1, q, h1, h2⟩
        obtain ⟨v | x, n1, sh1, d1, u1⟩ := q
        · obtain ⟨N2, r, h3, h4⟩ := h2
          refine ⟨N1 + N2 + 1, r, ?_, h4⟩
          rw [h, if_pos hg, if_pos hw, zrun_more h1 N2]
          have h5 := zrun_more h3 N1
          rw [Nat.add_comm] at h5
          exact h5
        · change zA S D m is L rest Q (.inr x) n1 sh1 d1 u1 at h2
          unfold zA at h2
          cases hh : zhl m with
          | nil =>
            rw [hh] at h2
            refine ⟨N1 + 1, (.inr x, n1, sh1, d1, u1), ?_, h2⟩
            rw [h, if_pos hg, if_pos hw, h1]
            simp only [zaft, hh]
          | cons h0 t =>
            rw [hh] at h2
            dsimp only at h2
            cases hk : zlook (h0 :: t) x with
            | none => rw [hk] at h2; exact h2.elim
            | some y =>
              rw [hk] at h2
              obtain ⟨N2, r, h3, h4⟩ := h2
              refine ⟨N1 + N2 + 1, r, ?_, h4⟩
              rw [h, if_pos hg, if_pos hw, zrun_more h1 N2]
              have h5 := zrun_more h3 N1
              rw [Nat.add_comm] at h5
              simp only [zaft, hh, hk]
              exact h5
    · rw [zB_none (fun N => (h N).trans ((if_pos hg).trans (by rw [if_neg hw]; rfl)))]
      exact ⟨False.elim, fun q => (hw q.2.1).elim⟩
  · rw [zB_none (fun N => (h N).trans (if_neg hg))]
    exact ⟨False.elim, fun q => (hg q.1).elim⟩
theorem zr_iadd {y : Int} {x : Int} : zB S D m ((37, a, b, c, k) :: is) L ((zv_i y) :: (zv_i x) :: st) n sh d u Q ↔ zB S D m is L ((zv_i (x + y)) :: st) n sh d u Q := zB_next fun N => rfl
theorem zr_isub {y : Int} {x : Int} : zB S D m ((38, a, b, c, k) :: is) L ((zv_i y) :: (zv_i x) :: st) n sh d u Q ↔ zB S D m is L ((zv_i (x - y)) :: st) n sh d u Q := zB_next fun N => rfl
theorem zr_imul {y : Int} {x : Int} : zB S D m ((39, a, b, c, k) :: is) L ((zv_i y) :: (zv_i x) :: st) n sh d u Q ↔ zB S D m is L ((zv_i (x * y)) :: st) n sh d u Q := zB_next fun N => rfl
theorem zr_idiv {y : Int} {x : Int} : zB S D m ((40, a, b, c, k) :: is) L ((zv_i y) :: (zv_i x) :: st) n sh d u Q ↔ (zw y ≠ 0) ∧ zB S D m is L ((zv_i ((zw x).tdiv (zw y))) :: st) n sh d u Q := zB_guard fun N => rfl
theorem zr_irem {y : Int} {x : Int} : zB S D m ((41, a, b, c, k) :: is) L ((zv_i y) :: (zv_i x) :: st) n sh d u Q ↔ (zw y ≠ 0) ∧ zB S D m is L ((zv_i ((zw x).tmod (zw y))) :: st) n sh d u Q := zB_guard fun N => rfl
theorem zr_iand {y : Int} {x : Int} : zB S D m ((42, a, b, c, k) :: is) L ((zv_i y) :: (zv_i x) :: st) n sh d u Q ↔ zB S D m is L ((zv_i (zb_and x y)) :: st) n sh d u Q := zB_next fun N => rfl
theorem zr_ior {y : Int} {x : Int} : zB S D m ((43, a, b, c, k) :: is) L ((zv_i y) :: (zv_i x) :: st) n sh d u Q ↔ zB S D m is L ((zv_i (zb_or x y)) :: st) n sh d u Q := zB_next fun N => rfl
theorem zr_ishl {y : Int} {x : Int} : zB S D m ((44, a, b, c, k) :: is) L ((zv_i y) :: (zv_i x) :: st) n sh d u Q ↔ zB S D m is L ((zv_i (zb_shl x y)) :: st) n sh d u Q := zB_next fun N => rfl
theorem zr_iushr {y : Int} {x : Int} : zB S D m ((45, a, b, c, k) :: is) L ((zv_i y) :: (zv_i x) :: st) n sh d u Q ↔ zB S D m is L ((zv_i (zb_ushr x y)) :: st) n sh d u Q := zB_next fun N => rfl
theorem zr_ixor {y : Int} {x : Int} : zB S D m ((46, a, b, c, k) :: is) L ((zv_i y) :: (zv_i x) :: st) n sh d u Q ↔ zB S D m is L ((zv_i (zb_xor x y)) :: st) n sh d u Q := zB_next fun N => rfl
theorem zr_i2l {x : Int} : zB S D m ((65, a, b, c, k) :: is) L ((zv_i x) :: st) n sh d u Q ↔ zB S D m is L ((zv_l (zw x)) :: st) n sh d u Q := zB_next fun N => rfl
theorem zr_l2i {x : Int} : zB S D m ((66, a, b, c, k) :: is) L ((zv_l x) :: st) n sh d u Q ↔ zB S D m is L ((zv_i x) :: st) n sh d u Q := zB_next fun N => rfl
theorem zr_ladd {y : Int} {x : Int} : zB S D m ((67, a, b, c, k) :: is) L ((zv_l y) :: (zv_l x) :: st) n sh d u Q ↔ zB S D m is L ((zv_l (x + y)) :: st) n sh d u Q := zB_next fun N => rfl
theorem zr_lsub {y : Int} {x : Int} : zB S D m ((68, a, b, c, k) :: is) L ((zv_l y) :: (zv_l x) :: st) n sh d u Q ↔ zB S D m is L ((zv_l (x - y)) :: st) n sh d u Q := zB_next fun N => rfl
theorem zr_lmul {y : Int} {x : Int} : zB S D m ((69, a, b, c, k) :: is) L ((zv_l y) :: (zv_l x) :: st) n sh d u Q ↔ zB S D m is L ((zv_l (x * y)) :: st) n sh d u Q := zB_next fun N => rfl
theorem zr_ldiv {y : Int} {x : Int} : zB S D m ((70, a, b, c, k) :: is) L ((zv_l y) :: (zv_l x) :: st) n sh d u Q ↔ (zwl y ≠ 0) ∧ zB S D m is L ((zv_l ((zwl x).tdiv (zwl y))) :: st) n sh d u Q := zB_guard fun N => rfl
theorem zr_lrem {y : Int} {x : Int} : zB S D m ((71, a, b, c, k) :: is) L ((zv_l y) :: (zv_l x) :: st) n sh d u Q ↔ (zwl y ≠ 0) ∧ zB S D m is L ((zv_l ((zwl x).tmod (zwl y))) :: st) n sh d u Q := zB_guard fun N => rfl
theorem zr_lcmp {y : Int} {x : Int} : zB S D m ((72, a, b, c, k) :: is) L ((zv_l y) :: (zv_l x) :: st) n sh d u Q ↔ zB S D m is L ((zv_i (zlc x y)) :: st) n sh d u Q := zB_next fun N => rfl
theorem zr_dadd {y : UInt64} {x : UInt64} : zB S D m ((82, a, b, c, k) :: is) L ((zv_d y) :: (zv_d x) :: st) n sh d u Q ↔ (zn64 (FP.dadd x y) = true) ∧ zB S D m is L ((zv_d (FP.dadd x y)) :: st) n sh d u Q := zB_guard fun N => rfl
theorem zr_dmul {y : UInt64} {x : UInt64} : zB S D m ((83, a, b, c, k) :: is) L ((zv_d y) :: (zv_d x) :: st) n sh d u Q ↔ (zn64 (FP.dmul x y) = true) ∧ zB S D m is L ((zv_d (FP.dmul x y)) :: st) n sh d u Q := zB_guard fun N => rfl
theorem zr_ddiv {y : UInt64} {x : UInt64} : zB S D m ((84, a, b, c, k) :: is) L ((zv_d y) :: (zv_d x) :: st) n sh d u Q ↔ (zn64 (FP.ddiv x y) = true) ∧ zB S D m is L ((zv_d (FP.ddiv x y)) :: st) n sh d u Q := zB_guard fun N => rfl
theorem zr_i2d {x : Int} : zB S D m ((86, a, b, c, k) :: is) L ((zv_i x) :: st) n sh d u Q ↔ zB S D m is L ((zv_d (FP.i2d (Int32.ofInt x))) :: st) n sh d u Q := zB_next fun N => rfl
theorem zr_fdiv {y : UInt32} {x : UInt32} : zB S D m ((90, a, b, c, k) :: is) L ((zv_f y) :: (zv_f x) :: st) n sh d u Q ↔ (zn32 (FP.fdiv x y) = true) ∧ zB S D m is L ((zv_f (FP.fdiv x y)) :: st) n sh d u Q := zB_guard fun N => rfl
theorem zr_fmul {y : UInt32} {x : UInt32} : zB S D m ((91, a, b, c, k) :: is) L ((zv_f y) :: (zv_f x) :: st) n sh d u Q ↔ (zn32 (FP.fmul x y) = true) ∧ zB S D m is L ((zv_f (FP.fmul x y)) :: st) n sh d u Q := zB_guard fun N => rfl
theorem zr_fsub {y : UInt32} {x : UInt32} : zB S D m ((92, a, b, c, k) :: is) L ((zv_f y) :: (zv_f x) :: st) n sh d u Q ↔ (zn32 (FP.fsub x y) = true) ∧ zB S D m is L ((zv_f (FP.fsub x y)) :: st) n sh d u Q := zB_guard fun N => rfl
theorem zr_fneg {x : UInt32} : zB S D m ((93, a, b, c, k) :: is) L ((zv_f x) :: st) n sh d u Q ↔ zB S D m is L ((zv_f (FP.fneg x)) :: st) n sh d u Q := zB_next fun N => rfl
theorem zr_i2f {x : Int} : zB S D m ((95, a, b, c, k) :: is) L ((zv_i x) :: st) n sh d u Q ↔ zB S D m is L ((zv_f (FP.i2f (Int32.ofInt x))) :: st) n sh d u Q := zB_next fun N => rfl
theorem zr_f2i {x : UInt32} : zB S D m ((96, a, b, c, k) :: is) L ((zv_f x) :: st) n sh d u Q ↔ zB S D m is L ((zv_i ((FP.f2i x).toInt)) :: st) n sh d u Q := zB_next fun N => rfl
theorem zr_f2d {x : UInt32} : zB S D m ((97, a, b, c, k) :: is) L ((zv_f x) :: st) n sh d u Q ↔ (zn64 (FP.f2d x) = true) ∧ zB S D m is L ((zv_d (FP.f2d x)) :: st) n sh d u Q := zB_guard fun N => rfl
theorem zr_i2c {x : Int} : zB S D m ((103, a, b, c, k) :: is) L ((zv_i x) :: st) n sh d u Q ↔ zB S D m is L ((zv_i ((zw x) % 65536)) :: st) n sh d u Q := zB_next fun N => rfl
theorem zr_dcmp {y : UInt64} {x : UInt64} : zB S D m ((85, a, b, c, k) :: is) L ((zv_d y) :: (zv_d x) :: st) n sh d u Q ↔ zB S D m is L ((zv_i (Op.cmpValue (FP.dcmp x y) (if a = 1 then .g else .l)).toInt) :: st) n sh d u Q := zB_next fun N => rfl
theorem zr_fcmp {y : UInt32} {x : UInt32} : zB S D m ((94, a, b, c, k) :: is) L ((zv_f y) :: (zv_f x) :: st) n sh d u Q ↔ zB S D m is L ((zv_i (Op.cmpValue (FP.fcmp x y) (if a = 1 then .g else .l)).toInt) :: st) n sh d u Q := zB_next fun N => rfl
theorem zr_iconst  : zB S D m ((3, a, b, c, k) :: is) L st n sh d u Q ↔ zB S D m is L ((zv_i k) :: st) n sh d u Q := zB_next fun N => rfl
theorem zr_lconst  : zB S D m ((64, a, b, c, k) :: is) L st n sh d u Q ↔ zB S D m is L ((zv_l k) :: st) n sh d u Q := zB_next fun N => rfl
theorem zr_fldc  : zB S D m ((98, a, b, c, k) :: is) L st n sh d u Q ↔ zB S D m is L ((zv_f (UInt32.ofNat k.toNat)) :: st) n sh d u Q := zB_next fun N => rfl
theorem zr_dldc  : zB S D m ((109, a, b, c, k) :: is) L st n sh d u Q ↔ zB S D m is L ((zv_d (UInt64.ofNat k.toNat)) :: st) n sh d u Q := zB_next fun N => rfl
theorem zr_fconst  : zB S D m ((87, a, b, c, k) :: is) L st n sh d u Q ↔ zB S D m is L ((zv_f (if a = 0 then FP.fconst0 else if a = 1 then FP.fconst1 else FP.fconst2)) :: st) n sh d u Q := zB_next fun N => rfl
theorem zr_dconst  : zB S D m ((77, a, b, c, k) :: is) L st n sh d u Q ↔ zB S D m is L ((zv_d (if a = 0 then FP.dconst0 else FP.dconst1)) :: st) n sh d u Q := zB_next fun N => rfl
theorem zr_null  : zB S D m ((105, a, b, c, k) :: is) L st n sh d u Q ↔ zB S D m is L ((zv_a 0) :: st) n sh d u Q := zB_next fun N => rfl
theorem zr_f2bits {x : UInt32} : zB S D m ((107, a, b, c, k) :: is) L ((zv_f x) :: st) n sh d u Q ↔ (st.length ≤ 4 ∧ 0 < D) ∧ zB S D m is L ((zv_i (x.toInt32.toInt)) :: st) n sh d u Q := zB_guard fun N => rfl
theorem zr_objinit {x : Int} : zB S D m ((108, a, b, c, k) :: is) L ((zv_a x) :: st) n sh d u Q ↔ (0 < x ∧ (st.length ≤ 4 ∧ 0 < D)) ∧ zB S D m is L st n sh d u Q := zB_guard fun N => rfl
theorem zr_aload : zB S D m ((0, a, b, c, k) :: is) L st n sh d u Q ↔ zKa (zget L a) (fun x => zB S D m is L ((zv_a x) :: st) n sh d u Q) := by
  rcases h : zget L a with _ | (x | x) | (x | (x | x))
  all_goals first | exact zB_next fun N => by simp only [zrun_s, zs_aload, zo_aload, h] | exact zB_none fun N => by simp only [zrun_s, zs_aload, zo_aload, h]
theorem zr_iload : zB S D m ((4, a, b, c, k) :: is) L st n sh d u Q ↔ zKi (zget L a) (fun x => zB S D m is L ((zv_i x) :: st) n sh d u Q) := by
  rcases h : zget L a with _ | (x | x) | (x | (x | x))
  all_goals first | exact zB_next fun N => by simp only [zrun_s, zs_iload, zo_iload, h] | exact zB_none fun N => by simp only [zrun_s, zs_iload, zo_iload, h]
theorem zr_lload : zB S D m ((73, a, b, c, k) :: is) L st n sh d u Q ↔ zKl (zget L a) (fun x => zB S D m is L ((zv_l x) :: st) n sh d u Q) := by
  rcases h : zget L a with _ | (x | x) | (x | (x | x))
  all_goals first | exact zB_next fun N => by simp only [zrun_s, zs_lload, zo_lload, h] | exact zB_none fun N => by simp only [zrun_s, zs_lload, zo_lload, h]
theorem zr_dload : zB S D m ((78, a, b, c, k) :: is) L st n sh d u Q ↔ zKd (zget L a) (fun x => zB S D m is L ((zv_d x) :: st) n sh d u Q) := by
  rcases h : zget L a with _ | (x | x) | (x | (x | x))
  all_goals first | exact zB_next fun N => by simp only [zrun_s, zs_dload, zo_dload, h] | exact zB_none fun N => by simp only [zrun_s, zs_dload, zo_dload, h]
theorem zr_fload : zB S D m ((88, a, b, c, k) :: is) L st n sh d u Q ↔ zKf (zget L a) (fun x => zB S D m is L ((zv_f x) :: st) n sh d u Q) := by
  rcases h : zget L a with _ | (x | x) | (x | (x | x))
  all_goals first | exact zB_next fun N => by simp only [zrun_s, zs_fload, zo_fload, h] | exact zB_none fun N => by simp only [zrun_s, zs_fload, zo_fload, h]
theorem zr_astore {x : Int} : zB S D m ((31, a, b, c, k) :: is) L ((zv_a x) :: st) n sh d u Q ↔ zB S D m is (zst1 L a (zv_a x)) st n sh d u Q := zB_next fun N => rfl
theorem zr_istore {x : Int} : zB S D m ((30, a, b, c, k) :: is) L ((zv_i x) :: st) n sh d u Q ↔ zB S D m is (zst1 L a (zv_i x)) st n sh d u Q := zB_next fun N => rfl
theorem zr_lstore {x : Int} : zB S D m ((74, a, b, c, k) :: is) L ((zv_l x) :: st) n sh d u Q ↔ zB S D m is (zst2 L a (zv_l x)) st n sh d u Q := zB_next fun N => rfl
theorem zr_dstore {x : UInt64} : zB S D m ((79, a, b, c, k) :: is) L ((zv_d x) :: st) n sh d u Q ↔ zB S D m is (zst2 L a (zv_d x)) st n sh d u Q := zB_next fun N => rfl
theorem zr_fstore {x : UInt32} : zB S D m ((89, a, b, c, k) :: is) L ((zv_f x) :: st) n sh d u Q ↔ zB S D m is (zst1 L a (zv_f x)) st n sh d u Q := zB_next fun N => rfl
theorem zr_iinc : zB S D m ((32, a, b, c, k) :: is) L st n sh d u Q ↔ zKi (zget L a) (fun x => zB S D m is (zst1 L a (zv_i (x + k))) st n sh d u Q) := by
  rcases h : zget L a with _ | (x | x) | (x | (x | x))
  all_goals first | exact zB_next fun N => by simp only [zrun_s, zs_iinc, zo_iinc, h] | exact zB_none fun N => by simp only [zrun_s, zs_iinc, zo_iinc, h]
theorem zr_if14 {x : Int} : zB S D m ((14, a, b, c, k) :: is) L (zv_i x :: st) n sh d u Q ↔ if zw x = 0 then zJ S D m a L st n sh d u Q else zB S D m is L st n sh d u Q := zB_if fun N => rfl
theorem zr_if15 {x : Int} : zB S D m ((15, a, b, c, k) :: is) L (zv_i x :: st) n sh d u Q ↔ if ¬ zw x = 0 then zJ S D m a L st n sh d u Q else zB S D m is L st n sh d u Q := zB_if fun N => rfl
theorem zr_if16 {x : Int} : zB S D m ((16, a, b, c, k) :: is) L (zv_i x :: st) n sh d u Q ↔ if zw x < 0 then zJ S D m a L st n sh d u Q else zB S D m is L st n sh d u Q := zB_if fun N => rfl
theorem zr_if17 {x : Int} : zB S D m ((17, a, b, c, k) :: is) L (zv_i x :: st) n sh d u Q ↔ if 0 ≤ zw x then zJ S D m a L st n sh d u Q else zB S D m is L st n sh d u Q := zB_if fun N => rfl
theorem zr_if18 {x : Int} : zB S D m ((18, a, b, c, k) :: is) L (zv_i x :: st) n sh d u Q ↔ if 0 < zw x then zJ S D m a L st n sh d u Q else zB S D m is L st n sh d u Q := zB_if fun N => rfl
theorem zr_if19 {x : Int} : zB S D m ((19, a, b, c, k) :: is) L (zv_i x :: st) n sh d u Q ↔ if zw x ≤ 0 then zJ S D m a L st n sh d u Q else zB S D m is L st n sh d u Q := zB_if fun N => rfl
theorem zr_ic20 {x y : Int} : zB S D m ((20, a, b, c, k) :: is) L (zv_i y :: zv_i x :: st) n sh d u Q ↔ if zw x = zw y then zJ S D m a L st n sh d u Q else zB S D m is L st n sh d u Q := zB_if fun N => rfl
theorem zr_ic21 {x y : Int} : zB S D m ((21, a, b, c, k) :: is) L (zv_i y :: zv_i x :: st) n sh d u Q ↔ if ¬ zw x = zw y then zJ S D m a L st n sh d u Q else zB S D m is L st n sh d u Q := zB_if fun N => rfl
theorem zr_ic22 {x y : Int} : zB S D m ((22, a, b, c, k) :: is) L (zv_i y :: zv_i x :: st) n sh d u Q ↔ if zw x < zw y then zJ S D m a L st n sh d u Q else zB S D m is L st n sh d u Q := zB_if fun N => rfl
theorem zr_ic23 {x y : Int} : zB S D m ((23, a, b, c, k) :: is) L (zv_i y :: zv_i x :: st) n sh d u Q ↔ if zw y ≤ zw x then zJ S D m a L st n sh d u Q else zB S D m is L st n sh d u Q := zB_if fun N => rfl
theorem zr_ic24 {x y : Int} : zB S D m ((24, a, b, c, k) :: is) L (zv_i y :: zv_i x :: st) n sh d u Q ↔ if zw y < zw x then zJ S D m a L st n sh d u Q else zB S D m is L st n sh d u Q := zB_if fun N => rfl
theorem zr_ic25 {x y : Int} : zB S D m ((25, a, b, c, k) :: is) L (zv_i y :: zv_i x :: st) n sh d u Q ↔ if zw x ≤ zw y then zJ S D m a L st n sh d u Q else zB S D m is L st n sh d u Q := zB_if fun N => rfl
theorem zr_in26 {x : Int} : zB S D m ((26, a, b, c, k) :: is) L (zv_a x :: st) n sh d u Q ↔ if x = 0 then zJ S D m a L st n sh d u Q else zB S D m is L st n sh d u Q := zB_if fun N => rfl
theorem zr_in27 {x : Int} : zB S D m ((27, a, b, c, k) :: is) L (zv_a x :: st) n sh d u Q ↔ if ¬ x = 0 then zJ S D m a L st n sh d u Q else zB S D m is L st n sh d u Q := zB_if fun N => rfl
theorem zr_ia28 {x y : Int} : zB S D m ((28, a, b, c, k) :: is) L (zv_a y :: zv_a x :: st) n sh d u Q ↔ (0 ≤ x ∧ 0 ≤ y) ∧ if x = y then zJ S D m a L st n sh d u Q else zB S D m is L st n sh d u Q := zB_gif fun N => rfl
theorem zr_ia29 {x y : Int} : zB S D m ((29, a, b, c, k) :: is) L (zv_a y :: zv_a x :: st) n sh d u Q ↔ (0 ≤ x ∧ 0 ≤ y) ∧ if ¬ x = y then zJ S D m a L st n sh d u Q else zB S D m is L st n sh d u Q := zB_gif fun N => rfl
theorem zr_goto : zB S D m ((10, a, b, c, k) :: is) L st n sh d u Q ↔ zJ S D m a L st n sh d u Q := zB_next fun N => rfl
theorem zr_fall : zB S D m ((111, a, b, c, k) :: is) L st n sh d u Q ↔ zJ S D m a L st n sh d u Q := zB_next fun N => rfl
theorem zr_dup_i {x : Int} : zB S D m ((47, a, b, c, k) :: is) L (zv_i x :: st) n sh d u Q ↔ zB S D m is L (zv_i x :: zv_i x :: st) n sh d u Q := zB_next fun N => rfl
theorem zr_dup_a {x : Int} : zB S D m ((47, a, b, c, k) :: is) L (zv_a x :: st) n sh d u Q ↔ zB S D m is L (zv_a x :: zv_a x :: st) n sh d u Q := zB_next fun N => rfl
theorem zr_dup_f {x : UInt32} : zB S D m ((47, a, b, c, k) :: is) L (zv_f x :: st) n sh d u Q ↔ zB S D m is L (zv_f x :: zv_f x :: st) n sh d u Q := zB_next fun N => rfl
theorem zr_dup2_ii {x y : Int} : zB S D m ((48, a, b, c, k) :: is) L (zv_i x :: zv_i y :: st) n sh d u Q ↔ zB S D m is L (zv_i x :: zv_i y :: zv_i x :: zv_i y :: st) n sh d u Q := zB_next fun N => rfl
theorem zr_dup2_ia {x y : Int} : zB S D m ((48, a, b, c, k) :: is) L (zv_i x :: zv_a y :: st) n sh d u Q ↔ zB S D m is L (zv_i x :: zv_a y :: zv_i x :: zv_a y :: st) n sh d u Q := zB_next fun N => rfl
theorem zr_dup2_ai {x y : Int} : zB S D m ((48, a, b, c, k) :: is) L (zv_a x :: zv_i y :: st) n sh d u Q ↔ zB S D m is L (zv_a x :: zv_i y :: zv_a x :: zv_i y :: st) n sh d u Q := zB_next fun N => rfl
theorem zr_dup2_aa {x y : Int} : zB S D m ((48, a, b, c, k) :: is) L (zv_a x :: zv_a y :: st) n sh d u Q ↔ zB S D m is L (zv_a x :: zv_a y :: zv_a x :: zv_a y :: st) n sh d u Q := zB_next fun N => rfl
theorem zr_pop_i {x : Int} : zB S D m ((49, a, b, c, k) :: is) L (zv_i x :: st) n sh d u Q ↔ zB S D m is L st n sh d u Q := zB_next fun N => rfl
theorem zr_pop_a {x : Int} : zB S D m ((49, a, b, c, k) :: is) L (zv_a x :: st) n sh d u Q ↔ zB S D m is L st n sh d u Q := zB_next fun N => rfl
theorem zr_getI {r : Int} : zB S D m ((1, a, b, c, k) :: is) L (zv_a r :: st) n sh d u Q ↔ (0 < r ∧ zaB (sh r) = some a) ∧ zB S D m is L (zv_i (d r k) :: st) n sh d u Q := zB_guard fun N => rfl
theorem zr_getA {r : Int} : zB S D m ((2, a, b, c, k) :: is) L (zv_a r :: st) n sh d u Q ↔ (0 < r ∧ zaB (sh r) = some a) ∧ zB S D m is L (zv_a (d r k) :: st) n sh d u Q := zB_guard fun N => rfl
theorem zr_putI {r x : Int} : zB S D m ((11, a, b, c, k) :: is) L (zv_i x :: zv_a r :: st) n sh d u Q ↔ (0 < r ∧ zaB (sh r) = some a) ∧ zB S D m is L st n sh (zm_u d r k x) u Q := zB_guard fun N => rfl
theorem zr_putZ {r x : Int} : zB S D m ((12, a, b, c, k) :: is) L (zv_i x :: zv_a r :: st) n sh d u Q ↔ ((0 < r ∧ zaB (sh r) = some a) ∧ (x = 0 ∨ x = 1)) ∧ zB S D m is L st n sh (zm_u d r k x) u Q := zB_guard fun N => rfl
theorem zr_putA {r x : Int} : zB S D m ((13, a, b, c, k) :: is) L (zv_a x :: zv_a r :: st) n sh d u Q ↔ (0 < r ∧ zaB (sh r) = some a) ∧ zB S D m is L st n sh (zm_u d r k x) u Q := zB_guard fun N => rfl
theorem zr_iaload {r i : Int} : zB S D m ((33, a, b, c, k) :: is) L (zv_i i :: zv_a r :: st) n sh d u Q ↔ zO (zaI (sh r)) (fun N => ((0 < r ∧ N ≤ 1000000) ∧ (0 ≤ zw i ∧ zw i < N)) ∧ zB S D m is L ((zv_i (d r (zw i))) :: st) n sh d u Q) := by
  cases h : zaI (sh r) with
  | none => exact zB_none fun N => by simp only [zrun_s, zs_iaload, zo_iaload, h]
  | some N => exact zB_guard fun N => by simp only [zrun_s, zs_iaload, zo_iaload, h]
theorem zr_aaload {r i : Int} : zB S D m ((34, a, b, c, k) :: is) L (zv_i i :: zv_a r :: st) n sh d u Q ↔ zO (zaR (sh r)) (fun N => ((0 < r ∧ N ≤ 1000000) ∧ (0 ≤ zw i ∧ zw i < N)) ∧ zB S D m is L ((zv_a (d r (zw i))) :: st) n sh d u Q) := by
  cases h : zaR (sh r) with
  | none => exact zB_none fun N => by simp only [zrun_s, zs_aaload, zo_aaload, h]
  | some N => exact zB_guard fun N => by simp only [zrun_s, zs_aaload, zo_aaload, h]
theorem zr_laload {r i : Int} : zB S D m ((75, a, b, c, k) :: is) L (zv_i i :: zv_a r :: st) n sh d u Q ↔ zO (zaL (sh r)) (fun N => ((0 < r ∧ N ≤ 1000000) ∧ (0 ≤ zw i ∧ zw i < N)) ∧ zB S D m is L ((zv_l (d r (zw i))) :: st) n sh d u Q) := by
  cases h : zaL (sh r) with
  | none => exact zB_none fun N => by simp only [zrun_s, zs_laload, zo_laload, h]
  | some N => exact zB_guard fun N => by simp only [zrun_s, zs_laload, zo_laload, h]
theorem zr_daload {r i : Int} : zB S D m ((80, a, b, c, k) :: is) L (zv_i i :: zv_a r :: st) n sh d u Q ↔ zO (zaD (sh r)) (fun N => ((0 < r ∧ N ≤ 1000000) ∧ (0 ≤ zw i ∧ zw i < N)) ∧ zB S D m is L ((zv_d (UInt64.ofNat (d r (zw i)).toNat)) :: st) n sh d u Q) := by
  cases h : zaD (sh r) with
  | none => exact zB_none fun N => by simp only [zrun_s, zs_daload, zo_daload, h]
  | some N => exact zB_guard fun N => by simp only [zrun_s, zs_daload, zo_daload, h]
theorem zr_caload {r i : Int} : zB S D m ((99, a, b, c, k) :: is) L (zv_i i :: zv_a r :: st) n sh d u Q ↔ zO (zaC (sh r)) (fun N => ((0 < r ∧ N ≤ 1000000) ∧ (0 ≤ zw i ∧ zw i < N)) ∧ zB S D m is L ((zv_i (d r (zw i))) :: st) n sh d u Q) := by
  cases h : zaC (sh r) with
  | none => exact zB_none fun N => by simp only [zrun_s, zs_caload, zo_caload, h]
  | some N => exact zB_guard fun N => by simp only [zrun_s, zs_caload, zo_caload, h]
theorem zr_zaload {r i : Int} : zB S D m ((101, a, b, c, k) :: is) L (zv_i i :: zv_a r :: st) n sh d u Q ↔ zO (zaZ (sh r)) (fun N => ((0 < r ∧ N ≤ 1000000) ∧ (0 ≤ zw i ∧ zw i < N)) ∧ zB S D m is L ((zv_i (d r (zw i))) :: st) n sh d u Q) := by
  cases h : zaZ (sh r) with
  | none => exact zB_none fun N => by simp only [zrun_s, zs_zaload, zo_zaload, h]
  | some N => exact zB_guard fun N => by simp only [zrun_s, zs_zaload, zo_zaload, h]
theorem zr_iastore {r i : Int} {x : Int} : zB S D m ((35, a, b, c, k) :: is) L ((zv_i x) :: zv_i i :: zv_a r :: st) n sh d u Q ↔ zO (zaI (sh r)) (fun N => (((0 < r ∧ N ≤ 1000000) ∧ (0 ≤ zw i ∧ zw i < N))) ∧ zB S D m is L st n sh (zm_u d r (zw i) x) u Q) := by
  cases h : zaI (sh r) with
  | none => exact zB_none fun N => by simp only [zrun_s, zs_iastore, zo_iastore, h]
  | some N => exact zB_guard fun N => by simp only [zrun_s, zs_iastore, zo_iastore, h]
theorem zr_lastore {r i : Int} {x : Int} : zB S D m ((76, a, b, c, k) :: is) L ((zv_l x) :: zv_i i :: zv_a r :: st) n sh d u Q ↔ zO (zaL (sh r)) (fun N => (((0 < r ∧ N ≤ 1000000) ∧ (0 ≤ zw i ∧ zw i < N))) ∧ zB S D m is L st n sh (zm_u d r (zw i) x) u Q) := by
  cases h : zaL (sh r) with
  | none => exact zB_none fun N => by simp only [zrun_s, zs_lastore, zo_lastore, h]
  | some N => exact zB_guard fun N => by simp only [zrun_s, zs_lastore, zo_lastore, h]
theorem zr_dastore {r i : Int} {x : UInt64} : zB S D m ((81, a, b, c, k) :: is) L ((zv_d x) :: zv_i i :: zv_a r :: st) n sh d u Q ↔ zO (zaD (sh r)) (fun N => (((0 < r ∧ N ≤ 1000000) ∧ (0 ≤ zw i ∧ zw i < N))) ∧ zB S D m is L st n sh (zm_u d r (zw i) x.toNat) u Q) := by
  cases h : zaD (sh r) with
  | none => exact zB_none fun N => by simp only [zrun_s, zs_dastore, zo_dastore, h]
  | some N => exact zB_guard fun N => by simp only [zrun_s, zs_dastore, zo_dastore, h]
theorem zr_castore {r i : Int} {x : Int} : zB S D m ((100, a, b, c, k) :: is) L ((zv_i x) :: zv_i i :: zv_a r :: st) n sh d u Q ↔ zO (zaC (sh r)) (fun N => (((0 < r ∧ N ≤ 1000000) ∧ (0 ≤ zw i ∧ zw i < N)) ∧ (0 ≤ x ∧ x < 65536)) ∧ zB S D m is L st n sh (zm_u d r (zw i) x) u Q) := by
  cases h : zaC (sh r) with
  | none => exact zB_none fun N => by simp only [zrun_s, zs_castore, zo_castore, h]
  | some N => exact zB_guard fun N => by simp only [zrun_s, zs_castore, zo_castore, h]
theorem zr_zastore {r i : Int} {x : Int} : zB S D m ((102, a, b, c, k) :: is) L ((zv_i x) :: zv_i i :: zv_a r :: st) n sh d u Q ↔ zO (zaZ (sh r)) (fun N => (((0 < r ∧ N ≤ 1000000) ∧ (0 ≤ zw i ∧ zw i < N)) ∧ (x = 0 ∨ x = 1)) ∧ zB S D m is L st n sh (zm_u d r (zw i) x) u Q) := by
  cases h : zaZ (sh r) with
  | none => exact zB_none fun N => by simp only [zrun_s, zs_zastore, zo_zastore, h]
  | some N => exact zB_guard fun N => by simp only [zrun_s, zs_zastore, zo_zastore, h]
theorem zr_aastore {r i x : Int} : zB S D m ((62, a, b, c, k) :: is) L (zv_a x :: zv_i i :: zv_a r :: st) n sh d u Q ↔ zO (zaO (sh r)) (fun q => (((0 < r ∧ q.2 ≤ 1000000) ∧ (0 ≤ zw i ∧ zw i < q.2)) ∧ (x = 0 ∨ (0 < x ∧ zoc (sh x) q.1 = true))) ∧ zB S D m is L st n sh (zm_u d r (zw i) x) u Q) := by
  cases h : zaO (sh r) with
  | none => exact zB_none fun N => by simp only [zrun_s, zs_aastore, zo_aastore, h]
  | some q => obtain ⟨C, N⟩ := q; exact zB_guard fun N => by simp only [zrun_s, zs_aastore, zo_aastore, h]
theorem zr_alen {r : Int} : zB S D m ((36, a, b, c, k) :: is) L (zv_a r :: st) n sh d u Q ↔ zO (zaX (sh r)) (fun N => (0 < r) ∧ zB S D m is L (zv_i (N : Int) :: st) n sh d u Q) := by
  cases h : zaX (sh r) with
  | none => exact zB_none fun N => by simp only [zrun_s, zs_alen, zo_alen, h]
  | some N => exact zB_guard fun N => by simp only [zrun_s, zs_alen, zo_alen, h]
theorem zr_sald {r i : Int} : zB S D m ((112, a, b, c, k) :: is) L (zv_i i :: zv_a r :: st) n sh d u Q ↔ (r = -1 ∧ (0 ≤ zw i ∧ zw i < S.1)) ∧ zB S D m is L (zv_i (S.2 (zw i).toNat) :: st) n sh d u Q := zB_guard fun N => rfl
theorem zr_slen {r : Int} : zB S D m ((113, a, b, c, k) :: is) L (zv_a r :: st) n sh d u Q ↔ r = -1 ∧ zB S D m is L (zv_i (S.1 : Int) :: st) n sh d u Q := zB_guard fun N => rfl
theorem zr_vret : zB S D m ((50, a, b, c, k) :: is) L [] n sh d u Q ↔ Q (.inl none) n sh d u := zB_ret fun N => rfl
theorem zr_iret {x : Int} : zB S D m ((8, a, b, c, k) :: is) L [zv_i x] n sh d u Q ↔ Q (.inl (some (zv_i x))) n sh d u := zB_ret fun N => rfl
theorem zr_zret {x : Int} : zB S D m ((9, a, b, c, k) :: is) L [zv_i x] n sh d u Q ↔ (x = 0 ∨ x = 1) ∧ Q (.inl (some (zv_i x))) n sh d u := zB_gret fun N => rfl
theorem zr_aret {x : Int} : zB S D m ((51, a, b, c, k) :: is) L [zv_a x] n sh d u Q ↔ Q (.inl (some (zv_a x))) n sh d u := zB_ret fun N => rfl
theorem zr_lret {x : Int} : zB S D m ((52, a, b, c, k) :: is) L [zv_l x] n sh d u Q ↔ Q (.inl (some (zv_l x))) n sh d u := zB_ret fun N => rfl
theorem zr_dret {x : UInt64} : zB S D m ((53, a, b, c, k) :: is) L [zv_d x] n sh d u Q ↔ Q (.inl (some (zv_d x))) n sh d u := zB_ret fun N => rfl
theorem zr_fret {x : UInt32} : zB S D m ((54, a, b, c, k) :: is) L [zv_f x] n sh d u Q ↔ Q (.inl (some (zv_f x))) n sh d u := zB_ret fun N => rfl
theorem zr_throw : zB S D m ((55, a, b, c, k) :: is) L st n sh d u Q ↔ (12 ≤ D ∧ st.length ≤ 8) ∧ Q (.inr a) (n + 1) sh d (u + 6) := zB_gret fun N => rfl
theorem zr_throwW : zB S D m ((56, a, b, c, k) :: is) L st n sh d u Q ↔ (12 ≤ D ∧ st.length ≤ 8) ∧ Q (.inr a) (n + 1) sh d (u + 6) := zB_gret fun N => rfl
theorem zr_new : zB S D m ((57, a, b, c, k) :: is) L st n sh d u Q ↔ zB S D m is L (zv_a ((n : Int) + 1) :: st) (n + 1) (zk_u sh ((n : Int) + 1) (some (.inl a))) (zm_z d ((n : Int) + 1)) (u + b) Q := zB_next fun N => rfl
theorem zr_newarr {x : Int} : zB S D m ((58, a, b, c, k) :: is) L (zv_i x :: st) n sh d u Q ↔ (0 ≤ x ∧ x ≤ 65536) ∧ zB S D m is L (zv_a ((n : Int) + 1) :: st) (n + 1) (zk_u sh ((n : Int) + 1) (some (.inr (znA a, x.toNat)))) (zm_z d ((n : Int) + 1)) (u + x.toNat) Q := zB_guard fun N => rfl
theorem zr_anew {x : Int} : zB S D m ((59, a, b, c, k) :: is) L (zv_i x :: st) n sh d u Q ↔ (0 ≤ x ∧ x ≤ 65536) ∧ zB S D m is L (zv_a ((n : Int) + 1) :: st) (n + 1) (zk_u sh ((n : Int) + 1) (some (.inr (.object (zcn a), x.toNat)))) (zm_z d ((n : Int) + 1)) (u + x.toNat) Q := zB_guard fun N => rfl
theorem zr_callS : zB S D m ((5, a, b, c, k) :: is) L st n sh d u Q ↔ zKp (zpop b st []) (fun As rest => (rest.length ≤ 4 ∧ 0 < D) ∧ zE S (D - 1) a As n sh d u (zA S D m is L rest Q)) := by
  rcases h : zpop b st [] with _ | ⟨As, rest⟩
  · exact zB_none fun N => by simp only [zrun_s, zs_callS, zo_callS, h]
  · exact zB_call fun N => by simp only [zrun_s, zs_callS, zo_callS, h]
theorem zr_callV : zB S D m ((6, a, b, c, k) :: is) L st n sh d u Q ↔ zKr (zpop b st []) (fun As r rest => ((0 < r ∧ zaB (sh r) = some c) ∧ (rest.length ≤ 4 ∧ 0 < D)) ∧ zE S (D - 1) a (zv_a r :: As) n sh d u (zA S D m is L rest Q)) := by
  rcases h : zpop b st [] with _ | ⟨As, _ | ⟨(v | v) | v, rest⟩⟩
  all_goals first | exact zB_none fun N => by simp only [zrun_s, zs_callV, zo_callV, h] | exact zB_call fun N => by simp only [zrun_s, zs_callV, zo_callV, h]
theorem zr_callI : zB S D m ((7, a, b, c, k) :: is) L st n sh d u Q ↔ zKr (zpop b st []) (fun As r rest => (0 < r ∧ (rest.length ≤ 4 ∧ 0 < D)) ∧ zE S (D - 1) a (zv_a r :: As) n sh d u (zA S D m is L rest Q)) := by
  rcases h : zpop b st [] with _ | ⟨As, _ | ⟨(v | v) | v, rest⟩⟩
  all_goals first | exact zB_none fun N => by simp only [zrun_s, zs_callI, zo_callI, h] | exact zB_call fun N => by simp only [zrun_s, zs_callI, zo_callI, h]
theorem zr_acopy {x q r2 p r1 : Int} : zB S D m ((106, a, b, c, k) :: is) L (zv_i x :: zv_i q :: zv_a r2 :: zv_i p :: zv_a r1 :: st) n sh d u Q ↔ zO (zaI (sh r1)) (fun N1 => zO (zaI (sh r2)) (fun N2 => ((((0 < r1 ∧ 0 < r2) ∧ (N1 ≤ 1000000 ∧ N2 ≤ 1000000)) ∧ (0 ≤ zw p ∧ 0 ≤ zw q)) ∧ ((0 ≤ zw x ∧ zw p + zw x ≤ N1) ∧ (zw q + zw x ≤ N2 ∧ (st.length ≤ 4 ∧ 0 < D)))) ∧ zB S D m is L st n sh (zm_cp d r1 (zw p) r2 (zw q) (zw x)) u Q)) := by
  cases h1 : zaI (sh r1) with
  | none => exact zB_none fun N => by simp only [zrun_s, zs_acopy, zo_acopy, h1]
  | some N1 => cases h2 : zaI (sh r2) with
    | none => exact zB_none fun N => by simp only [zrun_s, zs_acopy, zo_acopy, h1, h2]
    | some N2 => exact zB_guard fun N => by simp only [zrun_s, zs_acopy, zo_acopy, h1, h2]
theorem zr_tsw {x : Int} : zB S D m ((104, a, b, c, k) :: is) L (zv_i x :: st) n sh d u Q ↔ zJ S D m (if 0 ≤ zw x then ((zsw m)[(zw x).toNat]?).getD a else a) L st n sh d u Q := by
  by_cases h0 : 0 ≤ zw x
  · rw [if_pos h0]
    cases h : (zsw m)[(zw x).toNat]? with
    | none => exact zB_next fun N => by simp only [zrun_s, zs_tsw, zo_tsw, h0, if_true, h]; rfl
    | some t => exact zB_next fun N => by simp only [zrun_s, zs_tsw, zo_tsw, h0, if_true, h]; rfl
  · rw [if_neg h0]
    exact zB_next fun N => by simp only [zrun_s, zs_tsw, zo_tsw, h0, if_false]
end ZB
end
