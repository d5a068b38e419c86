/-! ===== CODE: methods, rows of links, blocks: printed by a program out of the listing ===== -/
set_option maxRecDepth 100000 in
def zMM0 : List zm_M := [(yX0_init, (cX0_init, (4, (none, [])))),
  (yX0_tellRule, (cX0_tellRule, (4, ((some .boolean), [])))),
  (yX0_hasStakes, (cX0_hasStakes, (5, ((some .boolean), [])))),
  (yX0_stakesOf, (cX0_stakesOf, (7, ((some .int), [])))),
  (yX0_takeAway, (cX0_takeAway, (7, ((some .int), [])))),
  (yX0_forgetCards, (cX0_forgetCards, (5, (none, [])))),
  (yX0_seatInTurn, (cX0_seatInTurn, (2, ((some .int), [])))),
  (yX0_dealRound, (cX0_dealRound, (5, ((some .int), [])))),
  (yX0_dealToSeats, (cX0_dealToSeats, (5, (none, [])))),
  (yX0_giveCard, (cX0_giveCard, (3, ((some .int), [])))),
  (yX0_giveUp, (cX0_giveUp, (5, ((some .int), [])))),
  (yX0_finishIfNobodyPlays, (cX0_finishIfNobodyPlays, (5, (none, [])))),
  (yX0_drawForDealer, (cX0_drawForDealer, (6, (none, [])))),
  (yX0_drawsAgain, (cX0_drawsAgain, (2, ((some .boolean), [])))),
  (yX0_settle, (cX0_settle, (6, (none, [])))),
  (yX0_gainOf, (cX0_gainOf, (5, ((some .int), [])))),
  (yX0_payForNatural, (cX0_payForNatural, (2, ((some .int), [])))),
  (yX1_init, (cX1_init, (1, (none, [])))),
  (yX1_chanceOf, (cX1_chanceOf, (5, ((some .double), [])))),
  (yX1_chanceFrom, (cX1_chanceFrom, (11, ((some .double), [])))),
  (yX2_init, (cX2_init, (1, (none, [])))),
  (yX2_isBarredOn, (cX2_isBarredOn, (2, ((some .boolean), [])))),
  (yX2_mayStake, (cX2_mayStake, (3, ((some .boolean), [])))),
  (yX2_putStake, (cX2_putStake, (2, (none, [])))),
  (yX2_bringMoney, (cX2_bringMoney, (2, (none, [])))),
  (yX2_tellLimit, (cX2_tellLimit, (2, (none, [])))),
  (yX2_beginDay, (cX2_beginDay, (1, (none, [])))),
  (yX2_noteBet, (cX2_noteBet, (3, (none, [])))),
  (yX2_isBettingByCount, (cX2_isBettingByCount, (1, ((some .boolean), [])))),
  (yX2_addPrize, (cX2_addPrize, (4, (none, [])))),
  (yX2_dropPrizesOf, (cX2_dropPrizesOf, (4, ((some .int), [])))),
  (yX2_allPrizes, (cX2_allPrizes, (6, ((some .int), [])))),
  (yX2_dropAllPrizes, (cX2_dropAllPrizes, (1, (none, [])))),
  (yX3_init, (cX3_init, (1, (none, [])))),
  (yX3_add, (cX3_add, (2, (none, [])))),
  (yX3_forgetCards, (cX3_forgetCards, (1, (none, [])))),
  (yX3_rankAt, (cX3_rankAt, (2, ((some .int), [])))),
  (yX3_value, (cX3_value, (1, ((some .int), [])))),
  (yX3_isSoft, (cX3_isSoft, (1, ((some .boolean), [])))),
  (yX3_isPair, (cX3_isPair, (1, ((some .boolean), [])))),
  (yX3_isNatural, (cX3_isNatural, (1, ((some .boolean), [])))),
  (yX3_settle, (cX3_settle, (2, ((some .int), [])))),
  (yX3_takeBack, (cX3_takeBack, (3, ((some .int), [])))),
  (yX4_init, (cX4_init, (1, (none, [])))),
  (yX4_setOf, (cX4_setOf, (2, ((some .int), [])))),
  (yX4_isSoldOut, (cX4_isSoldOut, (1, ((some .boolean), [])))),
  (yX4_isDrawn, (cX4_isDrawn, (1, ((some .boolean), [])))),
  (yX4_sell, (cX4_sell, (3, (none, [])))),
  (yX4_rightNumbers, (cX4_rightNumbers, (2, ((some .int), [])))),
  (yX4_ticketsWithRight, (cX4_ticketsWithRight, (4, ((some .int), [])))),
  (yX4_giveOut, (cX4_giveOut, (3, ((some .int), [])))),
  (yX4_giveTier, (cX4_giveTier, (8, ((some .int), [])))),
  (yX4_takeAway, (cX4_takeAway, (3, (none, [])))),
  (yX5_init, (cX5_init, (2, (none, [])))),
  (yX5_areSymbols, (cX5_areSymbols, (1, ((some .boolean), [])))),
  (yX5_areStops, (cX5_areStops, (1, ((some .boolean), [])))),
  (yX5_areDigits, (cX5_areDigits, (5, ((some .boolean), [])))),
  (yX5_isSpinning, (cX5_isSpinning, (1, ((some .boolean), [])))),
  (yX5_stakeOf, (cX5_stakeOf, (2, ((some .int), [])))),
  (yX5_symbolAt, (cX5_symbolAt, (4, ((some .int), [])))),
  (yX5_timesOf, (cX5_timesOf, (2, ((some .int), [])))),
  (yX5_tellSymbols, (cX5_tellSymbols, (7, ((some .int), [])))),
  (yX5_tellTimes, (cX5_tellTimes, (4, ((some .int), [])))),
  (yX5_begin, (cX5_begin, (3, (none, [])))),
  (yX5_settleAt, (cX5_settleAt, (6, ((some .int), [])))),
  (yX5_takeAway, (cX5_takeAway, (3, ((some .int), [])))),
  (yX5_paidByAllStops, (cX5_paidByAllStops, (5, ((some .int), [])))),
  (yX5_stopsWith, (cX5_stopsWith, (5, ((some .int), [])))),
  (yX6_init, (cX6_init, (1, (none, [])))),
  (yX6_hasStake, (cX6_hasStake, (1, ((some .boolean), [])))),
  (yX6_stakes, (cX6_stakes, (1, ((some .int), [])))),
  (yX6_take, (cX6_take, (3, (none, [])))),
  (yX6_handAt, (cX6_handAt, (3, ((some (.object "ShoeHouse$Hand")), [])))),
  (yX6_handThatPlays, (cX6_handThatPlays, (1, ((some (.object "ShoeHouse$Hand")), [])))),
  (yX6_part, (cX6_part, (2, (none, [])))),
  (yX6_isNatural, (cX6_isNatural, (1, ((some .boolean), [])))),
  (yX6_needsDealer, (cX6_needsDealer, (1, ((some .boolean), [])))),
  (yX6_forgetCards, (cX6_forgetCards, (1, (none, [])))),
  (yX6_forgetStakes, (cX6_forgetStakes, (1, (none, [])))),
  (yX6_takeAway, (cX6_takeAway, (2, ((some .int), [])))),
  (yX7_init, (cX7_init, (1, (none, [])))),
  (yX7_cardsInDeck, (cX7_cardsInDeck, (1, ((some .int), [])))),
  (yX7_size, (cX7_size, (1, ((some .int), [])))),
  (yX7_rankAt, (cX7_rankAt, (3, ((some .int), [])))),
  (yX7_layDecks, (cX7_layDecks, (4, (none, [])))),
  (yX7_bringBehind, (cX7_bringBehind, (5, (none, [])))),
  (yX7_mixHalves, (cX7_mixHalves, (6, (none, [])))),
  (yX7_layMixed, (cX7_layMixed, (3, (none, [])))),
  (yX7_takeCard, (cX7_takeCard, (2, ((some .int), [])))),
  (yX7_see, (cX7_see, (2, (none, [])))),
  (yX7_takeSeen, (cX7_takeSeen, (2, ((some .int), [])))),
  (yX7_takeHidden, (cX7_takeHidden, (1, ((some .int), [])))),
  (yX7_showHidden, (cX7_showHidden, (1, (none, [])))),
  (yX7_unseenOf, (cX7_unseenOf, (2, ((some .int), [])))),
  (yX7_unseenAbove, (cX7_unseenAbove, (4, ((some .int), [])))),
  (yX7_unseen, (cX7_unseen, (1, ((some .int), [])))),
  (yX7_tellWeight, (cX7_tellWeight, (4, ((some .int), [])))),
  (yX7_countSeen, (cX7_countSeen, (3, ((some .int), [])))),
  (yX7_countByDeck, (cX7_countByDeck, (2, ((some .int), [])))),
  (yX7_isWhole, (cX7_isWhole, (4, ((some .boolean), [])))),
  (yX8_init, (cX8_init, (2, (none, [])))),
  (yX8_takeFromVault, (cX8_takeFromVault, (2, (none, [])))),
  (yX8_bringToVault, (cX8_bringToVault, (2, (none, [])))),
  (yX8_collect, (cX8_collect, (2, (none, [])))),
  (yX8_payOut, (cX8_payOut, (2, (none, [])))),
  (yX8_winOfShift, (cX8_winOfShift, (1, ((some .int), [])))),
  (yX8_beginShift, (cX8_beginShift, (1, (none, [])))),
  (yX9_init, (cX9_init, (1, (none, [])))),
  (yX10_init, (cX10_init, (2, (none, [])))),
  (yX10_isWager, (cX10_isWager, (2, ((some .boolean), [])))),
  (yX10_isRed, (cX10_isRed, (3, ((some .boolean), [])))),
  (yX10_timesPaid, (cX10_timesPaid, (3, ((some .int), [])))),
  (yX10_isFull, (cX10_isFull, (1, ((some .boolean), [])))),
  (yX10_add, (cX10_add, (5, (none, [])))),
  (yX10_settleAll, (cX10_settleAll, (6, ((some .int), [])))),
  (yX10_stakesOf, (cX10_stakesOf, (4, ((some .int), [])))),
  (yX10_takeAway, (cX10_takeAway, (6, ((some .int), [])))),
  (yX11_init, (cX11_init, (2, (none, [])))),
  (yX11_guest, (cX11_guest, (2, ((some .int), [])))),
  (yX11_buyIn, (cX11_buyIn, (4, ((some .int), [])))),
  (yX11_cashOut, (cX11_cashOut, (4, ((some .int), [])))),
  (yX11_limit, (cX11_limit, (4, ((some .int), [])))),
  (yX11_bar, (cX11_bar, (5, ((some .int), [])))),
  (yX11_pass, (cX11_pass, (7, ((some .int), [])))),
  (yX11_fill, (cX11_fill, (4, ((some .int), [])))),
  (yX11_credit, (cX11_credit, (4, ((some .int), [])))),
  (yX11_shift, (cX11_shift, (6, ((some .int), [])))),
  (yX11_win, (cX11_win, (2, ((some .int), [])))),
  (yX11_rule, (cX11_rule, (3, ((some .boolean), [])))),
  (yX11_lay, (cX11_lay, (2, ((some .int), [])))),
  (yX11_cut, (cX11_cut, (2, ((some .int), [])))),
  (yX11_riffle, (cX11_riffle, (2, ((some .int), [])))),
  (yX11_bet, (cX11_bet, (6, ((some .int), [])))),
  (yX11_deal, (cX11_deal, (2, ((some .int), [])))),
  (yX11_hit, (cX11_hit, (4, ((some .int), [])))),
  (yX11_stand, (cX11_stand, (3, ((some .int), [])))),
  (yX11_twice, (cX11_twice, (6, ((some .int), [])))),
  (yX11_split, (cX11_split, (6, ((some .int), [])))),
  (yX11_surrender, (cX11_surrender, (5, ((some .int), [])))),
  (yX11_cardAt, (cX11_cardAt, (6, ((some .int), [])))),
  (yX11_dealerAt, (cX11_dealerAt, (3, ((some .int), [])))),
  (yX11_turn, (cX11_turn, (1, ((some .int), [])))),
  (yX11_left, (cX11_left, (2, ((some .int), [])))),
  (yX11_bustOver, (cX11_bustOver, (2, ((some .long), [])))),
  (yX11_bustUnder, (cX11_bustUnder, (2, ((some .long), [])))),
  (yX11_dealerEnds, (cX11_dealerEnds, (2, ((some .double), [])))),
  (yX11_weigh, (cX11_weigh, (3, ((some .int), [])))),
  (yX11_count, (cX11_count, (1, ((some .int), [])))),
  (yX11_trueCount, (cX11_trueCount, (1, ((some .int), [])))),
  (yX11_isSuspected, (cX11_isSuspected, (2, ((some .boolean), [])))),
  (yX11_broken, (cX11_broken, (1, ((some .int), [])))),
  (yX11_wager, (cX11_wager, (6, ((some .int), [])))),
  (yX11_spin, (cX11_spin, (2, ((some .int), [])))),
  (yX11_stops, (cX11_stops, (3, ((some .int), [])))),
  (yX11_pays, (cX11_pays, (3, ((some .int), [])))),
  (yX11_bound, (cX11_bound, (3, ((some .int), [])))),
  (yX11_pull, (cX11_pull, (4, ((some .int), [])))),
  (yX11_stop, (cX11_stop, (2, ((some .int), [])))),
  (yX11_tilt, (cX11_tilt, (1, ((some .int), [])))),
  (yX11_recover, (cX11_recover, (2, ((some .int), [])))),
  (yX11_pot, (cX11_pot, (1, ((some .int), [])))),
  (yX11_returnOver, (cX11_returnOver, (1, ((some .long), [])))),
  (yX11_returnUnder, (cX11_returnUnder, (1, ((some .long), [])))),
  (yX11_ticket, (cX11_ticket, (4, ((some .int), [])))),
  (yX11_draw, (cX11_draw, (2, ((some .int), [])))),
  (yX11_confirm, (cX11_confirm, (1, ((some .int), [])))),
  (yX11_claim, (cX11_claim, (4, ((some .int), [])))),
  (yX11_pool, (cX11_pool, (1, ((some .int), [])))),
  (yX11_day, (cX11_day, (1, ((some .int), [])))),
  (yX11_money, (cX11_money, (2, ((some .int), [])))),
  (yX11_chips, (cX11_chips, (2, ((some .int), [])))),
  (yX11_isBarred, (cX11_isBarred, (2, ((some .boolean), [])))),
  (yX11_staked, (cX11_staked, (2, ((some .int), [])))),
  (yX11_reports, (cX11_reports, (2, ((some .int), [])))),
  (yX11_tray, (cX11_tray, (2, ((some .int), [])))),
  (yX11_vault, (cX11_vault, (1, ((some .int), [])))),
  (yX11_ruinOver, (cX11_ruinOver, (3, ((some .long), [])))),
  (yX11_ruinUnder, (cX11_ruinUnder, (3, ((some .long), [])))),
  (yX11_checksum, (cX11_checksum, (7, ((some .long), [])))),
  (yX11_vaultBits, (cX11_vaultBits, (1, ((some .int), [])))),
  (yX11_barredShare, (cX11_barredShare, (3, ((some .float), [])))),
  (yX11_meanChips, (cX11_meanChips, (1, ((some .double), [])))),
  (yX11_isSound, (cX11_isSound, (1, ((some .boolean), [])))),
  (yX11_guestAt, (cX11_guestAt, (2, ((some (.object "ShoeHouse$Guest")), [])))),
  (yX11_trayAt, (cX11_trayAt, (2, ((some (.object "ShoeHouse$Tray")), [])))),
  (yX11_seatAt, (cX11_seatAt, (2, ((some (.object "ShoeHouse$Seat")), [])))),
  (yX11_handInTurn, (cX11_handInTurn, (4, ((some (.object "ShoeHouse$Hand")), [])))),
  (yX11_playerAt, (cX11_playerAt, (4, ((some (.object "ShoeHouse$Guest")), [])))),
  (yX11_needStake, (cX11_needStake, (3, (none, [])))),
  (yX11_needCards, (cX11_needCards, (2, (none, [])))),
  (yX11_needUnseen, (cX11_needUnseen, (1, (none, [])))),
  (yX11_needRound, (cX11_needRound, (1, (none, [])))),
  (yX11_needNoRound, (cX11_needNoRound, (1, (none, [])))),
  (yX11_needSpin, (cX11_needSpin, (1, (none, [])))),
  (yX11_needNoSpin, (cX11_needNoSpin, (1, (none, [])))),
  (yX11_needGuests, (cX11_needGuests, (1, (none, [])))),
  (yX11_needThreeNumbers, (cX11_needThreeNumbers, (1, (none, [])))),
  (yX11_needRuin, (cX11_needRuin, (2, (none, [])))),
  (yX11_needRange, (cX11_needRange, (3, (none, [])))),
  (yX11_chipsOfGuests, (cX11_chipsOfGuests, (3, ((some .int), [])))),
  (yX11_areAllChipsHere, (cX11_areAllChipsHere, (6, ((some .boolean), [])))),
  (yX11_stakesOf, (cX11_stakesOf, (2, ((some .int), [])))),
  (yX11_isNothingOfBarred, (cX11_isNothingOfBarred, (5, ((some .boolean), [])))),
  (yX11_areChancesSound, (cX11_areChancesSound, (4, ((some .boolean), [])))),
  (yX11_lowestOver, (cX11_lowestOver, (6, ((some .long), [])))),
  (yX11_lowestUnder, (cX11_lowestUnder, (6, ((some .long), [])))),
  (yX11_sharedDivisor, (cX11_sharedDivisor, (11, ((some .long), [])))),
  (yX11_power, (cX11_power, (5, ((some .long), [])))),
  (yX11_ruinPart, (cX11_ruinPart, (2, ((some .long), [])))),
  (yX11_bitsOf, (cX11_bitsOf, (5, ((some .int), [])))),
  (yX12_init, (cX12_init, (6, (none, [])))),
  (yX12_thrown, (cX12_thrown, (1, ((some .int), [])))),
  (yX12_isThrown, (cX12_isThrown, (3, ((some .boolean), [])))),
  (yX12_isIn, (cX12_isIn, (3, ((some .boolean), [])))),
  (yX12_isNobody, (cX12_isNobody, (2, ((some .boolean), [])))),
  (yX12_guest, (cX12_guest, (2, ((some .int), [])))),
  (yX12_buyIn, (cX12_buyIn, (3, ((some .int), [])))),
  (yX12_cashOut, (cX12_cashOut, (3, ((some .int), [])))),
  (yX12_limit, (cX12_limit, (3, ((some .int), [])))),
  (yX12_isBarredNow, (cX12_isBarredNow, (2, ((some .boolean), [])))),
  (yX12_mayStake, (cX12_mayStake, (3, ((some .boolean), [])))),
  (yX12_stakes, (cX12_stakes, (3, (none, [])))),
  (yX12_pay, (cX12_pay, (5, (none, [])))),
  (yX12_bar, (cX12_bar, (6, ((some .int), [])))),
  (yX12_pass, (cX12_pass, (4, ((some .int), [])))),
  (yX12_isNoTable, (cX12_isNoTable, (1, ((some .boolean), [])))),
  (yX12_fill, (cX12_fill, (3, ((some .int), [])))),
  (yX12_credit, (cX12_credit, (3, ((some .int), [])))),
  (yX12_winOf, (cX12_winOf, (2, ((some .int), [])))),
  (yX12_shift, (cX12_shift, (3, ((some .int), [])))),
  (yX12_win, (cX12_win, (2, ((some .int), [])))),
  (yX12_ruleOf, (cX12_ruleOf, (1, ((some .int), [])))),
  (yX12_rule, (cX12_rule, (4, ((some .boolean), [])))),
  (yX12_each, (cX12_each, (1, ((some .int), [])))),
  (yX12_lay, (cX12_lay, (4, ((some .int), [])))),
  (yX12_cut, (cX12_cut, (3, ((some .int), [])))),
  (yX12_riffle, (cX12_riffle, (5, ((some .int), [])))),
  (yX12_next, (cX12_next, (2, ((some .int), [])))),
  (yX12_valueOf, (cX12_valueOf, (5, ((some .int), [])))),
  (yX12_isSoft, (cX12_isSoft, (4, ((some .boolean), [])))),
  (yX12_valueAt, (cX12_valueAt, (3, ((some .int), [])))),
  (yX12_isNaturalAt, (cX12_isNaturalAt, (2, ((some .boolean), [])))),
  (yX12_hasStake, (cX12_hasStake, (2, ((some .boolean), [])))),
  (yX12_bet, (cX12_bet, (6, ((some .int), [])))),
  (yX12_take, (cX12_take, (3, (none, [])))),
  (yX12_deal, (cX12_deal, (4, ((some .int), [])))),
  (yX12_turnNow, (cX12_turnNow, (3, ((some .int), [])))),
  (yX12_lose, (cX12_lose, (3, (none, [])))),
  (yX12_win_, (cX12_win_, (5, (none, [])))),
  (yX12_finish, (cX12_finish, (4, (none, [])))),
  (yX12_isEnd, (cX12_isEnd, (3, ((some .boolean), [])))),
  (yX12_settleAll, (cX12_settleAll, (5, (none, [])))),
  (yX12_settle, (cX12_settle, (8, (none, [])))),
  (yX12_isNotTurn, (cX12_isNotTurn, (2, ((some .boolean), [])))),
  (yX12_goesOn, (cX12_goesOn, (1, (none, [])))),
  (yX12_looks, (cX12_looks, (4, (none, [])))),
  (yX12_hit, (cX12_hit, (4, ((some .int), [])))),
  (yX12_stand, (cX12_stand, (3, ((some .int), [])))),
  (yX12_twice, (cX12_twice, (6, ((some .int), [])))),
  (yX12_split, (cX12_split, (5, ((some .int), [])))),
  (yX12_surrender, (cX12_surrender, (3, ((some .int), [])))),
  (yX12_cardAt, (cX12_cardAt, (4, ((some .int), [])))),
  (yX12_dealerAt, (cX12_dealerAt, (2, ((some .int), [])))),
  (yX12_turn, (cX12_turn, (1, ((some .int), [])))),
  (yX12_leftOf, (cX12_leftOf, (4, ((some .int), [])))),
  (yX12_unseen, (cX12_unseen, (1, ((some .int), [])))),
  (yX12_left, (cX12_left, (2, ((some .int), [])))),
  (yX12_common, (cX12_common, (10, ((some .long), [])))),
  (yX12_busting, (cX12_busting, (4, ((some .int), [])))),
  (yX12_bust, (cX12_bust, (4, ((some .long), [])))),
  (yX12_bustOver, (cX12_bustOver, (2, ((some .long), [])))),
  (yX12_bustUnder, (cX12_bustUnder, (2, ((some .long), [])))),
  (yX12_ends, (cX12_ends, (12, ((some .double), [])))),
  (yX12_dealerEnds, (cX12_dealerEnds, (3, ((some .double), [])))),
  (yX12_weigh, (cX12_weigh, (4, ((some .int), [])))),
  (yX12_counted, (cX12_counted, (3, ((some .int), [])))),
  (yX12_count, (cX12_count, (1, ((some .int), [])))),
  (yX12_trueCount, (cX12_trueCount, (1, ((some .int), [])))),
  (yX12_isSuspected, (cX12_isSuspected, (4, ((some .boolean), [])))),
  (yX12_broken, (cX12_broken, (1, ((some .int), [])))),
  (yX12_wager, (cX12_wager, (7, ((some .int), [])))),
  (yX12_isRed, (cX12_isRed, (3, ((some .boolean), [])))),
  (yX12_times, (cX12_times, (3, ((some .int), [])))),
  (yX12_spin, (cX12_spin, (6, ((some .int), [])))),
  (yX12_isSpinning, (cX12_isSpinning, (1, ((some .boolean), [])))),
  (yX12_digit, (cX12_digit, (4, ((some .int), [])))),
  (yX12_areDigits, (cX12_areDigits, (5, ((some .boolean), [])))),
  (yX12_stops, (cX12_stops, (6, ((some .int), [])))),
  (yX12_pays, (cX12_pays, (4, ((some .int), [])))),
  (yX12_bound, (cX12_bound, (3, ((some .int), [])))),
  (yX12_pull, (cX12_pull, (3, ((some .int), [])))),
  (yX12_stop, (cX12_stop, (5, ((some .int), [])))),
  (yX12_tilt, (cX12_tilt, (1, ((some .int), [])))),
  (yX12_recover, (cX12_recover, (2, ((some .int), [])))),
  (yX12_pot, (cX12_pot, (1, ((some .int), [])))),
  (yX12_returned, (cX12_returned, (16, ((some .long), [])))),
  (yX12_returnOver, (cX12_returnOver, (1, ((some .long), [])))),
  (yX12_returnUnder, (cX12_returnUnder, (1, ((some .long), [])))),
  (yX12_setOf, (cX12_setOf, (2, ((some .int), [])))),
  (yX12_ticket, (cX12_ticket, (3, ((some .int), [])))),
  (yX12_right, (cX12_right, (4, ((some .int), [])))),
  (yX12_draw, (cX12_draw, (2, ((some .int), [])))),
  (yX12_confirm, (cX12_confirm, (7, ((some .int), [])))),
  (yX12_claim, (cX12_claim, (4, ((some .int), [])))),
  (yX12_pool, (cX12_pool, (1, ((some .int), [])))),
  (yX12_day, (cX12_day, (1, ((some .int), [])))),
  (yX12_money, (cX12_money, (2, ((some .int), [])))),
  (yX12_chips, (cX12_chips, (2, ((some .int), [])))),
  (yX12_isBarred, (cX12_isBarred, (2, ((some .boolean), [])))),
  (yX12_staked, (cX12_staked, (2, ((some .int), [])))),
  (yX12_reports, (cX12_reports, (2, ((some .int), [])))),
  (yX12_tray, (cX12_tray, (2, ((some .int), [])))),
  (yX12_vault, (cX12_vault, (1, ((some .int), [])))),
  (yX12_power, (cX12_power, (6, ((some .long), [])))),
  (yX12_ruin, (cX12_ruin, (8, ((some .long), [])))),
  (yX12_ruinOver, (cX12_ruinOver, (3, ((some .long), [])))),
  (yX12_ruinUnder, (cX12_ruinUnder, (3, ((some .long), [])))),
  (yX12_checksum, (cX12_checksum, (7, ((some .long), [])))),
  (yX12_vaultBits, (cX12_vaultBits, (1, ((some .int), [])))),
  (yX12_barredShare, (cX12_barredShare, (3, ((some .float), [])))),
  (yX12_meanChips, (cX12_meanChips, (3, ((some .double), [])))),
  (yX12_isSound, (cX12_isSound, (1, ((some .boolean), [])))),
  (yJxf58ca_isNaN_12338, (cJxf58ca_isNaN_12338, (1, ((some .boolean), [])))),
  (yJxf58ca_floatToIntBits_5c35a, (cJxf58ca_floatToIntBits_5c35a, (1, ((some .int), [])))),
  (yJ6_bitCount_0f7a4, (cJ6_bitCount_0f7a4, (1, ((some .int), [])))),
  (yJ9_floorMod_7cf53, (cJ9_floorMod_7cf53, (3, ((some .int), [])))),
  (yJ9_max_7cf53, (cJ9_max_7cf53, (2, ((some .int), [])))),
  (yJ9_min_7cf53, (cJ9_min_7cf53, (2, ((some .int), [])))),
  (yJ7_fill_53178, (cJ7_fill_53178, (4, (none, [])))),
  (yL_guest, (cL_guest, (4, ((some .int), [(0, 9, 12, 13), (0, 9, 15, 15)])))),
  (yL_buyIn, (cL_buyIn, (5, ((some .int), [(0, 10, 13, 21), (0, 10, 17, 13), (0, 10, 21, 23)])))),
  (yL_cashOut, (cL_cashOut, (5, ((some .int), [(0, 10, 13, 21), (0, 10, 17, 13), (0, 10, 21, 23)])))),
  (yL_limit, (cL_limit, (5, ((some .int), [(0, 10, 13, 21), (0, 10, 17, 13)])))),
  (yL_bar, (cL_bar, (5, ((some .int), [(0, 10, 13, 21), (0, 10, 17, 13)])))),
  (yL_pass, (cL_pass, (4, ((some .int), [(0, 9, 12, 13), (0, 9, 15, 15)])))),
  (yL_fill, (cL_fill, (5, ((some .int), [(0, 10, 13, 21), (0, 10, 17, 13), (0, 10, 21, 23)])))),
  (yL_credit, (cL_credit, (5, ((some .int), [(0, 10, 13, 21), (0, 10, 17, 13), (0, 10, 21, 23)])))),
  (yL_win, (cL_win, (4, ((some .int), [(0, 9, 12, 21)])))),
  (yL_rule, (cL_rule, (5, ((some .int), [(0, 17, 20, 13), (0, 17, 24, 15)])))),
  (yL_lay, (cL_lay, (4, ((some .int), [(0, 9, 12, 13), (0, 9, 15, 15)])))),
  (yL_cut, (cL_cut, (4, ((some .int), [(0, 9, 12, 13), (0, 9, 15, 15)])))),
  (yL_riffle, (cL_riffle, (4, ((some .int), [(0, 9, 12, 23), (0, 9, 15, 15)])))),
  (yL_bet, (cL_bet, (6, ((some .int), [(0, 12, 15, 21), (0, 12, 19, 13), (0, 12, 23, 23), (0, 12, 27, 15)])))),
  (yL_deal, (cL_deal, (3, ((some .int), [(0, 8, 11, 23), (0, 8, 14, 15)])))),
  (yL_hit, (cL_hit, (4, ((some .int), [(0, 9, 12, 21), (0, 9, 15, 15), (0, 9, 18, 23)])))),
  (yL_stand, (cL_stand, (4, ((some .int), [(0, 9, 12, 21), (0, 9, 15, 15), (0, 9, 18, 23)])))),
  (yL_twice, (cL_twice, (4, ((some .int), [(0, 9, 12, 21), (0, 9, 15, 15), (0, 9, 18, 23)])))),
  (yL_split, (cL_split, (4, ((some .int), [(0, 9, 12, 21), (0, 9, 15, 15), (0, 9, 18, 23)])))),
  (yL_surrender, (cL_surrender, (4, ((some .int), [(0, 9, 12, 21), (0, 9, 15, 15), (0, 9, 18, 23)])))),
  (yL_cardAt, (cL_cardAt, (6, ((some .int), [(0, 12, 15, 21), (0, 12, 19, 86)])))),
  (yL_dealerAt, (cL_dealerAt, (4, ((some .int), [(0, 9, 12, 86)])))),
  (yL_turn, (cL_turn, (3, ((some .int), [(0, 8, 11, 15)])))),
  (yL_left, (cL_left, (4, ((some .int), [(0, 9, 12, 13)])))),
  (yL_bustOver, (cL_bustOver, (4, ((some .int), [(0, 8, 11, 13), (0, 8, 14, 101)])))),
  (yL_bustUnder, (cL_bustUnder, (4, ((some .int), [(0, 8, 11, 13), (0, 8, 14, 101)])))),
  (yL_dealerEnds, (cL_dealerEnds, (4, ((some .int), [(0, 8, 11, 13), (0, 8, 14, 15)])))),
  (yL_weigh, (cL_weigh, (5, ((some .int), [(0, 10, 13, 13)])))),
  (yL_trueCount, (cL_trueCount, (3, ((some .int), [(0, 8, 11, 101)])))),
  (yL_isSuspected, (cL_isSuspected, (4, ((some .int), [(0, 16, 19, 21)])))),
  (yL_wager, (cL_wager, (7, ((some .int), [(0, 14, 17, 21), (0, 14, 21, 13), (0, 14, 25, 23), (0, 14, 29, 15)])))),
  (yL_spin, (cL_spin, (4, ((some .int), [(0, 9, 12, 13)])))),
  (yL_stops, (cL_stops, (5, ((some .int), [(0, 10, 13, 21), (0, 10, 17, 13), (0, 10, 21, 15)])))),
  (yL_pays, (cL_pays, (5, ((some .int), [(0, 10, 13, 13), (0, 10, 17, 15)])))),
  (yL_bound, (cL_bound, (4, ((some .int), [(0, 9, 12, 13), (0, 9, 15, 15)])))),
  (yL_pull, (cL_pull, (5, ((some .int), [(0, 10, 13, 21), (0, 10, 17, 13), (0, 10, 21, 23), (0, 10, 25, 15)])))),
  (yL_stop, (cL_stop, (4, ((some .int), [(0, 9, 12, 13), (0, 9, 15, 15)])))),
  (yL_tilt, (cL_tilt, (3, ((some .int), [(0, 8, 11, 15)])))),
  (yL_recover, (cL_recover, (3, ((some .int), [(0, 8, 11, 15)])))),
  (yL_ticket, (cL_ticket, (5, ((some .int), [(0, 10, 13, 21), (0, 10, 17, 13), (0, 10, 21, 23), (0, 10, 25, 15)])))),
  (yL_draw, (cL_draw, (4, ((some .int), [(0, 9, 12, 13)])))),
  (yL_confirm, (cL_confirm, (3, ((some .int), [(0, 8, 11, 15)])))),
  (yL_claim, (cL_claim, (4, ((some .int), [(0, 9, 12, 21), (0, 9, 15, 86)])))),
  (yL_money, (cL_money, (4, ((some .int), [(0, 9, 12, 21)])))),
  (yL_chips, (cL_chips, (4, ((some .int), [(0, 9, 12, 21)])))),
  (yL_isBarred, (cL_isBarred, (4, ((some .int), [(0, 16, 19, 21)])))),
  (yL_staked, (cL_staked, (4, ((some .int), [(0, 9, 12, 21)])))),
  (yL_reports, (cL_reports, (4, ((some .int), [(0, 9, 12, 21)])))),
  (yL_tray, (cL_tray, (4, ((some .int), [(0, 9, 12, 21)])))),
  (yL_ruinOver, (cL_ruinOver, (5, ((some .int), [(0, 9, 12, 13)])))),
  (yL_ruinUnder, (cL_ruinUnder, (5, ((some .int), [(0, 9, 12, 13)])))),
  (yL_barredShare, (cL_barredShare, (3, ((some .int), [(0, 8, 11, 101)])))),
  (yL_meanChips, (cL_meanChips, (3, ((some .int), [(0, 7, 10, 101)]))))]
def zMMl : List zm_M := zMM0 ++ [(yL_law, (cL_law, (9, (ret, []))))]
def zMM (m : Nat) : zm_M := zMMl.getD m (yL_law, (cL_law, (9, (ret, []))))
def znA9 : Nat → FieldType
  | 0 => .int
  | 1 => .long
  | 2 => .double
  | 3 => .char
  | _ => .boolean
def zcn (c : Nat) : String := (zk_cl.getD c (RX0, TX0, 10)).1
def zxn : Nat → String
  | 0 => "java/lang/IllegalArgumentException"
  | 1 => "java/lang/IllegalStateException"
  | 2 => "java/lang/IndexOutOfBoundsException"
  | 3 => "java/lang/UnsupportedOperationException"
  | 4 => "java/util/NoSuchElementException"
  | _ => "java/lang/ArithmeticException"
abbrev zI0 : Type := Nat × (Nat × (Nat × (Nat × Int)))
abbrev zb_0_0 : List zI0 := [(0, 0, 1, 0, 0), (108, 0, 0, 0, 1), (0, 0, 1, 0, 0), (3, 0, 0, 0, 3), (59, 6, 0, 0, 0), (13, 0, 2, 0, 2), (0, 0, 1, 0, 0), (57, 3, 7, 1, 0), (47, 0, 0, 0, 0), (7, 33, 0, 3, 0), (13, 0, 3, 1, 3), (0, 0, 1, 0, 0), (0, 1, 1, 0, 0), (13, 0, 0, 2, 0), (0, 0, 1, 0, 0), (0, 2, 1, 0, 0), (13, 0, 1, 3, 1), (3, 0, 0, 0, 0), (30, 3, 1, 0, 0), (111, 1, 0, 0, 0)]
abbrev zb_0_1 : List zI0 := [(4, 3, 1, 0, 0), (0, 0, 1, 0, 0), (2, 0, 2, 0, 2), (36, 0, 0, 0, 0), (23, 2, 0, 0, 0), (0, 0, 1, 0, 0), (2, 0, 2, 0, 2), (4, 3, 1, 0, 0), (57, 6, 4, 2, 0), (47, 0, 0, 0, 0), (7, 68, 0, 6, 1), (62, 0, 0, 0, 0), (32, 3, 0, 0, 1), (10, 1, 0, 0, 0)]
abbrev zb_0_2 : List zI0 := [(50, 0, 0, 0, 0)]
abbrev zc_0 : List (List zI0) := [zb_0_0, zb_0_1, zb_0_2]
abbrev zb_1_0 : List zI0 := [(4, 1, 1, 0, 0), (3, 1, 0, 0, 100), (21, 1, 0, 0, 0), (0, 0, 1, 0, 0), (1, 0, 5, 4, 5), (30, 3, 1, 0, 0), (0, 0, 1, 0, 0), (4, 2, 1, 0, 0), (12, 0, 5, 4, 5), (10, 4, 0, 0, 0)]
abbrev zb_1_1 : List zI0 := [(4, 1, 1, 0, 0), (3, 1, 0, 0, 117), (21, 2, 0, 0, 0), (0, 0, 1, 0, 0), (1, 0, 6, 5, 6), (30, 3, 1, 0, 0), (0, 0, 1, 0, 0), (4, 2, 1, 0, 0), (12, 0, 6, 5, 6), (10, 4, 0, 0, 0)]
abbrev zb_1_2 : List zI0 := [(4, 1, 1, 0, 0), (3, 1, 0, 0, 115), (21, 3, 0, 0, 0), (0, 0, 1, 0, 0), (1, 0, 7, 6, 7), (30, 3, 1, 0, 0), (0, 0, 1, 0, 0), (4, 2, 1, 0, 0), (12, 0, 7, 6, 7), (10, 4, 0, 0, 0)]
abbrev zb_1_3 : List zI0 := [(0, 0, 1, 0, 0), (1, 0, 8, 7, 8), (30, 3, 1, 0, 0), (0, 0, 1, 0, 0), (4, 2, 1, 0, 0), (12, 0, 8, 7, 8), (111, 4, 0, 0, 0)]
abbrev zb_1_4 : List zI0 := [(4, 3, 1, 0, 0), (9, 0, 0, 0, 0)]
abbrev zc_1 : List (List zI0) := [zb_1_0, zb_1_1, zb_1_2, zb_1_3, zb_1_4]
abbrev zb_2_0 : List zI0 := [(0, 0, 1, 0, 0), (2, 0, 2, 0, 2), (31, 1, 1, 0, 0), (0, 1, 1, 0, 0), (36, 0, 0, 0, 0), (30, 2, 1, 0, 0), (3, 0, 0, 0, 0), (30, 3, 1, 0, 0), (111, 1, 0, 0, 0)]
abbrev zb_2_1 : List zI0 := [(4, 3, 1, 0, 0), (4, 2, 1, 0, 0), (23, 3, 0, 0, 0), (0, 1, 1, 0, 0), (4, 3, 1, 0, 0), (34, 0, 0, 0, 0), (31, 4, 0, 0, 0), (0, 4, 0, 0, 0), (6, 69, 0, 6, 2), (14, 2, 0, 0, 0), (3, 0, 0, 0, 1), (9, 0, 0, 0, 0)]
abbrev zb_2_2 : List zI0 := [(32, 3, 0, 0, 1), (10, 1, 0, 0, 0)]
abbrev zb_2_3 : List zI0 := [(3, 0, 0, 0, 0), (9, 0, 0, 0, 0)]
abbrev zc_2 : List (List zI0) := [zb_2_0, zb_2_1, zb_2_2, zb_2_3]
abbrev zb_3_0 : List zI0 := [(3, 0, 0, 0, 0), (30, 2, 1, 0, 0), (0, 0, 1, 0, 0), (2, 0, 2, 0, 2), (31, 3, 1, 0, 0), (0, 3, 1, 0, 0), (36, 0, 0, 0, 0), (30, 4, 0, 0, 0), (3, 0, 0, 0, 0), (30, 5, 0, 0, 0), (111, 1, 0, 0, 0)]
abbrev zb_3_1 : List zI0 := [(4, 5, 0, 0, 0), (4, 4, 0, 0, 0), (23, 3, 0, 0, 0), (0, 3, 1, 0, 0), (4, 5, 0, 0, 0), (34, 0, 0, 0, 0), (31, 6, 0, 0, 0), (0, 6, 0, 0, 0), (2, 6, 2, 8, 2), (0, 1, 1, 0, 0), (29, 2, 0, 0, 0), (4, 2, 1, 0, 0), (0, 6, 0, 0, 0), (6, 70, 0, 6, 3), (37, 0, 0, 0, 0), (30, 2, 1, 0, 0), (111, 2, 0, 0, 0)]
abbrev zb_3_2 : List zI0 := [(32, 5, 0, 0, 1), (10, 1, 0, 0, 0)]
abbrev zb_3_3 : List zI0 := [(4, 2, 1, 0, 0), (8, 0, 0, 0, 0)]
abbrev zc_3 : List (List zI0) := [zb_3_0, zb_3_1, zb_3_2, zb_3_3]
abbrev zb_4_0 : List zI0 := [(3, 0, 0, 0, 0), (30, 2, 1, 0, 0), (0, 0, 1, 0, 0), (2, 0, 2, 0, 2), (31, 3, 1, 0, 0), (0, 3, 1, 0, 0), (36, 0, 0, 0, 0), (30, 4, 0, 0, 0), (3, 0, 0, 0, 0), (30, 5, 0, 0, 0), (111, 1, 0, 0, 0)]
abbrev zb_4_1 : List zI0 := [(4, 5, 0, 0, 0), (4, 4, 0, 0, 0), (23, 3, 0, 0, 0), (0, 3, 1, 0, 0), (4, 5, 0, 0, 0), (34, 0, 0, 0, 0), (31, 6, 0, 0, 0), (0, 6, 0, 0, 0), (2, 6, 2, 8, 2), (0, 1, 1, 0, 0), (29, 2, 0, 0, 0), (4, 2, 1, 0, 0), (0, 6, 0, 0, 0), (0, 0, 1, 0, 0), (1, 0, 4, 9, 4), (6, 79, 1, 6, 4), (37, 0, 0, 0, 0), (30, 2, 1, 0, 0), (111, 2, 0, 0, 0)]
abbrev zb_4_2 : List zI0 := [(32, 5, 0, 0, 1), (10, 1, 0, 0, 0)]
abbrev zb_4_3 : List zI0 := [(4, 2, 1, 0, 0), (8, 0, 0, 0, 0)]
abbrev zc_4 : List (List zI0) := [zb_4_0, zb_4_1, zb_4_2, zb_4_3]
abbrev zb_5_0 : List zI0 := [(0, 0, 1, 0, 0), (2, 0, 2, 0, 2), (31, 1, 1, 0, 0), (0, 1, 1, 0, 0), (36, 0, 0, 0, 0), (30, 2, 1, 0, 0), (3, 0, 0, 0, 0), (30, 3, 1, 0, 0), (111, 1, 0, 0, 0)]
abbrev zb_5_1 : List zI0 := [(4, 3, 1, 0, 0), (4, 2, 1, 0, 0), (23, 2, 0, 0, 0), (0, 1, 1, 0, 0), (4, 3, 1, 0, 0), (34, 0, 0, 0, 0), (31, 4, 0, 0, 0), (0, 4, 0, 0, 0), (6, 77, 0, 6, 5), (32, 3, 0, 0, 1), (10, 1, 0, 0, 0)]
abbrev zb_5_2 : List zI0 := [(0, 0, 1, 0, 0), (2, 0, 3, 1, 3), (6, 35, 0, 3, 6), (50, 0, 0, 0, 0)]
abbrev zc_5 : List (List zI0) := [zb_5_0, zb_5_1, zb_5_2]
abbrev zb_6_0 : List zI0 := [(3, 0, 0, 0, 0), (30, 1, 1, 0, 0), (111, 1, 0, 0, 0)]
abbrev zb_6_1 : List zI0 := [(4, 1, 1, 0, 0), (0, 0, 1, 0, 0), (2, 0, 2, 0, 2), (36, 0, 0, 0, 0), (23, 3, 0, 0, 0), (0, 0, 1, 0, 0), (2, 0, 2, 0, 2), (4, 1, 1, 0, 0), (34, 0, 0, 0, 0), (6, 73, 0, 6, 7), (26, 2, 0, 0, 0), (4, 1, 1, 0, 0), (8, 0, 0, 0, 0)]
abbrev zb_6_2 : List zI0 := [(32, 1, 0, 0, 1), (10, 1, 0, 0, 0)]
abbrev zb_6_3 : List zI0 := [(3, 0, 0, 0, (-1)), (8, 0, 0, 0, 0)]
abbrev zc_6 : List (List zI0) := [zb_6_0, zb_6_1, zb_6_2, zb_6_3]
abbrev zb_7_0 : List zI0 := [(0, 0, 1, 0, 0), (6, 5, 0, 0, 8), (0, 0, 1, 0, 0), (3, 0, 0, 0, 1), (12, 0, 4, 9, 4), (0, 0, 1, 0, 0), (6, 8, 0, 0, 9), (0, 0, 1, 0, 0), (2, 0, 3, 1, 3), (0, 0, 1, 0, 0), (2, 0, 0, 2, 0), (6, 90, 0, 7, 10), (6, 34, 1, 3, 11), (0, 0, 1, 0, 0), (6, 8, 0, 0, 9), (0, 0, 1, 0, 0), (2, 0, 3, 1, 3), (0, 0, 1, 0, 0), (2, 0, 0, 2, 0), (6, 91, 0, 7, 12), (6, 34, 1, 3, 11), (0, 0, 1, 0, 0), (2, 0, 2, 0, 2), (31, 1, 1, 0, 0), (0, 1, 1, 0, 0), (36, 0, 0, 0, 0), (30, 2, 1, 0, 0), (3, 0, 0, 0, 0), (30, 3, 1, 0, 0), (111, 1, 0, 0, 0)]
abbrev zb_7_1 : List zI0 := [(4, 3, 1, 0, 0), (4, 2, 1, 0, 0), (23, 4, 0, 0, 0), (0, 1, 1, 0, 0), (4, 3, 1, 0, 0), (34, 0, 0, 0, 0), (31, 4, 0, 0, 0), (0, 4, 0, 0, 0), (2, 6, 0, 10, 0), (0, 4, 0, 0, 0), (6, 70, 0, 6, 3), (19, 2, 0, 0, 0), (0, 4, 0, 0, 0), (6, 75, 0, 6, 13), (15, 2, 0, 0, 0), (0, 0, 1, 0, 0), (2, 0, 3, 1, 3), (6, 40, 0, 3, 14), (15, 2, 0, 0, 0), (3, 0, 0, 0, 1), (10, 3, 0, 0, 0)]
abbrev zb_7_2 : List zI0 := [(3, 0, 0, 0, 0), (111, 3, 0, 0, 0)]
abbrev zb_7_3 : List zI0 := [(12, 3, 5, 11, 5), (32, 3, 0, 0, 1), (10, 1, 0, 0, 0)]
abbrev zb_7_4 : List zI0 := [(0, 0, 1, 0, 0), (2, 0, 3, 1, 3), (3, 0, 0, 0, 0), (6, 36, 1, 3, 15), (8, 0, 0, 0, 0)]
abbrev zc_7 : List (List zI0) := [zb_7_0, zb_7_1, zb_7_2, zb_7_3, zb_7_4]
abbrev zb_8_0 : List zI0 := [(0, 0, 1, 0, 0), (2, 0, 2, 0, 2), (31, 1, 1, 0, 0), (0, 1, 1, 0, 0), (36, 0, 0, 0, 0), (30, 2, 1, 0, 0), (3, 0, 0, 0, 0), (30, 3, 1, 0, 0), (111, 1, 0, 0, 0)]
abbrev zb_8_1 : List zI0 := [(4, 3, 1, 0, 0), (4, 2, 1, 0, 0), (23, 3, 0, 0, 0), (0, 1, 1, 0, 0), (4, 3, 1, 0, 0), (34, 0, 0, 0, 0), (31, 4, 0, 0, 0), (0, 4, 0, 0, 0), (6, 70, 0, 6, 3), (19, 2, 0, 0, 0), (0, 4, 0, 0, 0), (2, 6, 0, 10, 0), (0, 0, 1, 0, 0), (2, 0, 0, 2, 0), (6, 90, 0, 7, 10), (6, 34, 1, 3, 11), (111, 2, 0, 0, 0)]
abbrev zb_8_2 : List zI0 := [(32, 3, 0, 0, 1), (10, 1, 0, 0, 0)]
abbrev zb_8_3 : List zI0 := [(50, 0, 0, 0, 0)]
abbrev zc_8 : List (List zI0) := [zb_8_0, zb_8_1, zb_8_2, zb_8_3]
abbrev zb_9_0 : List zI0 := [(0, 1, 1, 0, 0), (0, 0, 1, 0, 0), (2, 0, 0, 2, 0), (6, 90, 0, 7, 10), (6, 34, 1, 3, 11), (0, 1, 1, 0, 0), (6, 37, 0, 3, 16), (30, 2, 1, 0, 0), (4, 2, 1, 0, 0), (3, 1, 0, 0, 21), (25, 1, 0, 0, 0), (0, 0, 1, 0, 0), (2, 0, 1, 3, 1), (0, 1, 1, 0, 0), (6, 41, 0, 3, 17), (6, 103, 1, 8, 18), (10, 2, 0, 0, 0)]
abbrev zb_9_1 : List zI0 := [(4, 2, 1, 0, 0), (3, 1, 0, 0, 21), (21, 2, 0, 0, 0), (0, 1, 1, 0, 0), (3, 0, 0, 0, 0), (12, 3, 5, 11, 5), (111, 2, 0, 0, 0)]
abbrev zb_9_2 : List zI0 := [(4, 2, 1, 0, 0), (8, 0, 0, 0, 0)]
abbrev zc_9 : List (List zI0) := [zb_9_0, zb_9_1, zb_9_2]
abbrev zb_10_0 : List zI0 := [(0, 2, 1, 0, 0), (6, 41, 0, 3, 17), (30, 3, 1, 0, 0), (4, 3, 1, 0, 0), (3, 0, 0, 0, 2), (40, 0, 0, 0, 0), (30, 4, 0, 0, 0), (0, 0, 1, 0, 0), (2, 0, 1, 3, 1), (4, 3, 1, 0, 0), (4, 4, 0, 0, 0), (38, 0, 0, 0, 0), (6, 103, 1, 8, 18), (0, 1, 1, 0, 0), (2, 6, 2, 8, 2), (26, 1, 0, 0, 0), (0, 1, 1, 0, 0), (2, 6, 2, 8, 2), (47, 0, 0, 0, 0), (1, 2, 2, 12, 2), (4, 4, 0, 0, 0), (37, 0, 0, 0, 0), (11, 2, 2, 12, 2), (111, 1, 0, 0, 0)]
abbrev zb_10_1 : List zI0 := [(4, 4, 0, 0, 0), (8, 0, 0, 0, 0)]
abbrev zc_10 : List (List zI0) := [zb_10_0, zb_10_1]
abbrev zb_11_0 : List zI0 := [(0, 0, 1, 0, 0), (1, 0, 4, 9, 4), (14, 1, 0, 0, 0), (0, 0, 1, 0, 0), (6, 6, 0, 0, 19), (16, 2, 0, 0, 0), (111, 1, 0, 0, 0)]
abbrev zb_11_1 : List zI0 := [(50, 0, 0, 0, 0)]
abbrev zb_11_2 : List zI0 := [(0, 0, 1, 0, 0), (2, 0, 0, 2, 0), (6, 92, 0, 7, 20), (0, 0, 1, 0, 0), (6, 12, 0, 0, 21), (0, 0, 1, 0, 0), (2, 0, 2, 0, 2), (31, 1, 1, 0, 0), (0, 1, 1, 0, 0), (36, 0, 0, 0, 0), (30, 2, 1, 0, 0), (3, 0, 0, 0, 0), (30, 3, 1, 0, 0), (111, 3, 0, 0, 0)]
abbrev zb_11_3 : List zI0 := [(4, 3, 1, 0, 0), (4, 2, 1, 0, 0), (23, 4, 0, 0, 0), (0, 1, 1, 0, 0), (4, 3, 1, 0, 0), (34, 0, 0, 0, 0), (31, 4, 0, 0, 0), (0, 0, 1, 0, 0), (0, 4, 0, 0, 0), (0, 4, 0, 0, 0), (2, 6, 0, 10, 0), (6, 14, 2, 0, 22), (0, 0, 1, 0, 0), (0, 4, 0, 0, 0), (0, 4, 0, 0, 0), (2, 6, 1, 13, 1), (6, 14, 2, 0, 22), (0, 4, 0, 0, 0), (6, 78, 0, 6, 23), (32, 3, 0, 0, 1), (10, 3, 0, 0, 0)]
abbrev zb_11_4 : List zI0 := [(0, 0, 1, 0, 0), (3, 0, 0, 0, 0), (12, 0, 4, 9, 4), (50, 0, 0, 0, 0)]
abbrev zc_11 : List (List zI0) := [zb_11_0, zb_11_1, zb_11_2, zb_11_3, zb_11_4]
abbrev zb_12_0 : List zI0 := [(3, 0, 0, 0, 0), (30, 1, 1, 0, 0), (0, 0, 1, 0, 0), (2, 0, 2, 0, 2), (31, 2, 1, 0, 0), (0, 2, 1, 0, 0), (36, 0, 0, 0, 0), (30, 3, 1, 0, 0), (3, 0, 0, 0, 0), (30, 4, 0, 0, 0), (111, 1, 0, 0, 0)]
abbrev zb_12_1 : List zI0 := [(4, 4, 0, 0, 0), (4, 3, 1, 0, 0), (23, 5, 0, 0, 0), (0, 2, 1, 0, 0), (4, 4, 0, 0, 0), (34, 0, 0, 0, 0), (31, 5, 0, 0, 0), (4, 1, 1, 0, 0), (15, 2, 0, 0, 0), (0, 5, 0, 0, 0), (6, 76, 0, 6, 24), (14, 3, 0, 0, 0), (111, 2, 0, 0, 0)]
abbrev zb_12_2 : List zI0 := [(3, 0, 0, 0, 1), (10, 4, 0, 0, 0)]
abbrev zb_12_3 : List zI0 := [(3, 0, 0, 0, 0), (111, 4, 0, 0, 0)]
abbrev zb_12_4 : List zI0 := [(30, 1, 1, 0, 0), (32, 4, 0, 0, 1), (10, 1, 0, 0, 0)]
abbrev zb_12_5 : List zI0 := [(3, 0, 0, 0, 0), (30, 2, 1, 0, 0), (111, 6, 0, 0, 0)]
abbrev zb_12_6 : List zI0 := [(4, 2, 1, 0, 0), (3, 1, 0, 0, 104), (23, 7, 0, 0, 0), (4, 1, 1, 0, 0), (14, 7, 0, 0, 0), (0, 0, 1, 0, 0), (6, 13, 0, 0, 25), (14, 7, 0, 0, 0), (0, 0, 1, 0, 0), (2, 0, 0, 2, 0), (6, 82, 0, 7, 26), (19, 7, 0, 0, 0), (0, 0, 1, 0, 0), (2, 0, 3, 1, 3), (0, 0, 1, 0, 0), (2, 0, 0, 2, 0), (6, 90, 0, 7, 10), (6, 34, 1, 3, 11), (32, 2, 0, 0, 1), (10, 6, 0, 0, 0)]
abbrev zb_12_7 : List zI0 := [(50, 0, 0, 0, 0)]
abbrev zc_12 : List (List zI0) := [zb_12_0, zb_12_1, zb_12_2, zb_12_3, zb_12_4, zb_12_5, zb_12_6, zb_12_7]
abbrev zb_13_0 : List zI0 := [(0, 0, 1, 0, 0), (2, 0, 3, 1, 3), (6, 37, 0, 3, 16), (30, 1, 1, 0, 0), (4, 1, 1, 0, 0), (3, 1, 0, 0, 17), (22, 1, 0, 0, 0), (4, 1, 1, 0, 0), (3, 1, 0, 0, 17), (21, 2, 0, 0, 0), (0, 0, 1, 0, 0), (1, 0, 7, 6, 7), (14, 2, 0, 0, 0), (0, 0, 1, 0, 0), (2, 0, 3, 1, 3), (6, 38, 0, 3, 27), (14, 2, 0, 0, 0), (111, 1, 0, 0, 0)]
abbrev zb_13_1 : List zI0 := [(3, 0, 0, 0, 1), (10, 3, 0, 0, 0)]
abbrev zb_13_2 : List zI0 := [(3, 0, 0, 0, 0), (111, 3, 0, 0, 0)]
abbrev zb_13_3 : List zI0 := [(9, 0, 0, 0, 0)]
abbrev zc_13 : List (List zI0) := [zb_13_0, zb_13_1, zb_13_2, zb_13_3]
abbrev zb_14_0 : List zI0 := [(0, 1, 1, 0, 0), (2, 6, 2, 8, 2), (31, 3, 1, 0, 0), (0, 3, 1, 0, 0), (26, 1, 0, 0, 0), (0, 2, 1, 0, 0), (1, 3, 4, 14, 4), (15, 2, 0, 0, 0), (111, 1, 0, 0, 0)]
abbrev zb_14_1 : List zI0 := [(50, 0, 0, 0, 0)]
abbrev zb_14_2 : List zI0 := [(0, 0, 1, 0, 0), (0, 1, 1, 0, 0), (0, 2, 1, 0, 0), (6, 15, 2, 0, 28), (30, 4, 0, 0, 0), (0, 2, 1, 0, 0), (6, 41, 0, 3, 17), (30, 5, 0, 0, 0), (4, 4, 0, 0, 0), (17, 3, 0, 0, 0), (0, 0, 1, 0, 0), (2, 0, 1, 3, 1), (4, 5, 0, 0, 0), (6, 103, 1, 8, 18), (10, 4, 0, 0, 0)]
abbrev zb_14_3 : List zI0 := [(0, 0, 1, 0, 0), (2, 0, 1, 3, 1), (4, 4, 0, 0, 0), (6, 104, 1, 8, 29), (0, 3, 1, 0, 0), (47, 0, 0, 0, 0), (1, 2, 2, 12, 2), (4, 5, 0, 0, 0), (4, 4, 0, 0, 0), (37, 0, 0, 0, 0), (37, 0, 0, 0, 0), (11, 2, 2, 12, 2), (111, 4, 0, 0, 0)]
abbrev zb_14_4 : List zI0 := [(50, 0, 0, 0, 0)]
abbrev zc_14 : List (List zI0) := [zb_14_0, zb_14_1, zb_14_2, zb_14_3, zb_14_4]
abbrev zb_15_0 : List zI0 := [(0, 1, 1, 0, 0), (6, 75, 0, 6, 13), (14, 3, 0, 0, 0), (0, 0, 1, 0, 0), (2, 0, 3, 1, 3), (6, 40, 0, 3, 14), (14, 1, 0, 0, 0), (3, 0, 0, 0, 0), (10, 2, 0, 0, 0)]
abbrev zb_15_1 : List zI0 := [(0, 0, 1, 0, 0), (0, 2, 1, 0, 0), (1, 3, 4, 14, 4), (6, 16, 1, 0, 30), (111, 2, 0, 0, 0)]
abbrev zb_15_2 : List zI0 := [(8, 0, 0, 0, 0)]
abbrev zb_15_3 : List zI0 := [(0, 2, 1, 0, 0), (6, 37, 0, 3, 16), (30, 3, 1, 0, 0), (0, 0, 1, 0, 0), (2, 0, 3, 1, 3), (6, 37, 0, 3, 16), (30, 4, 0, 0, 0), (4, 4, 0, 0, 0), (3, 1, 0, 0, 21), (24, 4, 0, 0, 0), (4, 3, 1, 0, 0), (4, 4, 0, 0, 0), (25, 5, 0, 0, 0), (111, 4, 0, 0, 0)]
abbrev zb_15_4 : List zI0 := [(0, 2, 1, 0, 0), (1, 3, 4, 14, 4), (8, 0, 0, 0, 0)]
abbrev zb_15_5 : List zI0 := [(4, 3, 1, 0, 0), (4, 4, 0, 0, 0), (21, 6, 0, 0, 0), (3, 0, 0, 0, 0), (10, 7, 0, 0, 0)]
abbrev zb_15_6 : List zI0 := [(3, 0, 0, 0, (-1)), (111, 7, 0, 0, 0)]
abbrev zb_15_7 : List zI0 := [(8, 0, 0, 0, 0)]
abbrev zc_15 : List (List zI0) := [zb_15_0, zb_15_1, zb_15_2, zb_15_3, zb_15_4, zb_15_5, zb_15_6, zb_15_7]
abbrev zb_16_0 : List zI0 := [(0, 0, 1, 0, 0), (1, 0, 8, 7, 8), (14, 1, 0, 0, 0), (0, 0, 1, 0, 0), (47, 0, 0, 0, 0), (1, 0, 9, 15, 9), (4, 1, 1, 0, 0), (3, 1, 0, 0, 6), (39, 0, 0, 0, 0), (3, 0, 0, 0, 5), (41, 0, 0, 0, 0), (3, 0, 0, 0, 2), (39, 0, 0, 0, 0), (37, 0, 0, 0, 0), (11, 0, 9, 15, 9), (4, 1, 1, 0, 0), (3, 1, 0, 0, 6), (39, 0, 0, 0, 0), (3, 0, 0, 0, 5), (40, 0, 0, 0, 0), (8, 0, 0, 0, 0)]
abbrev zb_16_1 : List zI0 := [(0, 0, 1, 0, 0), (47, 0, 0, 0, 0), (1, 0, 9, 15, 9), (4, 1, 1, 0, 0), (3, 0, 0, 0, 3), (39, 0, 0, 0, 0), (3, 0, 0, 0, 2), (41, 0, 0, 0, 0), (3, 0, 0, 0, 5), (39, 0, 0, 0, 0), (37, 0, 0, 0, 0), (11, 0, 9, 15, 9), (4, 1, 1, 0, 0), (3, 0, 0, 0, 3), (39, 0, 0, 0, 0), (3, 0, 0, 0, 2), (40, 0, 0, 0, 0), (8, 0, 0, 0, 0)]
abbrev zc_16 : List (List zI0) := [zb_16_0, zb_16_1]
abbrev zb_17_0 : List zI0 := [(0, 0, 1, 0, 0), (108, 0, 0, 0, 3), (0, 0, 1, 0, 0), (3, 1, 0, 0, 11), (58, 0, 0, 0, 0), (13, 1, 0, 16, 0), (50, 0, 0, 0, 0)]
abbrev zc_17 : List (List zI0) := [zb_17_0]
abbrev zb_18_0 : List zI0 := [(3, 0, 0, 0, 0), (30, 3, 1, 0, 0), (3, 0, 0, 0, 1), (30, 4, 0, 0, 0), (111, 1, 0, 0, 0)]
abbrev zb_18_1 : List zI0 := [(4, 4, 0, 0, 0), (0, 0, 1, 0, 0), (2, 1, 0, 16, 0), (36, 0, 0, 0, 0), (23, 2, 0, 0, 0), (0, 0, 1, 0, 0), (2, 1, 0, 16, 0), (4, 4, 0, 0, 0), (0, 2, 1, 0, 0), (2, 0, 0, 17, 0), (4, 4, 0, 0, 0), (6, 93, 1, 7, 31), (35, 0, 0, 0, 0), (4, 3, 1, 0, 0), (0, 0, 1, 0, 0), (2, 1, 0, 16, 0), (4, 4, 0, 0, 0), (33, 0, 0, 0, 0), (37, 0, 0, 0, 0), (30, 3, 1, 0, 0), (32, 4, 0, 0, 1), (10, 1, 0, 0, 0)]
abbrev zb_18_2 : List zI0 := [(0, 0, 1, 0, 0), (4, 1, 1, 0, 0), (11, 1, 1, 18, 1), (0, 0, 1, 0, 0), (0, 2, 1, 0, 0), (1, 0, 7, 19, 7), (12, 1, 2, 20, 2), (0, 2, 1, 0, 0), (2, 0, 3, 21, 3), (3, 0, 0, 0, 0), (6, 36, 1, 3, 32), (30, 4, 0, 0, 0), (0, 0, 1, 0, 0), (4, 4, 0, 0, 0), (4, 4, 0, 0, 0), (3, 0, 0, 0, 1), (21, 3, 0, 0, 0), (3, 0, 0, 0, 1), (10, 4, 0, 0, 0)]
abbrev zb_18_3 : List zI0 := [(3, 0, 0, 0, 0), (111, 4, 0, 0, 0)]
abbrev zb_18_4 : List zI0 := [(4, 3, 1, 0, 0), (3, 0, 0, 0, 1), (5, 19, 5, 0, 33), (53, 0, 0, 0, 0)]
abbrev zc_18 : List (List zI0) := [zb_18_0, zb_18_1, zb_18_2, zb_18_3, zb_18_4]
abbrev zb_19_0 : List zI0 := [(4, 2, 1, 0, 0), (14, 1, 0, 0, 0), (4, 1, 1, 0, 0), (3, 1, 0, 0, 11), (24, 1, 0, 0, 0), (3, 0, 0, 0, 1), (10, 2, 0, 0, 0)]
abbrev zb_19_1 : List zI0 := [(3, 0, 0, 0, 0), (111, 2, 0, 0, 0)]
abbrev zb_19_2 : List zI0 := [(30, 5, 0, 0, 0), (4, 5, 0, 0, 0), (14, 3, 0, 0, 0), (4, 1, 1, 0, 0), (3, 1, 0, 0, 10), (37, 0, 0, 0, 0), (10, 4, 0, 0, 0)]
abbrev zb_19_3 : List zI0 := [(4, 1, 1, 0, 0), (111, 4, 0, 0, 0)]
abbrev zb_19_4 : List zI0 := [(30, 6, 0, 0, 0), (4, 6, 0, 0, 0), (3, 1, 0, 0, 17), (24, 5, 0, 0, 0), (4, 6, 0, 0, 0), (3, 1, 0, 0, 17), (21, 8, 0, 0, 0), (4, 5, 0, 0, 0), (14, 5, 0, 0, 0), (0, 0, 1, 0, 0), (1, 1, 2, 20, 2), (15, 8, 0, 0, 0), (111, 5, 0, 0, 0)]
abbrev zb_19_5 : List zI0 := [(4, 6, 0, 0, 0), (3, 1, 0, 0, 22), (5, 327, 2, 0, 34), (0, 0, 1, 0, 0), (1, 1, 1, 18, 1), (21, 6, 0, 0, 0), (77, 1, 0, 0, 0), (10, 7, 0, 0, 0)]
abbrev zb_19_6 : List zI0 := [(77, 0, 0, 0, 0), (111, 7, 0, 0, 0)]
abbrev zb_19_7 : List zI0 := [(53, 0, 0, 0, 0)]
abbrev zb_19_8 : List zI0 := [(4, 3, 1, 0, 0), (3, 0, 0, 0, 1), (22, 9, 0, 0, 0), (4, 4, 0, 0, 0), (3, 1, 0, 0, 18), (25, 10, 0, 0, 0), (111, 9, 0, 0, 0)]
abbrev zb_19_9 : List zI0 := [(77, 0, 0, 0, 0), (53, 0, 0, 0, 0)]
abbrev zb_19_10 : List zI0 := [(77, 0, 0, 0, 0), (79, 7, 0, 0, 0), (3, 0, 0, 0, 1), (30, 9, 0, 0, 0), (111, 11, 0, 0, 0)]
abbrev zb_19_11 : List zI0 := [(4, 9, 0, 0, 0), (0, 0, 1, 0, 0), (2, 1, 0, 16, 0), (36, 0, 0, 0, 0), (23, 16, 0, 0, 0), (0, 0, 1, 0, 0), (2, 1, 0, 16, 0), (4, 9, 0, 0, 0), (33, 0, 0, 0, 0), (30, 10, 0, 0, 0), (4, 10, 0, 0, 0), (19, 15, 0, 0, 0), (0, 0, 1, 0, 0), (2, 1, 0, 16, 0), (4, 9, 0, 0, 0), (4, 10, 0, 0, 0), (3, 0, 0, 0, 1), (38, 0, 0, 0, 0), (35, 0, 0, 0, 0), (78, 7, 0, 0, 0), (4, 10, 0, 0, 0), (86, 0, 0, 0, 0), (4, 3, 1, 0, 0), (86, 0, 0, 0, 0), (84, 0, 0, 0, 0), (0, 0, 1, 0, 0), (4, 1, 1, 0, 0), (4, 9, 0, 0, 0), (37, 0, 0, 0, 0), (4, 2, 1, 0, 0), (15, 12, 0, 0, 0), (4, 9, 0, 0, 0), (3, 0, 0, 0, 1), (21, 13, 0, 0, 0), (111, 12, 0, 0, 0)]
abbrev zb_19_12 : List zI0 := [(3, 0, 0, 0, 1), (10, 14, 0, 0, 0)]
abbrev zb_19_13 : List zI0 := [(3, 0, 0, 0, 0), (111, 14, 0, 0, 0)]
abbrev zb_19_14 : List zI0 := [(4, 3, 1, 0, 0), (3, 0, 0, 0, 1), (38, 0, 0, 0, 0), (4, 4, 0, 0, 0), (3, 0, 0, 0, 1), (37, 0, 0, 0, 0), (5, 19, 5, 0, 33), (83, 0, 0, 0, 0), (82, 0, 0, 0, 0), (79, 7, 0, 0, 0), (0, 0, 1, 0, 0), (2, 1, 0, 16, 0), (4, 9, 0, 0, 0), (4, 10, 0, 0, 0), (35, 0, 0, 0, 0), (111, 15, 0, 0, 0)]
abbrev zb_19_15 : List zI0 := [(32, 9, 0, 0, 1), (10, 11, 0, 0, 0)]
abbrev zb_19_16 : List zI0 := [(78, 7, 0, 0, 0), (53, 0, 0, 0, 0)]
abbrev zc_19 : List (List zI0) := [zb_19_0, zb_19_1, zb_19_2, zb_19_3, zb_19_4, zb_19_5, zb_19_6, zb_19_7, zb_19_8, zb_19_9, zb_19_10, zb_19_11, zb_19_12, zb_19_13, zb_19_14, zb_19_15, zb_19_16]
abbrev zb_20_0 : List zI0 := [(0, 0, 1, 0, 0), (108, 0, 0, 0, 1), (0, 0, 1, 0, 0), (3, 0, 0, 0, 4), (58, 0, 0, 0, 0), (13, 2, 0, 22, 0), (0, 0, 1, 0, 0), (3, 2, 0, 0, 5000), (11, 2, 3, 23, 3), (0, 0, 1, 0, 0), (3, 2, 0, 0, 5000), (11, 2, 4, 24, 4), (50, 0, 0, 0, 0)]
abbrev zc_20 : List (List zI0) := [zb_20_0]
abbrev zb_21_0 : List zI0 := [(4, 1, 1, 0, 0), (0, 0, 1, 0, 0), (1, 2, 6, 25, 6), (23, 1, 0, 0, 0), (3, 0, 0, 0, 1), (10, 2, 0, 0, 0)]
abbrev zb_21_1 : List zI0 := [(3, 0, 0, 0, 0), (111, 2, 0, 0, 0)]
abbrev zb_21_2 : List zI0 := [(9, 0, 0, 0, 0)]
abbrev zc_21 : List (List zI0) := [zb_21_0, zb_21_1, zb_21_2]
abbrev zb_22_0 : List zI0 := [(0, 0, 1, 0, 0), (4, 2, 1, 0, 0), (6, 21, 1, 2, 35), (15, 1, 0, 0, 0), (4, 1, 1, 0, 0), (0, 0, 1, 0, 0), (1, 2, 2, 26, 2), (24, 1, 0, 0, 0), (0, 0, 1, 0, 0), (1, 2, 5, 27, 5), (4, 1, 1, 0, 0), (37, 0, 0, 0, 0), (0, 0, 1, 0, 0), (1, 2, 3, 23, 3), (24, 1, 0, 0, 0), (3, 0, 0, 0, 1), (10, 2, 0, 0, 0)]
abbrev zb_22_1 : List zI0 := [(3, 0, 0, 0, 0), (111, 2, 0, 0, 0)]
abbrev zb_22_2 : List zI0 := [(9, 0, 0, 0, 0)]
abbrev zc_22 : List (List zI0) := [zb_22_0, zb_22_1, zb_22_2]
abbrev zb_23_0 : List zI0 := [(0, 0, 1, 0, 0), (47, 0, 0, 0, 0), (1, 2, 2, 26, 2), (4, 1, 1, 0, 0), (38, 0, 0, 0, 0), (11, 2, 2, 26, 2), (0, 0, 1, 0, 0), (47, 0, 0, 0, 0), (1, 2, 5, 27, 5), (4, 1, 1, 0, 0), (37, 0, 0, 0, 0), (11, 2, 5, 27, 5), (50, 0, 0, 0, 0)]
abbrev zc_23 : List (List zI0) := [zb_23_0]
abbrev zb_24_0 : List zI0 := [(0, 0, 1, 0, 0), (47, 0, 0, 0, 0), (1, 2, 1, 28, 1), (4, 1, 1, 0, 0), (38, 0, 0, 0, 0), (11, 2, 1, 28, 1), (0, 0, 1, 0, 0), (47, 0, 0, 0, 0), (1, 2, 2, 26, 2), (4, 1, 1, 0, 0), (37, 0, 0, 0, 0), (11, 2, 2, 26, 2), (0, 0, 1, 0, 0), (1, 2, 7, 29, 7), (3, 2, 0, 0, 1000), (23, 1, 0, 0, 0), (0, 0, 1, 0, 0), (1, 2, 7, 29, 7), (4, 1, 1, 0, 0), (37, 0, 0, 0, 0), (3, 2, 0, 0, 1000), (22, 1, 0, 0, 0), (0, 0, 1, 0, 0), (47, 0, 0, 0, 0), (1, 2, 8, 30, 8), (3, 0, 0, 0, 1), (37, 0, 0, 0, 0), (11, 2, 8, 30, 8), (111, 1, 0, 0, 0)]
abbrev zb_24_1 : List zI0 := [(0, 0, 1, 0, 0), (47, 0, 0, 0, 0), (1, 2, 7, 29, 7), (4, 1, 1, 0, 0), (37, 0, 0, 0, 0), (11, 2, 7, 29, 7), (50, 0, 0, 0, 0)]
abbrev zc_24 : List (List zI0) := [zb_24_0, zb_24_1]
abbrev zb_25_0 : List zI0 := [(0, 0, 1, 0, 0), (4, 1, 1, 0, 0), (11, 2, 4, 24, 4), (4, 1, 1, 0, 0), (0, 0, 1, 0, 0), (1, 2, 3, 23, 3), (23, 1, 0, 0, 0), (0, 0, 1, 0, 0), (4, 1, 1, 0, 0), (11, 2, 3, 23, 3), (111, 1, 0, 0, 0)]
abbrev zb_25_1 : List zI0 := [(50, 0, 0, 0, 0)]
abbrev zc_25 : List (List zI0) := [zb_25_0, zb_25_1]
abbrev zb_26_0 : List zI0 := [(0, 0, 1, 0, 0), (0, 0, 1, 0, 0), (1, 2, 4, 24, 4), (11, 2, 3, 23, 3), (0, 0, 1, 0, 0), (3, 0, 0, 0, 0), (11, 2, 5, 27, 5), (0, 0, 1, 0, 0), (3, 0, 0, 0, 0), (11, 2, 7, 29, 7), (50, 0, 0, 0, 0)]
abbrev zc_26 : List (List zI0) := [zb_26_0]
abbrev zb_27_0 : List zI0 := [(4, 2, 1, 0, 0), (14, 1, 0, 0, 0), (0, 0, 1, 0, 0), (47, 0, 0, 0, 0), (1, 2, 9, 31, 9), (3, 0, 0, 0, 1), (37, 0, 0, 0, 0), (11, 2, 9, 31, 9), (0, 0, 1, 0, 0), (47, 0, 0, 0, 0), (1, 2, 10, 32, 10), (4, 1, 1, 0, 0), (37, 0, 0, 0, 0), (11, 2, 10, 32, 10), (10, 2, 0, 0, 0)]
abbrev zb_27_1 : List zI0 := [(0, 0, 1, 0, 0), (47, 0, 0, 0, 0), (1, 2, 11, 33, 11), (3, 0, 0, 0, 1), (37, 0, 0, 0, 0), (11, 2, 11, 33, 11), (0, 0, 1, 0, 0), (47, 0, 0, 0, 0), (1, 2, 12, 34, 12), (4, 1, 1, 0, 0), (37, 0, 0, 0, 0), (11, 2, 12, 34, 12), (111, 2, 0, 0, 0)]
abbrev zb_27_2 : List zI0 := [(50, 0, 0, 0, 0)]
abbrev zc_27 : List (List zI0) := [zb_27_0, zb_27_1, zb_27_2]
abbrev zb_28_0 : List zI0 := [(0, 0, 1, 0, 0), (1, 2, 9, 31, 9), (3, 0, 0, 0, 3), (22, 1, 0, 0, 0), (0, 0, 1, 0, 0), (1, 2, 11, 33, 11), (3, 0, 0, 0, 3), (22, 1, 0, 0, 0), (0, 0, 1, 0, 0), (1, 2, 10, 32, 10), (65, 0, 0, 0, 0), (0, 0, 1, 0, 0), (1, 2, 11, 33, 11), (65, 0, 0, 0, 0), (69, 0, 0, 0, 0), (64, 1, 0, 0, 3), (0, 0, 1, 0, 0), (1, 2, 12, 34, 12), (65, 0, 0, 0, 0), (69, 0, 0, 0, 0), (0, 0, 1, 0, 0), (1, 2, 9, 31, 9), (65, 0, 0, 0, 0), (69, 0, 0, 0, 0), (72, 0, 0, 0, 0), (16, 1, 0, 0, 0), (3, 0, 0, 0, 1), (10, 2, 0, 0, 0)]
abbrev zb_28_1 : List zI0 := [(3, 0, 0, 0, 0), (111, 2, 0, 0, 0)]
abbrev zb_28_2 : List zI0 := [(9, 0, 0, 0, 0)]
abbrev zc_28 : List (List zI0) := [zb_28_0, zb_28_1, zb_28_2]
abbrev zb_29_0 : List zI0 := [(4, 1, 1, 0, 0), (3, 0, 0, 0, 4), (5, 325, 2, 0, 36), (30, 3, 1, 0, 0), (4, 3, 1, 0, 0), (16, 1, 0, 0, 0), (4, 3, 1, 0, 0), (0, 0, 1, 0, 0), (2, 2, 0, 22, 0), (36, 0, 0, 0, 0), (23, 1, 0, 0, 0), (0, 0, 1, 0, 0), (2, 2, 0, 22, 0), (4, 3, 1, 0, 0), (48, 0, 0, 0, 0), (33, 0, 0, 0, 0), (4, 2, 1, 0, 0), (37, 0, 0, 0, 0), (35, 0, 0, 0, 0), (111, 1, 0, 0, 0)]
abbrev zb_29_1 : List zI0 := [(50, 0, 0, 0, 0)]
abbrev zc_29 : List (List zI0) := [zb_29_0, zb_29_1]
abbrev zb_30_0 : List zI0 := [(4, 1, 1, 0, 0), (3, 0, 0, 0, 4), (5, 325, 2, 0, 36), (30, 2, 1, 0, 0), (4, 2, 1, 0, 0), (16, 1, 0, 0, 0), (4, 2, 1, 0, 0), (0, 0, 1, 0, 0), (2, 2, 0, 22, 0), (36, 0, 0, 0, 0), (22, 2, 0, 0, 0), (111, 1, 0, 0, 0)]
abbrev zb_30_1 : List zI0 := [(3, 0, 0, 0, 0), (8, 0, 0, 0, 0)]
abbrev zb_30_2 : List zI0 := [(0, 0, 1, 0, 0), (2, 2, 0, 22, 0), (4, 2, 1, 0, 0), (33, 0, 0, 0, 0), (30, 3, 1, 0, 0), (0, 0, 1, 0, 0), (2, 2, 0, 22, 0), (4, 2, 1, 0, 0), (3, 0, 0, 0, 0), (35, 0, 0, 0, 0), (4, 3, 1, 0, 0), (8, 0, 0, 0, 0)]
abbrev zc_30 : List (List zI0) := [zb_30_0, zb_30_1, zb_30_2]
abbrev zb_31_0 : List zI0 := [(3, 0, 0, 0, 0), (30, 1, 1, 0, 0), (0, 0, 1, 0, 0), (2, 2, 0, 22, 0), (31, 2, 1, 0, 0), (0, 2, 1, 0, 0), (36, 0, 0, 0, 0), (30, 3, 1, 0, 0), (3, 0, 0, 0, 0), (30, 4, 0, 0, 0), (111, 1, 0, 0, 0)]
abbrev zb_31_1 : List zI0 := [(4, 4, 0, 0, 0), (4, 3, 1, 0, 0), (23, 2, 0, 0, 0), (0, 2, 1, 0, 0), (4, 4, 0, 0, 0), (33, 0, 0, 0, 0), (30, 5, 0, 0, 0), (4, 1, 1, 0, 0), (4, 5, 0, 0, 0), (37, 0, 0, 0, 0), (30, 1, 1, 0, 0), (32, 4, 0, 0, 1), (10, 1, 0, 0, 0)]
abbrev zb_31_2 : List zI0 := [(4, 1, 1, 0, 0), (8, 0, 0, 0, 0)]
abbrev zc_31 : List (List zI0) := [zb_31_0, zb_31_1, zb_31_2]
abbrev zb_32_0 : List zI0 := [(0, 0, 1, 0, 0), (2, 2, 0, 22, 0), (3, 0, 0, 0, 0), (5, 328, 2, 0, 37), (50, 0, 0, 0, 0)]
abbrev zc_32 : List (List zI0) := [zb_32_0]
abbrev zb_33_0 : List zI0 := [(0, 0, 1, 0, 0), (108, 0, 0, 0, 1), (0, 0, 1, 0, 0), (3, 1, 0, 0, 22), (58, 0, 0, 0, 0), (13, 3, 0, 35, 0), (50, 0, 0, 0, 0)]
abbrev zc_33 : List (List zI0) := [zb_33_0]
abbrev zb_34_0 : List zI0 := [(0, 0, 1, 0, 0), (1, 3, 1, 36, 1), (16, 4, 0, 0, 0), (0, 0, 1, 0, 0), (1, 3, 1, 36, 1), (0, 0, 1, 0, 0), (2, 3, 0, 35, 0), (36, 0, 0, 0, 0), (23, 4, 0, 0, 0), (0, 0, 1, 0, 0), (2, 3, 0, 35, 0), (0, 0, 1, 0, 0), (1, 3, 1, 36, 1), (4, 1, 1, 0, 0), (35, 0, 0, 0, 0), (0, 0, 1, 0, 0), (47, 0, 0, 0, 0), (1, 3, 1, 36, 1), (3, 0, 0, 0, 1), (37, 0, 0, 0, 0), (11, 3, 1, 36, 1), (0, 0, 1, 0, 0), (47, 0, 0, 0, 0), (1, 3, 2, 37, 2), (4, 1, 1, 0, 0), (37, 0, 0, 0, 0), (11, 3, 2, 37, 2), (0, 0, 1, 0, 0), (0, 0, 1, 0, 0), (1, 3, 3, 38, 3), (15, 1, 0, 0, 0), (4, 1, 1, 0, 0), (3, 0, 0, 0, 1), (21, 2, 0, 0, 0), (111, 1, 0, 0, 0)]
abbrev zb_34_1 : List zI0 := [(3, 0, 0, 0, 1), (10, 3, 0, 0, 0)]
abbrev zb_34_2 : List zI0 := [(3, 0, 0, 0, 0), (111, 3, 0, 0, 0)]
abbrev zb_34_3 : List zI0 := [(12, 3, 3, 38, 3), (111, 4, 0, 0, 0)]
abbrev zb_34_4 : List zI0 := [(50, 0, 0, 0, 0)]
abbrev zc_34 : List (List zI0) := [zb_34_0, zb_34_1, zb_34_2, zb_34_3, zb_34_4]
abbrev zb_35_0 : List zI0 := [(0, 0, 1, 0, 0), (3, 0, 0, 0, 0), (11, 3, 1, 36, 1), (0, 0, 1, 0, 0), (3, 0, 0, 0, 0), (11, 3, 2, 37, 2), (0, 0, 1, 0, 0), (3, 0, 0, 0, 0), (12, 3, 3, 38, 3), (50, 0, 0, 0, 0)]
abbrev zc_35 : List (List zI0) := [zb_35_0]
abbrev zb_36_0 : List zI0 := [(4, 1, 1, 0, 0), (16, 1, 0, 0, 0), (4, 1, 1, 0, 0), (0, 0, 1, 0, 0), (1, 3, 1, 36, 1), (23, 1, 0, 0, 0), (4, 1, 1, 0, 0), (0, 0, 1, 0, 0), (2, 3, 0, 35, 0), (36, 0, 0, 0, 0), (23, 1, 0, 0, 0), (0, 0, 1, 0, 0), (2, 3, 0, 35, 0), (4, 1, 1, 0, 0), (33, 0, 0, 0, 0), (10, 2, 0, 0, 0)]
abbrev zb_36_1 : List zI0 := [(3, 0, 0, 0, 0), (111, 2, 0, 0, 0)]
abbrev zb_36_2 : List zI0 := [(8, 0, 0, 0, 0)]
abbrev zc_36 : List (List zI0) := [zb_36_0, zb_36_1, zb_36_2]
abbrev zb_37_0 : List zI0 := [(0, 0, 1, 0, 0), (1, 3, 3, 38, 3), (14, 1, 0, 0, 0), (0, 0, 1, 0, 0), (1, 3, 2, 37, 2), (3, 1, 0, 0, 11), (24, 1, 0, 0, 0), (0, 0, 1, 0, 0), (1, 3, 2, 37, 2), (3, 1, 0, 0, 10), (37, 0, 0, 0, 0), (10, 2, 0, 0, 0)]
abbrev zb_37_1 : List zI0 := [(0, 0, 1, 0, 0), (1, 3, 2, 37, 2), (111, 2, 0, 0, 0)]
abbrev zb_37_2 : List zI0 := [(8, 0, 0, 0, 0)]
abbrev zc_37 : List (List zI0) := [zb_37_0, zb_37_1, zb_37_2]
abbrev zb_38_0 : List zI0 := [(0, 0, 1, 0, 0), (6, 37, 0, 3, 38), (0, 0, 1, 0, 0), (1, 3, 2, 37, 2), (25, 1, 0, 0, 0), (3, 0, 0, 0, 1), (10, 2, 0, 0, 0)]
abbrev zb_38_1 : List zI0 := [(3, 0, 0, 0, 0), (111, 2, 0, 0, 0)]
abbrev zb_38_2 : List zI0 := [(9, 0, 0, 0, 0)]
abbrev zc_38 : List (List zI0) := [zb_38_0, zb_38_1, zb_38_2]
abbrev zb_39_0 : List zI0 := [(0, 0, 1, 0, 0), (1, 3, 1, 36, 1), (3, 0, 0, 0, 2), (21, 1, 0, 0, 0), (0, 0, 1, 0, 0), (3, 0, 0, 0, 0), (6, 36, 1, 3, 39), (0, 0, 1, 0, 0), (3, 0, 0, 0, 1), (6, 36, 1, 3, 39), (21, 1, 0, 0, 0), (3, 0, 0, 0, 1), (10, 2, 0, 0, 0)]
abbrev zb_39_1 : List zI0 := [(3, 0, 0, 0, 0), (111, 2, 0, 0, 0)]
abbrev zb_39_2 : List zI0 := [(9, 0, 0, 0, 0)]
abbrev zc_39 : List (List zI0) := [zb_39_0, zb_39_1, zb_39_2]
abbrev zb_40_0 : List zI0 := [(0, 0, 1, 0, 0), (1, 3, 1, 36, 1), (3, 0, 0, 0, 2), (21, 1, 0, 0, 0), (0, 0, 1, 0, 0), (6, 37, 0, 3, 38), (3, 1, 0, 0, 21), (21, 1, 0, 0, 0), (3, 0, 0, 0, 1), (10, 2, 0, 0, 0)]
abbrev zb_40_1 : List zI0 := [(3, 0, 0, 0, 0), (111, 2, 0, 0, 0)]
abbrev zb_40_2 : List zI0 := [(9, 0, 0, 0, 0)]
abbrev zc_40 : List (List zI0) := [zb_40_0, zb_40_1, zb_40_2]
abbrev zb_41_0 : List zI0 := [(0, 0, 1, 0, 0), (1, 3, 4, 39, 4), (30, 1, 1, 0, 0), (0, 0, 1, 0, 0), (3, 0, 0, 0, 0), (11, 3, 4, 39, 4), (0, 0, 1, 0, 0), (3, 0, 0, 0, 0), (12, 3, 5, 40, 5), (0, 0, 1, 0, 0), (3, 0, 0, 0, 1), (12, 3, 6, 41, 6), (4, 1, 1, 0, 0), (8, 0, 0, 0, 0)]
abbrev zc_41 : List (List zI0) := [zb_41_0]
abbrev zb_42_0 : List zI0 := [(0, 0, 1, 0, 0), (1, 3, 4, 39, 4), (30, 2, 1, 0, 0), (4, 1, 1, 0, 0), (14, 1, 0, 0, 0), (4, 2, 1, 0, 0), (19, 1, 0, 0, 0), (0, 0, 1, 0, 0), (6, 35, 0, 3, 40), (111, 1, 0, 0, 0)]
abbrev zb_42_1 : List zI0 := [(0, 0, 1, 0, 0), (3, 0, 0, 0, 0), (11, 3, 4, 39, 4), (0, 0, 1, 0, 0), (3, 0, 0, 0, 0), (12, 3, 5, 40, 5), (4, 2, 1, 0, 0), (8, 0, 0, 0, 0)]
abbrev zc_42 : List (List zI0) := [zb_42_0, zb_42_1]
abbrev zb_43_0 : List zI0 := [(0, 0, 1, 0, 0), (108, 0, 0, 0, 1), (0, 0, 1, 0, 0), (3, 1, 0, 0, 12), (59, 2, 0, 3, 0), (13, 4, 0, 42, 0), (0, 0, 1, 0, 0), (3, 1, 0, 0, 12), (58, 0, 0, 0, 0), (13, 4, 1, 43, 1), (50, 0, 0, 0, 0)]
abbrev zc_43 : List (List zI0) := [zb_43_0]
abbrev zb_44_0 : List zI0 := [(4, 0, 1, 0, 0), (16, 1, 0, 0, 0), (4, 0, 1, 0, 0), (3, 2, 0, 0, 999), (25, 2, 0, 0, 0), (111, 1, 0, 0, 0)]
abbrev zb_44_1 : List zI0 := [(3, 0, 0, 0, 0), (8, 0, 0, 0, 0)]
abbrev zb_44_2 : List zI0 := [(3, 0, 0, 0, 1), (4, 0, 1, 0, 0), (3, 1, 0, 0, 100), (40, 0, 0, 0, 0), (44, 0, 0, 0, 0), (3, 0, 0, 0, 1), (4, 0, 1, 0, 0), (3, 1, 0, 0, 10), (40, 0, 0, 0, 0), (3, 1, 0, 0, 10), (41, 0, 0, 0, 0), (44, 0, 0, 0, 0), (43, 0, 0, 0, 0), (3, 0, 0, 0, 1), (4, 0, 1, 0, 0), (3, 1, 0, 0, 10), (41, 0, 0, 0, 0), (44, 0, 0, 0, 0), (43, 0, 0, 0, 0), (30, 1, 1, 0, 0), (4, 1, 1, 0, 0), (5, 324, 1, 0, 41), (3, 0, 0, 0, 3), (21, 3, 0, 0, 0), (4, 1, 1, 0, 0), (10, 4, 0, 0, 0)]
abbrev zb_44_3 : List zI0 := [(3, 0, 0, 0, 0), (111, 4, 0, 0, 0)]
abbrev zb_44_4 : List zI0 := [(8, 0, 0, 0, 0)]
abbrev zc_44 : List (List zI0) := [zb_44_0, zb_44_1, zb_44_2, zb_44_3, zb_44_4]
abbrev zb_45_0 : List zI0 := [(0, 0, 1, 0, 0), (1, 4, 2, 44, 2), (3, 1, 0, 0, 12), (22, 1, 0, 0, 0), (3, 0, 0, 0, 1), (10, 2, 0, 0, 0)]
abbrev zb_45_1 : List zI0 := [(3, 0, 0, 0, 0), (111, 2, 0, 0, 0)]
abbrev zb_45_2 : List zI0 := [(9, 0, 0, 0, 0)]
abbrev zc_45 : List (List zI0) := [zb_45_0, zb_45_1, zb_45_2]
abbrev zb_46_0 : List zI0 := [(0, 0, 1, 0, 0), (1, 4, 3, 45, 3), (14, 1, 0, 0, 0), (3, 0, 0, 0, 1), (10, 2, 0, 0, 0)]
abbrev zb_46_1 : List zI0 := [(3, 0, 0, 0, 0), (111, 2, 0, 0, 0)]
abbrev zb_46_2 : List zI0 := [(9, 0, 0, 0, 0)]
abbrev zc_46 : List (List zI0) := [zb_46_0, zb_46_1, zb_46_2]
abbrev zb_47_0 : List zI0 := [(0, 0, 1, 0, 0), (1, 4, 2, 44, 2), (16, 1, 0, 0, 0), (0, 0, 1, 0, 0), (1, 4, 2, 44, 2), (3, 1, 0, 0, 12), (23, 1, 0, 0, 0), (0, 0, 1, 0, 0), (2, 4, 0, 42, 0), (0, 0, 1, 0, 0), (1, 4, 2, 44, 2), (0, 1, 1, 0, 0), (62, 0, 0, 0, 0), (0, 0, 1, 0, 0), (2, 4, 1, 43, 1), (0, 0, 1, 0, 0), (1, 4, 2, 44, 2), (4, 2, 1, 0, 0), (35, 0, 0, 0, 0), (0, 0, 1, 0, 0), (47, 0, 0, 0, 0), (1, 4, 2, 44, 2), (3, 0, 0, 0, 1), (37, 0, 0, 0, 0), (11, 4, 2, 44, 2), (0, 0, 1, 0, 0), (47, 0, 0, 0, 0), (1, 4, 4, 46, 4), (3, 0, 0, 0, 2), (37, 0, 0, 0, 0), (11, 4, 4, 46, 4), (111, 1, 0, 0, 0)]
abbrev zb_47_1 : List zI0 := [(50, 0, 0, 0, 0)]
abbrev zc_47 : List (List zI0) := [zb_47_0, zb_47_1]
abbrev zb_48_0 : List zI0 := [(4, 1, 1, 0, 0), (16, 1, 0, 0, 0), (4, 1, 1, 0, 0), (3, 1, 0, 0, 12), (23, 1, 0, 0, 0), (0, 0, 1, 0, 0), (2, 4, 0, 42, 0), (4, 1, 1, 0, 0), (34, 0, 0, 0, 0), (27, 2, 0, 0, 0), (111, 1, 0, 0, 0)]
abbrev zb_48_1 : List zI0 := [(3, 0, 0, 0, 0), (8, 0, 0, 0, 0)]
abbrev zb_48_2 : List zI0 := [(0, 0, 1, 0, 0), (2, 4, 1, 43, 1), (4, 1, 1, 0, 0), (33, 0, 0, 0, 0), (0, 0, 1, 0, 0), (1, 4, 3, 45, 3), (42, 0, 0, 0, 0), (5, 324, 1, 0, 41), (8, 0, 0, 0, 0)]
abbrev zc_48 : List (List zI0) := [zb_48_0, zb_48_1, zb_48_2]
abbrev zb_49_0 : List zI0 := [(3, 0, 0, 0, 0), (30, 2, 1, 0, 0), (3, 0, 0, 0, 0), (30, 3, 1, 0, 0), (111, 1, 0, 0, 0)]
abbrev zb_49_1 : List zI0 := [(4, 3, 1, 0, 0), (0, 0, 1, 0, 0), (1, 4, 2, 44, 2), (23, 3, 0, 0, 0), (0, 0, 1, 0, 0), (4, 3, 1, 0, 0), (6, 48, 1, 4, 42), (4, 1, 1, 0, 0), (21, 2, 0, 0, 0), (32, 2, 0, 0, 1), (111, 2, 0, 0, 0)]
abbrev zb_49_2 : List zI0 := [(32, 3, 0, 0, 1), (10, 1, 0, 0, 0)]
abbrev zb_49_3 : List zI0 := [(4, 2, 1, 0, 0), (8, 0, 0, 0, 0)]
abbrev zc_49 : List (List zI0) := [zb_49_0, zb_49_1, zb_49_2, zb_49_3]
abbrev zb_50_0 : List zI0 := [(0, 0, 1, 0, 0), (3, 0, 0, 0, 3), (0, 0, 1, 0, 0), (1, 4, 4, 46, 4), (3, 1, 0, 0, 6), (39, 0, 0, 0, 0), (3, 1, 0, 0, 10), (40, 0, 0, 0, 0), (4, 1, 1, 0, 0), (6, 51, 3, 4, 43), (0, 0, 1, 0, 0), (3, 0, 0, 0, 2), (0, 0, 1, 0, 0), (1, 4, 4, 46, 4), (3, 0, 0, 0, 2), (39, 0, 0, 0, 0), (3, 1, 0, 0, 10), (40, 0, 0, 0, 0), (4, 1, 1, 0, 0), (6, 51, 3, 4, 43), (37, 0, 0, 0, 0), (30, 2, 1, 0, 0), (0, 0, 1, 0, 0), (47, 0, 0, 0, 0), (1, 4, 4, 46, 4), (4, 2, 1, 0, 0), (38, 0, 0, 0, 0), (11, 4, 4, 46, 4), (0, 0, 1, 0, 0), (3, 0, 0, 0, 0), (11, 4, 2, 44, 2), (0, 0, 1, 0, 0), (3, 0, 0, 0, 0), (11, 4, 3, 45, 3), (4, 2, 1, 0, 0), (8, 0, 0, 0, 0)]
abbrev zc_50 : List (List zI0) := [zb_50_0]
abbrev zb_51_0 : List zI0 := [(0, 0, 1, 0, 0), (4, 1, 1, 0, 0), (6, 49, 1, 4, 44), (30, 4, 0, 0, 0), (4, 4, 0, 0, 0), (15, 1, 0, 0, 0), (3, 0, 0, 0, 0), (8, 0, 0, 0, 0)]
abbrev zb_51_1 : List zI0 := [(4, 2, 1, 0, 0), (4, 4, 0, 0, 0), (40, 0, 0, 0, 0), (30, 5, 0, 0, 0), (3, 0, 0, 0, 0), (30, 6, 0, 0, 0), (111, 2, 0, 0, 0)]
abbrev zb_51_2 : List zI0 := [(4, 6, 0, 0, 0), (0, 0, 1, 0, 0), (1, 4, 2, 44, 2), (23, 4, 0, 0, 0), (4, 6, 0, 0, 0), (3, 1, 0, 0, 12), (23, 4, 0, 0, 0), (0, 0, 1, 0, 0), (2, 4, 0, 42, 0), (4, 6, 0, 0, 0), (34, 0, 0, 0, 0), (31, 7, 0, 0, 0), (0, 7, 0, 0, 0), (26, 3, 0, 0, 0), (0, 0, 1, 0, 0), (4, 6, 0, 0, 0), (6, 48, 1, 4, 42), (4, 1, 1, 0, 0), (21, 3, 0, 0, 0), (0, 7, 0, 0, 0), (4, 3, 1, 0, 0), (4, 5, 0, 0, 0), (6, 29, 2, 2, 45), (111, 3, 0, 0, 0)]
abbrev zb_51_3 : List zI0 := [(32, 6, 0, 0, 1), (10, 2, 0, 0, 0)]
abbrev zb_51_4 : List zI0 := [(4, 5, 0, 0, 0), (4, 4, 0, 0, 0), (39, 0, 0, 0, 0), (8, 0, 0, 0, 0)]
abbrev zc_51 : List (List zI0) := [zb_51_0, zb_51_1, zb_51_2, zb_51_3, zb_51_4]
abbrev zb_52_0 : List zI0 := [(3, 0, 0, 0, 0), (30, 2, 1, 0, 0), (111, 1, 0, 0, 0)]
abbrev zb_52_1 : List zI0 := [(4, 2, 1, 0, 0), (0, 0, 1, 0, 0), (1, 4, 2, 44, 2), (23, 3, 0, 0, 0), (4, 2, 1, 0, 0), (3, 1, 0, 0, 12), (23, 3, 0, 0, 0), (0, 0, 1, 0, 0), (2, 4, 0, 42, 0), (4, 2, 1, 0, 0), (34, 0, 0, 0, 0), (0, 1, 1, 0, 0), (29, 2, 0, 0, 0), (0, 0, 1, 0, 0), (2, 4, 0, 42, 0), (4, 2, 1, 0, 0), (105, 0, 0, 0, 0), (62, 0, 0, 0, 0), (111, 2, 0, 0, 0)]
abbrev zb_52_2 : List zI0 := [(32, 2, 0, 0, 1), (10, 1, 0, 0, 0)]
abbrev zb_52_3 : List zI0 := [(0, 0, 1, 0, 0), (47, 0, 0, 0, 0), (1, 4, 4, 46, 4), (0, 1, 1, 0, 0), (6, 31, 0, 2, 46), (37, 0, 0, 0, 0), (11, 4, 4, 46, 4), (0, 1, 1, 0, 0), (6, 32, 0, 2, 47), (50, 0, 0, 0, 0)]
abbrev zc_52 : List (List zI0) := [zb_52_0, zb_52_1, zb_52_2, zb_52_3]
abbrev zb_53_0 : List zI0 := [(0, 0, 1, 0, 0), (108, 0, 0, 0, 3), (0, 0, 1, 0, 0), (3, 1, 0, 0, 24), (58, 0, 0, 0, 0), (13, 5, 1, 47, 1), (0, 0, 1, 0, 0), (3, 0, 0, 0, 5), (58, 0, 0, 0, 0), (13, 5, 2, 48, 2), (0, 0, 1, 0, 0), (3, 2, 0, 0, 500), (11, 5, 4, 49, 4), (0, 0, 1, 0, 0), (0, 1, 1, 0, 0), (13, 5, 0, 50, 0), (0, 0, 1, 0, 0), (2, 5, 1, 47, 1), (3, 0, 0, 0, 4), (5, 328, 2, 0, 48), (50, 0, 0, 0, 0)]
abbrev zc_53 : List (List zI0) := [zb_53_0]
abbrev zb_54_0 : List zI0 := [(4, 0, 1, 0, 0), (3, 1, 0, 0, 8), (3, 0, 0, 0, 4), (5, 56, 3, 0, 49), (9, 0, 0, 0, 0)]
abbrev zc_54 : List (List zI0) := [zb_54_0]
abbrev zb_55_0 : List zI0 := [(4, 0, 1, 0, 0), (3, 0, 0, 0, 3), (3, 1, 0, 0, 7), (5, 56, 3, 0, 49), (9, 0, 0, 0, 0)]
abbrev zc_55 : List (List zI0) := [zb_55_0]
abbrev zb_56_0 : List zI0 := [(4, 0, 1, 0, 0), (30, 3, 1, 0, 0), (3, 0, 0, 0, 0), (30, 4, 0, 0, 0), (111, 1, 0, 0, 0)]
abbrev zb_56_1 : List zI0 := [(4, 4, 0, 0, 0), (4, 1, 1, 0, 0), (23, 4, 0, 0, 0), (4, 3, 1, 0, 0), (16, 2, 0, 0, 0), (4, 3, 1, 0, 0), (3, 1, 0, 0, 10), (41, 0, 0, 0, 0), (4, 2, 1, 0, 0), (25, 3, 0, 0, 0), (111, 2, 0, 0, 0)]
abbrev zb_56_2 : List zI0 := [(3, 0, 0, 0, 0), (9, 0, 0, 0, 0)]
abbrev zb_56_3 : List zI0 := [(4, 3, 1, 0, 0), (3, 1, 0, 0, 10), (40, 0, 0, 0, 0), (30, 3, 1, 0, 0), (32, 4, 0, 0, 1), (10, 1, 0, 0, 0)]
abbrev zb_56_4 : List zI0 := [(4, 3, 1, 0, 0), (15, 5, 0, 0, 0), (3, 0, 0, 0, 1), (10, 6, 0, 0, 0)]
abbrev zb_56_5 : List zI0 := [(3, 0, 0, 0, 0), (111, 6, 0, 0, 0)]
abbrev zb_56_6 : List zI0 := [(9, 0, 0, 0, 0)]
abbrev zc_56 : List (List zI0) := [zb_56_0, zb_56_1, zb_56_2, zb_56_3, zb_56_4, zb_56_5, zb_56_6]
abbrev zb_57_0 : List zI0 := [(0, 0, 1, 0, 0), (2, 5, 5, 51, 5), (26, 1, 0, 0, 0), (0, 0, 1, 0, 0), (1, 5, 7, 52, 7), (15, 1, 0, 0, 0), (3, 0, 0, 0, 1), (10, 2, 0, 0, 0)]
abbrev zb_57_1 : List zI0 := [(3, 0, 0, 0, 0), (111, 2, 0, 0, 0)]
abbrev zb_57_2 : List zI0 := [(9, 0, 0, 0, 0)]
abbrev zc_57 : List (List zI0) := [zb_57_0, zb_57_1, zb_57_2]
abbrev zb_58_0 : List zI0 := [(0, 0, 1, 0, 0), (2, 5, 5, 51, 5), (0, 1, 1, 0, 0), (29, 1, 0, 0, 0), (0, 0, 1, 0, 0), (1, 5, 6, 53, 6), (10, 2, 0, 0, 0)]
abbrev zb_58_1 : List zI0 := [(3, 0, 0, 0, 0), (111, 2, 0, 0, 0)]
abbrev zb_58_2 : List zI0 := [(8, 0, 0, 0, 0)]
abbrev zc_58 : List (List zI0) := [zb_58_0, zb_58_1, zb_58_2]
abbrev zb_59_0 : List zI0 := [(4, 1, 1, 0, 0), (3, 1, 0, 0, 8), (39, 0, 0, 0, 0), (4, 2, 1, 0, 0), (37, 0, 0, 0, 0), (30, 3, 1, 0, 0), (4, 3, 1, 0, 0), (16, 1, 0, 0, 0), (4, 3, 1, 0, 0), (0, 0, 1, 0, 0), (2, 5, 1, 47, 1), (36, 0, 0, 0, 0), (23, 1, 0, 0, 0), (0, 0, 1, 0, 0), (2, 5, 1, 47, 1), (4, 3, 1, 0, 0), (33, 0, 0, 0, 0), (10, 2, 0, 0, 0)]
abbrev zb_59_1 : List zI0 := [(3, 0, 0, 0, 0), (111, 2, 0, 0, 0)]
abbrev zb_59_2 : List zI0 := [(8, 0, 0, 0, 0)]
abbrev zc_59 : List (List zI0) := [zb_59_0, zb_59_1, zb_59_2]
abbrev zb_60_0 : List zI0 := [(4, 1, 1, 0, 0), (16, 1, 0, 0, 0), (4, 1, 1, 0, 0), (0, 0, 1, 0, 0), (2, 5, 2, 48, 2), (36, 0, 0, 0, 0), (23, 1, 0, 0, 0), (0, 0, 1, 0, 0), (2, 5, 2, 48, 2), (4, 1, 1, 0, 0), (33, 0, 0, 0, 0), (10, 2, 0, 0, 0)]
abbrev zb_60_1 : List zI0 := [(3, 0, 0, 0, 0), (111, 2, 0, 0, 0)]
abbrev zb_60_2 : List zI0 := [(8, 0, 0, 0, 0)]
abbrev zc_60 : List (List zI0) := [zb_60_0, zb_60_1, zb_60_2]
abbrev zb_61_0 : List zI0 := [(3, 0, 0, 0, 0), (30, 3, 1, 0, 0), (4, 2, 1, 0, 0), (30, 4, 0, 0, 0), (3, 1, 0, 0, 7), (30, 5, 0, 0, 0), (111, 1, 0, 0, 0)]
abbrev zb_61_1 : List zI0 := [(4, 5, 0, 0, 0), (16, 3, 0, 0, 0), (4, 1, 1, 0, 0), (3, 1, 0, 0, 8), (39, 0, 0, 0, 0), (4, 5, 0, 0, 0), (37, 0, 0, 0, 0), (30, 6, 0, 0, 0), (4, 6, 0, 0, 0), (16, 2, 0, 0, 0), (4, 6, 0, 0, 0), (0, 0, 1, 0, 0), (2, 5, 1, 47, 1), (36, 0, 0, 0, 0), (23, 2, 0, 0, 0), (0, 0, 1, 0, 0), (2, 5, 1, 47, 1), (4, 6, 0, 0, 0), (33, 0, 0, 0, 0), (4, 4, 0, 0, 0), (3, 1, 0, 0, 10), (41, 0, 0, 0, 0), (20, 2, 0, 0, 0), (0, 0, 1, 0, 0), (2, 5, 1, 47, 1), (4, 6, 0, 0, 0), (4, 4, 0, 0, 0), (3, 1, 0, 0, 10), (41, 0, 0, 0, 0), (35, 0, 0, 0, 0), (32, 3, 0, 0, 1), (111, 2, 0, 0, 0)]
abbrev zb_61_2 : List zI0 := [(4, 4, 0, 0, 0), (3, 1, 0, 0, 10), (40, 0, 0, 0, 0), (30, 4, 0, 0, 0), (32, 5, 0, 0, (-1)), (10, 1, 0, 0, 0)]
abbrev zb_61_3 : List zI0 := [(4, 3, 1, 0, 0), (8, 0, 0, 0, 0)]
abbrev zc_61 : List (List zI0) := [zb_61_0, zb_61_1, zb_61_2, zb_61_3]
abbrev zb_62_0 : List zI0 := [(0, 0, 1, 0, 0), (4, 1, 1, 0, 0), (6, 60, 1, 5, 50), (30, 3, 1, 0, 0), (4, 1, 1, 0, 0), (16, 1, 0, 0, 0), (4, 1, 1, 0, 0), (0, 0, 1, 0, 0), (2, 5, 2, 48, 2), (36, 0, 0, 0, 0), (23, 1, 0, 0, 0), (0, 0, 1, 0, 0), (2, 5, 2, 48, 2), (4, 1, 1, 0, 0), (4, 2, 1, 0, 0), (35, 0, 0, 0, 0), (111, 1, 0, 0, 0)]
abbrev zb_62_1 : List zI0 := [(4, 3, 1, 0, 0), (8, 0, 0, 0, 0)]
abbrev zc_62 : List (List zI0) := [zb_62_0, zb_62_1]
abbrev zb_63_0 : List zI0 := [(0, 0, 1, 0, 0), (0, 1, 1, 0, 0), (13, 5, 5, 51, 5), (0, 0, 1, 0, 0), (4, 2, 1, 0, 0), (11, 5, 6, 53, 6), (0, 0, 1, 0, 0), (3, 0, 0, 0, 0), (12, 5, 7, 52, 7), (0, 0, 1, 0, 0), (0, 0, 1, 0, 0), (1, 5, 3, 54, 3), (0, 0, 1, 0, 0), (1, 5, 4, 49, 4), (22, 1, 0, 0, 0), (3, 0, 0, 0, 1), (10, 2, 0, 0, 0)]
abbrev zb_63_1 : List zI0 := [(3, 0, 0, 0, 0), (111, 2, 0, 0, 0)]
abbrev zb_63_2 : List zI0 := [(12, 5, 8, 55, 8), (50, 0, 0, 0, 0)]
abbrev zc_63 : List (List zI0) := [zb_63_0, zb_63_1, zb_63_2]
abbrev zb_64_0 : List zI0 := [(0, 0, 1, 0, 0), (3, 0, 0, 0, 0), (4, 1, 1, 0, 0), (3, 1, 0, 0, 100), (40, 0, 0, 0, 0), (6, 59, 2, 5, 51), (30, 2, 1, 0, 0), (4, 2, 1, 0, 0), (0, 0, 1, 0, 0), (3, 0, 0, 0, 1), (4, 1, 1, 0, 0), (3, 1, 0, 0, 10), (40, 0, 0, 0, 0), (3, 1, 0, 0, 10), (41, 0, 0, 0, 0), (6, 59, 2, 5, 51), (21, 1, 0, 0, 0), (4, 2, 1, 0, 0), (0, 0, 1, 0, 0), (3, 0, 0, 0, 2), (4, 1, 1, 0, 0), (3, 1, 0, 0, 10), (41, 0, 0, 0, 0), (6, 59, 2, 5, 51), (21, 1, 0, 0, 0), (3, 0, 0, 0, 1), (10, 2, 0, 0, 0)]
abbrev zb_64_1 : List zI0 := [(3, 0, 0, 0, 0), (111, 2, 0, 0, 0)]
abbrev zb_64_2 : List zI0 := [(30, 3, 1, 0, 0), (0, 0, 1, 0, 0), (1, 5, 6, 53, 6), (3, 1, 0, 0, 10), (40, 0, 0, 0, 0), (30, 4, 0, 0, 0), (0, 0, 1, 0, 0), (47, 0, 0, 0, 0), (1, 5, 3, 54, 3), (4, 4, 0, 0, 0), (37, 0, 0, 0, 0), (11, 5, 3, 54, 3), (0, 0, 1, 0, 0), (2, 5, 0, 50, 0), (0, 0, 1, 0, 0), (1, 5, 6, 53, 6), (4, 4, 0, 0, 0), (38, 0, 0, 0, 0), (6, 103, 1, 8, 52), (4, 3, 1, 0, 0), (14, 3, 0, 0, 0), (0, 0, 1, 0, 0), (4, 2, 1, 0, 0), (6, 60, 1, 5, 50), (0, 0, 1, 0, 0), (1, 5, 6, 53, 6), (39, 0, 0, 0, 0), (10, 4, 0, 0, 0)]
abbrev zb_64_3 : List zI0 := [(3, 0, 0, 0, 0), (111, 4, 0, 0, 0)]
abbrev zb_64_4 : List zI0 := [(30, 5, 0, 0, 0), (0, 0, 1, 0, 0), (2, 5, 0, 50, 0), (4, 5, 0, 0, 0), (6, 104, 1, 8, 53), (0, 0, 1, 0, 0), (1, 5, 8, 55, 8), (15, 5, 0, 0, 0), (4, 3, 1, 0, 0), (14, 6, 0, 0, 0), (4, 2, 1, 0, 0), (15, 6, 0, 0, 0), (111, 5, 0, 0, 0)]
abbrev zb_64_5 : List zI0 := [(4, 5, 0, 0, 0), (0, 0, 1, 0, 0), (1, 5, 3, 54, 3), (37, 0, 0, 0, 0), (30, 5, 0, 0, 0), (0, 0, 1, 0, 0), (3, 0, 0, 0, 0), (11, 5, 3, 54, 3), (111, 6, 0, 0, 0)]
abbrev zb_64_6 : List zI0 := [(0, 0, 1, 0, 0), (2, 5, 5, 51, 5), (26, 7, 0, 0, 0), (0, 0, 1, 0, 0), (2, 5, 5, 51, 5), (47, 0, 0, 0, 0), (1, 2, 2, 56, 2), (4, 5, 0, 0, 0), (37, 0, 0, 0, 0), (11, 2, 2, 56, 2), (111, 7, 0, 0, 0)]
abbrev zb_64_7 : List zI0 := [(0, 0, 1, 0, 0), (105, 0, 0, 0, 0), (13, 5, 5, 51, 5), (4, 5, 0, 0, 0), (8, 0, 0, 0, 0)]
abbrev zc_64 : List (List zI0) := [zb_64_0, zb_64_1, zb_64_2, zb_64_3, zb_64_4, zb_64_5, zb_64_6, zb_64_7]
abbrev zb_65_0 : List zI0 := [(0, 0, 1, 0, 0), (0, 1, 1, 0, 0), (6, 58, 1, 5, 54), (30, 2, 1, 0, 0), (0, 0, 1, 0, 0), (2, 5, 5, 51, 5), (0, 1, 1, 0, 0), (29, 1, 0, 0, 0), (0, 0, 1, 0, 0), (105, 0, 0, 0, 0), (13, 5, 5, 51, 5), (111, 1, 0, 0, 0)]
abbrev zb_65_1 : List zI0 := [(4, 2, 1, 0, 0), (8, 0, 0, 0, 0)]
abbrev zc_65 : List (List zI0) := [zb_65_0, zb_65_1]
abbrev zb_66_0 : List zI0 := [(3, 0, 0, 0, 0), (30, 1, 1, 0, 0), (3, 0, 0, 0, 0), (30, 2, 1, 0, 0), (111, 1, 0, 0, 0)]
abbrev zb_66_1 : List zI0 := [(4, 2, 1, 0, 0), (3, 0, 0, 0, 5), (23, 4, 0, 0, 0), (3, 0, 0, 0, 1), (30, 3, 1, 0, 0), (3, 0, 0, 0, 0), (30, 4, 0, 0, 0), (111, 2, 0, 0, 0)]
abbrev zb_66_2 : List zI0 := [(4, 4, 0, 0, 0), (3, 0, 0, 0, 3), (23, 3, 0, 0, 0), (4, 3, 1, 0, 0), (0, 0, 1, 0, 0), (4, 2, 1, 0, 0), (4, 4, 0, 0, 0), (6, 67, 2, 5, 55), (39, 0, 0, 0, 0), (30, 3, 1, 0, 0), (32, 4, 0, 0, 1), (10, 2, 0, 0, 0)]
abbrev zb_66_3 : List zI0 := [(4, 1, 1, 0, 0), (4, 3, 1, 0, 0), (0, 0, 1, 0, 0), (4, 2, 1, 0, 0), (6, 60, 1, 5, 50), (39, 0, 0, 0, 0), (37, 0, 0, 0, 0), (30, 1, 1, 0, 0), (32, 2, 0, 0, 1), (10, 1, 0, 0, 0)]
abbrev zb_66_4 : List zI0 := [(4, 1, 1, 0, 0), (8, 0, 0, 0, 0)]
abbrev zc_66 : List (List zI0) := [zb_66_0, zb_66_1, zb_66_2, zb_66_3, zb_66_4]
abbrev zb_67_0 : List zI0 := [(3, 0, 0, 0, 0), (30, 3, 1, 0, 0), (3, 0, 0, 0, 0), (30, 4, 0, 0, 0), (111, 1, 0, 0, 0)]
abbrev zb_67_1 : List zI0 := [(4, 4, 0, 0, 0), (3, 1, 0, 0, 8), (23, 3, 0, 0, 0), (0, 0, 1, 0, 0), (4, 2, 1, 0, 0), (4, 4, 0, 0, 0), (6, 59, 2, 5, 51), (4, 1, 1, 0, 0), (21, 2, 0, 0, 0), (32, 3, 0, 0, 1), (111, 2, 0, 0, 0)]
abbrev zb_67_2 : List zI0 := [(32, 4, 0, 0, 1), (10, 1, 0, 0, 0)]
abbrev zb_67_3 : List zI0 := [(4, 3, 1, 0, 0), (8, 0, 0, 0, 0)]
abbrev zc_67 : List (List zI0) := [zb_67_0, zb_67_1, zb_67_2, zb_67_3]
abbrev zb_68_0 : List zI0 := [(0, 0, 1, 0, 0), (108, 0, 0, 0, 1), (0, 0, 1, 0, 0), (57, 3, 7, 4, 0), (47, 0, 0, 0, 0), (7, 33, 0, 3, 56), (13, 6, 0, 57, 0), (0, 0, 1, 0, 0), (57, 3, 7, 4, 0), (47, 0, 0, 0, 0), (7, 33, 0, 3, 56), (13, 6, 1, 58, 1), (50, 0, 0, 0, 0)]
abbrev zc_68 : List (List zI0) := [zb_68_0]
abbrev zb_69_0 : List zI0 := [(0, 0, 1, 0, 0), (6, 70, 0, 6, 57), (18, 1, 0, 0, 0), (0, 0, 1, 0, 0), (2, 6, 0, 57, 0), (1, 3, 6, 59, 6), (15, 1, 0, 0, 0), (0, 0, 1, 0, 0), (2, 6, 1, 58, 1), (1, 3, 6, 59, 6), (14, 2, 0, 0, 0), (111, 1, 0, 0, 0)]
abbrev zb_69_1 : List zI0 := [(3, 0, 0, 0, 1), (10, 3, 0, 0, 0)]
abbrev zb_69_2 : List zI0 := [(3, 0, 0, 0, 0), (111, 3, 0, 0, 0)]
abbrev zb_69_3 : List zI0 := [(9, 0, 0, 0, 0)]
abbrev zc_69 : List (List zI0) := [zb_69_0, zb_69_1, zb_69_2, zb_69_3]
abbrev zb_70_0 : List zI0 := [(0, 0, 1, 0, 0), (2, 6, 0, 57, 0), (1, 3, 4, 60, 4), (0, 0, 1, 0, 0), (2, 6, 1, 58, 1), (1, 3, 4, 60, 4), (37, 0, 0, 0, 0), (8, 0, 0, 0, 0)]
abbrev zc_70 : List (List zI0) := [zb_70_0]
abbrev zb_71_0 : List zI0 := [(0, 0, 1, 0, 0), (0, 1, 1, 0, 0), (13, 6, 2, 61, 2), (0, 0, 1, 0, 0), (2, 6, 0, 57, 0), (4, 2, 1, 0, 0), (11, 3, 4, 60, 4), (50, 0, 0, 0, 0)]
abbrev zc_71 : List (List zI0) := [zb_71_0]
abbrev zb_72_0 : List zI0 := [(105, 0, 0, 0, 0), (31, 2, 1, 0, 0), (4, 1, 1, 0, 0), (15, 1, 0, 0, 0), (0, 0, 1, 0, 0), (2, 6, 0, 57, 0), (31, 2, 1, 0, 0), (10, 2, 0, 0, 0)]
abbrev zb_72_1 : List zI0 := [(4, 1, 1, 0, 0), (3, 0, 0, 0, 1), (21, 2, 0, 0, 0), (0, 0, 1, 0, 0), (2, 6, 1, 58, 1), (31, 2, 1, 0, 0), (111, 2, 0, 0, 0)]
abbrev zb_72_2 : List zI0 := [(0, 2, 1, 0, 0), (26, 3, 0, 0, 0), (0, 2, 1, 0, 0), (1, 3, 1, 62, 1), (19, 3, 0, 0, 0), (0, 2, 1, 0, 0), (10, 4, 0, 0, 0)]
abbrev zb_72_3 : List zI0 := [(105, 0, 0, 0, 0), (111, 4, 0, 0, 0)]
abbrev zb_72_4 : List zI0 := [(51, 0, 0, 0, 0)]
abbrev zc_72 : List (List zI0) := [zb_72_0, zb_72_1, zb_72_2, zb_72_3, zb_72_4]
abbrev zb_73_0 : List zI0 := [(0, 0, 1, 0, 0), (2, 6, 0, 57, 0), (1, 3, 5, 63, 5), (14, 1, 0, 0, 0), (0, 0, 1, 0, 0), (2, 6, 0, 57, 0), (51, 0, 0, 0, 0)]
abbrev zb_73_1 : List zI0 := [(0, 0, 1, 0, 0), (2, 6, 1, 58, 1), (1, 3, 5, 63, 5), (14, 2, 0, 0, 0), (0, 0, 1, 0, 0), (2, 6, 1, 58, 1), (10, 3, 0, 0, 0)]
abbrev zb_73_2 : List zI0 := [(105, 0, 0, 0, 0), (111, 3, 0, 0, 0)]
abbrev zb_73_3 : List zI0 := [(51, 0, 0, 0, 0)]
abbrev zc_73 : List (List zI0) := [zb_73_0, zb_73_1, zb_73_2, zb_73_3]
abbrev zb_74_0 : List zI0 := [(0, 0, 1, 0, 0), (2, 6, 0, 57, 0), (3, 0, 0, 0, 0), (6, 36, 1, 3, 58), (30, 1, 1, 0, 0), (0, 0, 1, 0, 0), (3, 0, 0, 0, 1), (12, 6, 3, 64, 3), (0, 0, 1, 0, 0), (2, 6, 0, 57, 0), (6, 35, 0, 3, 59), (0, 0, 1, 0, 0), (2, 6, 0, 57, 0), (4, 1, 1, 0, 0), (6, 34, 1, 3, 60), (0, 0, 1, 0, 0), (2, 6, 1, 58, 1), (4, 1, 1, 0, 0), (6, 34, 1, 3, 60), (0, 0, 1, 0, 0), (2, 6, 1, 58, 1), (0, 0, 1, 0, 0), (2, 6, 0, 57, 0), (1, 3, 4, 60, 4), (11, 3, 4, 60, 4), (0, 0, 1, 0, 0), (2, 6, 1, 58, 1), (3, 0, 0, 0, 1), (12, 3, 5, 63, 5), (50, 0, 0, 0, 0)]
abbrev zc_74 : List (List zI0) := [zb_74_0]
abbrev zb_75_0 : List zI0 := [(0, 0, 1, 0, 0), (1, 6, 3, 64, 3), (15, 1, 0, 0, 0), (0, 0, 1, 0, 0), (2, 6, 0, 57, 0), (6, 40, 0, 3, 61), (14, 1, 0, 0, 0), (3, 0, 0, 0, 1), (10, 2, 0, 0, 0)]
abbrev zb_75_1 : List zI0 := [(3, 0, 0, 0, 0), (111, 2, 0, 0, 0)]
abbrev zb_75_2 : List zI0 := [(9, 0, 0, 0, 0)]
abbrev zc_75 : List (List zI0) := [zb_75_0, zb_75_1, zb_75_2]
abbrev zb_76_0 : List zI0 := [(0, 0, 1, 0, 0), (6, 70, 0, 6, 57), (19, 1, 0, 0, 0), (0, 0, 1, 0, 0), (6, 75, 0, 6, 62), (15, 1, 0, 0, 0), (3, 0, 0, 0, 1), (10, 2, 0, 0, 0)]
abbrev zb_76_1 : List zI0 := [(3, 0, 0, 0, 0), (111, 2, 0, 0, 0)]
abbrev zb_76_2 : List zI0 := [(9, 0, 0, 0, 0)]
abbrev zc_76 : List (List zI0) := [zb_76_0, zb_76_1, zb_76_2]
abbrev zb_77_0 : List zI0 := [(0, 0, 1, 0, 0), (2, 6, 0, 57, 0), (6, 35, 0, 3, 59), (0, 0, 1, 0, 0), (2, 6, 1, 58, 1), (6, 35, 0, 3, 59), (0, 0, 1, 0, 0), (3, 0, 0, 0, 0), (12, 6, 3, 64, 3), (50, 0, 0, 0, 0)]
abbrev zc_77 : List (List zI0) := [zb_77_0]
abbrev zb_78_0 : List zI0 := [(0, 0, 1, 0, 0), (2, 6, 0, 57, 0), (3, 0, 0, 0, 0), (12, 3, 6, 59, 6), (0, 0, 1, 0, 0), (2, 6, 1, 58, 1), (3, 0, 0, 0, 0), (12, 3, 6, 59, 6), (0, 0, 1, 0, 0), (105, 0, 0, 0, 0), (13, 6, 2, 61, 2), (50, 0, 0, 0, 0)]
abbrev zc_78 : List (List zI0) := [zb_78_0]
abbrev zb_79_0 : List zI0 := [(0, 0, 1, 0, 0), (105, 0, 0, 0, 0), (13, 6, 2, 61, 2), (0, 0, 1, 0, 0), (2, 6, 0, 57, 0), (4, 1, 1, 0, 0), (6, 42, 1, 3, 63), (0, 0, 1, 0, 0), (2, 6, 1, 58, 1), (4, 1, 1, 0, 0), (6, 42, 1, 3, 63), (37, 0, 0, 0, 0), (8, 0, 0, 0, 0)]
abbrev zc_79 : List (List zI0) := [zb_79_0]
abbrev zb_80_0 : List zI0 := [(0, 0, 1, 0, 0), (108, 0, 0, 0, 3), (0, 0, 1, 0, 0), (3, 1, 0, 0, 104), (58, 0, 0, 0, 0), (13, 7, 0, 65, 0), (0, 0, 1, 0, 0), (3, 1, 0, 0, 104), (58, 0, 0, 0, 0), (13, 7, 1, 66, 1), (0, 0, 1, 0, 0), (3, 1, 0, 0, 11), (58, 0, 0, 0, 0), (13, 7, 2, 67, 2), (0, 0, 1, 0, 0), (3, 1, 0, 0, 11), (58, 0, 0, 0, 0), (13, 7, 3, 68, 3), (50, 0, 0, 0, 0)]
abbrev zc_80 : List (List zI0) := [zb_80_0]
abbrev zb_81_0 : List zI0 := [(4, 0, 1, 0, 0), (3, 1, 0, 0, 10), (21, 1, 0, 0, 0), (3, 1, 0, 0, 16), (10, 2, 0, 0, 0)]
abbrev zb_81_1 : List zI0 := [(3, 0, 0, 0, 4), (111, 2, 0, 0, 0)]
abbrev zb_81_2 : List zI0 := [(8, 0, 0, 0, 0)]
abbrev zc_81 : List (List zI0) := [zb_81_0, zb_81_1, zb_81_2]
abbrev zb_82_0 : List zI0 := [(0, 0, 1, 0, 0), (1, 7, 5, 69, 5), (0, 0, 1, 0, 0), (1, 7, 4, 70, 4), (38, 0, 0, 0, 0), (8, 0, 0, 0, 0)]
abbrev zc_82 : List (List zI0) := [zb_82_0]
abbrev zb_83_0 : List zI0 := [(0, 0, 1, 0, 0), (1, 7, 4, 70, 4), (4, 1, 1, 0, 0), (37, 0, 0, 0, 0), (30, 2, 1, 0, 0), (4, 1, 1, 0, 0), (16, 1, 0, 0, 0), (4, 2, 1, 0, 0), (16, 1, 0, 0, 0), (4, 2, 1, 0, 0), (0, 0, 1, 0, 0), (1, 7, 5, 69, 5), (23, 1, 0, 0, 0), (4, 2, 1, 0, 0), (0, 0, 1, 0, 0), (2, 7, 0, 65, 0), (36, 0, 0, 0, 0), (23, 1, 0, 0, 0), (0, 0, 1, 0, 0), (2, 7, 0, 65, 0), (4, 2, 1, 0, 0), (33, 0, 0, 0, 0), (10, 2, 0, 0, 0)]
abbrev zb_83_1 : List zI0 := [(3, 0, 0, 0, 0), (111, 2, 0, 0, 0)]
abbrev zb_83_2 : List zI0 := [(8, 0, 0, 0, 0)]
abbrev zc_83 : List (List zI0) := [zb_83_0, zb_83_1, zb_83_2]
abbrev zb_84_0 : List zI0 := [(0, 0, 1, 0, 0), (4, 1, 1, 0, 0), (11, 7, 6, 71, 6), (0, 0, 1, 0, 0), (3, 0, 0, 0, 0), (11, 7, 4, 70, 4), (0, 0, 1, 0, 0), (3, 0, 0, 0, 0), (11, 7, 5, 69, 5), (0, 0, 1, 0, 0), (3, 0, 0, 0, 0), (11, 7, 7, 72, 7), (0, 0, 1, 0, 0), (2, 7, 2, 67, 2), (3, 0, 0, 0, 0), (5, 328, 2, 0, 64), (3, 0, 0, 0, 1), (30, 2, 1, 0, 0), (111, 1, 0, 0, 0)]
abbrev zb_84_1 : List zI0 := [(4, 2, 1, 0, 0), (3, 1, 0, 0, 10), (24, 4, 0, 0, 0), (3, 0, 0, 0, 0), (30, 3, 1, 0, 0), (111, 2, 0, 0, 0)]
abbrev zb_84_2 : List zI0 := [(4, 3, 1, 0, 0), (4, 1, 1, 0, 0), (4, 2, 1, 0, 0), (5, 81, 1, 0, 65), (39, 0, 0, 0, 0), (23, 3, 0, 0, 0), (0, 0, 1, 0, 0), (1, 7, 5, 69, 5), (16, 3, 0, 0, 0), (0, 0, 1, 0, 0), (1, 7, 5, 69, 5), (0, 0, 1, 0, 0), (2, 7, 0, 65, 0), (36, 0, 0, 0, 0), (23, 3, 0, 0, 0), (0, 0, 1, 0, 0), (2, 7, 0, 65, 0), (0, 0, 1, 0, 0), (1, 7, 5, 69, 5), (4, 2, 1, 0, 0), (35, 0, 0, 0, 0), (0, 0, 1, 0, 0), (47, 0, 0, 0, 0), (1, 7, 5, 69, 5), (3, 0, 0, 0, 1), (37, 0, 0, 0, 0), (11, 7, 5, 69, 5), (32, 3, 0, 0, 1), (10, 2, 0, 0, 0)]
abbrev zb_84_3 : List zI0 := [(32, 2, 0, 0, 1), (10, 1, 0, 0, 0)]
abbrev zb_84_4 : List zI0 := [(50, 0, 0, 0, 0)]
abbrev zc_84 : List (List zI0) := [zb_84_0, zb_84_1, zb_84_2, zb_84_3, zb_84_4]
abbrev zb_85_0 : List zI0 := [(0, 0, 1, 0, 0), (6, 82, 0, 7, 66), (30, 2, 1, 0, 0), (3, 0, 0, 0, 0), (30, 3, 1, 0, 0), (111, 1, 0, 0, 0)]
abbrev zb_85_1 : List zI0 := [(4, 3, 1, 0, 0), (4, 2, 1, 0, 0), (23, 4, 0, 0, 0), (4, 3, 1, 0, 0), (0, 0, 1, 0, 0), (2, 7, 1, 66, 1), (36, 0, 0, 0, 0), (23, 4, 0, 0, 0), (4, 3, 1, 0, 0), (4, 1, 1, 0, 0), (37, 0, 0, 0, 0), (30, 4, 0, 0, 0), (0, 0, 1, 0, 0), (2, 7, 1, 66, 1), (4, 3, 1, 0, 0), (0, 0, 1, 0, 0), (4, 4, 0, 0, 0), (4, 2, 1, 0, 0), (23, 2, 0, 0, 0), (4, 4, 0, 0, 0), (10, 3, 0, 0, 0)]
abbrev zb_85_2 : List zI0 := [(4, 4, 0, 0, 0), (4, 2, 1, 0, 0), (38, 0, 0, 0, 0), (111, 3, 0, 0, 0)]
abbrev zb_85_3 : List zI0 := [(6, 83, 1, 7, 67), (35, 0, 0, 0, 0), (32, 3, 0, 0, 1), (10, 1, 0, 0, 0)]
abbrev zb_85_4 : List zI0 := [(0, 0, 1, 0, 0), (4, 2, 1, 0, 0), (6, 87, 1, 7, 68), (50, 0, 0, 0, 0)]
abbrev zc_85 : List (List zI0) := [zb_85_0, zb_85_1, zb_85_2, zb_85_3, zb_85_4]
abbrev zb_86_0 : List zI0 := [(0, 0, 1, 0, 0), (6, 82, 0, 7, 66), (30, 2, 1, 0, 0), (4, 1, 1, 0, 0), (14, 1, 0, 0, 0), (4, 2, 1, 0, 0), (3, 0, 0, 0, 1), (37, 0, 0, 0, 0), (3, 0, 0, 0, 2), (40, 0, 0, 0, 0), (10, 2, 0, 0, 0)]
abbrev zb_86_1 : List zI0 := [(4, 2, 1, 0, 0), (3, 0, 0, 0, 2), (40, 0, 0, 0, 0), (111, 2, 0, 0, 0)]
abbrev zb_86_2 : List zI0 := [(30, 3, 1, 0, 0), (3, 0, 0, 0, 0), (30, 4, 0, 0, 0), (111, 3, 0, 0, 0)]
abbrev zb_86_3 : List zI0 := [(4, 4, 0, 0, 0), (4, 2, 1, 0, 0), (23, 10, 0, 0, 0), (4, 4, 0, 0, 0), (0, 0, 1, 0, 0), (2, 7, 1, 66, 1), (36, 0, 0, 0, 0), (23, 10, 0, 0, 0), (4, 4, 0, 0, 0), (3, 0, 0, 0, 2), (41, 0, 0, 0, 0), (15, 4, 0, 0, 0), (3, 0, 0, 0, 1), (10, 5, 0, 0, 0)]
abbrev zb_86_4 : List zI0 := [(3, 0, 0, 0, 0), (111, 5, 0, 0, 0)]
abbrev zb_86_5 : List zI0 := [(4, 1, 1, 0, 0), (21, 6, 0, 0, 0), (3, 0, 0, 0, 1), (10, 7, 0, 0, 0)]
abbrev zb_86_6 : List zI0 := [(3, 0, 0, 0, 0), (111, 7, 0, 0, 0)]
abbrev zb_86_7 : List zI0 := [(30, 5, 0, 0, 0), (0, 0, 1, 0, 0), (2, 7, 1, 66, 1), (4, 4, 0, 0, 0), (0, 0, 1, 0, 0), (4, 5, 0, 0, 0), (14, 8, 0, 0, 0), (4, 4, 0, 0, 0), (3, 0, 0, 0, 2), (40, 0, 0, 0, 0), (10, 9, 0, 0, 0)]
abbrev zb_86_8 : List zI0 := [(4, 3, 1, 0, 0), (4, 4, 0, 0, 0), (3, 0, 0, 0, 2), (40, 0, 0, 0, 0), (37, 0, 0, 0, 0), (111, 9, 0, 0, 0)]
abbrev zb_86_9 : List zI0 := [(6, 83, 1, 7, 67), (35, 0, 0, 0, 0), (32, 4, 0, 0, 1), (10, 3, 0, 0, 0)]
abbrev zb_86_10 : List zI0 := [(0, 0, 1, 0, 0), (4, 2, 1, 0, 0), (6, 87, 1, 7, 68), (50, 0, 0, 0, 0)]
abbrev zc_86 : List (List zI0) := [zb_86_0, zb_86_1, zb_86_2, zb_86_3, zb_86_4, zb_86_5, zb_86_6, zb_86_7, zb_86_8, zb_86_9, zb_86_10]
abbrev zb_87_0 : List zI0 := [(3, 0, 0, 0, 0), (30, 2, 1, 0, 0), (111, 1, 0, 0, 0)]
abbrev zb_87_1 : List zI0 := [(4, 2, 1, 0, 0), (4, 1, 1, 0, 0), (23, 2, 0, 0, 0), (4, 2, 1, 0, 0), (0, 0, 1, 0, 0), (2, 7, 1, 66, 1), (36, 0, 0, 0, 0), (23, 2, 0, 0, 0), (4, 2, 1, 0, 0), (0, 0, 1, 0, 0), (2, 7, 0, 65, 0), (36, 0, 0, 0, 0), (23, 2, 0, 0, 0), (0, 0, 1, 0, 0), (2, 7, 0, 65, 0), (4, 2, 1, 0, 0), (0, 0, 1, 0, 0), (2, 7, 1, 66, 1), (4, 2, 1, 0, 0), (33, 0, 0, 0, 0), (35, 0, 0, 0, 0), (32, 2, 0, 0, 1), (10, 1, 0, 0, 0)]
abbrev zb_87_2 : List zI0 := [(0, 0, 1, 0, 0), (3, 0, 0, 0, 0), (11, 7, 4, 70, 4), (0, 0, 1, 0, 0), (4, 1, 1, 0, 0), (11, 7, 5, 69, 5), (50, 0, 0, 0, 0)]
abbrev zc_87 : List (List zI0) := [zb_87_0, zb_87_1, zb_87_2]
abbrev zb_88_0 : List zI0 := [(0, 0, 1, 0, 0), (3, 0, 0, 0, 0), (6, 83, 1, 7, 67), (30, 1, 1, 0, 0), (4, 1, 1, 0, 0), (14, 1, 0, 0, 0), (0, 0, 1, 0, 0), (47, 0, 0, 0, 0), (1, 7, 4, 70, 4), (3, 0, 0, 0, 1), (37, 0, 0, 0, 0), (11, 7, 4, 70, 4), (111, 1, 0, 0, 0)]
abbrev zb_88_1 : List zI0 := [(4, 1, 1, 0, 0), (8, 0, 0, 0, 0)]
abbrev zc_88 : List (List zI0) := [zb_88_0, zb_88_1]
abbrev zb_89_0 : List zI0 := [(4, 1, 1, 0, 0), (19, 1, 0, 0, 0), (4, 1, 1, 0, 0), (0, 0, 1, 0, 0), (2, 7, 2, 67, 2), (36, 0, 0, 0, 0), (23, 1, 0, 0, 0), (0, 0, 1, 0, 0), (2, 7, 2, 67, 2), (4, 1, 1, 0, 0), (48, 0, 0, 0, 0), (33, 0, 0, 0, 0), (3, 0, 0, 0, 1), (37, 0, 0, 0, 0), (35, 0, 0, 0, 0), (111, 1, 0, 0, 0)]
abbrev zb_89_1 : List zI0 := [(50, 0, 0, 0, 0)]
abbrev zc_89 : List (List zI0) := [zb_89_0, zb_89_1]
abbrev zb_90_0 : List zI0 := [(0, 0, 1, 0, 0), (6, 88, 0, 7, 69), (30, 1, 1, 0, 0), (0, 0, 1, 0, 0), (4, 1, 1, 0, 0), (6, 89, 1, 7, 70), (4, 1, 1, 0, 0), (8, 0, 0, 0, 0)]
abbrev zc_90 : List (List zI0) := [zb_90_0]
abbrev zb_91_0 : List zI0 := [(0, 0, 1, 0, 0), (0, 0, 1, 0, 0), (6, 88, 0, 7, 69), (11, 7, 7, 72, 7), (0, 0, 1, 0, 0), (1, 7, 7, 72, 7), (8, 0, 0, 0, 0)]
abbrev zc_91 : List (List zI0) := [zb_91_0]
abbrev zb_92_0 : List zI0 := [(0, 0, 1, 0, 0), (0, 0, 1, 0, 0), (1, 7, 7, 72, 7), (6, 89, 1, 7, 70), (0, 0, 1, 0, 0), (3, 0, 0, 0, 0), (11, 7, 7, 72, 7), (50, 0, 0, 0, 0)]
abbrev zc_92 : List (List zI0) := [zb_92_0]
abbrev zb_93_0 : List zI0 := [(4, 1, 1, 0, 0), (19, 1, 0, 0, 0), (4, 1, 1, 0, 0), (0, 0, 1, 0, 0), (2, 7, 2, 67, 2), (36, 0, 0, 0, 0), (23, 1, 0, 0, 0), (0, 0, 1, 0, 0), (1, 7, 6, 71, 6), (4, 1, 1, 0, 0), (5, 81, 1, 0, 65), (39, 0, 0, 0, 0), (0, 0, 1, 0, 0), (2, 7, 2, 67, 2), (4, 1, 1, 0, 0), (33, 0, 0, 0, 0), (38, 0, 0, 0, 0), (10, 2, 0, 0, 0)]
abbrev zb_93_1 : List zI0 := [(3, 0, 0, 0, 0), (111, 2, 0, 0, 0)]
abbrev zb_93_2 : List zI0 := [(8, 0, 0, 0, 0)]
abbrev zc_93 : List (List zI0) := [zb_93_0, zb_93_1, zb_93_2]
abbrev zb_94_0 : List zI0 := [(3, 0, 0, 0, 0), (30, 2, 1, 0, 0), (4, 1, 1, 0, 0), (3, 0, 0, 0, 1), (37, 0, 0, 0, 0), (30, 3, 1, 0, 0), (111, 1, 0, 0, 0)]
abbrev zb_94_1 : List zI0 := [(4, 3, 1, 0, 0), (3, 1, 0, 0, 10), (24, 2, 0, 0, 0), (4, 2, 1, 0, 0), (0, 0, 1, 0, 0), (4, 3, 1, 0, 0), (6, 93, 1, 7, 71), (37, 0, 0, 0, 0), (30, 2, 1, 0, 0), (32, 3, 0, 0, 1), (10, 1, 0, 0, 0)]
abbrev zb_94_2 : List zI0 := [(4, 2, 1, 0, 0), (8, 0, 0, 0, 0)]
abbrev zc_94 : List (List zI0) := [zb_94_0, zb_94_1, zb_94_2]
abbrev zb_95_0 : List zI0 := [(0, 0, 1, 0, 0), (3, 0, 0, 0, 0), (6, 94, 1, 7, 72), (8, 0, 0, 0, 0)]
abbrev zc_95 : List (List zI0) := [zb_95_0]
abbrev zb_96_0 : List zI0 := [(4, 1, 1, 0, 0), (16, 1, 0, 0, 0), (4, 1, 1, 0, 0), (0, 0, 1, 0, 0), (2, 7, 3, 68, 3), (36, 0, 0, 0, 0), (22, 2, 0, 0, 0), (111, 1, 0, 0, 0)]
abbrev zb_96_1 : List zI0 := [(3, 0, 0, 0, 0), (8, 0, 0, 0, 0)]
abbrev zb_96_2 : List zI0 := [(0, 0, 1, 0, 0), (2, 7, 3, 68, 3), (4, 1, 1, 0, 0), (33, 0, 0, 0, 0), (30, 3, 1, 0, 0), (0, 0, 1, 0, 0), (2, 7, 3, 68, 3), (4, 1, 1, 0, 0), (4, 2, 1, 0, 0), (35, 0, 0, 0, 0), (4, 3, 1, 0, 0), (8, 0, 0, 0, 0)]
abbrev zc_96 : List (List zI0) := [zb_96_0, zb_96_1, zb_96_2]
abbrev zb_97_0 : List zI0 := [(3, 0, 0, 0, 0), (30, 1, 1, 0, 0), (3, 0, 0, 0, 1), (30, 2, 1, 0, 0), (111, 1, 0, 0, 0)]
abbrev zb_97_1 : List zI0 := [(4, 2, 1, 0, 0), (0, 0, 1, 0, 0), (2, 7, 2, 67, 2), (36, 0, 0, 0, 0), (23, 2, 0, 0, 0), (4, 2, 1, 0, 0), (0, 0, 1, 0, 0), (2, 7, 3, 68, 3), (36, 0, 0, 0, 0), (23, 2, 0, 0, 0), (4, 1, 1, 0, 0), (0, 0, 1, 0, 0), (2, 7, 2, 67, 2), (4, 2, 1, 0, 0), (33, 0, 0, 0, 0), (0, 0, 1, 0, 0), (2, 7, 3, 68, 3), (4, 2, 1, 0, 0), (33, 0, 0, 0, 0), (39, 0, 0, 0, 0), (37, 0, 0, 0, 0), (30, 1, 1, 0, 0), (32, 2, 0, 0, 1), (10, 1, 0, 0, 0)]
abbrev zb_97_2 : List zI0 := [(4, 1, 1, 0, 0), (8, 0, 0, 0, 0)]
abbrev zc_97 : List (List zI0) := [zb_97_0, zb_97_1, zb_97_2]
abbrev zb_98_0 : List zI0 := [(0, 0, 1, 0, 0), (6, 95, 0, 7, 73), (30, 1, 1, 0, 0), (4, 1, 1, 0, 0), (15, 1, 0, 0, 0), (3, 0, 0, 0, 0), (10, 2, 0, 0, 0)]
abbrev zb_98_1 : List zI0 := [(0, 0, 1, 0, 0), (6, 97, 0, 7, 74), (3, 1, 0, 0, 52), (39, 0, 0, 0, 0), (4, 1, 1, 0, 0), (40, 0, 0, 0, 0), (111, 2, 0, 0, 0)]
abbrev zb_98_2 : List zI0 := [(8, 0, 0, 0, 0)]
abbrev zc_98 : List (List zI0) := [zb_98_0, zb_98_1, zb_98_2]
abbrev zb_99_0 : List zI0 := [(3, 0, 0, 0, 1), (30, 1, 1, 0, 0), (111, 1, 0, 0, 0)]
abbrev zb_99_1 : List zI0 := [(4, 1, 1, 0, 0), (3, 1, 0, 0, 10), (24, 8, 0, 0, 0), (0, 0, 1, 0, 0), (1, 7, 7, 72, 7), (4, 1, 1, 0, 0), (21, 2, 0, 0, 0), (3, 0, 0, 0, 1), (10, 3, 0, 0, 0)]
abbrev zb_99_2 : List zI0 := [(3, 0, 0, 0, 0), (111, 3, 0, 0, 0)]
abbrev zb_99_3 : List zI0 := [(30, 2, 1, 0, 0), (3, 0, 0, 0, 0), (30, 3, 1, 0, 0), (111, 4, 0, 0, 0)]
abbrev zb_99_4 : List zI0 := [(4, 3, 1, 0, 0), (0, 0, 1, 0, 0), (6, 82, 0, 7, 66), (23, 6, 0, 0, 0), (0, 0, 1, 0, 0), (4, 3, 1, 0, 0), (6, 83, 1, 7, 67), (4, 1, 1, 0, 0), (21, 5, 0, 0, 0), (32, 2, 0, 0, 1), (111, 5, 0, 0, 0)]
abbrev zb_99_5 : List zI0 := [(32, 3, 0, 0, 1), (10, 4, 0, 0, 0)]
abbrev zb_99_6 : List zI0 := [(4, 2, 1, 0, 0), (0, 0, 1, 0, 0), (4, 1, 1, 0, 0), (6, 93, 1, 7, 71), (20, 7, 0, 0, 0), (3, 0, 0, 0, 0), (9, 0, 0, 0, 0)]
abbrev zb_99_7 : List zI0 := [(32, 1, 0, 0, 1), (10, 1, 0, 0, 0)]
abbrev zb_99_8 : List zI0 := [(3, 0, 0, 0, 1), (9, 0, 0, 0, 0)]
abbrev zc_99 : List (List zI0) := [zb_99_0, zb_99_1, zb_99_2, zb_99_3, zb_99_4, zb_99_5, zb_99_6, zb_99_7, zb_99_8]
abbrev zb_100_0 : List zI0 := [(0, 0, 1, 0, 0), (108, 0, 0, 0, 1), (0, 0, 1, 0, 0), (0, 1, 1, 0, 0), (13, 8, 0, 73, 0), (50, 0, 0, 0, 0)]
abbrev zc_100 : List (List zI0) := [zb_100_0]
abbrev zb_101_0 : List zI0 := [(0, 0, 1, 0, 0), (2, 8, 0, 73, 0), (47, 0, 0, 0, 0), (1, 9, 0, 74, 0), (4, 1, 1, 0, 0), (38, 0, 0, 0, 0), (11, 9, 0, 74, 0), (0, 0, 1, 0, 0), (47, 0, 0, 0, 0), (1, 8, 1, 75, 1), (4, 1, 1, 0, 0), (37, 0, 0, 0, 0), (11, 8, 1, 75, 1), (0, 0, 1, 0, 0), (47, 0, 0, 0, 0), (1, 8, 3, 76, 3), (4, 1, 1, 0, 0), (37, 0, 0, 0, 0), (11, 8, 3, 76, 3), (50, 0, 0, 0, 0)]
abbrev zc_101 : List (List zI0) := [zb_101_0]
abbrev zb_102_0 : List zI0 := [(0, 0, 1, 0, 0), (47, 0, 0, 0, 0), (1, 8, 1, 75, 1), (4, 1, 1, 0, 0), (38, 0, 0, 0, 0), (11, 8, 1, 75, 1), (0, 0, 1, 0, 0), (2, 8, 0, 73, 0), (47, 0, 0, 0, 0), (1, 9, 0, 74, 0), (4, 1, 1, 0, 0), (37, 0, 0, 0, 0), (11, 9, 0, 74, 0), (0, 0, 1, 0, 0), (47, 0, 0, 0, 0), (1, 8, 4, 77, 4), (4, 1, 1, 0, 0), (37, 0, 0, 0, 0), (11, 8, 4, 77, 4), (50, 0, 0, 0, 0)]
abbrev zc_102 : List (List zI0) := [zb_102_0]
abbrev zb_103_0 : List zI0 := [(0, 0, 1, 0, 0), (47, 0, 0, 0, 0), (1, 8, 1, 75, 1), (4, 1, 1, 0, 0), (37, 0, 0, 0, 0), (11, 8, 1, 75, 1), (50, 0, 0, 0, 0)]
abbrev zc_103 : List (List zI0) := [zb_103_0]
abbrev zb_104_0 : List zI0 := [(4, 1, 1, 0, 0), (0, 0, 1, 0, 0), (1, 8, 1, 75, 1), (25, 1, 0, 0, 0), (0, 0, 1, 0, 0), (4, 1, 1, 0, 0), (0, 0, 1, 0, 0), (1, 8, 1, 75, 1), (38, 0, 0, 0, 0), (6, 101, 1, 8, 75), (111, 1, 0, 0, 0)]
abbrev zb_104_1 : List zI0 := [(0, 0, 1, 0, 0), (47, 0, 0, 0, 0), (1, 8, 1, 75, 1), (4, 1, 1, 0, 0), (38, 0, 0, 0, 0), (11, 8, 1, 75, 1), (50, 0, 0, 0, 0)]
abbrev zc_104 : List (List zI0) := [zb_104_0, zb_104_1]
abbrev zb_105_0 : List zI0 := [(0, 0, 1, 0, 0), (1, 8, 1, 75, 1), (0, 0, 1, 0, 0), (1, 8, 2, 78, 2), (38, 0, 0, 0, 0), (0, 0, 1, 0, 0), (1, 8, 3, 76, 3), (38, 0, 0, 0, 0), (0, 0, 1, 0, 0), (1, 8, 4, 77, 4), (37, 0, 0, 0, 0), (8, 0, 0, 0, 0)]
abbrev zc_105 : List (List zI0) := [zb_105_0]
abbrev zb_106_0 : List zI0 := [(0, 0, 1, 0, 0), (0, 0, 1, 0, 0), (1, 8, 1, 75, 1), (11, 8, 2, 78, 2), (0, 0, 1, 0, 0), (3, 0, 0, 0, 0), (11, 8, 3, 76, 3), (0, 0, 1, 0, 0), (3, 0, 0, 0, 0), (11, 8, 4, 77, 4), (50, 0, 0, 0, 0)]
abbrev zc_106 : List (List zI0) := [zb_106_0]
abbrev zb_107_0 : List zI0 := [(0, 0, 1, 0, 0), (108, 0, 0, 0, 3), (0, 0, 1, 0, 0), (3, 3, 1, 0, 100000), (11, 9, 0, 79, 0), (50, 0, 0, 0, 0)]
abbrev zc_107 : List (List zI0) := [zb_107_0]
abbrev zb_108_0 : List zI0 := [(0, 0, 1, 0, 0), (108, 0, 0, 0, 1), (0, 0, 1, 0, 0), (3, 1, 0, 0, 10), (59, 2, 0, 5, 0), (13, 10, 1, 80, 1), (0, 0, 1, 0, 0), (3, 1, 0, 0, 10), (58, 3, 0, 0, 0), (13, 10, 2, 81, 2), (0, 0, 1, 0, 0), (3, 1, 0, 0, 10), (58, 0, 0, 0, 0), (13, 10, 3, 82, 3), (0, 0, 1, 0, 0), (3, 1, 0, 0, 10), (58, 0, 0, 0, 0), (13, 10, 4, 83, 4), (0, 0, 1, 0, 0), (0, 1, 1, 0, 0), (13, 10, 0, 84, 0), (50, 0, 0, 0, 0)]
abbrev zc_108 : List (List zI0) := [zb_108_0]
abbrev zb_109_0 : List zI0 := [(4, 0, 1, 0, 0), (3, 1, 0, 0, 110), (21, 3, 0, 0, 0), (4, 1, 1, 0, 0), (16, 1, 0, 0, 0), (4, 1, 1, 0, 0), (3, 1, 0, 0, 36), (24, 1, 0, 0, 0), (3, 0, 0, 0, 1), (10, 2, 0, 0, 0)]
abbrev zb_109_1 : List zI0 := [(3, 0, 0, 0, 0), (111, 2, 0, 0, 0)]
abbrev zb_109_2 : List zI0 := [(9, 0, 0, 0, 0)]
abbrev zb_109_3 : List zI0 := [(4, 0, 1, 0, 0), (3, 1, 0, 0, 100), (21, 6, 0, 0, 0), (4, 1, 1, 0, 0), (16, 4, 0, 0, 0), (4, 1, 1, 0, 0), (3, 0, 0, 0, 2), (24, 4, 0, 0, 0), (3, 0, 0, 0, 1), (10, 5, 0, 0, 0)]
abbrev zb_109_4 : List zI0 := [(3, 0, 0, 0, 0), (111, 5, 0, 0, 0)]
abbrev zb_109_5 : List zI0 := [(9, 0, 0, 0, 0)]
abbrev zb_109_6 : List zI0 := [(4, 0, 1, 0, 0), (3, 1, 0, 0, 114), (20, 7, 0, 0, 0), (4, 0, 1, 0, 0), (3, 1, 0, 0, 98), (21, 8, 0, 0, 0), (111, 7, 0, 0, 0)]
abbrev zb_109_7 : List zI0 := [(3, 0, 0, 0, 1), (10, 9, 0, 0, 0)]
abbrev zb_109_8 : List zI0 := [(3, 0, 0, 0, 0), (111, 9, 0, 0, 0)]
abbrev zb_109_9 : List zI0 := [(9, 0, 0, 0, 0)]
abbrev zc_109 : List (List zI0) := [zb_109_0, zb_109_1, zb_109_2, zb_109_3, zb_109_4, zb_109_5, zb_109_6, zb_109_7, zb_109_8, zb_109_9]
abbrev zb_110_0 : List zI0 := [(4, 0, 1, 0, 0), (3, 0, 0, 0, 2), (41, 0, 0, 0, 0), (14, 1, 0, 0, 0), (3, 0, 0, 0, 1), (10, 2, 0, 0, 0)]
abbrev zb_110_1 : List zI0 := [(3, 0, 0, 0, 0), (111, 2, 0, 0, 0)]
abbrev zb_110_2 : List zI0 := [(30, 1, 1, 0, 0), (4, 0, 1, 0, 0), (3, 0, 0, 0, 1), (22, 3, 0, 0, 0), (4, 0, 1, 0, 0), (3, 1, 0, 0, 10), (25, 4, 0, 0, 0), (111, 3, 0, 0, 0)]
abbrev zb_110_3 : List zI0 := [(4, 0, 1, 0, 0), (3, 1, 0, 0, 19), (22, 5, 0, 0, 0), (4, 0, 1, 0, 0), (3, 1, 0, 0, 28), (24, 5, 0, 0, 0), (111, 4, 0, 0, 0)]
abbrev zb_110_4 : List zI0 := [(3, 0, 0, 0, 1), (10, 6, 0, 0, 0)]
abbrev zb_110_5 : List zI0 := [(3, 0, 0, 0, 0), (111, 6, 0, 0, 0)]
abbrev zb_110_6 : List zI0 := [(30, 2, 1, 0, 0), (4, 0, 1, 0, 0), (14, 7, 0, 0, 0), (4, 1, 1, 0, 0), (4, 2, 1, 0, 0), (21, 7, 0, 0, 0), (3, 0, 0, 0, 1), (10, 8, 0, 0, 0)]
abbrev zb_110_7 : List zI0 := [(3, 0, 0, 0, 0), (111, 8, 0, 0, 0)]
abbrev zb_110_8 : List zI0 := [(9, 0, 0, 0, 0)]
abbrev zc_110 : List (List zI0) := [zb_110_0, zb_110_1, zb_110_2, zb_110_3, zb_110_4, zb_110_5, zb_110_6, zb_110_7, zb_110_8]
abbrev zb_111_0 : List zI0 := [(4, 0, 1, 0, 0), (3, 1, 0, 0, 110), (21, 3, 0, 0, 0), (4, 1, 1, 0, 0), (4, 2, 1, 0, 0), (21, 1, 0, 0, 0), (3, 1, 0, 0, 35), (10, 2, 0, 0, 0)]
abbrev zb_111_1 : List zI0 := [(3, 0, 0, 0, 0), (111, 2, 0, 0, 0)]
abbrev zb_111_2 : List zI0 := [(8, 0, 0, 0, 0)]
abbrev zb_111_3 : List zI0 := [(4, 0, 1, 0, 0), (3, 1, 0, 0, 100), (21, 6, 0, 0, 0), (4, 2, 1, 0, 0), (3, 1, 0, 0, 12), (4, 1, 1, 0, 0), (39, 0, 0, 0, 0), (25, 4, 0, 0, 0), (4, 2, 1, 0, 0), (3, 1, 0, 0, 12), (4, 1, 1, 0, 0), (39, 0, 0, 0, 0), (3, 1, 0, 0, 12), (37, 0, 0, 0, 0), (24, 4, 0, 0, 0), (3, 0, 0, 0, 2), (10, 5, 0, 0, 0)]
abbrev zb_111_4 : List zI0 := [(3, 0, 0, 0, 0), (111, 5, 0, 0, 0)]
abbrev zb_111_5 : List zI0 := [(8, 0, 0, 0, 0)]
abbrev zb_111_6 : List zI0 := [(4, 2, 1, 0, 0), (14, 9, 0, 0, 0), (4, 2, 1, 0, 0), (5, 110, 1, 0, 76), (4, 0, 1, 0, 0), (3, 1, 0, 0, 114), (21, 7, 0, 0, 0), (3, 0, 0, 0, 1), (10, 8, 0, 0, 0)]
abbrev zb_111_7 : List zI0 := [(3, 0, 0, 0, 0), (111, 8, 0, 0, 0)]
abbrev zb_111_8 : List zI0 := [(21, 9, 0, 0, 0), (3, 0, 0, 0, 1), (10, 10, 0, 0, 0)]
abbrev zb_111_9 : List zI0 := [(3, 0, 0, 0, 0), (111, 10, 0, 0, 0)]
abbrev zb_111_10 : List zI0 := [(8, 0, 0, 0, 0)]
abbrev zc_111 : List (List zI0) := [zb_111_0, zb_111_1, zb_111_2, zb_111_3, zb_111_4, zb_111_5, zb_111_6, zb_111_7, zb_111_8, zb_111_9, zb_111_10]
abbrev zb_112_0 : List zI0 := [(0, 0, 1, 0, 0), (1, 10, 5, 85, 5), (3, 1, 0, 0, 10), (22, 1, 0, 0, 0), (3, 0, 0, 0, 1), (10, 2, 0, 0, 0)]
abbrev zb_112_1 : List zI0 := [(3, 0, 0, 0, 0), (111, 2, 0, 0, 0)]
abbrev zb_112_2 : List zI0 := [(9, 0, 0, 0, 0)]
abbrev zc_112 : List (List zI0) := [zb_112_0, zb_112_1, zb_112_2]
abbrev zb_113_0 : List zI0 := [(0, 0, 1, 0, 0), (1, 10, 5, 85, 5), (16, 1, 0, 0, 0), (0, 0, 1, 0, 0), (1, 10, 5, 85, 5), (3, 1, 0, 0, 10), (23, 1, 0, 0, 0), (0, 0, 1, 0, 0), (2, 10, 1, 80, 1), (0, 0, 1, 0, 0), (1, 10, 5, 85, 5), (0, 1, 1, 0, 0), (62, 0, 0, 0, 0), (0, 0, 1, 0, 0), (2, 10, 2, 81, 2), (0, 0, 1, 0, 0), (1, 10, 5, 85, 5), (4, 2, 1, 0, 0), (100, 0, 0, 0, 0), (0, 0, 1, 0, 0), (2, 10, 3, 82, 3), (0, 0, 1, 0, 0), (1, 10, 5, 85, 5), (4, 3, 1, 0, 0), (35, 0, 0, 0, 0), (0, 0, 1, 0, 0), (2, 10, 4, 83, 4), (0, 0, 1, 0, 0), (1, 10, 5, 85, 5), (4, 4, 0, 0, 0), (35, 0, 0, 0, 0), (0, 0, 1, 0, 0), (47, 0, 0, 0, 0), (1, 10, 5, 85, 5), (3, 0, 0, 0, 1), (37, 0, 0, 0, 0), (11, 10, 5, 85, 5), (111, 1, 0, 0, 0)]
abbrev zb_113_1 : List zI0 := [(50, 0, 0, 0, 0)]
abbrev zc_113 : List (List zI0) := [zb_113_0, zb_113_1]
abbrev zb_114_0 : List zI0 := [(3, 0, 0, 0, 0), (30, 2, 1, 0, 0), (3, 0, 0, 0, 0), (30, 3, 1, 0, 0), (111, 1, 0, 0, 0)]
abbrev zb_114_1 : List zI0 := [(4, 3, 1, 0, 0), (0, 0, 1, 0, 0), (1, 10, 5, 85, 5), (23, 5, 0, 0, 0), (4, 3, 1, 0, 0), (3, 1, 0, 0, 10), (23, 5, 0, 0, 0), (0, 0, 1, 0, 0), (2, 10, 2, 81, 2), (4, 3, 1, 0, 0), (99, 0, 0, 0, 0), (0, 0, 1, 0, 0), (2, 10, 3, 82, 3), (4, 3, 1, 0, 0), (33, 0, 0, 0, 0), (4, 1, 1, 0, 0), (5, 111, 3, 0, 77), (30, 4, 0, 0, 0), (0, 0, 1, 0, 0), (2, 10, 1, 80, 1), (4, 3, 1, 0, 0), (34, 0, 0, 0, 0), (31, 5, 0, 0, 0), (4, 4, 0, 0, 0), (14, 2, 0, 0, 0), (0, 5, 0, 0, 0), (27, 3, 0, 0, 0), (111, 2, 0, 0, 0)]
abbrev zb_114_2 : List zI0 := [(0, 0, 1, 0, 0), (2, 10, 0, 84, 0), (0, 0, 1, 0, 0), (2, 10, 4, 83, 4), (4, 3, 1, 0, 0), (33, 0, 0, 0, 0), (6, 103, 1, 8, 78), (10, 4, 0, 0, 0)]
abbrev zb_114_3 : List zI0 := [(0, 0, 1, 0, 0), (2, 10, 0, 84, 0), (4, 4, 0, 0, 0), (0, 0, 1, 0, 0), (2, 10, 4, 83, 4), (4, 3, 1, 0, 0), (33, 0, 0, 0, 0), (39, 0, 0, 0, 0), (6, 104, 1, 8, 79), (0, 5, 0, 0, 0), (47, 0, 0, 0, 0), (1, 2, 2, 86, 2), (4, 4, 0, 0, 0), (3, 0, 0, 0, 1), (37, 0, 0, 0, 0), (0, 0, 1, 0, 0), (2, 10, 4, 83, 4), (4, 3, 1, 0, 0), (33, 0, 0, 0, 0), (39, 0, 0, 0, 0), (37, 0, 0, 0, 0), (11, 2, 2, 86, 2), (4, 2, 1, 0, 0), (4, 4, 0, 0, 0), (3, 0, 0, 0, 1), (37, 0, 0, 0, 0), (0, 0, 1, 0, 0), (2, 10, 4, 83, 4), (4, 3, 1, 0, 0), (33, 0, 0, 0, 0), (39, 0, 0, 0, 0), (37, 0, 0, 0, 0), (30, 2, 1, 0, 0), (111, 4, 0, 0, 0)]
abbrev zb_114_4 : List zI0 := [(32, 3, 0, 0, 1), (10, 1, 0, 0, 0)]
abbrev zb_114_5 : List zI0 := [(0, 0, 1, 0, 0), (3, 0, 0, 0, 0), (11, 10, 5, 85, 5), (4, 2, 1, 0, 0), (8, 0, 0, 0, 0)]
abbrev zc_114 : List (List zI0) := [zb_114_0, zb_114_1, zb_114_2, zb_114_3, zb_114_4, zb_114_5]
abbrev zb_115_0 : List zI0 := [(3, 0, 0, 0, 0), (30, 2, 1, 0, 0), (3, 0, 0, 0, 0), (30, 3, 1, 0, 0), (111, 1, 0, 0, 0)]
abbrev zb_115_1 : List zI0 := [(4, 3, 1, 0, 0), (0, 0, 1, 0, 0), (1, 10, 5, 85, 5), (23, 3, 0, 0, 0), (4, 3, 1, 0, 0), (3, 1, 0, 0, 10), (23, 3, 0, 0, 0), (0, 0, 1, 0, 0), (2, 10, 1, 80, 1), (4, 3, 1, 0, 0), (34, 0, 0, 0, 0), (0, 1, 1, 0, 0), (29, 2, 0, 0, 0), (4, 2, 1, 0, 0), (0, 0, 1, 0, 0), (2, 10, 4, 83, 4), (4, 3, 1, 0, 0), (33, 0, 0, 0, 0), (37, 0, 0, 0, 0), (30, 2, 1, 0, 0), (111, 2, 0, 0, 0)]
abbrev zb_115_2 : List zI0 := [(32, 3, 0, 0, 1), (10, 1, 0, 0, 0)]
abbrev zb_115_3 : List zI0 := [(4, 2, 1, 0, 0), (8, 0, 0, 0, 0)]
abbrev zc_115 : List (List zI0) := [zb_115_0, zb_115_1, zb_115_2, zb_115_3]
abbrev zb_116_0 : List zI0 := [(0, 0, 1, 0, 0), (0, 1, 1, 0, 0), (6, 115, 1, 10, 80), (30, 2, 1, 0, 0), (0, 0, 1, 0, 0), (1, 10, 5, 85, 5), (30, 3, 1, 0, 0), (0, 0, 1, 0, 0), (3, 0, 0, 0, 0), (11, 10, 5, 85, 5), (3, 0, 0, 0, 0), (30, 4, 0, 0, 0), (111, 1, 0, 0, 0)]
abbrev zb_116_1 : List zI0 := [(4, 4, 0, 0, 0), (4, 3, 1, 0, 0), (23, 3, 0, 0, 0), (4, 4, 0, 0, 0), (3, 1, 0, 0, 10), (23, 3, 0, 0, 0), (0, 0, 1, 0, 0), (2, 10, 1, 80, 1), (4, 4, 0, 0, 0), (34, 0, 0, 0, 0), (31, 5, 0, 0, 0), (0, 5, 0, 0, 0), (0, 1, 1, 0, 0), (28, 2, 0, 0, 0), (0, 0, 1, 0, 0), (0, 5, 0, 0, 0), (0, 0, 1, 0, 0), (2, 10, 2, 81, 2), (4, 4, 0, 0, 0), (99, 0, 0, 0, 0), (0, 0, 1, 0, 0), (2, 10, 3, 82, 3), (4, 4, 0, 0, 0), (33, 0, 0, 0, 0), (0, 0, 1, 0, 0), (2, 10, 4, 83, 4), (4, 4, 0, 0, 0), (33, 0, 0, 0, 0), (6, 113, 4, 10, 81), (111, 2, 0, 0, 0)]
abbrev zb_116_2 : List zI0 := [(32, 4, 0, 0, 1), (10, 1, 0, 0, 0)]
abbrev zb_116_3 : List zI0 := [(4, 2, 1, 0, 0), (8, 0, 0, 0, 0)]
abbrev zc_116 : List (List zI0) := [zb_116_0, zb_116_1, zb_116_2, zb_116_3]
abbrev zb_117_0 : List zI0 := [(0, 0, 1, 0, 0), (108, 0, 0, 0, 1), (0, 0, 1, 0, 0), (3, 1, 0, 0, 8), (59, 2, 0, 6, 0), (13, 11, 0, 87, 0), (0, 0, 1, 0, 0), (3, 0, 0, 0, 3), (59, 8, 0, 7, 0), (13, 11, 1, 88, 1), (0, 0, 1, 0, 0), (57, 9, 1, 8, 0), (47, 0, 0, 0, 0), (7, 107, 0, 9, 82), (13, 11, 2, 89, 2), (0, 0, 1, 0, 0), (57, 7, 8, 9, 0), (47, 0, 0, 0, 0), (7, 80, 0, 7, 83), (13, 11, 3, 90, 3), (0, 0, 1, 0, 0), (57, 1, 3, 10, 0), (47, 0, 0, 0, 0), (7, 17, 0, 1, 84), (13, 11, 5, 91, 5), (0, 0, 1, 0, 0), (57, 4, 5, 11, 0), (47, 0, 0, 0, 0), (7, 43, 0, 4, 85), (13, 11, 8, 92, 8), (3, 0, 0, 0, 0), (30, 1, 1, 0, 0), (111, 1, 0, 0, 0)]
abbrev zb_117_1 : List zI0 := [(4, 1, 1, 0, 0), (0, 0, 1, 0, 0), (2, 11, 0, 87, 0), (36, 0, 0, 0, 0), (23, 2, 0, 0, 0), (0, 0, 1, 0, 0), (2, 11, 0, 87, 0), (4, 1, 1, 0, 0), (57, 2, 13, 12, 0), (47, 0, 0, 0, 0), (7, 20, 0, 2, 86), (62, 0, 0, 0, 0), (32, 1, 0, 0, 1), (10, 1, 0, 0, 0)]
abbrev zb_117_2 : List zI0 := [(3, 0, 0, 0, 0), (30, 1, 1, 0, 0), (111, 3, 0, 0, 0)]
abbrev zb_117_3 : List zI0 := [(4, 1, 1, 0, 0), (0, 0, 1, 0, 0), (2, 11, 1, 88, 1), (36, 0, 0, 0, 0), (23, 4, 0, 0, 0), (0, 0, 1, 0, 0), (2, 11, 1, 88, 1), (4, 1, 1, 0, 0), (57, 8, 5, 13, 0), (47, 0, 0, 0, 0), (0, 0, 1, 0, 0), (2, 11, 2, 89, 2), (7, 100, 1, 8, 87), (62, 0, 0, 0, 0), (32, 1, 0, 0, 1), (10, 3, 0, 0, 0)]
abbrev zb_117_4 : List zI0 := [(0, 0, 1, 0, 0), (57, 0, 10, 14, 0), (47, 0, 0, 0, 0), (0, 0, 1, 0, 0), (2, 11, 3, 90, 3), (0, 0, 1, 0, 0), (2, 11, 1, 88, 1), (3, 0, 0, 0, 0), (34, 0, 0, 0, 0), (7, 0, 2, 0, 88), (13, 11, 4, 93, 4), (0, 0, 1, 0, 0), (57, 10, 6, 15, 0), (47, 0, 0, 0, 0), (0, 0, 1, 0, 0), (2, 11, 1, 88, 1), (3, 0, 0, 0, 1), (34, 0, 0, 0, 0), (7, 108, 1, 10, 89), (13, 11, 6, 94, 6), (0, 0, 1, 0, 0), (57, 5, 9, 16, 0), (47, 0, 0, 0, 0), (0, 0, 1, 0, 0), (2, 11, 1, 88, 1), (3, 0, 0, 0, 2), (34, 0, 0, 0, 0), (7, 53, 1, 5, 90), (13, 11, 7, 95, 7), (50, 0, 0, 0, 0)]
abbrev zc_117 : List (List zI0) := [zb_117_0, zb_117_1, zb_117_2, zb_117_3, zb_117_4]
abbrev zb_118_0 : List zI0 := [(4, 1, 1, 0, 0), (3, 0, 0, 0, 0), (3, 3, 2, 0, 99999), (5, 198, 3, 0, 91), (0, 0, 1, 0, 0), (1, 11, 9, 96, 9), (16, 1, 0, 0, 0), (0, 0, 1, 0, 0), (1, 11, 9, 96, 9), (0, 0, 1, 0, 0), (2, 11, 0, 87, 0), (36, 0, 0, 0, 0), (22, 2, 0, 0, 0), (111, 1, 0, 0, 0)]
abbrev zb_118_1 : List zI0 := [(55, 1, 0, 0, 0)]
abbrev zb_118_2 : List zI0 := [(0, 0, 1, 0, 0), (2, 11, 0, 87, 0), (0, 0, 1, 0, 0), (1, 11, 9, 96, 9), (34, 0, 0, 0, 0), (4, 1, 1, 0, 0), (11, 2, 1, 97, 1), (0, 0, 1, 0, 0), (47, 0, 0, 0, 0), (1, 11, 9, 96, 9), (3, 0, 0, 0, 1), (37, 0, 0, 0, 0), (11, 11, 9, 96, 9), (0, 0, 1, 0, 0), (1, 11, 9, 96, 9), (3, 0, 0, 0, 1), (38, 0, 0, 0, 0), (8, 0, 0, 0, 0)]
abbrev zc_118 : List (List zI0) := [zb_118_0, zb_118_1, zb_118_2]
abbrev zb_119_0 : List zI0 := [(0, 0, 1, 0, 0), (4, 1, 1, 0, 0), (6, 183, 1, 11, 92), (31, 3, 1, 0, 0), (4, 2, 1, 0, 0), (3, 0, 0, 0, 1), (3, 2, 0, 0, 9999), (5, 198, 3, 0, 91), (0, 3, 1, 0, 0), (1, 2, 1, 97, 1), (4, 2, 1, 0, 0), (22, 1, 0, 0, 0), (0, 0, 1, 0, 0), (2, 11, 2, 89, 2), (1, 9, 0, 98, 0), (4, 2, 1, 0, 0), (23, 2, 0, 0, 0), (111, 1, 0, 0, 0)]
abbrev zb_119_1 : List zI0 := [(55, 3, 1, 0, 0)]
abbrev zb_119_2 : List zI0 := [(0, 0, 1, 0, 0), (2, 11, 2, 89, 2), (47, 0, 0, 0, 0), (1, 9, 0, 98, 0), (4, 2, 1, 0, 0), (38, 0, 0, 0, 0), (11, 9, 0, 98, 0), (0, 3, 1, 0, 0), (4, 2, 1, 0, 0), (6, 24, 1, 2, 93), (0, 3, 1, 0, 0), (1, 2, 2, 99, 2), (8, 0, 0, 0, 0)]
abbrev zc_119 : List (List zI0) := [zb_119_0, zb_119_1, zb_119_2]
abbrev zb_120_0 : List zI0 := [(0, 0, 1, 0, 0), (4, 1, 1, 0, 0), (6, 183, 1, 11, 92), (31, 3, 1, 0, 0), (4, 2, 1, 0, 0), (3, 0, 0, 0, 1), (3, 3, 2, 0, 99999), (5, 198, 3, 0, 91), (0, 3, 1, 0, 0), (1, 2, 2, 99, 2), (4, 2, 1, 0, 0), (23, 1, 0, 0, 0), (55, 3, 2, 0, 0)]
abbrev zb_120_1 : List zI0 := [(0, 3, 1, 0, 0), (47, 0, 0, 0, 0), (1, 2, 2, 99, 2), (4, 2, 1, 0, 0), (38, 0, 0, 0, 0), (11, 2, 2, 99, 2), (0, 3, 1, 0, 0), (47, 0, 0, 0, 0), (1, 2, 1, 97, 1), (4, 2, 1, 0, 0), (37, 0, 0, 0, 0), (11, 2, 1, 97, 1), (0, 0, 1, 0, 0), (2, 11, 2, 89, 2), (47, 0, 0, 0, 0), (1, 9, 0, 98, 0), (4, 2, 1, 0, 0), (37, 0, 0, 0, 0), (11, 9, 0, 98, 0), (0, 3, 1, 0, 0), (1, 2, 1, 97, 1), (8, 0, 0, 0, 0)]
abbrev zc_120 : List (List zI0) := [zb_120_0, zb_120_1]
abbrev zb_121_0 : List zI0 := [(0, 0, 1, 0, 0), (4, 1, 1, 0, 0), (6, 183, 1, 11, 92), (31, 3, 1, 0, 0), (4, 2, 1, 0, 0), (3, 0, 0, 0, 0), (3, 2, 0, 0, 5000), (5, 198, 3, 0, 91), (0, 3, 1, 0, 0), (4, 2, 1, 0, 0), (6, 25, 1, 2, 94), (0, 3, 1, 0, 0), (1, 2, 3, 100, 3), (8, 0, 0, 0, 0)]
abbrev zc_121 : List (List zI0) := [zb_121_0]
abbrev zb_122_0 : List zI0 := [(0, 0, 1, 0, 0), (4, 1, 1, 0, 0), (6, 183, 1, 11, 92), (31, 3, 1, 0, 0), (4, 2, 1, 0, 0), (0, 0, 1, 0, 0), (1, 11, 10, 101, 10), (25, 1, 0, 0, 0), (4, 2, 1, 0, 0), (3, 2, 0, 0, 999), (24, 1, 0, 0, 0), (4, 2, 1, 0, 0), (0, 3, 1, 0, 0), (1, 2, 6, 102, 6), (23, 2, 0, 0, 0), (111, 1, 0, 0, 0)]
abbrev zb_122_1 : List zI0 := [(55, 0, 3, 0, 0)]
abbrev zb_122_2 : List zI0 := [(0, 3, 1, 0, 0), (4, 2, 1, 0, 0), (11, 2, 6, 102, 6), (0, 0, 1, 0, 0), (2, 11, 4, 93, 4), (0, 3, 1, 0, 0), (6, 4, 1, 0, 95), (0, 0, 1, 0, 0), (2, 11, 6, 94, 6), (0, 3, 1, 0, 0), (6, 116, 1, 10, 96), (37, 0, 0, 0, 0), (0, 0, 1, 0, 0), (2, 11, 7, 95, 7), (0, 3, 1, 0, 0), (6, 65, 1, 5, 97), (37, 0, 0, 0, 0), (30, 4, 0, 0, 0), (0, 3, 1, 0, 0), (47, 0, 0, 0, 0), (1, 2, 2, 99, 2), (4, 4, 0, 0, 0), (37, 0, 0, 0, 0), (11, 2, 2, 99, 2), (0, 0, 1, 0, 0), (2, 11, 8, 92, 8), (0, 3, 1, 0, 0), (6, 52, 1, 4, 98), (0, 0, 1, 0, 0), (2, 11, 4, 93, 4), (6, 11, 0, 0, 99), (4, 4, 0, 0, 0), (8, 0, 0, 0, 0)]
abbrev zc_122 : List (List zI0) := [zb_122_0, zb_122_1, zb_122_2]
abbrev zb_123_0 : List zI0 := [(4, 1, 1, 0, 0), (3, 0, 0, 0, 1), (3, 1, 0, 0, 30), (5, 198, 3, 0, 91), (0, 0, 1, 0, 0), (2, 11, 4, 93, 4), (1, 0, 4, 103, 4), (15, 1, 0, 0, 0), (0, 0, 1, 0, 0), (2, 11, 7, 95, 7), (6, 57, 0, 5, 100), (14, 2, 0, 0, 0), (111, 1, 0, 0, 0)]
abbrev zb_123_1 : List zI0 := [(55, 1, 4, 0, 0)]
abbrev zb_123_2 : List zI0 := [(3, 0, 0, 0, 0), (30, 2, 1, 0, 0), (111, 3, 0, 0, 0)]
abbrev zb_123_3 : List zI0 := [(4, 2, 1, 0, 0), (4, 1, 1, 0, 0), (23, 6, 0, 0, 0), (0, 0, 1, 0, 0), (47, 0, 0, 0, 0), (1, 11, 10, 101, 10), (3, 0, 0, 0, 1), (37, 0, 0, 0, 0), (11, 11, 10, 101, 10), (0, 0, 1, 0, 0), (2, 11, 0, 87, 0), (31, 3, 1, 0, 0), (0, 3, 1, 0, 0), (36, 0, 0, 0, 0), (30, 4, 0, 0, 0), (3, 0, 0, 0, 0), (30, 5, 0, 0, 0), (111, 4, 0, 0, 0)]
abbrev zb_123_4 : List zI0 := [(4, 5, 0, 0, 0), (4, 4, 0, 0, 0), (23, 5, 0, 0, 0), (0, 3, 1, 0, 0), (4, 5, 0, 0, 0), (34, 0, 0, 0, 0), (31, 6, 0, 0, 0), (0, 6, 0, 0, 0), (6, 26, 0, 2, 101), (0, 0, 1, 0, 0), (2, 11, 8, 92, 8), (47, 0, 0, 0, 0), (1, 4, 4, 104, 4), (0, 6, 0, 0, 0), (0, 0, 1, 0, 0), (1, 11, 10, 101, 10), (6, 30, 1, 2, 102), (37, 0, 0, 0, 0), (11, 4, 4, 104, 4), (32, 5, 0, 0, 1), (10, 4, 0, 0, 0)]
abbrev zb_123_5 : List zI0 := [(32, 2, 0, 0, 1), (10, 3, 0, 0, 0)]
abbrev zb_123_6 : List zI0 := [(0, 0, 1, 0, 0), (1, 11, 10, 101, 10), (8, 0, 0, 0, 0)]
abbrev zc_123 : List (List zI0) := [zb_123_0, zb_123_1, zb_123_2, zb_123_3, zb_123_4, zb_123_5, zb_123_6]
abbrev zb_124_0 : List zI0 := [(0, 0, 1, 0, 0), (4, 1, 1, 0, 0), (6, 184, 1, 11, 103), (31, 3, 1, 0, 0), (4, 2, 1, 0, 0), (3, 0, 0, 0, 1), (3, 2, 0, 0, 9999), (5, 198, 3, 0, 91), (0, 0, 1, 0, 0), (2, 11, 2, 89, 2), (1, 9, 0, 98, 0), (4, 2, 1, 0, 0), (23, 1, 0, 0, 0), (55, 3, 5, 0, 0)]
abbrev zb_124_1 : List zI0 := [(0, 3, 1, 0, 0), (4, 2, 1, 0, 0), (6, 101, 1, 8, 104), (0, 3, 1, 0, 0), (1, 8, 1, 105, 1), (8, 0, 0, 0, 0)]
abbrev zc_124 : List (List zI0) := [zb_124_0, zb_124_1]
abbrev zb_125_0 : List zI0 := [(0, 0, 1, 0, 0), (4, 1, 1, 0, 0), (6, 184, 1, 11, 103), (31, 3, 1, 0, 0), (4, 2, 1, 0, 0), (3, 0, 0, 0, 1), (3, 2, 0, 0, 9999), (5, 198, 3, 0, 91), (0, 3, 1, 0, 0), (1, 8, 1, 105, 1), (4, 2, 1, 0, 0), (23, 1, 0, 0, 0), (55, 3, 6, 0, 0)]
abbrev zb_125_1 : List zI0 := [(0, 3, 1, 0, 0), (4, 2, 1, 0, 0), (6, 102, 1, 8, 105), (0, 3, 1, 0, 0), (1, 8, 1, 105, 1), (8, 0, 0, 0, 0)]
abbrev zc_125 : List (List zI0) := [zb_125_0, zb_125_1]
abbrev zb_126_0 : List zI0 := [(3, 0, 0, 0, 0), (30, 1, 1, 0, 0), (0, 0, 1, 0, 0), (2, 11, 1, 88, 1), (31, 2, 1, 0, 0), (0, 2, 1, 0, 0), (36, 0, 0, 0, 0), (30, 3, 1, 0, 0), (3, 0, 0, 0, 0), (30, 4, 0, 0, 0), (111, 1, 0, 0, 0)]
abbrev zb_126_1 : List zI0 := [(4, 4, 0, 0, 0), (4, 3, 1, 0, 0), (23, 2, 0, 0, 0), (0, 2, 1, 0, 0), (4, 4, 0, 0, 0), (34, 0, 0, 0, 0), (31, 5, 0, 0, 0), (4, 1, 1, 0, 0), (0, 5, 0, 0, 0), (6, 105, 0, 8, 106), (37, 0, 0, 0, 0), (30, 1, 1, 0, 0), (0, 5, 0, 0, 0), (6, 106, 0, 8, 107), (32, 4, 0, 0, 1), (10, 1, 0, 0, 0)]
abbrev zb_126_2 : List zI0 := [(4, 1, 1, 0, 0), (8, 0, 0, 0, 0)]
abbrev zc_126 : List (List zI0) := [zb_126_0, zb_126_1, zb_126_2]
abbrev zb_127_0 : List zI0 := [(0, 0, 1, 0, 0), (4, 1, 1, 0, 0), (6, 184, 1, 11, 103), (6, 105, 0, 8, 106), (8, 0, 0, 0, 0)]
abbrev zc_127 : List (List zI0) := [zb_127_0]
abbrev zb_128_0 : List zI0 := [(4, 1, 1, 0, 0), (3, 1, 0, 0, 100), (20, 1, 0, 0, 0), (4, 1, 1, 0, 0), (3, 1, 0, 0, 117), (20, 1, 0, 0, 0), (4, 1, 1, 0, 0), (3, 1, 0, 0, 115), (20, 1, 0, 0, 0), (4, 1, 1, 0, 0), (3, 1, 0, 0, 110), (20, 1, 0, 0, 0), (55, 0, 7, 0, 0)]
abbrev zb_128_1 : List zI0 := [(0, 0, 1, 0, 0), (6, 192, 0, 11, 108), (0, 0, 1, 0, 0), (2, 11, 4, 93, 4), (4, 1, 1, 0, 0), (4, 2, 1, 0, 0), (6, 1, 2, 0, 109), (9, 0, 0, 0, 0)]
abbrev zc_128 : List (List zI0) := [zb_128_0, zb_128_1]
abbrev zb_129_0 : List zI0 := [(4, 1, 1, 0, 0), (3, 0, 0, 0, 1), (3, 0, 0, 0, 2), (5, 198, 3, 0, 91), (0, 0, 1, 0, 0), (6, 192, 0, 11, 108), (0, 0, 1, 0, 0), (2, 11, 3, 90, 3), (4, 1, 1, 0, 0), (6, 84, 1, 7, 110), (0, 0, 1, 0, 0), (2, 11, 4, 93, 4), (6, 5, 0, 0, 111), (0, 0, 1, 0, 0), (2, 11, 3, 90, 3), (6, 82, 0, 7, 112), (8, 0, 0, 0, 0)]
abbrev zc_129 : List (List zI0) := [zb_129_0]
abbrev zb_130_0 : List zI0 := [(4, 1, 1, 0, 0), (3, 0, 0, 0, 1), (22, 1, 0, 0, 0), (4, 1, 1, 0, 0), (0, 0, 1, 0, 0), (2, 11, 3, 90, 3), (6, 82, 0, 7, 112), (22, 2, 0, 0, 0), (111, 1, 0, 0, 0)]
abbrev zb_130_1 : List zI0 := [(55, 0, 8, 0, 0)]
abbrev zb_130_2 : List zI0 := [(0, 0, 1, 0, 0), (6, 192, 0, 11, 108), (0, 0, 1, 0, 0), (2, 11, 3, 90, 3), (4, 1, 1, 0, 0), (6, 85, 1, 7, 113), (0, 0, 1, 0, 0), (2, 11, 3, 90, 3), (3, 0, 0, 0, 0), (6, 83, 1, 7, 114), (8, 0, 0, 0, 0)]
abbrev zc_130 : List (List zI0) := [zb_130_0, zb_130_1, zb_130_2]
abbrev zb_131_0 : List zI0 := [(0, 0, 1, 0, 0), (2, 11, 3, 90, 3), (6, 82, 0, 7, 112), (15, 1, 0, 0, 0), (55, 3, 9, 0, 0)]
abbrev zb_131_1 : List zI0 := [(0, 0, 1, 0, 0), (6, 192, 0, 11, 108), (0, 0, 1, 0, 0), (2, 11, 3, 90, 3), (4, 1, 1, 0, 0), (6, 86, 1, 7, 115), (0, 0, 1, 0, 0), (2, 11, 3, 90, 3), (3, 0, 0, 0, 0), (6, 83, 1, 7, 114), (8, 0, 0, 0, 0)]
abbrev zc_131 : List (List zI0) := [zb_131_0, zb_131_1]
abbrev zb_132_0 : List zI0 := [(0, 0, 1, 0, 0), (4, 1, 1, 0, 0), (6, 185, 1, 11, 116), (31, 4, 0, 0, 0), (0, 0, 1, 0, 0), (4, 2, 1, 0, 0), (6, 183, 1, 11, 92), (31, 5, 0, 0, 0), (4, 3, 1, 0, 0), (3, 0, 0, 0, 2), (3, 2, 0, 0, 1000), (5, 198, 3, 0, 91), (0, 4, 0, 0, 0), (6, 69, 0, 6, 117), (14, 1, 0, 0, 0), (55, 3, 10, 0, 0)]
abbrev zb_132_1 : List zI0 := [(0, 0, 1, 0, 0), (0, 5, 0, 0, 0), (4, 3, 1, 0, 0), (6, 188, 2, 11, 118), (0, 0, 1, 0, 0), (6, 192, 0, 11, 108), (0, 5, 0, 0, 0), (4, 3, 1, 0, 0), (0, 0, 1, 0, 0), (2, 11, 3, 90, 3), (6, 98, 0, 7, 119), (3, 0, 0, 0, 2), (22, 2, 0, 0, 0), (3, 0, 0, 0, 1), (10, 3, 0, 0, 0)]
abbrev zb_132_2 : List zI0 := [(3, 0, 0, 0, 0), (111, 3, 0, 0, 0)]
abbrev zb_132_3 : List zI0 := [(6, 27, 2, 2, 120), (0, 5, 0, 0, 0), (4, 3, 1, 0, 0), (6, 23, 1, 2, 121), (0, 4, 0, 0, 0), (0, 5, 0, 0, 0), (4, 3, 1, 0, 0), (6, 71, 2, 6, 122), (0, 5, 0, 0, 0), (1, 2, 2, 99, 2), (8, 0, 0, 0, 0)]
abbrev zc_132 : List (List zI0) := [zb_132_0, zb_132_1, zb_132_2, zb_132_3]
abbrev zb_133_0 : List zI0 := [(0, 0, 1, 0, 0), (2, 11, 4, 93, 4), (6, 2, 0, 0, 123), (14, 1, 0, 0, 0), (0, 0, 1, 0, 0), (2, 11, 3, 90, 3), (6, 82, 0, 7, 112), (3, 1, 0, 0, 30), (23, 2, 0, 0, 0), (111, 1, 0, 0, 0)]
abbrev zb_133_1 : List zI0 := [(55, 3, 11, 0, 0)]
abbrev zb_133_2 : List zI0 := [(0, 0, 1, 0, 0), (6, 192, 0, 11, 108), (0, 0, 1, 0, 0), (2, 11, 4, 93, 4), (6, 7, 0, 0, 124), (30, 1, 1, 0, 0), (0, 0, 1, 0, 0), (2, 11, 4, 93, 4), (6, 11, 0, 0, 99), (4, 1, 1, 0, 0), (8, 0, 0, 0, 0)]
abbrev zc_133 : List (List zI0) := [zb_133_0, zb_133_1, zb_133_2]
abbrev zb_134_0 : List zI0 := [(0, 0, 1, 0, 0), (4, 1, 1, 0, 0), (6, 186, 1, 11, 125), (31, 2, 1, 0, 0), (0, 0, 1, 0, 0), (3, 0, 0, 0, 1), (6, 189, 1, 11, 126), (0, 0, 1, 0, 0), (2, 11, 4, 93, 4), (0, 2, 1, 0, 0), (6, 9, 1, 0, 127), (30, 3, 1, 0, 0), (0, 0, 1, 0, 0), (2, 11, 4, 93, 4), (6, 11, 0, 0, 99), (4, 3, 1, 0, 0), (8, 0, 0, 0, 0)]
abbrev zc_134 : List (List zI0) := [zb_134_0]
abbrev zb_135_0 : List zI0 := [(0, 0, 1, 0, 0), (4, 1, 1, 0, 0), (6, 186, 1, 11, 125), (31, 2, 1, 0, 0), (0, 2, 1, 0, 0), (3, 0, 0, 0, 0), (12, 3, 5, 106, 5), (0, 0, 1, 0, 0), (2, 11, 4, 93, 4), (6, 11, 0, 0, 99), (0, 0, 1, 0, 0), (2, 11, 4, 93, 4), (6, 6, 0, 0, 128), (8, 0, 0, 0, 0)]
abbrev zc_135 : List (List zI0) := [zb_135_0]
abbrev zb_136_0 : List zI0 := [(0, 0, 1, 0, 0), (4, 1, 1, 0, 0), (6, 186, 1, 11, 125), (31, 2, 1, 0, 0), (0, 0, 1, 0, 0), (4, 1, 1, 0, 0), (6, 185, 1, 11, 116), (31, 3, 1, 0, 0), (0, 2, 1, 0, 0), (1, 3, 1, 107, 1), (3, 0, 0, 0, 2), (21, 1, 0, 0, 0), (0, 3, 1, 0, 0), (1, 6, 3, 108, 3), (14, 2, 0, 0, 0), (0, 0, 1, 0, 0), (2, 11, 4, 93, 4), (1, 0, 5, 109, 5), (15, 2, 0, 0, 0), (111, 1, 0, 0, 0)]
abbrev zb_136_1 : List zI0 := [(56, 3, 12, 0, 0)]
abbrev zb_136_2 : List zI0 := [(0, 0, 1, 0, 0), (3, 0, 0, 0, 1), (6, 189, 1, 11, 126), (0, 0, 1, 0, 0), (0, 3, 1, 0, 0), (0, 2, 1, 0, 0), (1, 3, 4, 110, 4), (6, 187, 2, 11, 129), (31, 4, 0, 0, 0), (0, 4, 0, 0, 0), (0, 2, 1, 0, 0), (1, 3, 4, 110, 4), (6, 23, 1, 2, 121), (0, 2, 1, 0, 0), (47, 0, 0, 0, 0), (1, 3, 4, 110, 4), (0, 2, 1, 0, 0), (1, 3, 4, 110, 4), (37, 0, 0, 0, 0), (11, 3, 4, 110, 4), (0, 0, 1, 0, 0), (2, 11, 4, 93, 4), (0, 2, 1, 0, 0), (6, 9, 1, 0, 127), (30, 5, 0, 0, 0), (0, 2, 1, 0, 0), (3, 0, 0, 0, 0), (12, 3, 5, 106, 5), (0, 0, 1, 0, 0), (2, 11, 4, 93, 4), (6, 11, 0, 0, 99), (4, 5, 0, 0, 0), (8, 0, 0, 0, 0)]
abbrev zc_136 : List (List zI0) := [zb_136_0, zb_136_1, zb_136_2]
abbrev zb_137_0 : List zI0 := [(0, 0, 1, 0, 0), (4, 1, 1, 0, 0), (6, 186, 1, 11, 125), (31, 2, 1, 0, 0), (0, 0, 1, 0, 0), (4, 1, 1, 0, 0), (6, 185, 1, 11, 116), (31, 3, 1, 0, 0), (0, 3, 1, 0, 0), (1, 6, 3, 108, 3), (15, 1, 0, 0, 0), (0, 2, 1, 0, 0), (6, 39, 0, 3, 130), (15, 2, 0, 0, 0), (111, 1, 0, 0, 0)]
abbrev zb_137_1 : List zI0 := [(56, 3, 13, 0, 0)]
abbrev zb_137_2 : List zI0 := [(0, 0, 1, 0, 0), (3, 0, 0, 0, 2), (6, 189, 1, 11, 126), (0, 0, 1, 0, 0), (0, 3, 1, 0, 0), (0, 2, 1, 0, 0), (1, 3, 4, 110, 4), (6, 187, 2, 11, 129), (31, 4, 0, 0, 0), (0, 4, 0, 0, 0), (0, 2, 1, 0, 0), (1, 3, 4, 110, 4), (6, 23, 1, 2, 121), (0, 3, 1, 0, 0), (6, 74, 0, 6, 131), (0, 0, 1, 0, 0), (2, 11, 4, 93, 4), (0, 3, 1, 0, 0), (2, 6, 0, 111, 0), (6, 9, 1, 0, 127), (30, 5, 0, 0, 0), (0, 0, 1, 0, 0), (2, 11, 4, 93, 4), (0, 3, 1, 0, 0), (2, 6, 1, 112, 1), (6, 9, 1, 0, 127), (49, 0, 0, 0, 0), (0, 0, 1, 0, 0), (2, 11, 4, 93, 4), (6, 11, 0, 0, 99), (4, 5, 0, 0, 0), (8, 0, 0, 0, 0)]
abbrev zc_137 : List (List zI0) := [zb_137_0, zb_137_1, zb_137_2]
abbrev zb_138_0 : List zI0 := [(0, 0, 1, 0, 0), (4, 1, 1, 0, 0), (6, 186, 1, 11, 125), (31, 2, 1, 0, 0), (0, 0, 1, 0, 0), (4, 1, 1, 0, 0), (6, 185, 1, 11, 116), (31, 3, 1, 0, 0), (0, 0, 1, 0, 0), (2, 11, 4, 93, 4), (1, 0, 6, 113, 6), (14, 1, 0, 0, 0), (0, 3, 1, 0, 0), (1, 6, 3, 108, 3), (15, 1, 0, 0, 0), (0, 2, 1, 0, 0), (1, 3, 1, 107, 1), (3, 0, 0, 0, 2), (20, 2, 0, 0, 0), (111, 1, 0, 0, 0)]
abbrev zb_138_1 : List zI0 := [(56, 3, 14, 0, 0)]
abbrev zb_138_2 : List zI0 := [(0, 0, 1, 0, 0), (2, 11, 4, 93, 4), (0, 3, 1, 0, 0), (0, 2, 1, 0, 0), (6, 10, 2, 0, 132), (30, 4, 0, 0, 0), (0, 0, 1, 0, 0), (2, 11, 4, 93, 4), (6, 11, 0, 0, 99), (4, 4, 0, 0, 0), (8, 0, 0, 0, 0)]
abbrev zc_138 : List (List zI0) := [zb_138_0, zb_138_1, zb_138_2]
abbrev zb_139_0 : List zI0 := [(0, 0, 1, 0, 0), (4, 1, 1, 0, 0), (6, 185, 1, 11, 116), (4, 2, 1, 0, 0), (6, 72, 1, 6, 133), (31, 4, 0, 0, 0), (0, 4, 0, 0, 0), (27, 1, 0, 0, 0), (56, 2, 15, 0, 0)]
abbrev zb_139_1 : List zI0 := [(0, 4, 0, 0, 0), (4, 3, 1, 0, 0), (6, 36, 1, 3, 134), (30, 5, 0, 0, 0), (4, 5, 0, 0, 0), (15, 2, 0, 0, 0), (56, 4, 16, 0, 0)]
abbrev zb_139_2 : List zI0 := [(4, 5, 0, 0, 0), (8, 0, 0, 0, 0)]
abbrev zc_139 : List (List zI0) := [zb_139_0, zb_139_1, zb_139_2]
abbrev zb_140_0 : List zI0 := [(0, 0, 1, 0, 0), (2, 11, 4, 93, 4), (1, 0, 4, 103, 4), (14, 1, 0, 0, 0), (4, 1, 1, 0, 0), (14, 1, 0, 0, 0), (3, 0, 0, 0, 0), (10, 2, 0, 0, 0)]
abbrev zb_140_1 : List zI0 := [(0, 0, 1, 0, 0), (2, 11, 4, 93, 4), (2, 0, 3, 114, 3), (4, 1, 1, 0, 0), (6, 36, 1, 3, 134), (111, 2, 0, 0, 0)]
abbrev zb_140_2 : List zI0 := [(30, 2, 1, 0, 0), (4, 2, 1, 0, 0), (15, 3, 0, 0, 0), (56, 4, 17, 0, 0)]
abbrev zb_140_3 : List zI0 := [(4, 2, 1, 0, 0), (8, 0, 0, 0, 0)]
abbrev zc_140 : List (List zI0) := [zb_140_0, zb_140_1, zb_140_2, zb_140_3]
abbrev zb_141_0 : List zI0 := [(0, 0, 1, 0, 0), (6, 191, 0, 11, 135), (0, 0, 1, 0, 0), (2, 11, 4, 93, 4), (6, 6, 0, 0, 128), (8, 0, 0, 0, 0)]
abbrev zc_141 : List (List zI0) := [zb_141_0]
abbrev zb_142_0 : List zI0 := [(4, 1, 1, 0, 0), (3, 0, 0, 0, 1), (3, 1, 0, 0, 10), (5, 198, 3, 0, 91), (0, 0, 1, 0, 0), (2, 11, 3, 90, 3), (4, 1, 1, 0, 0), (6, 93, 1, 7, 136), (8, 0, 0, 0, 0)]
abbrev zc_142 : List (List zI0) := [zb_142_0]
abbrev zb_143_0 : List zI0 := [(4, 1, 1, 0, 0), (3, 0, 0, 0, 4), (3, 1, 0, 0, 21), (5, 198, 3, 0, 91), (0, 0, 1, 0, 0), (6, 190, 0, 11, 137), (0, 0, 1, 0, 0), (2, 11, 3, 90, 3), (3, 1, 0, 0, 21), (4, 1, 1, 0, 0), (38, 0, 0, 0, 0), (6, 94, 1, 7, 138), (65, 0, 0, 0, 0), (0, 0, 1, 0, 0), (2, 11, 3, 90, 3), (6, 95, 0, 7, 139), (65, 0, 0, 0, 0), (5, 204, 2, 0, 140), (52, 0, 0, 0, 0)]
abbrev zc_143 : List (List zI0) := [zb_143_0]
abbrev zb_144_0 : List zI0 := [(4, 1, 1, 0, 0), (3, 0, 0, 0, 4), (3, 1, 0, 0, 21), (5, 198, 3, 0, 91), (0, 0, 1, 0, 0), (6, 190, 0, 11, 137), (0, 0, 1, 0, 0), (2, 11, 3, 90, 3), (3, 1, 0, 0, 21), (4, 1, 1, 0, 0), (38, 0, 0, 0, 0), (6, 94, 1, 7, 138), (65, 0, 0, 0, 0), (0, 0, 1, 0, 0), (2, 11, 3, 90, 3), (6, 95, 0, 7, 139), (65, 0, 0, 0, 0), (5, 205, 2, 0, 141), (52, 0, 0, 0, 0)]
abbrev zc_144 : List (List zI0) := [zb_144_0]
abbrev zb_145_0 : List zI0 := [(4, 1, 1, 0, 0), (3, 1, 0, 0, 17), (3, 1, 0, 0, 22), (5, 198, 3, 0, 91), (0, 0, 1, 0, 0), (6, 191, 0, 11, 135), (0, 0, 1, 0, 0), (2, 11, 5, 91, 5), (4, 1, 1, 0, 0), (0, 0, 1, 0, 0), (2, 11, 4, 93, 4), (6, 18, 2, 1, 142), (53, 0, 0, 0, 0)]
abbrev zc_145 : List (List zI0) := [zb_145_0]
abbrev zb_146_0 : List zI0 := [(4, 1, 1, 0, 0), (3, 0, 0, 0, 1), (3, 1, 0, 0, 10), (5, 198, 3, 0, 91), (4, 2, 1, 0, 0), (3, 1, 0, 0, (-3)), (3, 0, 0, 0, 3), (5, 198, 3, 0, 91), (0, 0, 1, 0, 0), (2, 11, 3, 90, 3), (4, 1, 1, 0, 0), (4, 2, 1, 0, 0), (6, 96, 2, 7, 143), (8, 0, 0, 0, 0)]
abbrev zc_146 : List (List zI0) := [zb_146_0]
abbrev zb_147_0 : List zI0 := [(0, 0, 1, 0, 0), (2, 11, 3, 90, 3), (6, 97, 0, 7, 144), (8, 0, 0, 0, 0)]
abbrev zc_147 : List (List zI0) := [zb_147_0]
abbrev zb_148_0 : List zI0 := [(0, 0, 1, 0, 0), (6, 190, 0, 11, 137), (0, 0, 1, 0, 0), (2, 11, 3, 90, 3), (6, 98, 0, 7, 119), (8, 0, 0, 0, 0)]
abbrev zc_148 : List (List zI0) := [zb_148_0]
abbrev zb_149_0 : List zI0 := [(0, 0, 1, 0, 0), (4, 1, 1, 0, 0), (6, 183, 1, 11, 92), (6, 28, 0, 2, 145), (9, 0, 0, 0, 0)]
abbrev zc_149 : List (List zI0) := [zb_149_0]
abbrev zb_150_0 : List zI0 := [(0, 0, 1, 0, 0), (2, 11, 4, 93, 4), (1, 0, 9, 115, 9), (8, 0, 0, 0, 0)]
abbrev zc_150 : List (List zI0) := [zb_150_0]
abbrev zb_151_0 : List zI0 := [(0, 0, 1, 0, 0), (4, 1, 1, 0, 0), (6, 183, 1, 11, 92), (31, 5, 0, 0, 0), (4, 2, 1, 0, 0), (4, 3, 1, 0, 0), (5, 109, 2, 0, 146), (15, 1, 0, 0, 0), (56, 0, 18, 0, 0)]
abbrev zb_151_1 : List zI0 := [(4, 4, 0, 0, 0), (3, 0, 0, 0, 1), (3, 2, 0, 0, 500), (5, 198, 3, 0, 91), (0, 0, 1, 0, 0), (0, 5, 0, 0, 0), (4, 4, 0, 0, 0), (6, 188, 2, 11, 118), (0, 0, 1, 0, 0), (2, 11, 6, 94, 6), (6, 112, 0, 10, 147), (14, 2, 0, 0, 0), (56, 1, 19, 0, 0)]
abbrev zb_151_2 : List zI0 := [(0, 5, 0, 0, 0), (4, 4, 0, 0, 0), (6, 23, 1, 2, 121), (0, 0, 1, 0, 0), (2, 11, 6, 94, 6), (0, 5, 0, 0, 0), (4, 2, 1, 0, 0), (4, 3, 1, 0, 0), (4, 4, 0, 0, 0), (6, 113, 4, 10, 148), (0, 0, 1, 0, 0), (2, 11, 6, 94, 6), (1, 10, 5, 116, 5), (8, 0, 0, 0, 0)]
abbrev zc_151 : List (List zI0) := [zb_151_0, zb_151_1, zb_151_2]
abbrev zb_152_0 : List zI0 := [(4, 1, 1, 0, 0), (3, 0, 0, 0, 0), (3, 1, 0, 0, 36), (5, 198, 3, 0, 91), (0, 0, 1, 0, 0), (2, 11, 6, 94, 6), (4, 1, 1, 0, 0), (6, 114, 1, 10, 149), (8, 0, 0, 0, 0)]
abbrev zc_152 : List (List zI0) := [zb_152_0]
abbrev zb_153_0 : List zI0 := [(4, 1, 1, 0, 0), (16, 1, 0, 0, 0), (4, 1, 1, 0, 0), (3, 0, 0, 0, 3), (22, 2, 0, 0, 0), (111, 1, 0, 0, 0)]
abbrev zb_153_1 : List zI0 := [(56, 2, 20, 0, 0)]
abbrev zb_153_2 : List zI0 := [(4, 2, 1, 0, 0), (5, 54, 1, 0, 150), (15, 3, 0, 0, 0), (56, 0, 21, 0, 0)]
abbrev zb_153_3 : List zI0 := [(0, 0, 1, 0, 0), (6, 194, 0, 11, 151), (0, 0, 1, 0, 0), (2, 11, 7, 95, 7), (4, 1, 1, 0, 0), (4, 2, 1, 0, 0), (6, 61, 2, 5, 152), (8, 0, 0, 0, 0)]
abbrev zc_153 : List (List zI0) := [zb_153_0, zb_153_1, zb_153_2, zb_153_3]
abbrev zb_154_0 : List zI0 := [(4, 1, 1, 0, 0), (3, 0, 0, 0, 0), (3, 0, 0, 0, 4), (5, 198, 3, 0, 91), (4, 2, 1, 0, 0), (3, 0, 0, 0, 0), (3, 2, 0, 0, 200), (5, 198, 3, 0, 91), (0, 0, 1, 0, 0), (6, 194, 0, 11, 151), (0, 0, 1, 0, 0), (2, 11, 7, 95, 7), (4, 1, 1, 0, 0), (4, 2, 1, 0, 0), (6, 62, 2, 5, 153), (8, 0, 0, 0, 0)]
abbrev zc_154 : List (List zI0) := [zb_154_0]
abbrev zb_155_0 : List zI0 := [(4, 1, 1, 0, 0), (3, 0, 0, 0, 1), (3, 2, 0, 0, 5000), (5, 198, 3, 0, 91), (0, 0, 1, 0, 0), (6, 194, 0, 11, 151), (0, 0, 1, 0, 0), (2, 11, 7, 95, 7), (1, 5, 4, 117, 4), (30, 2, 1, 0, 0), (0, 0, 1, 0, 0), (2, 11, 7, 95, 7), (4, 1, 1, 0, 0), (11, 5, 4, 117, 4), (4, 2, 1, 0, 0), (8, 0, 0, 0, 0)]
abbrev zc_155 : List (List zI0) := [zb_155_0]
abbrev zb_156_0 : List zI0 := [(0, 0, 1, 0, 0), (4, 1, 1, 0, 0), (6, 183, 1, 11, 92), (31, 3, 1, 0, 0), (4, 2, 1, 0, 0), (3, 0, 0, 0, 1), (3, 1, 0, 0, 100), (5, 198, 3, 0, 91), (0, 0, 1, 0, 0), (0, 3, 1, 0, 0), (4, 2, 1, 0, 0), (6, 188, 2, 11, 118), (0, 0, 1, 0, 0), (2, 11, 7, 95, 7), (2, 5, 5, 118, 5), (26, 1, 0, 0, 0), (56, 1, 22, 0, 0)]
abbrev zb_156_1 : List zI0 := [(0, 3, 1, 0, 0), (4, 2, 1, 0, 0), (6, 23, 1, 2, 121), (0, 0, 1, 0, 0), (2, 11, 7, 95, 7), (0, 3, 1, 0, 0), (4, 2, 1, 0, 0), (6, 63, 2, 5, 154), (0, 3, 1, 0, 0), (1, 2, 2, 99, 2), (8, 0, 0, 0, 0)]
abbrev zc_156 : List (List zI0) := [zb_156_0, zb_156_1]
abbrev zb_157_0 : List zI0 := [(4, 1, 1, 0, 0), (5, 55, 1, 0, 155), (15, 1, 0, 0, 0), (56, 0, 23, 0, 0)]
abbrev zb_157_1 : List zI0 := [(0, 0, 1, 0, 0), (6, 193, 0, 11, 156), (0, 0, 1, 0, 0), (2, 11, 7, 95, 7), (4, 1, 1, 0, 0), (6, 64, 1, 5, 157), (8, 0, 0, 0, 0)]
abbrev zc_157 : List (List zI0) := [zb_157_0, zb_157_1]
abbrev zb_158_0 : List zI0 := [(0, 0, 1, 0, 0), (6, 193, 0, 11, 156), (0, 0, 1, 0, 0), (2, 11, 7, 95, 7), (3, 0, 0, 0, 1), (12, 5, 7, 119, 7), (0, 0, 1, 0, 0), (2, 11, 7, 95, 7), (1, 5, 6, 120, 6), (8, 0, 0, 0, 0)]
abbrev zc_158 : List (List zI0) := [zb_158_0]
abbrev zb_159_0 : List zI0 := [(0, 0, 1, 0, 0), (2, 11, 7, 95, 7), (2, 5, 5, 118, 5), (31, 1, 1, 0, 0), (0, 1, 1, 0, 0), (26, 1, 0, 0, 0), (0, 0, 1, 0, 0), (2, 11, 7, 95, 7), (1, 5, 7, 119, 7), (15, 2, 0, 0, 0), (111, 1, 0, 0, 0)]
abbrev zb_159_1 : List zI0 := [(56, 1, 24, 0, 0)]
abbrev zb_159_2 : List zI0 := [(0, 1, 1, 0, 0), (47, 0, 0, 0, 0), (1, 2, 2, 99, 2), (0, 0, 1, 0, 0), (2, 11, 7, 95, 7), (0, 1, 1, 0, 0), (6, 65, 1, 5, 97), (37, 0, 0, 0, 0), (11, 2, 2, 99, 2), (0, 1, 1, 0, 0), (1, 2, 2, 99, 2), (8, 0, 0, 0, 0)]
abbrev zc_159 : List (List zI0) := [zb_159_0, zb_159_1, zb_159_2]
abbrev zb_160_0 : List zI0 := [(0, 0, 1, 0, 0), (2, 11, 7, 95, 7), (1, 5, 3, 121, 3), (8, 0, 0, 0, 0)]
abbrev zc_160 : List (List zI0) := [zb_160_0]
abbrev zb_161_0 : List zI0 := [(0, 0, 1, 0, 0), (2, 11, 7, 95, 7), (6, 66, 0, 5, 158), (65, 0, 0, 0, 0), (64, 1, 3, 0, 512), (5, 204, 2, 0, 140), (52, 0, 0, 0, 0)]
abbrev zc_161 : List (List zI0) := [zb_161_0]
abbrev zb_162_0 : List zI0 := [(0, 0, 1, 0, 0), (2, 11, 7, 95, 7), (6, 66, 0, 5, 158), (65, 0, 0, 0, 0), (64, 1, 3, 0, 512), (5, 205, 2, 0, 141), (52, 0, 0, 0, 0)]
abbrev zc_162 : List (List zI0) := [zb_162_0]
abbrev zb_163_0 : List zI0 := [(0, 0, 1, 0, 0), (4, 1, 1, 0, 0), (6, 183, 1, 11, 92), (31, 3, 1, 0, 0), (4, 2, 1, 0, 0), (5, 196, 1, 0, 159), (0, 0, 1, 0, 0), (0, 3, 1, 0, 0), (3, 0, 0, 0, 2), (6, 188, 2, 11, 118), (0, 0, 1, 0, 0), (2, 11, 8, 92, 8), (6, 45, 0, 4, 160), (15, 1, 0, 0, 0), (0, 0, 1, 0, 0), (2, 11, 8, 92, 8), (6, 46, 0, 4, 161), (14, 2, 0, 0, 0), (111, 1, 0, 0, 0)]
abbrev zb_163_1 : List zI0 := [(56, 1, 25, 0, 0)]
abbrev zb_163_2 : List zI0 := [(0, 3, 1, 0, 0), (3, 0, 0, 0, 2), (6, 23, 1, 2, 121), (0, 0, 1, 0, 0), (2, 11, 8, 92, 8), (0, 3, 1, 0, 0), (4, 2, 1, 0, 0), (5, 44, 1, 0, 162), (6, 47, 2, 4, 163), (0, 0, 1, 0, 0), (2, 11, 8, 92, 8), (1, 4, 2, 122, 2), (8, 0, 0, 0, 0)]
abbrev zc_163 : List (List zI0) := [zb_163_0, zb_163_1, zb_163_2]
abbrev zb_164_0 : List zI0 := [(4, 1, 1, 0, 0), (5, 196, 1, 0, 159), (0, 0, 1, 0, 0), (2, 11, 8, 92, 8), (4, 1, 1, 0, 0), (5, 44, 1, 0, 162), (11, 4, 3, 123, 3), (0, 0, 1, 0, 0), (2, 11, 8, 92, 8), (3, 0, 0, 0, 3), (6, 49, 1, 4, 164), (8, 0, 0, 0, 0)]
abbrev zc_164 : List (List zI0) := [zb_164_0]
abbrev zb_165_0 : List zI0 := [(0, 0, 1, 0, 0), (2, 11, 8, 92, 8), (6, 46, 0, 4, 161), (15, 1, 0, 0, 0), (56, 1, 26, 0, 0)]
abbrev zb_165_1 : List zI0 := [(0, 0, 1, 0, 0), (2, 11, 8, 92, 8), (0, 0, 1, 0, 0), (1, 11, 10, 101, 10), (6, 50, 1, 4, 165), (8, 0, 0, 0, 0)]
abbrev zc_165 : List (List zI0) := [zb_165_0, zb_165_1]
abbrev zb_166_0 : List zI0 := [(0, 0, 1, 0, 0), (4, 1, 1, 0, 0), (6, 183, 1, 11, 92), (31, 2, 1, 0, 0), (0, 2, 1, 0, 0), (6, 31, 0, 2, 166), (30, 3, 1, 0, 0), (4, 3, 1, 0, 0), (15, 1, 0, 0, 0), (56, 4, 27, 0, 0)]
abbrev zb_166_1 : List zI0 := [(0, 2, 1, 0, 0), (6, 32, 0, 2, 167), (0, 2, 1, 0, 0), (47, 0, 0, 0, 0), (1, 2, 2, 99, 2), (4, 3, 1, 0, 0), (37, 0, 0, 0, 0), (11, 2, 2, 99, 2), (4, 3, 1, 0, 0), (8, 0, 0, 0, 0)]
abbrev zc_166 : List (List zI0) := [zb_166_0, zb_166_1]
abbrev zb_167_0 : List zI0 := [(0, 0, 1, 0, 0), (2, 11, 8, 92, 8), (1, 4, 4, 104, 4), (8, 0, 0, 0, 0)]
abbrev zc_167 : List (List zI0) := [zb_167_0]
abbrev zb_168_0 : List zI0 := [(0, 0, 1, 0, 0), (1, 11, 10, 101, 10), (8, 0, 0, 0, 0)]
abbrev zc_168 : List (List zI0) := [zb_168_0]
abbrev zb_169_0 : List zI0 := [(0, 0, 1, 0, 0), (4, 1, 1, 0, 0), (6, 183, 1, 11, 92), (1, 2, 1, 97, 1), (8, 0, 0, 0, 0)]
abbrev zc_169 : List (List zI0) := [zb_169_0]
abbrev zb_170_0 : List zI0 := [(0, 0, 1, 0, 0), (4, 1, 1, 0, 0), (6, 183, 1, 11, 92), (1, 2, 2, 99, 2), (8, 0, 0, 0, 0)]
abbrev zc_170 : List (List zI0) := [zb_170_0]
abbrev zb_171_0 : List zI0 := [(0, 0, 1, 0, 0), (4, 1, 1, 0, 0), (6, 183, 1, 11, 92), (0, 0, 1, 0, 0), (1, 11, 10, 101, 10), (6, 21, 1, 2, 168), (9, 0, 0, 0, 0)]
abbrev zc_171 : List (List zI0) := [zb_171_0]
abbrev zb_172_0 : List zI0 := [(0, 0, 1, 0, 0), (4, 1, 1, 0, 0), (6, 183, 1, 11, 92), (1, 2, 5, 124, 5), (8, 0, 0, 0, 0)]
abbrev zc_172 : List (List zI0) := [zb_172_0]
abbrev zb_173_0 : List zI0 := [(0, 0, 1, 0, 0), (4, 1, 1, 0, 0), (6, 183, 1, 11, 92), (1, 2, 8, 125, 8), (8, 0, 0, 0, 0)]
abbrev zc_173 : List (List zI0) := [zb_173_0]
abbrev zb_174_0 : List zI0 := [(0, 0, 1, 0, 0), (4, 1, 1, 0, 0), (6, 184, 1, 11, 103), (1, 8, 1, 105, 1), (8, 0, 0, 0, 0)]
abbrev zc_174 : List (List zI0) := [zb_174_0]
abbrev zb_175_0 : List zI0 := [(0, 0, 1, 0, 0), (2, 11, 2, 89, 2), (1, 9, 0, 98, 0), (8, 0, 0, 0, 0)]
abbrev zc_175 : List (List zI0) := [zb_175_0]
abbrev zb_176_0 : List zI0 := [(4, 1, 1, 0, 0), (4, 2, 1, 0, 0), (5, 197, 2, 0, 169), (4, 1, 1, 0, 0), (4, 2, 1, 0, 0), (5, 208, 2, 0, 170), (3, 1, 0, 0, 19), (4, 2, 1, 0, 0), (5, 207, 2, 0, 171), (3, 1, 0, 0, 18), (4, 2, 1, 0, 0), (5, 207, 2, 0, 171), (68, 0, 0, 0, 0), (5, 204, 2, 0, 140), (52, 0, 0, 0, 0)]
abbrev zc_176 : List (List zI0) := [zb_176_0]
abbrev zb_177_0 : List zI0 := [(4, 1, 1, 0, 0), (4, 2, 1, 0, 0), (5, 197, 2, 0, 169), (4, 1, 1, 0, 0), (4, 2, 1, 0, 0), (5, 208, 2, 0, 170), (3, 1, 0, 0, 19), (4, 2, 1, 0, 0), (5, 207, 2, 0, 171), (3, 1, 0, 0, 18), (4, 2, 1, 0, 0), (5, 207, 2, 0, 171), (68, 0, 0, 0, 0), (5, 205, 2, 0, 141), (52, 0, 0, 0, 0)]
abbrev zc_177 : List (List zI0) := [zb_177_0]
abbrev zb_178_0 : List zI0 := [(64, 1, 4, 0, 7), (74, 1, 1, 0, 0), (3, 0, 0, 0, 0), (30, 3, 1, 0, 0), (111, 1, 0, 0, 0)]
abbrev zb_178_1 : List zI0 := [(4, 3, 1, 0, 0), (0, 0, 1, 0, 0), (1, 11, 9, 96, 9), (23, 2, 0, 0, 0), (4, 3, 1, 0, 0), (0, 0, 1, 0, 0), (2, 11, 0, 87, 0), (36, 0, 0, 0, 0), (23, 2, 0, 0, 0), (64, 1, 5, 0, 31), (73, 1, 1, 0, 0), (69, 0, 0, 0, 0), (0, 0, 1, 0, 0), (2, 11, 0, 87, 0), (4, 3, 1, 0, 0), (34, 0, 0, 0, 0), (1, 2, 1, 97, 1), (65, 0, 0, 0, 0), (67, 0, 0, 0, 0), (74, 1, 1, 0, 0), (64, 1, 5, 0, 31), (73, 1, 1, 0, 0), (69, 0, 0, 0, 0), (0, 0, 1, 0, 0), (2, 11, 0, 87, 0), (4, 3, 1, 0, 0), (34, 0, 0, 0, 0), (1, 2, 2, 99, 2), (65, 0, 0, 0, 0), (67, 0, 0, 0, 0), (74, 1, 1, 0, 0), (32, 3, 0, 0, 1), (10, 1, 0, 0, 0)]
abbrev zb_178_2 : List zI0 := [(0, 0, 1, 0, 0), (2, 11, 1, 88, 1), (31, 3, 1, 0, 0), (0, 3, 1, 0, 0), (36, 0, 0, 0, 0), (30, 4, 0, 0, 0), (3, 0, 0, 0, 0), (30, 5, 0, 0, 0), (111, 3, 0, 0, 0)]
abbrev zb_178_3 : List zI0 := [(4, 5, 0, 0, 0), (4, 4, 0, 0, 0), (23, 4, 0, 0, 0), (0, 3, 1, 0, 0), (4, 5, 0, 0, 0), (34, 0, 0, 0, 0), (31, 6, 0, 0, 0), (64, 1, 5, 0, 31), (73, 1, 1, 0, 0), (69, 0, 0, 0, 0), (0, 6, 0, 0, 0), (1, 8, 1, 105, 1), (65, 0, 0, 0, 0), (67, 0, 0, 0, 0), (74, 1, 1, 0, 0), (32, 5, 0, 0, 1), (10, 3, 0, 0, 0)]
abbrev zb_178_4 : List zI0 := [(64, 1, 5, 0, 31), (73, 1, 1, 0, 0), (69, 0, 0, 0, 0), (0, 0, 1, 0, 0), (2, 11, 2, 89, 2), (1, 9, 0, 98, 0), (65, 0, 0, 0, 0), (67, 0, 0, 0, 0), (74, 1, 1, 0, 0), (64, 1, 5, 0, 31), (73, 1, 1, 0, 0), (69, 0, 0, 0, 0), (0, 0, 1, 0, 0), (2, 11, 7, 95, 7), (1, 5, 3, 121, 3), (65, 0, 0, 0, 0), (67, 0, 0, 0, 0), (74, 1, 1, 0, 0), (64, 1, 5, 0, 31), (73, 1, 1, 0, 0), (69, 0, 0, 0, 0), (0, 0, 1, 0, 0), (2, 11, 8, 92, 8), (1, 4, 4, 104, 4), (65, 0, 0, 0, 0), (67, 0, 0, 0, 0), (52, 0, 0, 0, 0)]
abbrev zc_178 : List (List zI0) := [zb_178_0, zb_178_1, zb_178_2, zb_178_3, zb_178_4]
abbrev zb_179_0 : List zI0 := [(0, 0, 1, 0, 0), (2, 11, 2, 89, 2), (1, 9, 0, 98, 0), (95, 0, 0, 0, 0), (98, 1, 6, 0, 1203982336), (90, 0, 0, 0, 0), (5, 209, 1, 0, 172), (8, 0, 0, 0, 0)]
abbrev zc_179 : List (List zI0) := [zb_179_0]
abbrev zb_180_0 : List zI0 := [(0, 0, 1, 0, 0), (6, 195, 0, 11, 173), (3, 0, 0, 0, 0), (30, 1, 1, 0, 0), (3, 0, 0, 0, 0), (30, 2, 1, 0, 0), (111, 1, 0, 0, 0)]
abbrev zb_180_1 : List zI0 := [(4, 2, 1, 0, 0), (0, 0, 1, 0, 0), (1, 11, 9, 96, 9), (23, 3, 0, 0, 0), (4, 2, 1, 0, 0), (0, 0, 1, 0, 0), (2, 11, 0, 87, 0), (36, 0, 0, 0, 0), (23, 3, 0, 0, 0), (0, 0, 1, 0, 0), (2, 11, 0, 87, 0), (4, 2, 1, 0, 0), (34, 0, 0, 0, 0), (0, 0, 1, 0, 0), (1, 11, 10, 101, 10), (6, 21, 1, 2, 168), (14, 2, 0, 0, 0), (32, 1, 0, 0, 1), (111, 2, 0, 0, 0)]
abbrev zb_180_2 : List zI0 := [(32, 2, 0, 0, 1), (10, 1, 0, 0, 0)]
abbrev zb_180_3 : List zI0 := [(4, 1, 1, 0, 0), (95, 0, 0, 0, 0), (0, 0, 1, 0, 0), (1, 11, 9, 96, 9), (95, 0, 0, 0, 0), (90, 0, 0, 0, 0), (54, 0, 0, 0, 0)]
abbrev zc_180 : List (List zI0) := [zb_180_0, zb_180_1, zb_180_2, zb_180_3]
abbrev zb_181_0 : List zI0 := [(0, 0, 1, 0, 0), (6, 195, 0, 11, 173), (0, 0, 1, 0, 0), (6, 199, 0, 11, 174), (86, 0, 0, 0, 0), (0, 0, 1, 0, 0), (1, 11, 9, 96, 9), (86, 0, 0, 0, 0), (84, 0, 0, 0, 0), (53, 0, 0, 0, 0)]
abbrev zc_181 : List (List zI0) := [zb_181_0]
abbrev zb_182_0 : List zI0 := [(0, 0, 1, 0, 0), (6, 200, 0, 11, 175), (14, 1, 0, 0, 0), (0, 0, 1, 0, 0), (2, 11, 3, 90, 3), (6, 99, 0, 7, 176), (14, 1, 0, 0, 0), (0, 0, 1, 0, 0), (6, 202, 0, 11, 177), (14, 1, 0, 0, 0), (0, 0, 1, 0, 0), (6, 203, 0, 11, 178), (14, 1, 0, 0, 0), (3, 0, 0, 0, 1), (10, 2, 0, 0, 0)]
abbrev zb_182_1 : List zI0 := [(3, 0, 0, 0, 0), (111, 2, 0, 0, 0)]
abbrev zb_182_2 : List zI0 := [(9, 0, 0, 0, 0)]
abbrev zc_182 : List (List zI0) := [zb_182_0, zb_182_1, zb_182_2]
abbrev zb_183_0 : List zI0 := [(4, 1, 1, 0, 0), (16, 1, 0, 0, 0), (4, 1, 1, 0, 0), (0, 0, 1, 0, 0), (1, 11, 9, 96, 9), (23, 1, 0, 0, 0), (4, 1, 1, 0, 0), (0, 0, 1, 0, 0), (2, 11, 0, 87, 0), (36, 0, 0, 0, 0), (22, 2, 0, 0, 0), (111, 1, 0, 0, 0)]
abbrev zb_183_1 : List zI0 := [(56, 2, 28, 0, 0)]
abbrev zb_183_2 : List zI0 := [(0, 0, 1, 0, 0), (2, 11, 0, 87, 0), (4, 1, 1, 0, 0), (34, 0, 0, 0, 0), (51, 0, 0, 0, 0)]
abbrev zc_183 : List (List zI0) := [zb_183_0, zb_183_1, zb_183_2]
abbrev zb_184_0 : List zI0 := [(4, 1, 1, 0, 0), (16, 1, 0, 0, 0), (4, 1, 1, 0, 0), (0, 0, 1, 0, 0), (2, 11, 1, 88, 1), (36, 0, 0, 0, 0), (22, 2, 0, 0, 0), (111, 1, 0, 0, 0)]
abbrev zb_184_1 : List zI0 := [(56, 2, 29, 0, 0)]
abbrev zb_184_2 : List zI0 := [(0, 0, 1, 0, 0), (2, 11, 1, 88, 1), (4, 1, 1, 0, 0), (34, 0, 0, 0, 0), (51, 0, 0, 0, 0)]
abbrev zc_184 : List (List zI0) := [zb_184_0, zb_184_1, zb_184_2]
abbrev zb_185_0 : List zI0 := [(4, 1, 1, 0, 0), (16, 1, 0, 0, 0), (4, 1, 1, 0, 0), (0, 0, 1, 0, 0), (2, 11, 4, 93, 4), (2, 0, 2, 126, 2), (36, 0, 0, 0, 0), (22, 2, 0, 0, 0), (111, 1, 0, 0, 0)]
abbrev zb_185_1 : List zI0 := [(56, 2, 30, 0, 0)]
abbrev zb_185_2 : List zI0 := [(0, 0, 1, 0, 0), (2, 11, 4, 93, 4), (2, 0, 2, 126, 2), (4, 1, 1, 0, 0), (34, 0, 0, 0, 0), (51, 0, 0, 0, 0)]
abbrev zc_185 : List (List zI0) := [zb_185_0, zb_185_1, zb_185_2]
abbrev zb_186_0 : List zI0 := [(0, 0, 1, 0, 0), (4, 1, 1, 0, 0), (6, 185, 1, 11, 116), (31, 2, 1, 0, 0), (0, 0, 1, 0, 0), (6, 191, 0, 11, 135), (0, 2, 1, 0, 0), (6, 73, 0, 6, 179), (31, 3, 1, 0, 0), (0, 3, 1, 0, 0), (26, 1, 0, 0, 0), (0, 0, 1, 0, 0), (2, 11, 4, 93, 4), (6, 6, 0, 0, 128), (4, 1, 1, 0, 0), (20, 2, 0, 0, 0), (111, 1, 0, 0, 0)]
abbrev zb_186_1 : List zI0 := [(56, 3, 31, 0, 0)]
abbrev zb_186_2 : List zI0 := [(0, 3, 1, 0, 0), (51, 0, 0, 0, 0)]
abbrev zc_186 : List (List zI0) := [zb_186_0, zb_186_1, zb_186_2]
abbrev zb_187_0 : List zI0 := [(0, 1, 1, 0, 0), (2, 6, 2, 127, 2), (31, 3, 1, 0, 0), (0, 3, 1, 0, 0), (26, 1, 0, 0, 0), (0, 3, 1, 0, 0), (4, 2, 1, 0, 0), (0, 0, 1, 0, 0), (1, 11, 10, 101, 10), (6, 22, 2, 2, 180), (15, 2, 0, 0, 0), (111, 1, 0, 0, 0)]
abbrev zb_187_1 : List zI0 := [(56, 3, 32, 0, 0)]
abbrev zb_187_2 : List zI0 := [(0, 3, 1, 0, 0), (51, 0, 0, 0, 0)]
abbrev zc_187 : List (List zI0) := [zb_187_0, zb_187_1, zb_187_2]
abbrev zb_188_0 : List zI0 := [(0, 1, 1, 0, 0), (4, 2, 1, 0, 0), (0, 0, 1, 0, 0), (1, 11, 10, 101, 10), (6, 22, 2, 2, 180), (15, 1, 0, 0, 0), (56, 3, 32, 0, 0)]
abbrev zb_188_1 : List zI0 := [(50, 0, 0, 0, 0)]
abbrev zc_188 : List (List zI0) := [zb_188_0, zb_188_1]
abbrev zb_189_0 : List zI0 := [(0, 0, 1, 0, 0), (2, 11, 3, 90, 3), (6, 82, 0, 7, 112), (4, 1, 1, 0, 0), (23, 1, 0, 0, 0), (56, 3, 33, 0, 0)]
abbrev zb_189_1 : List zI0 := [(50, 0, 0, 0, 0)]
abbrev zc_189 : List (List zI0) := [zb_189_0, zb_189_1]
abbrev zb_190_0 : List zI0 := [(0, 0, 1, 0, 0), (2, 11, 3, 90, 3), (6, 95, 0, 7, 139), (15, 1, 0, 0, 0), (56, 5, 34, 0, 0)]
abbrev zb_190_1 : List zI0 := [(50, 0, 0, 0, 0)]
abbrev zc_190 : List (List zI0) := [zb_190_0, zb_190_1]
abbrev zb_191_0 : List zI0 := [(0, 0, 1, 0, 0), (2, 11, 4, 93, 4), (1, 0, 4, 103, 4), (15, 1, 0, 0, 0), (56, 1, 35, 0, 0)]
abbrev zb_191_1 : List zI0 := [(50, 0, 0, 0, 0)]
abbrev zc_191 : List (List zI0) := [zb_191_0, zb_191_1]
abbrev zb_192_0 : List zI0 := [(0, 0, 1, 0, 0), (2, 11, 4, 93, 4), (1, 0, 4, 103, 4), (14, 1, 0, 0, 0), (56, 1, 36, 0, 0)]
abbrev zb_192_1 : List zI0 := [(50, 0, 0, 0, 0)]
abbrev zc_192 : List (List zI0) := [zb_192_0, zb_192_1]
abbrev zb_193_0 : List zI0 := [(0, 0, 1, 0, 0), (2, 11, 7, 95, 7), (6, 57, 0, 5, 100), (15, 1, 0, 0, 0), (56, 1, 37, 0, 0)]
abbrev zb_193_1 : List zI0 := [(50, 0, 0, 0, 0)]
abbrev zc_193 : List (List zI0) := [zb_193_0, zb_193_1]
abbrev zb_194_0 : List zI0 := [(0, 0, 1, 0, 0), (2, 11, 7, 95, 7), (6, 57, 0, 5, 100), (14, 1, 0, 0, 0), (56, 1, 38, 0, 0)]
abbrev zb_194_1 : List zI0 := [(50, 0, 0, 0, 0)]
abbrev zc_194 : List (List zI0) := [zb_194_0, zb_194_1]
abbrev zb_195_0 : List zI0 := [(0, 0, 1, 0, 0), (1, 11, 9, 96, 9), (15, 1, 0, 0, 0), (56, 5, 39, 0, 0)]
abbrev zb_195_1 : List zI0 := [(50, 0, 0, 0, 0)]
abbrev zc_195 : List (List zI0) := [zb_195_0, zb_195_1]
abbrev zb_196_0 : List zI0 := [(4, 0, 1, 0, 0), (5, 44, 1, 0, 162), (15, 1, 0, 0, 0), (56, 0, 40, 0, 0)]
abbrev zb_196_1 : List zI0 := [(50, 0, 0, 0, 0)]
abbrev zc_196 : List (List zI0) := [zb_196_0, zb_196_1]
abbrev zb_197_0 : List zI0 := [(4, 1, 1, 0, 0), (3, 0, 0, 0, 1), (3, 1, 0, 0, 14), (5, 198, 3, 0, 91), (4, 0, 1, 0, 0), (3, 0, 0, 0, 0), (4, 1, 1, 0, 0), (5, 198, 3, 0, 91), (50, 0, 0, 0, 0)]
abbrev zc_197 : List (List zI0) := [zb_197_0]
abbrev zb_198_0 : List zI0 := [(4, 0, 1, 0, 0), (4, 1, 1, 0, 0), (22, 1, 0, 0, 0), (4, 0, 1, 0, 0), (4, 2, 1, 0, 0), (25, 2, 0, 0, 0), (111, 1, 0, 0, 0)]
abbrev zb_198_1 : List zI0 := [(56, 0, 41, 0, 0)]
abbrev zb_198_2 : List zI0 := [(50, 0, 0, 0, 0)]
abbrev zc_198 : List (List zI0) := [zb_198_0, zb_198_1, zb_198_2]
abbrev zb_199_0 : List zI0 := [(3, 0, 0, 0, 0), (30, 1, 1, 0, 0), (3, 0, 0, 0, 0), (30, 2, 1, 0, 0), (111, 1, 0, 0, 0)]
abbrev zb_199_1 : List zI0 := [(4, 2, 1, 0, 0), (0, 0, 1, 0, 0), (1, 11, 9, 96, 9), (23, 2, 0, 0, 0), (4, 2, 1, 0, 0), (0, 0, 1, 0, 0), (2, 11, 0, 87, 0), (36, 0, 0, 0, 0), (23, 2, 0, 0, 0), (4, 1, 1, 0, 0), (0, 0, 1, 0, 0), (2, 11, 0, 87, 0), (4, 2, 1, 0, 0), (34, 0, 0, 0, 0), (1, 2, 2, 99, 2), (37, 0, 0, 0, 0), (30, 1, 1, 0, 0), (32, 2, 0, 0, 1), (10, 1, 0, 0, 0)]
abbrev zb_199_2 : List zI0 := [(4, 1, 1, 0, 0), (8, 0, 0, 0, 0)]
abbrev zc_199 : List (List zI0) := [zb_199_0, zb_199_1, zb_199_2]
abbrev zb_200_0 : List zI0 := [(0, 0, 1, 0, 0), (6, 199, 0, 11, 174), (0, 0, 1, 0, 0), (2, 11, 2, 89, 2), (1, 9, 0, 98, 0), (37, 0, 0, 0, 0), (0, 0, 1, 0, 0), (2, 11, 7, 95, 7), (1, 5, 3, 121, 3), (37, 0, 0, 0, 0), (0, 0, 1, 0, 0), (2, 11, 8, 92, 8), (1, 4, 4, 104, 4), (37, 0, 0, 0, 0), (30, 1, 1, 0, 0), (0, 0, 1, 0, 0), (2, 11, 1, 88, 1), (31, 2, 1, 0, 0), (0, 2, 1, 0, 0), (36, 0, 0, 0, 0), (30, 3, 1, 0, 0), (3, 0, 0, 0, 0), (30, 4, 0, 0, 0), (111, 1, 0, 0, 0)]
abbrev zb_200_1 : List zI0 := [(4, 4, 0, 0, 0), (4, 3, 1, 0, 0), (23, 2, 0, 0, 0), (0, 2, 1, 0, 0), (4, 4, 0, 0, 0), (34, 0, 0, 0, 0), (31, 5, 0, 0, 0), (4, 1, 1, 0, 0), (0, 5, 0, 0, 0), (1, 8, 1, 105, 1), (37, 0, 0, 0, 0), (30, 1, 1, 0, 0), (32, 4, 0, 0, 1), (10, 1, 0, 0, 0)]
abbrev zb_200_2 : List zI0 := [(0, 0, 1, 0, 0), (2, 11, 0, 87, 0), (31, 2, 1, 0, 0), (0, 2, 1, 0, 0), (36, 0, 0, 0, 0), (30, 3, 1, 0, 0), (3, 0, 0, 0, 0), (30, 4, 0, 0, 0), (111, 3, 0, 0, 0)]
abbrev zb_200_3 : List zI0 := [(4, 4, 0, 0, 0), (4, 3, 1, 0, 0), (23, 4, 0, 0, 0), (0, 2, 1, 0, 0), (4, 4, 0, 0, 0), (34, 0, 0, 0, 0), (31, 5, 0, 0, 0), (4, 1, 1, 0, 0), (0, 5, 0, 0, 0), (6, 31, 0, 2, 166), (0, 0, 1, 0, 0), (0, 5, 0, 0, 0), (6, 201, 1, 11, 181), (37, 0, 0, 0, 0), (37, 0, 0, 0, 0), (30, 1, 1, 0, 0), (32, 4, 0, 0, 1), (10, 3, 0, 0, 0)]
abbrev zb_200_4 : List zI0 := [(4, 1, 1, 0, 0), (3, 4, 7, 0, 100000), (21, 5, 0, 0, 0), (3, 0, 0, 0, 1), (10, 6, 0, 0, 0)]
abbrev zb_200_5 : List zI0 := [(3, 0, 0, 0, 0), (111, 6, 0, 0, 0)]
abbrev zb_200_6 : List zI0 := [(9, 0, 0, 0, 0)]
abbrev zc_200 : List (List zI0) := [zb_200_0, zb_200_1, zb_200_2, zb_200_3, zb_200_4, zb_200_5, zb_200_6]
abbrev zb_201_0 : List zI0 := [(0, 0, 1, 0, 0), (2, 11, 4, 93, 4), (0, 1, 1, 0, 0), (6, 3, 1, 0, 182), (0, 0, 1, 0, 0), (2, 11, 6, 94, 6), (0, 1, 1, 0, 0), (6, 115, 1, 10, 183), (37, 0, 0, 0, 0), (0, 0, 1, 0, 0), (2, 11, 7, 95, 7), (0, 1, 1, 0, 0), (6, 58, 1, 5, 184), (37, 0, 0, 0, 0), (8, 0, 0, 0, 0)]
abbrev zc_201 : List (List zI0) := [zb_201_0]
abbrev zb_202_0 : List zI0 := [(0, 0, 1, 0, 0), (2, 11, 0, 87, 0), (31, 1, 1, 0, 0), (0, 1, 1, 0, 0), (36, 0, 0, 0, 0), (30, 2, 1, 0, 0), (3, 0, 0, 0, 0), (30, 3, 1, 0, 0), (111, 1, 0, 0, 0)]
abbrev zb_202_1 : List zI0 := [(4, 3, 1, 0, 0), (4, 2, 1, 0, 0), (23, 3, 0, 0, 0), (0, 1, 1, 0, 0), (4, 3, 1, 0, 0), (34, 0, 0, 0, 0), (31, 4, 0, 0, 0), (0, 4, 0, 0, 0), (0, 0, 1, 0, 0), (1, 11, 10, 101, 10), (6, 21, 1, 2, 168), (14, 2, 0, 0, 0), (0, 0, 1, 0, 0), (0, 4, 0, 0, 0), (6, 201, 1, 11, 181), (14, 2, 0, 0, 0), (3, 0, 0, 0, 0), (9, 0, 0, 0, 0)]
abbrev zb_202_2 : List zI0 := [(32, 3, 0, 0, 1), (10, 1, 0, 0, 0)]
abbrev zb_202_3 : List zI0 := [(3, 0, 0, 0, 1), (9, 0, 0, 0, 0)]
abbrev zc_202 : List (List zI0) := [zb_202_0, zb_202_1, zb_202_2, zb_202_3]
abbrev zb_203_0 : List zI0 := [(77, 0, 0, 0, 0), (79, 1, 1, 0, 0), (3, 1, 0, 0, 17), (30, 3, 1, 0, 0), (111, 1, 0, 0, 0)]
abbrev zb_203_1 : List zI0 := [(4, 3, 1, 0, 0), (3, 1, 0, 0, 22), (24, 2, 0, 0, 0), (0, 0, 1, 0, 0), (2, 11, 4, 93, 4), (1, 0, 4, 103, 4), (14, 2, 0, 0, 0), (78, 1, 1, 0, 0), (0, 0, 1, 0, 0), (2, 11, 5, 91, 5), (4, 3, 1, 0, 0), (0, 0, 1, 0, 0), (2, 11, 4, 93, 4), (6, 18, 2, 1, 142), (82, 0, 0, 0, 0), (79, 1, 1, 0, 0), (32, 3, 0, 0, 1), (10, 1, 0, 0, 0)]
abbrev zb_203_2 : List zI0 := [(78, 1, 1, 0, 0), (109, 0, 8, 0, 4607182423303617035), (85, 1, 0, 0, 0), (18, 3, 0, 0, 0), (3, 0, 0, 0, 1), (10, 4, 0, 0, 0)]
abbrev zb_203_3 : List zI0 := [(3, 0, 0, 0, 0), (111, 4, 0, 0, 0)]
abbrev zb_203_4 : List zI0 := [(9, 0, 0, 0, 0)]
abbrev zc_203 : List (List zI0) := [zb_203_0, zb_203_1, zb_203_2, zb_203_3, zb_203_4]
abbrev zb_204_0 : List zI0 := [(73, 0, 1, 0, 0), (73, 2, 1, 0, 0), (5, 206, 2, 0, 185), (74, 4, 0, 0, 0), (73, 4, 0, 0, 0), (64, 0, 0, 0, 0), (72, 0, 0, 0, 0), (15, 1, 0, 0, 0), (73, 0, 1, 0, 0), (10, 2, 0, 0, 0)]
abbrev zb_204_1 : List zI0 := [(73, 0, 1, 0, 0), (73, 4, 0, 0, 0), (70, 0, 0, 0, 0), (111, 2, 0, 0, 0)]
abbrev zb_204_2 : List zI0 := [(52, 0, 0, 0, 0)]
abbrev zc_204 : List (List zI0) := [zb_204_0, zb_204_1, zb_204_2]
abbrev zb_205_0 : List zI0 := [(73, 0, 1, 0, 0), (73, 2, 1, 0, 0), (5, 206, 2, 0, 185), (74, 4, 0, 0, 0), (73, 4, 0, 0, 0), (64, 0, 0, 0, 0), (72, 0, 0, 0, 0), (15, 1, 0, 0, 0), (73, 2, 1, 0, 0), (10, 2, 0, 0, 0)]
abbrev zb_205_1 : List zI0 := [(73, 2, 1, 0, 0), (73, 4, 0, 0, 0), (70, 0, 0, 0, 0), (111, 2, 0, 0, 0)]
abbrev zb_205_2 : List zI0 := [(52, 0, 0, 0, 0)]
abbrev zc_205 : List (List zI0) := [zb_205_0, zb_205_1, zb_205_2]
abbrev zb_206_0 : List zI0 := [(73, 0, 1, 0, 0), (74, 4, 0, 0, 0), (73, 2, 1, 0, 0), (74, 6, 0, 0, 0), (3, 0, 0, 0, 0), (30, 8, 0, 0, 0), (111, 1, 0, 0, 0)]
abbrev zb_206_1 : List zI0 := [(4, 8, 0, 0, 0), (3, 2, 0, 0, 200), (23, 2, 0, 0, 0), (73, 6, 0, 0, 0), (64, 0, 0, 0, 0), (72, 0, 0, 0, 0), (14, 2, 0, 0, 0), (73, 4, 0, 0, 0), (73, 6, 0, 0, 0), (71, 0, 0, 0, 0), (74, 9, 0, 0, 0), (73, 6, 0, 0, 0), (74, 4, 0, 0, 0), (73, 9, 0, 0, 0), (74, 6, 0, 0, 0), (32, 8, 0, 0, 1), (10, 1, 0, 0, 0)]
abbrev zb_206_2 : List zI0 := [(73, 4, 0, 0, 0), (52, 0, 0, 0, 0)]
abbrev zc_206 : List (List zI0) := [zb_206_0, zb_206_1, zb_206_2]
abbrev zb_207_0 : List zI0 := [(64, 0, 0, 0, 1), (74, 2, 1, 0, 0), (3, 0, 0, 0, 0), (30, 4, 0, 0, 0), (111, 1, 0, 0, 0)]
abbrev zb_207_1 : List zI0 := [(4, 4, 0, 0, 0), (4, 1, 1, 0, 0), (23, 2, 0, 0, 0), (73, 2, 1, 0, 0), (4, 0, 1, 0, 0), (65, 0, 0, 0, 0), (69, 0, 0, 0, 0), (74, 2, 1, 0, 0), (32, 4, 0, 0, 1), (10, 1, 0, 0, 0)]
abbrev zb_207_2 : List zI0 := [(73, 2, 1, 0, 0), (52, 0, 0, 0, 0)]
abbrev zc_207 : List (List zI0) := [zb_207_0, zb_207_1, zb_207_2]
abbrev zb_208_0 : List zI0 := [(3, 1, 0, 0, 19), (4, 0, 1, 0, 0), (5, 207, 2, 0, 171), (3, 1, 0, 0, 18), (4, 0, 1, 0, 0), (5, 207, 2, 0, 171), (68, 0, 0, 0, 0), (3, 1, 0, 0, 18), (4, 1, 1, 0, 0), (4, 0, 1, 0, 0), (38, 0, 0, 0, 0), (5, 207, 2, 0, 171), (69, 0, 0, 0, 0), (52, 0, 0, 0, 0)]
abbrev zc_208 : List (List zI0) := [zb_208_0]
abbrev zb_209_0 : List zI0 := [(88, 0, 1, 0, 0), (87, 0, 0, 0, 0), (94, 0, 0, 0, 0), (15, 1, 0, 0, 0), (3, 0, 0, 0, 0), (8, 0, 0, 0, 0)]
abbrev zb_209_1 : List zI0 := [(88, 0, 1, 0, 0), (87, 0, 0, 0, 0), (94, 1, 0, 0, 0), (17, 2, 0, 0, 0), (88, 0, 1, 0, 0), (93, 0, 0, 0, 0), (10, 3, 0, 0, 0)]
abbrev zb_209_2 : List zI0 := [(88, 0, 1, 0, 0), (111, 3, 0, 0, 0)]
abbrev zb_209_3 : List zI0 := [(89, 1, 1, 0, 0), (3, 1, 0, 0, 127), (30, 2, 1, 0, 0), (3, 0, 0, 0, 0), (30, 3, 1, 0, 0), (111, 4, 0, 0, 0)]
abbrev zb_209_4 : List zI0 := [(4, 3, 1, 0, 0), (3, 2, 0, 0, 200), (23, 5, 0, 0, 0), (88, 1, 1, 0, 0), (87, 2, 0, 0, 0), (94, 0, 0, 0, 0), (16, 5, 0, 0, 0), (88, 1, 1, 0, 0), (87, 2, 0, 0, 0), (90, 0, 0, 0, 0), (89, 1, 1, 0, 0), (32, 2, 0, 0, 1), (32, 3, 0, 0, 1), (10, 4, 0, 0, 0)]
abbrev zb_209_5 : List zI0 := [(3, 0, 0, 0, 0), (30, 3, 1, 0, 0), (111, 6, 0, 0, 0)]
abbrev zb_209_6 : List zI0 := [(4, 3, 1, 0, 0), (3, 2, 0, 0, 200), (23, 7, 0, 0, 0), (88, 1, 1, 0, 0), (87, 1, 0, 0, 0), (94, 1, 0, 0, 0), (17, 7, 0, 0, 0), (88, 1, 1, 0, 0), (87, 2, 0, 0, 0), (91, 0, 0, 0, 0), (89, 1, 1, 0, 0), (32, 2, 0, 0, (-1)), (32, 3, 0, 0, 1), (10, 6, 0, 0, 0)]
abbrev zb_209_7 : List zI0 := [(88, 1, 1, 0, 0), (87, 1, 0, 0, 0), (92, 0, 0, 0, 0), (98, 1, 9, 0, 1258291200), (91, 0, 0, 0, 0), (96, 0, 0, 0, 0), (30, 3, 1, 0, 0), (88, 0, 1, 0, 0), (87, 0, 0, 0, 0), (94, 1, 0, 0, 0), (17, 8, 0, 0, 0), (3, 0, 0, 0, 1), (10, 9, 0, 0, 0)]
abbrev zb_209_8 : List zI0 := [(3, 0, 0, 0, 0), (111, 9, 0, 0, 0)]
abbrev zb_209_9 : List zI0 := [(30, 4, 0, 0, 0), (4, 4, 0, 0, 0), (3, 1, 0, 0, 31), (44, 0, 0, 0, 0), (4, 2, 1, 0, 0), (3, 1, 0, 0, 23), (44, 0, 0, 0, 0), (43, 0, 0, 0, 0), (4, 3, 1, 0, 0), (43, 0, 0, 0, 0), (8, 0, 0, 0, 0)]
abbrev zc_209 : List (List zI0) := [zb_209_0, zb_209_1, zb_209_2, zb_209_3, zb_209_4, zb_209_5, zb_209_6, zb_209_7, zb_209_8, zb_209_9]
abbrev zb_210_0 : List zI0 := [(0, 0, 1, 0, 0), (108, 0, 0, 0, 1), (0, 0, 1, 0, 0), (3, 1, 0, 0, 8), (58, 0, 0, 0, 0), (13, 12, 0, 128, 0), (0, 0, 1, 0, 0), (3, 1, 0, 0, 8), (58, 0, 0, 0, 0), (13, 12, 1, 129, 1), (0, 0, 1, 0, 0), (3, 1, 0, 0, 8), (58, 0, 0, 0, 0), (13, 12, 2, 130, 2), (0, 0, 1, 0, 0), (3, 1, 0, 0, 8), (58, 0, 0, 0, 0), (13, 12, 3, 131, 3), (0, 0, 1, 0, 0), (3, 1, 0, 0, 8), (58, 0, 0, 0, 0), (13, 12, 4, 132, 4), (0, 0, 1, 0, 0), (3, 1, 0, 0, 8), (58, 0, 0, 0, 0), (13, 12, 5, 133, 5), (0, 0, 1, 0, 0), (3, 1, 0, 0, 8), (58, 0, 0, 0, 0), (13, 12, 6, 134, 6), (0, 0, 1, 0, 0), (3, 1, 0, 0, 8), (58, 0, 0, 0, 0), (13, 12, 7, 135, 7), (0, 0, 1, 0, 0), (3, 1, 0, 0, 8), (3, 0, 0, 0, 2), (60, 0, 0, 17, 0), (13, 12, 8, 136, 8), (0, 0, 1, 0, 0), (3, 1, 0, 0, 8), (3, 0, 0, 0, 2), (60, 0, 0, 17, 0), (13, 12, 9, 137, 9), (0, 0, 1, 0, 0), (3, 0, 0, 0, 3), (58, 0, 0, 0, 0), (13, 12, 10, 138, 10), (0, 0, 1, 0, 0), (3, 0, 0, 0, 3), (58, 0, 0, 0, 0), (13, 12, 11, 139, 11), (0, 0, 1, 0, 0), (3, 0, 0, 0, 3), (58, 0, 0, 0, 0), (13, 12, 12, 140, 12), (0, 0, 1, 0, 0), (3, 0, 0, 0, 4), (58, 4, 0, 0, 0), (13, 12, 13, 141, 13), (0, 0, 1, 0, 0), (3, 1, 0, 0, 104), (58, 0, 0, 0, 0), (13, 12, 14, 142, 14), (0, 0, 1, 0, 0), (3, 1, 0, 0, 104), (58, 0, 0, 0, 0), (13, 12, 15, 143, 15), (0, 0, 1, 0, 0), (3, 1, 0, 0, 11), (58, 0, 0, 0, 0), (13, 12, 16, 144, 16), (0, 0, 1, 0, 0), (3, 1, 0, 0, 11), (58, 0, 0, 0, 0), (13, 12, 17, 145, 17), (0, 0, 1, 0, 0), (3, 0, 0, 0, 3), (58, 0, 0, 0, 0), (13, 12, 18, 146, 18), (0, 0, 1, 0, 0), (3, 0, 0, 0, 3), (58, 0, 0, 0, 0), (13, 12, 19, 147, 19), (0, 0, 1, 0, 0), (3, 0, 0, 0, 3), (58, 0, 0, 0, 0), (13, 12, 20, 148, 20), (0, 0, 1, 0, 0), (3, 0, 0, 0, 3), (3, 0, 0, 0, 2), (3, 1, 0, 0, 24), (61, 0, 0, 18, 0), (13, 12, 21, 149, 21), (0, 0, 1, 0, 0), (3, 0, 0, 0, 3), (3, 0, 0, 0, 2), (60, 0, 0, 17, 0), (13, 12, 22, 150, 22), (0, 0, 1, 0, 0), (3, 0, 0, 0, 3), (3, 0, 0, 0, 2), (60, 0, 0, 17, 0), (13, 12, 23, 151, 23), (0, 0, 1, 0, 0), (3, 0, 0, 0, 3), (3, 0, 0, 0, 2), (60, 0, 0, 17, 0), (13, 12, 24, 152, 24), (0, 0, 1, 0, 0), (3, 1, 0, 0, 24), (58, 0, 0, 0, 0), (13, 12, 25, 153, 25), (0, 0, 1, 0, 0), (3, 1, 0, 0, 10), (3, 0, 0, 0, 4), (60, 0, 0, 17, 0), (13, 12, 26, 154, 26), (0, 0, 1, 0, 0), (3, 0, 0, 0, 3), (3, 1, 0, 0, 8), (60, 0, 0, 17, 0), (13, 12, 27, 155, 27), (0, 0, 1, 0, 0), (3, 0, 0, 0, 5), (58, 0, 0, 0, 0), (13, 12, 28, 156, 28), (0, 0, 1, 0, 0), (3, 1, 0, 0, 12), (3, 0, 0, 0, 2), (60, 0, 0, 17, 0), (13, 12, 29, 157, 29), (0, 0, 1, 0, 0), (3, 1, 0, 0, 8), (3, 0, 0, 0, 4), (60, 0, 0, 17, 0), (13, 12, 30, 158, 30), (0, 0, 1, 0, 0), (3, 3, 10, 0, 100000), (11, 12, 32, 159, 32), (0, 0, 1, 0, 0), (3, 2, 0, 0, 500), (11, 12, 40, 160, 40), (0, 0, 1, 0, 0), (3, 0, 0, 0, (-1)), (11, 12, 42, 161, 42), (0, 0, 1, 0, 0), (3, 0, 0, 0, (-1)), (11, 12, 47, 162, 47), (0, 0, 1, 0, 0), (2, 12, 27, 155, 27), (31, 1, 1, 0, 0), (0, 1, 1, 0, 0), (36, 0, 0, 0, 0), (30, 2, 1, 0, 0), (3, 0, 0, 0, 0), (30, 3, 1, 0, 0), (111, 1, 0, 0, 0)]
abbrev zb_210_1 : List zI0 := [(4, 3, 1, 0, 0), (4, 2, 1, 0, 0), (23, 4, 0, 0, 0), (0, 1, 1, 0, 0), (4, 3, 1, 0, 0), (34, 0, 0, 0, 0), (31, 4, 0, 0, 0), (3, 0, 0, 0, 0), (30, 5, 0, 0, 0), (111, 2, 0, 0, 0)]
abbrev zb_210_2 : List zI0 := [(4, 5, 0, 0, 0), (3, 1, 0, 0, 8), (23, 3, 0, 0, 0), (0, 4, 0, 0, 0), (4, 5, 0, 0, 0), (3, 0, 0, 0, 4), (35, 0, 0, 0, 0), (32, 5, 0, 0, 1), (10, 2, 0, 0, 0)]
abbrev zb_210_3 : List zI0 := [(32, 3, 0, 0, 1), (10, 1, 0, 0, 0)]
abbrev zb_210_4 : List zI0 := [(3, 0, 0, 0, 0), (30, 1, 1, 0, 0), (111, 5, 0, 0, 0)]
abbrev zb_210_5 : List zI0 := [(4, 1, 1, 0, 0), (3, 0, 0, 0, 3), (23, 6, 0, 0, 0), (0, 0, 1, 0, 0), (2, 12, 18, 146, 18), (4, 1, 1, 0, 0), (3, 0, 0, 0, (-1)), (35, 0, 0, 0, 0), (32, 1, 0, 0, 1), (10, 5, 0, 0, 0)]
abbrev zb_210_6 : List zI0 := [(50, 0, 0, 0, 0)]
abbrev zc_210 : List (List zI0) := [zb_210_0, zb_210_1, zb_210_2, zb_210_3, zb_210_4, zb_210_5, zb_210_6]
abbrev zb_211_0 : List zI0 := [(0, 0, 1, 0, 0), (1, 12, 49, 163, 49), (8, 0, 0, 0, 0)]
abbrev zc_211 : List (List zI0) := [zb_211_0]
abbrev zb_212_0 : List zI0 := [(0, 0, 1, 0, 0), (4, 1, 1, 0, 0), (14, 1, 0, 0, 0), (4, 2, 1, 0, 0), (10, 2, 0, 0, 0)]
abbrev zb_212_1 : List zI0 := [(3, 0, 0, 0, 0), (111, 2, 0, 0, 0)]
abbrev zb_212_2 : List zI0 := [(11, 12, 49, 163, 49), (4, 1, 1, 0, 0), (9, 0, 0, 0, 0)]
abbrev zc_212 : List (List zI0) := [zb_212_0, zb_212_1, zb_212_2]
abbrev zb_213_0 : List zI0 := [(4, 0, 1, 0, 0), (4, 1, 1, 0, 0), (22, 1, 0, 0, 0), (4, 0, 1, 0, 0), (4, 2, 1, 0, 0), (24, 1, 0, 0, 0), (3, 0, 0, 0, 1), (10, 2, 0, 0, 0)]
abbrev zb_213_1 : List zI0 := [(3, 0, 0, 0, 0), (111, 2, 0, 0, 0)]
abbrev zb_213_2 : List zI0 := [(9, 0, 0, 0, 0)]
abbrev zc_213 : List (List zI0) := [zb_213_0, zb_213_1, zb_213_2]
abbrev zb_214_0 : List zI0 := [(4, 1, 1, 0, 0), (3, 0, 0, 0, 0), (0, 0, 1, 0, 0), (1, 12, 31, 164, 31), (3, 0, 0, 0, 1), (38, 0, 0, 0, 0), (5, 213, 3, 0, 186), (15, 1, 0, 0, 0), (3, 0, 0, 0, 1), (10, 2, 0, 0, 0)]
abbrev zb_214_1 : List zI0 := [(3, 0, 0, 0, 0), (111, 2, 0, 0, 0)]
abbrev zb_214_2 : List zI0 := [(9, 0, 0, 0, 0)]
abbrev zc_214 : List (List zI0) := [zb_214_0, zb_214_1, zb_214_2]
abbrev zb_215_0 : List zI0 := [(0, 0, 1, 0, 0), (4, 1, 1, 0, 0), (3, 0, 0, 0, 0), (3, 3, 11, 0, 99999), (5, 213, 3, 0, 186), (15, 1, 0, 0, 0), (3, 0, 0, 0, 1), (10, 2, 0, 0, 0)]
abbrev zb_215_1 : List zI0 := [(3, 0, 0, 0, 0), (111, 2, 0, 0, 0)]
abbrev zb_215_2 : List zI0 := [(3, 0, 0, 0, 1), (6, 212, 2, 12, 187), (15, 5, 0, 0, 0), (0, 0, 1, 0, 0), (0, 0, 1, 0, 0), (1, 12, 31, 164, 31), (3, 1, 0, 0, 8), (21, 3, 0, 0, 0), (3, 0, 0, 0, 1), (10, 4, 0, 0, 0)]
abbrev zb_215_3 : List zI0 := [(3, 0, 0, 0, 0), (111, 4, 0, 0, 0)]
abbrev zb_215_4 : List zI0 := [(3, 0, 0, 0, 2), (6, 212, 2, 12, 187), (14, 6, 0, 0, 0), (111, 5, 0, 0, 0)]
abbrev zb_215_5 : List zI0 := [(3, 0, 0, 0, 0), (8, 0, 0, 0, 0)]
abbrev zb_215_6 : List zI0 := [(0, 0, 1, 0, 0), (2, 12, 0, 128, 0), (0, 0, 1, 0, 0), (1, 12, 31, 164, 31), (4, 1, 1, 0, 0), (35, 0, 0, 0, 0), (0, 0, 1, 0, 0), (2, 12, 5, 133, 5), (0, 0, 1, 0, 0), (1, 12, 31, 164, 31), (3, 2, 0, 0, 5000), (35, 0, 0, 0, 0), (0, 0, 1, 0, 0), (2, 12, 6, 134, 6), (0, 0, 1, 0, 0), (1, 12, 31, 164, 31), (3, 0, 0, 0, (-1)), (35, 0, 0, 0, 0), (0, 0, 1, 0, 0), (47, 0, 0, 0, 0), (1, 12, 31, 164, 31), (3, 0, 0, 0, 1), (37, 0, 0, 0, 0), (11, 12, 31, 164, 31), (0, 0, 1, 0, 0), (1, 12, 31, 164, 31), (3, 0, 0, 0, 1), (38, 0, 0, 0, 0), (8, 0, 0, 0, 0)]
abbrev zc_215 : List (List zI0) := [zb_215_0, zb_215_1, zb_215_2, zb_215_3, zb_215_4, zb_215_5, zb_215_6]
abbrev zb_216_0 : List zI0 := [(0, 0, 1, 0, 0), (0, 0, 1, 0, 0), (4, 1, 1, 0, 0), (6, 214, 1, 12, 188), (3, 0, 0, 0, 1), (6, 212, 2, 12, 187), (15, 6, 0, 0, 0), (0, 0, 1, 0, 0), (4, 2, 1, 0, 0), (3, 0, 0, 0, 1), (3, 2, 0, 0, 9999), (5, 213, 3, 0, 186), (15, 1, 0, 0, 0), (3, 0, 0, 0, 1), (10, 2, 0, 0, 0)]
abbrev zb_216_1 : List zI0 := [(3, 0, 0, 0, 0), (111, 2, 0, 0, 0)]
abbrev zb_216_2 : List zI0 := [(3, 0, 0, 0, 2), (6, 212, 2, 12, 187), (15, 6, 0, 0, 0), (0, 0, 1, 0, 0), (4, 2, 1, 0, 0), (0, 0, 1, 0, 0), (2, 12, 0, 128, 0), (4, 1, 1, 0, 0), (33, 0, 0, 0, 0), (24, 3, 0, 0, 0), (4, 2, 1, 0, 0), (0, 0, 1, 0, 0), (1, 12, 32, 159, 32), (25, 4, 0, 0, 0), (111, 3, 0, 0, 0)]
abbrev zb_216_3 : List zI0 := [(3, 0, 0, 0, 1), (10, 5, 0, 0, 0)]
abbrev zb_216_4 : List zI0 := [(3, 0, 0, 0, 0), (111, 5, 0, 0, 0)]
abbrev zb_216_5 : List zI0 := [(3, 0, 0, 0, 3), (6, 212, 2, 12, 187), (14, 7, 0, 0, 0), (111, 6, 0, 0, 0)]
abbrev zb_216_6 : List zI0 := [(3, 0, 0, 0, 0), (8, 0, 0, 0, 0)]
abbrev zb_216_7 : List zI0 := [(0, 0, 1, 0, 0), (2, 12, 0, 128, 0), (4, 1, 1, 0, 0), (48, 0, 0, 0, 0), (33, 0, 0, 0, 0), (4, 2, 1, 0, 0), (38, 0, 0, 0, 0), (35, 0, 0, 0, 0), (0, 0, 1, 0, 0), (47, 0, 0, 0, 0), (1, 12, 32, 159, 32), (4, 2, 1, 0, 0), (38, 0, 0, 0, 0), (11, 12, 32, 159, 32), (0, 0, 1, 0, 0), (2, 12, 1, 129, 1), (4, 1, 1, 0, 0), (48, 0, 0, 0, 0), (33, 0, 0, 0, 0), (4, 2, 1, 0, 0), (37, 0, 0, 0, 0), (35, 0, 0, 0, 0), (0, 0, 1, 0, 0), (2, 12, 4, 132, 4), (4, 1, 1, 0, 0), (48, 0, 0, 0, 0), (33, 0, 0, 0, 0), (0, 0, 1, 0, 0), (2, 12, 3, 131, 3), (4, 1, 1, 0, 0), (33, 0, 0, 0, 0), (3, 2, 0, 0, 1000), (23, 8, 0, 0, 0), (0, 0, 1, 0, 0), (2, 12, 3, 131, 3), (4, 1, 1, 0, 0), (33, 0, 0, 0, 0), (4, 2, 1, 0, 0), (37, 0, 0, 0, 0), (3, 2, 0, 0, 1000), (22, 8, 0, 0, 0), (3, 0, 0, 0, 1), (10, 9, 0, 0, 0)]
abbrev zb_216_8 : List zI0 := [(3, 0, 0, 0, 0), (111, 9, 0, 0, 0)]
abbrev zb_216_9 : List zI0 := [(37, 0, 0, 0, 0), (35, 0, 0, 0, 0), (0, 0, 1, 0, 0), (2, 12, 3, 131, 3), (4, 1, 1, 0, 0), (48, 0, 0, 0, 0), (33, 0, 0, 0, 0), (4, 2, 1, 0, 0), (37, 0, 0, 0, 0), (35, 0, 0, 0, 0), (0, 0, 1, 0, 0), (2, 12, 1, 129, 1), (4, 1, 1, 0, 0), (33, 0, 0, 0, 0), (8, 0, 0, 0, 0)]
abbrev zc_216 : List (List zI0) := [zb_216_0, zb_216_1, zb_216_2, zb_216_3, zb_216_4, zb_216_5, zb_216_6, zb_216_7, zb_216_8, zb_216_9]
abbrev zb_217_0 : List zI0 := [(0, 0, 1, 0, 0), (0, 0, 1, 0, 0), (4, 1, 1, 0, 0), (6, 214, 1, 12, 188), (3, 0, 0, 0, 1), (6, 212, 2, 12, 187), (15, 5, 0, 0, 0), (0, 0, 1, 0, 0), (4, 2, 1, 0, 0), (3, 0, 0, 0, 1), (3, 3, 11, 0, 99999), (5, 213, 3, 0, 186), (15, 1, 0, 0, 0), (3, 0, 0, 0, 1), (10, 2, 0, 0, 0)]
abbrev zb_217_1 : List zI0 := [(3, 0, 0, 0, 0), (111, 2, 0, 0, 0)]
abbrev zb_217_2 : List zI0 := [(3, 0, 0, 0, 2), (6, 212, 2, 12, 187), (15, 5, 0, 0, 0), (0, 0, 1, 0, 0), (4, 2, 1, 0, 0), (0, 0, 1, 0, 0), (2, 12, 1, 129, 1), (4, 1, 1, 0, 0), (33, 0, 0, 0, 0), (25, 3, 0, 0, 0), (3, 0, 0, 0, 1), (10, 4, 0, 0, 0)]
abbrev zb_217_3 : List zI0 := [(3, 0, 0, 0, 0), (111, 4, 0, 0, 0)]
abbrev zb_217_4 : List zI0 := [(3, 0, 0, 0, 3), (6, 212, 2, 12, 187), (14, 6, 0, 0, 0), (111, 5, 0, 0, 0)]
abbrev zb_217_5 : List zI0 := [(3, 0, 0, 0, 0), (8, 0, 0, 0, 0)]
abbrev zb_217_6 : List zI0 := [(0, 0, 1, 0, 0), (2, 12, 1, 129, 1), (4, 1, 1, 0, 0), (48, 0, 0, 0, 0), (33, 0, 0, 0, 0), (4, 2, 1, 0, 0), (38, 0, 0, 0, 0), (35, 0, 0, 0, 0), (0, 0, 1, 0, 0), (47, 0, 0, 0, 0), (1, 12, 32, 159, 32), (4, 2, 1, 0, 0), (37, 0, 0, 0, 0), (11, 12, 32, 159, 32), (0, 0, 1, 0, 0), (2, 12, 0, 128, 0), (4, 1, 1, 0, 0), (48, 0, 0, 0, 0), (33, 0, 0, 0, 0), (4, 2, 1, 0, 0), (37, 0, 0, 0, 0), (35, 0, 0, 0, 0), (0, 0, 1, 0, 0), (2, 12, 0, 128, 0), (4, 1, 1, 0, 0), (33, 0, 0, 0, 0), (8, 0, 0, 0, 0)]
abbrev zc_217 : List (List zI0) := [zb_217_0, zb_217_1, zb_217_2, zb_217_3, zb_217_4, zb_217_5, zb_217_6]
abbrev zb_218_0 : List zI0 := [(0, 0, 1, 0, 0), (0, 0, 1, 0, 0), (4, 1, 1, 0, 0), (6, 214, 1, 12, 188), (3, 0, 0, 0, 1), (6, 212, 2, 12, 187), (15, 3, 0, 0, 0), (0, 0, 1, 0, 0), (4, 2, 1, 0, 0), (3, 0, 0, 0, 0), (3, 2, 0, 0, 5000), (5, 213, 3, 0, 186), (15, 1, 0, 0, 0), (3, 0, 0, 0, 1), (10, 2, 0, 0, 0)]
abbrev zb_218_1 : List zI0 := [(3, 0, 0, 0, 0), (111, 2, 0, 0, 0)]
abbrev zb_218_2 : List zI0 := [(3, 0, 0, 0, 2), (6, 212, 2, 12, 187), (14, 4, 0, 0, 0), (111, 3, 0, 0, 0)]
abbrev zb_218_3 : List zI0 := [(3, 0, 0, 0, 0), (8, 0, 0, 0, 0)]
abbrev zb_218_4 : List zI0 := [(0, 0, 1, 0, 0), (2, 12, 6, 134, 6), (4, 1, 1, 0, 0), (4, 2, 1, 0, 0), (0, 0, 1, 0, 0), (2, 12, 5, 133, 5), (4, 1, 1, 0, 0), (33, 0, 0, 0, 0), (25, 5, 0, 0, 0), (4, 2, 1, 0, 0), (10, 6, 0, 0, 0)]
abbrev zb_218_5 : List zI0 := [(3, 0, 0, 0, (-1)), (111, 6, 0, 0, 0)]
abbrev zb_218_6 : List zI0 := [(35, 0, 0, 0, 0), (0, 0, 1, 0, 0), (2, 12, 5, 133, 5), (4, 1, 1, 0, 0), (0, 0, 1, 0, 0), (2, 12, 5, 133, 5), (4, 1, 1, 0, 0), (33, 0, 0, 0, 0), (4, 2, 1, 0, 0), (5, 327, 2, 0, 189), (35, 0, 0, 0, 0), (0, 0, 1, 0, 0), (2, 12, 5, 133, 5), (4, 1, 1, 0, 0), (33, 0, 0, 0, 0), (8, 0, 0, 0, 0)]
abbrev zc_218 : List (List zI0) := [zb_218_0, zb_218_1, zb_218_2, zb_218_3, zb_218_4, zb_218_5, zb_218_6]
abbrev zb_219_0 : List zI0 := [(0, 0, 1, 0, 0), (1, 12, 33, 165, 33), (0, 0, 1, 0, 0), (2, 12, 7, 135, 7), (4, 1, 1, 0, 0), (33, 0, 0, 0, 0), (23, 1, 0, 0, 0), (3, 0, 0, 0, 1), (10, 2, 0, 0, 0)]
abbrev zb_219_1 : List zI0 := [(3, 0, 0, 0, 0), (111, 2, 0, 0, 0)]
abbrev zb_219_2 : List zI0 := [(9, 0, 0, 0, 0)]
abbrev zc_219 : List (List zI0) := [zb_219_0, zb_219_1, zb_219_2]
abbrev zb_220_0 : List zI0 := [(0, 0, 1, 0, 0), (4, 1, 1, 0, 0), (6, 219, 1, 12, 190), (15, 1, 0, 0, 0), (4, 2, 1, 0, 0), (0, 0, 1, 0, 0), (2, 12, 1, 129, 1), (4, 1, 1, 0, 0), (33, 0, 0, 0, 0), (24, 1, 0, 0, 0), (0, 0, 1, 0, 0), (2, 12, 2, 130, 2), (4, 1, 1, 0, 0), (33, 0, 0, 0, 0), (4, 2, 1, 0, 0), (37, 0, 0, 0, 0), (0, 0, 1, 0, 0), (2, 12, 5, 133, 5), (4, 1, 1, 0, 0), (33, 0, 0, 0, 0), (24, 1, 0, 0, 0), (3, 0, 0, 0, 1), (10, 2, 0, 0, 0)]
abbrev zb_220_1 : List zI0 := [(3, 0, 0, 0, 0), (111, 2, 0, 0, 0)]
abbrev zb_220_2 : List zI0 := [(9, 0, 0, 0, 0)]
abbrev zc_220 : List (List zI0) := [zb_220_0, zb_220_1, zb_220_2]
abbrev zb_221_0 : List zI0 := [(0, 0, 1, 0, 0), (2, 12, 1, 129, 1), (4, 1, 1, 0, 0), (48, 0, 0, 0, 0), (33, 0, 0, 0, 0), (4, 2, 1, 0, 0), (38, 0, 0, 0, 0), (35, 0, 0, 0, 0), (0, 0, 1, 0, 0), (2, 12, 2, 130, 2), (4, 1, 1, 0, 0), (48, 0, 0, 0, 0), (33, 0, 0, 0, 0), (4, 2, 1, 0, 0), (37, 0, 0, 0, 0), (35, 0, 0, 0, 0), (50, 0, 0, 0, 0)]
abbrev zc_221 : List (List zI0) := [zb_221_0]
abbrev zb_222_0 : List zI0 := [(3, 0, 0, 0, 0), (4, 3, 1, 0, 0), (0, 0, 1, 0, 0), (2, 12, 10, 138, 10), (4, 1, 1, 0, 0), (33, 0, 0, 0, 0), (38, 0, 0, 0, 0), (5, 326, 2, 0, 191), (30, 4, 0, 0, 0), (0, 0, 1, 0, 0), (47, 0, 0, 0, 0), (1, 12, 32, 159, 32), (4, 4, 0, 0, 0), (38, 0, 0, 0, 0), (11, 12, 32, 159, 32), (0, 0, 1, 0, 0), (2, 12, 12, 140, 12), (4, 1, 1, 0, 0), (48, 0, 0, 0, 0), (33, 0, 0, 0, 0), (4, 4, 0, 0, 0), (37, 0, 0, 0, 0), (35, 0, 0, 0, 0), (0, 0, 1, 0, 0), (2, 12, 10, 138, 10), (4, 1, 1, 0, 0), (48, 0, 0, 0, 0), (33, 0, 0, 0, 0), (4, 4, 0, 0, 0), (4, 3, 1, 0, 0), (38, 0, 0, 0, 0), (37, 0, 0, 0, 0), (35, 0, 0, 0, 0), (0, 0, 1, 0, 0), (2, 12, 1, 129, 1), (4, 2, 1, 0, 0), (48, 0, 0, 0, 0), (33, 0, 0, 0, 0), (4, 3, 1, 0, 0), (37, 0, 0, 0, 0), (35, 0, 0, 0, 0), (50, 0, 0, 0, 0)]
abbrev zc_222 : List (List zI0) := [zb_222_0]
abbrev zb_223_0 : List zI0 := [(0, 0, 1, 0, 0), (0, 0, 1, 0, 0), (4, 1, 1, 0, 0), (6, 214, 1, 12, 188), (3, 0, 0, 0, 1), (6, 212, 2, 12, 187), (15, 4, 0, 0, 0), (0, 0, 1, 0, 0), (4, 2, 1, 0, 0), (0, 0, 1, 0, 0), (1, 12, 33, 165, 33), (3, 0, 0, 0, 1), (37, 0, 0, 0, 0), (3, 2, 0, 0, 999), (5, 213, 3, 0, 186), (14, 1, 0, 0, 0), (4, 2, 1, 0, 0), (0, 0, 1, 0, 0), (2, 12, 7, 135, 7), (4, 1, 1, 0, 0), (33, 0, 0, 0, 0), (23, 2, 0, 0, 0), (111, 1, 0, 0, 0)]
abbrev zb_223_1 : List zI0 := [(3, 0, 0, 0, 1), (10, 3, 0, 0, 0)]
abbrev zb_223_2 : List zI0 := [(3, 0, 0, 0, 0), (111, 3, 0, 0, 0)]
abbrev zb_223_3 : List zI0 := [(3, 0, 0, 0, 2), (6, 212, 2, 12, 187), (14, 5, 0, 0, 0), (111, 4, 0, 0, 0)]
abbrev zb_223_4 : List zI0 := [(3, 0, 0, 0, 0), (8, 0, 0, 0, 0)]
abbrev zb_223_5 : List zI0 := [(0, 0, 1, 0, 0), (2, 12, 7, 135, 7), (4, 1, 1, 0, 0), (4, 2, 1, 0, 0), (35, 0, 0, 0, 0), (3, 0, 0, 0, 0), (30, 3, 1, 0, 0), (3, 0, 0, 0, 0), (30, 4, 0, 0, 0), (111, 6, 0, 0, 0)]
abbrev zb_223_6 : List zI0 := [(4, 4, 0, 0, 0), (3, 0, 0, 0, 3), (23, 12, 0, 0, 0), (0, 0, 1, 0, 0), (2, 12, 18, 146, 18), (4, 4, 0, 0, 0), (33, 0, 0, 0, 0), (4, 1, 1, 0, 0), (21, 11, 0, 0, 0), (4, 3, 1, 0, 0), (0, 0, 1, 0, 0), (2, 12, 19, 147, 19), (4, 4, 0, 0, 0), (33, 0, 0, 0, 0), (37, 0, 0, 0, 0), (30, 3, 1, 0, 0), (3, 0, 0, 0, 0), (30, 5, 0, 0, 0), (111, 7, 0, 0, 0)]
abbrev zb_223_7 : List zI0 := [(4, 5, 0, 0, 0), (0, 0, 1, 0, 0), (2, 12, 20, 148, 20), (4, 4, 0, 0, 0), (33, 0, 0, 0, 0), (23, 8, 0, 0, 0), (0, 0, 1, 0, 0), (1, 12, 37, 166, 37), (14, 8, 0, 0, 0), (4, 3, 1, 0, 0), (0, 0, 1, 0, 0), (2, 12, 23, 151, 23), (4, 4, 0, 0, 0), (34, 0, 0, 0, 0), (4, 5, 0, 0, 0), (33, 0, 0, 0, 0), (37, 0, 0, 0, 0), (30, 3, 1, 0, 0), (0, 0, 1, 0, 0), (2, 12, 23, 151, 23), (4, 4, 0, 0, 0), (34, 0, 0, 0, 0), (4, 5, 0, 0, 0), (3, 0, 0, 0, 0), (35, 0, 0, 0, 0), (0, 0, 1, 0, 0), (2, 12, 24, 152, 24), (4, 4, 0, 0, 0), (34, 0, 0, 0, 0), (4, 5, 0, 0, 0), (3, 0, 0, 0, 0), (35, 0, 0, 0, 0), (32, 5, 0, 0, 1), (10, 7, 0, 0, 0)]
abbrev zb_223_8 : List zI0 := [(0, 0, 1, 0, 0), (2, 12, 20, 148, 20), (4, 4, 0, 0, 0), (0, 0, 1, 0, 0), (1, 12, 37, 166, 37), (14, 9, 0, 0, 0), (3, 0, 0, 0, 0), (10, 10, 0, 0, 0)]
abbrev zb_223_9 : List zI0 := [(0, 0, 1, 0, 0), (2, 12, 20, 148, 20), (4, 4, 0, 0, 0), (33, 0, 0, 0, 0), (111, 10, 0, 0, 0)]
abbrev zb_223_10 : List zI0 := [(35, 0, 0, 0, 0), (0, 0, 1, 0, 0), (2, 12, 19, 147, 19), (4, 4, 0, 0, 0), (3, 0, 0, 0, 0), (35, 0, 0, 0, 0), (0, 0, 1, 0, 0), (2, 12, 18, 146, 18), (4, 4, 0, 0, 0), (3, 0, 0, 0, (-1)), (35, 0, 0, 0, 0), (111, 11, 0, 0, 0)]
abbrev zb_223_11 : List zI0 := [(32, 4, 0, 0, 1), (10, 6, 0, 0, 0)]
abbrev zb_223_12 : List zI0 := [(3, 0, 0, 0, 0), (30, 4, 0, 0, 0), (3, 0, 0, 0, 0), (30, 5, 0, 0, 0), (111, 13, 0, 0, 0)]
abbrev zb_223_13 : List zI0 := [(4, 5, 0, 0, 0), (0, 0, 1, 0, 0), (1, 12, 39, 167, 39), (23, 16, 0, 0, 0), (0, 0, 1, 0, 0), (2, 12, 26, 154, 26), (4, 5, 0, 0, 0), (34, 0, 0, 0, 0), (3, 0, 0, 0, 0), (33, 0, 0, 0, 0), (4, 1, 1, 0, 0), (21, 14, 0, 0, 0), (4, 3, 1, 0, 0), (0, 0, 1, 0, 0), (2, 12, 26, 154, 26), (4, 5, 0, 0, 0), (34, 0, 0, 0, 0), (3, 0, 0, 0, 3), (33, 0, 0, 0, 0), (37, 0, 0, 0, 0), (30, 3, 1, 0, 0), (10, 15, 0, 0, 0)]
abbrev zb_223_14 : List zI0 := [(0, 0, 1, 0, 0), (2, 12, 26, 154, 26), (4, 5, 0, 0, 0), (34, 0, 0, 0, 0), (3, 0, 0, 0, 0), (0, 0, 1, 0, 0), (2, 12, 26, 154, 26), (4, 4, 0, 0, 0), (34, 0, 0, 0, 0), (3, 0, 0, 0, 0), (3, 0, 0, 0, 4), (106, 0, 0, 0, 163), (32, 4, 0, 0, 1), (111, 15, 0, 0, 0)]
abbrev zb_223_15 : List zI0 := [(32, 5, 0, 0, 1), (10, 13, 0, 0, 0)]
abbrev zb_223_16 : List zI0 := [(0, 0, 1, 0, 0), (4, 4, 0, 0, 0), (11, 12, 39, 167, 39), (0, 0, 1, 0, 0), (1, 12, 42, 161, 42), (4, 1, 1, 0, 0), (21, 17, 0, 0, 0), (4, 3, 1, 0, 0), (0, 0, 1, 0, 0), (1, 12, 43, 168, 43), (37, 0, 0, 0, 0), (30, 3, 1, 0, 0), (0, 0, 1, 0, 0), (3, 0, 0, 0, (-1)), (11, 12, 42, 161, 42), (0, 0, 1, 0, 0), (3, 0, 0, 0, 0), (12, 12, 44, 169, 44), (111, 17, 0, 0, 0)]
abbrev zb_223_17 : List zI0 := [(3, 0, 0, 0, 0), (30, 5, 0, 0, 0), (111, 18, 0, 0, 0)]
abbrev zb_223_18 : List zI0 := [(4, 5, 0, 0, 0), (0, 0, 1, 0, 0), (1, 12, 46, 170, 46), (23, 21, 0, 0, 0), (0, 0, 1, 0, 0), (2, 12, 29, 157, 29), (4, 5, 0, 0, 0), (34, 0, 0, 0, 0), (3, 0, 0, 0, 0), (0, 0, 1, 0, 0), (2, 12, 29, 157, 29), (4, 5, 0, 0, 0), (34, 0, 0, 0, 0), (3, 0, 0, 0, 0), (33, 0, 0, 0, 0), (4, 1, 1, 0, 0), (21, 19, 0, 0, 0), (3, 0, 0, 0, (-1)), (10, 20, 0, 0, 0)]
abbrev zb_223_19 : List zI0 := [(0, 0, 1, 0, 0), (2, 12, 29, 157, 29), (4, 5, 0, 0, 0), (34, 0, 0, 0, 0), (3, 0, 0, 0, 0), (33, 0, 0, 0, 0), (111, 20, 0, 0, 0)]
abbrev zb_223_20 : List zI0 := [(35, 0, 0, 0, 0), (32, 5, 0, 0, 1), (10, 18, 0, 0, 0)]
abbrev zb_223_21 : List zI0 := [(3, 0, 0, 0, 0), (30, 5, 0, 0, 0), (111, 22, 0, 0, 0)]
abbrev zb_223_22 : List zI0 := [(4, 5, 0, 0, 0), (3, 0, 0, 0, 4), (23, 23, 0, 0, 0), (0, 0, 1, 0, 0), (47, 0, 0, 0, 0), (1, 12, 48, 171, 48), (0, 0, 1, 0, 0), (2, 12, 30, 158, 30), (4, 1, 1, 0, 0), (34, 0, 0, 0, 0), (4, 5, 0, 0, 0), (33, 0, 0, 0, 0), (37, 0, 0, 0, 0), (11, 12, 48, 171, 48), (0, 0, 1, 0, 0), (2, 12, 30, 158, 30), (4, 1, 1, 0, 0), (34, 0, 0, 0, 0), (4, 5, 0, 0, 0), (3, 0, 0, 0, 0), (35, 0, 0, 0, 0), (32, 5, 0, 0, 1), (10, 22, 0, 0, 0)]
abbrev zb_223_23 : List zI0 := [(0, 0, 1, 0, 0), (2, 12, 1, 129, 1), (4, 1, 1, 0, 0), (48, 0, 0, 0, 0), (33, 0, 0, 0, 0), (4, 3, 1, 0, 0), (37, 0, 0, 0, 0), (35, 0, 0, 0, 0), (0, 0, 1, 0, 0), (1, 12, 37, 166, 37), (14, 24, 0, 0, 0), (0, 0, 1, 0, 0), (6, 246, 0, 12, 192), (17, 24, 0, 0, 0), (0, 0, 1, 0, 0), (6, 249, 0, 12, 193), (111, 24, 0, 0, 0)]
abbrev zb_223_24 : List zI0 := [(4, 3, 1, 0, 0), (8, 0, 0, 0, 0)]
abbrev zc_223 : List (List zI0) := [zb_223_0, zb_223_1, zb_223_2, zb_223_3, zb_223_4, zb_223_5, zb_223_6, zb_223_7, zb_223_8, zb_223_9, zb_223_10, zb_223_11, zb_223_12, zb_223_13, zb_223_14, zb_223_15, zb_223_16, zb_223_17, zb_223_18, zb_223_19, zb_223_20, zb_223_21, zb_223_22, zb_223_23, zb_223_24]
abbrev zb_224_0 : List zI0 := [(0, 0, 1, 0, 0), (4, 1, 1, 0, 0), (3, 0, 0, 0, 1), (3, 1, 0, 0, 30), (5, 213, 3, 0, 186), (15, 1, 0, 0, 0), (3, 0, 0, 0, 1), (10, 2, 0, 0, 0)]
abbrev zb_224_1 : List zI0 := [(3, 0, 0, 0, 0), (111, 2, 0, 0, 0)]
abbrev zb_224_2 : List zI0 := [(3, 0, 0, 0, 1), (6, 212, 2, 12, 187), (15, 6, 0, 0, 0), (0, 0, 1, 0, 0), (0, 0, 1, 0, 0), (1, 12, 37, 166, 37), (15, 3, 0, 0, 0), (0, 0, 1, 0, 0), (1, 12, 42, 161, 42), (16, 4, 0, 0, 0), (0, 0, 1, 0, 0), (1, 12, 44, 169, 44), (15, 4, 0, 0, 0), (111, 3, 0, 0, 0)]
abbrev zb_224_3 : List zI0 := [(3, 0, 0, 0, 1), (10, 5, 0, 0, 0)]
abbrev zb_224_4 : List zI0 := [(3, 0, 0, 0, 0), (111, 5, 0, 0, 0)]
abbrev zb_224_5 : List zI0 := [(3, 0, 0, 0, 2), (6, 212, 2, 12, 187), (14, 7, 0, 0, 0), (111, 6, 0, 0, 0)]
abbrev zb_224_6 : List zI0 := [(3, 0, 0, 0, 0), (8, 0, 0, 0, 0)]
abbrev zb_224_7 : List zI0 := [(3, 0, 0, 0, 0), (30, 2, 1, 0, 0), (111, 8, 0, 0, 0)]
abbrev zb_224_8 : List zI0 := [(4, 2, 1, 0, 0), (4, 1, 1, 0, 0), (23, 13, 0, 0, 0), (0, 0, 1, 0, 0), (47, 0, 0, 0, 0), (1, 12, 33, 165, 33), (3, 0, 0, 0, 1), (37, 0, 0, 0, 0), (11, 12, 33, 165, 33), (3, 0, 0, 0, 0), (30, 3, 1, 0, 0), (111, 9, 0, 0, 0)]
abbrev zb_224_9 : List zI0 := [(4, 3, 1, 0, 0), (0, 0, 1, 0, 0), (1, 12, 31, 164, 31), (23, 12, 0, 0, 0), (0, 0, 1, 0, 0), (2, 12, 2, 130, 2), (4, 3, 1, 0, 0), (3, 0, 0, 0, 0), (35, 0, 0, 0, 0), (0, 0, 1, 0, 0), (2, 12, 3, 131, 3), (4, 3, 1, 0, 0), (3, 0, 0, 0, 0), (35, 0, 0, 0, 0), (0, 0, 1, 0, 0), (2, 12, 5, 133, 5), (4, 3, 1, 0, 0), (0, 0, 1, 0, 0), (2, 12, 6, 134, 6), (4, 3, 1, 0, 0), (33, 0, 0, 0, 0), (17, 10, 0, 0, 0), (0, 0, 1, 0, 0), (2, 12, 5, 133, 5), (4, 3, 1, 0, 0), (33, 0, 0, 0, 0), (10, 11, 0, 0, 0)]
abbrev zb_224_10 : List zI0 := [(0, 0, 1, 0, 0), (2, 12, 6, 134, 6), (4, 3, 1, 0, 0), (33, 0, 0, 0, 0), (111, 11, 0, 0, 0)]
abbrev zb_224_11 : List zI0 := [(35, 0, 0, 0, 0), (0, 0, 1, 0, 0), (2, 12, 6, 134, 6), (4, 3, 1, 0, 0), (3, 0, 0, 0, (-1)), (35, 0, 0, 0, 0), (0, 0, 1, 0, 0), (47, 0, 0, 0, 0), (1, 12, 48, 171, 48), (0, 0, 1, 0, 0), (2, 12, 30, 158, 30), (4, 3, 1, 0, 0), (34, 0, 0, 0, 0), (0, 0, 1, 0, 0), (1, 12, 33, 165, 33), (3, 0, 0, 0, 4), (41, 0, 0, 0, 0), (33, 0, 0, 0, 0), (37, 0, 0, 0, 0), (11, 12, 48, 171, 48), (0, 0, 1, 0, 0), (2, 12, 30, 158, 30), (4, 3, 1, 0, 0), (34, 0, 0, 0, 0), (0, 0, 1, 0, 0), (1, 12, 33, 165, 33), (3, 0, 0, 0, 4), (41, 0, 0, 0, 0), (3, 0, 0, 0, 0), (35, 0, 0, 0, 0), (32, 3, 0, 0, 1), (10, 9, 0, 0, 0)]
abbrev zb_224_12 : List zI0 := [(32, 2, 0, 0, 1), (10, 8, 0, 0, 0)]
abbrev zb_224_13 : List zI0 := [(0, 0, 1, 0, 0), (1, 12, 33, 165, 33), (8, 0, 0, 0, 0)]
abbrev zc_224 : List (List zI0) := [zb_224_0, zb_224_1, zb_224_2, zb_224_3, zb_224_4, zb_224_5, zb_224_6, zb_224_7, zb_224_8, zb_224_9, zb_224_10, zb_224_11, zb_224_12, zb_224_13]
abbrev zb_225_0 : List zI0 := [(4, 0, 1, 0, 0), (3, 0, 0, 0, 0), (3, 0, 0, 0, 2), (5, 213, 3, 0, 186), (15, 1, 0, 0, 0), (3, 0, 0, 0, 1), (10, 2, 0, 0, 0)]
abbrev zb_225_1 : List zI0 := [(3, 0, 0, 0, 0), (111, 2, 0, 0, 0)]
abbrev zb_225_2 : List zI0 := [(9, 0, 0, 0, 0)]
abbrev zc_225 : List (List zI0) := [zb_225_0, zb_225_1, zb_225_2]
abbrev zb_226_0 : List zI0 := [(0, 0, 1, 0, 0), (4, 1, 1, 0, 0), (5, 225, 1, 0, 194), (3, 0, 0, 0, 1), (6, 212, 2, 12, 187), (15, 5, 0, 0, 0), (0, 0, 1, 0, 0), (4, 2, 1, 0, 0), (3, 0, 0, 0, 1), (3, 2, 0, 0, 9999), (5, 213, 3, 0, 186), (15, 1, 0, 0, 0), (3, 0, 0, 0, 1), (10, 2, 0, 0, 0)]
abbrev zb_226_1 : List zI0 := [(3, 0, 0, 0, 0), (111, 2, 0, 0, 0)]
abbrev zb_226_2 : List zI0 := [(3, 0, 0, 0, 2), (6, 212, 2, 12, 187), (15, 5, 0, 0, 0), (0, 0, 1, 0, 0), (4, 2, 1, 0, 0), (0, 0, 1, 0, 0), (1, 12, 32, 159, 32), (25, 3, 0, 0, 0), (3, 0, 0, 0, 1), (10, 4, 0, 0, 0)]
abbrev zb_226_3 : List zI0 := [(3, 0, 0, 0, 0), (111, 4, 0, 0, 0)]
abbrev zb_226_4 : List zI0 := [(3, 0, 0, 0, 3), (6, 212, 2, 12, 187), (14, 6, 0, 0, 0), (111, 5, 0, 0, 0)]
abbrev zb_226_5 : List zI0 := [(3, 0, 0, 0, 0), (8, 0, 0, 0, 0)]
abbrev zb_226_6 : List zI0 := [(0, 0, 1, 0, 0), (47, 0, 0, 0, 0), (1, 12, 32, 159, 32), (4, 2, 1, 0, 0), (38, 0, 0, 0, 0), (11, 12, 32, 159, 32), (0, 0, 1, 0, 0), (2, 12, 10, 138, 10), (4, 1, 1, 0, 0), (48, 0, 0, 0, 0), (33, 0, 0, 0, 0), (4, 2, 1, 0, 0), (37, 0, 0, 0, 0), (35, 0, 0, 0, 0), (0, 0, 1, 0, 0), (2, 12, 12, 140, 12), (4, 1, 1, 0, 0), (48, 0, 0, 0, 0), (33, 0, 0, 0, 0), (4, 2, 1, 0, 0), (37, 0, 0, 0, 0), (35, 0, 0, 0, 0), (0, 0, 1, 0, 0), (2, 12, 10, 138, 10), (4, 1, 1, 0, 0), (33, 0, 0, 0, 0), (8, 0, 0, 0, 0)]
abbrev zc_226 : List (List zI0) := [zb_226_0, zb_226_1, zb_226_2, zb_226_3, zb_226_4, zb_226_5, zb_226_6]
abbrev zb_227_0 : List zI0 := [(0, 0, 1, 0, 0), (4, 1, 1, 0, 0), (5, 225, 1, 0, 194), (3, 0, 0, 0, 1), (6, 212, 2, 12, 187), (15, 5, 0, 0, 0), (0, 0, 1, 0, 0), (4, 2, 1, 0, 0), (3, 0, 0, 0, 1), (3, 2, 0, 0, 9999), (5, 213, 3, 0, 186), (15, 1, 0, 0, 0), (3, 0, 0, 0, 1), (10, 2, 0, 0, 0)]
abbrev zb_227_1 : List zI0 := [(3, 0, 0, 0, 0), (111, 2, 0, 0, 0)]
abbrev zb_227_2 : List zI0 := [(3, 0, 0, 0, 2), (6, 212, 2, 12, 187), (15, 5, 0, 0, 0), (0, 0, 1, 0, 0), (4, 2, 1, 0, 0), (0, 0, 1, 0, 0), (2, 12, 10, 138, 10), (4, 1, 1, 0, 0), (33, 0, 0, 0, 0), (25, 3, 0, 0, 0), (3, 0, 0, 0, 1), (10, 4, 0, 0, 0)]
abbrev zb_227_3 : List zI0 := [(3, 0, 0, 0, 0), (111, 4, 0, 0, 0)]
abbrev zb_227_4 : List zI0 := [(3, 0, 0, 0, 3), (6, 212, 2, 12, 187), (14, 6, 0, 0, 0), (111, 5, 0, 0, 0)]
abbrev zb_227_5 : List zI0 := [(3, 0, 0, 0, 0), (8, 0, 0, 0, 0)]
abbrev zb_227_6 : List zI0 := [(0, 0, 1, 0, 0), (47, 0, 0, 0, 0), (1, 12, 32, 159, 32), (4, 2, 1, 0, 0), (37, 0, 0, 0, 0), (11, 12, 32, 159, 32), (0, 0, 1, 0, 0), (2, 12, 10, 138, 10), (4, 1, 1, 0, 0), (48, 0, 0, 0, 0), (33, 0, 0, 0, 0), (4, 2, 1, 0, 0), (38, 0, 0, 0, 0), (35, 0, 0, 0, 0), (0, 0, 1, 0, 0), (2, 12, 12, 140, 12), (4, 1, 1, 0, 0), (48, 0, 0, 0, 0), (33, 0, 0, 0, 0), (4, 2, 1, 0, 0), (38, 0, 0, 0, 0), (35, 0, 0, 0, 0), (0, 0, 1, 0, 0), (2, 12, 10, 138, 10), (4, 1, 1, 0, 0), (33, 0, 0, 0, 0), (8, 0, 0, 0, 0)]
abbrev zc_227 : List (List zI0) := [zb_227_0, zb_227_1, zb_227_2, zb_227_3, zb_227_4, zb_227_5, zb_227_6]
abbrev zb_228_0 : List zI0 := [(0, 0, 1, 0, 0), (2, 12, 10, 138, 10), (4, 1, 1, 0, 0), (33, 0, 0, 0, 0), (0, 0, 1, 0, 0), (2, 12, 11, 139, 11), (4, 1, 1, 0, 0), (33, 0, 0, 0, 0), (38, 0, 0, 0, 0), (0, 0, 1, 0, 0), (2, 12, 12, 140, 12), (4, 1, 1, 0, 0), (33, 0, 0, 0, 0), (38, 0, 0, 0, 0), (8, 0, 0, 0, 0)]
abbrev zc_228 : List (List zI0) := [zb_228_0]
abbrev zb_229_0 : List zI0 := [(0, 0, 1, 0, 0), (3, 0, 0, 0, 0), (11, 12, 49, 163, 49), (3, 0, 0, 0, 0), (30, 1, 1, 0, 0), (3, 0, 0, 0, 0), (30, 2, 1, 0, 0), (111, 1, 0, 0, 0)]
abbrev zb_229_1 : List zI0 := [(4, 2, 1, 0, 0), (3, 0, 0, 0, 3), (23, 2, 0, 0, 0), (4, 1, 1, 0, 0), (0, 0, 1, 0, 0), (4, 2, 1, 0, 0), (6, 228, 1, 12, 195), (37, 0, 0, 0, 0), (30, 1, 1, 0, 0), (0, 0, 1, 0, 0), (2, 12, 11, 139, 11), (4, 2, 1, 0, 0), (0, 0, 1, 0, 0), (2, 12, 10, 138, 10), (4, 2, 1, 0, 0), (33, 0, 0, 0, 0), (35, 0, 0, 0, 0), (0, 0, 1, 0, 0), (2, 12, 12, 140, 12), (4, 2, 1, 0, 0), (3, 0, 0, 0, 0), (35, 0, 0, 0, 0), (32, 2, 0, 0, 1), (10, 1, 0, 0, 0)]
abbrev zb_229_2 : List zI0 := [(4, 1, 1, 0, 0), (8, 0, 0, 0, 0)]
abbrev zc_229 : List (List zI0) := [zb_229_0, zb_229_1, zb_229_2]
abbrev zb_230_0 : List zI0 := [(0, 0, 1, 0, 0), (4, 1, 1, 0, 0), (5, 225, 1, 0, 194), (3, 0, 0, 0, 1), (6, 212, 2, 12, 187), (14, 1, 0, 0, 0), (3, 0, 0, 0, 0), (10, 2, 0, 0, 0)]
abbrev zb_230_1 : List zI0 := [(0, 0, 1, 0, 0), (4, 1, 1, 0, 0), (6, 228, 1, 12, 195), (111, 2, 0, 0, 0)]
abbrev zb_230_2 : List zI0 := [(8, 0, 0, 0, 0)]
abbrev zc_230 : List (List zI0) := [zb_230_0, zb_230_1, zb_230_2]
abbrev zb_231_0 : List zI0 := [(4, 0, 1, 0, 0), (3, 1, 0, 0, 100), (21, 1, 0, 0, 0), (3, 0, 0, 0, 0), (10, 5, 0, 0, 0)]
abbrev zb_231_1 : List zI0 := [(4, 0, 1, 0, 0), (3, 1, 0, 0, 117), (21, 2, 0, 0, 0), (3, 0, 0, 0, 1), (10, 5, 0, 0, 0)]
abbrev zb_231_2 : List zI0 := [(4, 0, 1, 0, 0), (3, 1, 0, 0, 115), (21, 3, 0, 0, 0), (3, 0, 0, 0, 2), (10, 5, 0, 0, 0)]
abbrev zb_231_3 : List zI0 := [(4, 0, 1, 0, 0), (3, 1, 0, 0, 110), (21, 4, 0, 0, 0), (3, 0, 0, 0, 3), (10, 5, 0, 0, 0)]
abbrev zb_231_4 : List zI0 := [(3, 0, 0, 0, (-1)), (111, 5, 0, 0, 0)]
abbrev zb_231_5 : List zI0 := [(8, 0, 0, 0, 0)]
abbrev zc_231 : List (List zI0) := [zb_231_0, zb_231_1, zb_231_2, zb_231_3, zb_231_4, zb_231_5]
abbrev zb_232_0 : List zI0 := [(0, 0, 1, 0, 0), (4, 1, 1, 0, 0), (5, 231, 1, 0, 196), (17, 1, 0, 0, 0), (3, 0, 0, 0, 1), (10, 2, 0, 0, 0)]
abbrev zb_232_1 : List zI0 := [(3, 0, 0, 0, 0), (111, 2, 0, 0, 0)]
abbrev zb_232_2 : List zI0 := [(3, 0, 0, 0, 1), (6, 212, 2, 12, 187), (15, 3, 0, 0, 0), (0, 0, 1, 0, 0), (0, 0, 1, 0, 0), (1, 12, 37, 166, 37), (3, 0, 0, 0, 2), (6, 212, 2, 12, 187), (14, 4, 0, 0, 0), (111, 3, 0, 0, 0)]
abbrev zb_232_3 : List zI0 := [(3, 0, 0, 0, 0), (9, 0, 0, 0, 0)]
abbrev zb_232_4 : List zI0 := [(0, 0, 1, 0, 0), (2, 12, 13, 141, 13), (4, 1, 1, 0, 0), (5, 231, 1, 0, 196), (101, 0, 0, 0, 0), (30, 3, 1, 0, 0), (0, 0, 1, 0, 0), (2, 12, 13, 141, 13), (4, 1, 1, 0, 0), (5, 231, 1, 0, 196), (4, 2, 1, 0, 0), (102, 0, 0, 0, 0), (4, 3, 1, 0, 0), (9, 0, 0, 0, 0)]
abbrev zc_232 : List (List zI0) := [zb_232_0, zb_232_1, zb_232_2, zb_232_3, zb_232_4]
abbrev zb_233_0 : List zI0 := [(4, 0, 1, 0, 0), (3, 1, 0, 0, 10), (21, 1, 0, 0, 0), (3, 1, 0, 0, 16), (10, 2, 0, 0, 0)]
abbrev zb_233_1 : List zI0 := [(3, 0, 0, 0, 4), (111, 2, 0, 0, 0)]
abbrev zb_233_2 : List zI0 := [(8, 0, 0, 0, 0)]
abbrev zc_233 : List (List zI0) := [zb_233_0, zb_233_1, zb_233_2]
abbrev zb_234_0 : List zI0 := [(0, 0, 1, 0, 0), (4, 1, 1, 0, 0), (3, 0, 0, 0, 1), (3, 0, 0, 0, 2), (5, 213, 3, 0, 186), (15, 1, 0, 0, 0), (3, 0, 0, 0, 1), (10, 2, 0, 0, 0)]
abbrev zb_234_1 : List zI0 := [(3, 0, 0, 0, 0), (111, 2, 0, 0, 0)]
abbrev zb_234_2 : List zI0 := [(3, 0, 0, 0, 1), (6, 212, 2, 12, 187), (15, 3, 0, 0, 0), (0, 0, 1, 0, 0), (0, 0, 1, 0, 0), (1, 12, 37, 166, 37), (3, 0, 0, 0, 2), (6, 212, 2, 12, 187), (14, 4, 0, 0, 0), (111, 3, 0, 0, 0)]
abbrev zb_234_3 : List zI0 := [(3, 0, 0, 0, 0), (8, 0, 0, 0, 0)]
abbrev zb_234_4 : List zI0 := [(0, 0, 1, 0, 0), (4, 1, 1, 0, 0), (11, 12, 34, 172, 34), (0, 0, 1, 0, 0), (3, 0, 0, 0, 0), (11, 12, 35, 173, 35), (3, 0, 0, 0, 1), (30, 2, 1, 0, 0), (111, 5, 0, 0, 0)]
abbrev zb_234_5 : List zI0 := [(4, 2, 1, 0, 0), (3, 1, 0, 0, 11), (23, 8, 0, 0, 0), (3, 0, 0, 0, 0), (30, 3, 1, 0, 0), (111, 6, 0, 0, 0)]
abbrev zb_234_6 : List zI0 := [(4, 3, 1, 0, 0), (4, 1, 1, 0, 0), (4, 2, 1, 0, 0), (5, 233, 1, 0, 197), (39, 0, 0, 0, 0), (23, 7, 0, 0, 0), (0, 0, 1, 0, 0), (2, 12, 14, 142, 14), (0, 0, 1, 0, 0), (1, 12, 35, 173, 35), (4, 2, 1, 0, 0), (35, 0, 0, 0, 0), (0, 0, 1, 0, 0), (47, 0, 0, 0, 0), (1, 12, 35, 173, 35), (3, 0, 0, 0, 1), (37, 0, 0, 0, 0), (11, 12, 35, 173, 35), (32, 3, 0, 0, 1), (10, 6, 0, 0, 0)]
abbrev zb_234_7 : List zI0 := [(32, 2, 0, 0, 1), (10, 5, 0, 0, 0)]
abbrev zb_234_8 : List zI0 := [(3, 0, 0, 0, 0), (30, 2, 1, 0, 0), (111, 9, 0, 0, 0)]
abbrev zb_234_9 : List zI0 := [(4, 2, 1, 0, 0), (3, 0, 0, 0, 3), (23, 10, 0, 0, 0), (0, 0, 1, 0, 0), (2, 12, 20, 148, 20), (4, 2, 1, 0, 0), (3, 0, 0, 0, 0), (35, 0, 0, 0, 0), (32, 2, 0, 0, 1), (10, 9, 0, 0, 0)]
abbrev zb_234_10 : List zI0 := [(0, 0, 1, 0, 0), (3, 0, 0, 0, 0), (11, 12, 36, 174, 36), (0, 0, 1, 0, 0), (1, 12, 35, 173, 35), (8, 0, 0, 0, 0)]
abbrev zc_234 : List (List zI0) := [zb_234_0, zb_234_1, zb_234_2, zb_234_3, zb_234_4, zb_234_5, zb_234_6, zb_234_7, zb_234_8, zb_234_9, zb_234_10]
abbrev zb_235_0 : List zI0 := [(0, 0, 1, 0, 0), (4, 1, 1, 0, 0), (3, 0, 0, 0, 1), (0, 0, 1, 0, 0), (1, 12, 35, 173, 35), (3, 0, 0, 0, 1), (38, 0, 0, 0, 0), (5, 213, 3, 0, 186), (15, 1, 0, 0, 0), (3, 0, 0, 0, 1), (10, 2, 0, 0, 0)]
abbrev zb_235_1 : List zI0 := [(3, 0, 0, 0, 0), (111, 2, 0, 0, 0)]
abbrev zb_235_2 : List zI0 := [(3, 0, 0, 0, 1), (6, 212, 2, 12, 187), (15, 3, 0, 0, 0), (0, 0, 1, 0, 0), (0, 0, 1, 0, 0), (1, 12, 37, 166, 37), (3, 0, 0, 0, 2), (6, 212, 2, 12, 187), (14, 4, 0, 0, 0), (111, 3, 0, 0, 0)]
abbrev zb_235_3 : List zI0 := [(3, 0, 0, 0, 0), (8, 0, 0, 0, 0)]
abbrev zb_235_4 : List zI0 := [(0, 0, 1, 0, 0), (2, 12, 14, 142, 14), (3, 0, 0, 0, 0), (0, 0, 1, 0, 0), (2, 12, 15, 143, 15), (3, 0, 0, 0, 0), (0, 0, 1, 0, 0), (1, 12, 35, 173, 35), (106, 0, 0, 0, 163), (3, 0, 0, 0, 0), (30, 2, 1, 0, 0), (111, 5, 0, 0, 0)]
abbrev zb_235_5 : List zI0 := [(4, 2, 1, 0, 0), (0, 0, 1, 0, 0), (1, 12, 35, 173, 35), (23, 6, 0, 0, 0), (0, 0, 1, 0, 0), (2, 12, 14, 142, 14), (4, 2, 1, 0, 0), (0, 0, 1, 0, 0), (2, 12, 15, 143, 15), (4, 2, 1, 0, 0), (4, 1, 1, 0, 0), (37, 0, 0, 0, 0), (0, 0, 1, 0, 0), (1, 12, 35, 173, 35), (41, 0, 0, 0, 0), (33, 0, 0, 0, 0), (35, 0, 0, 0, 0), (32, 2, 0, 0, 1), (10, 5, 0, 0, 0)]
abbrev zb_235_6 : List zI0 := [(0, 0, 1, 0, 0), (2, 12, 14, 142, 14), (3, 0, 0, 0, 0), (33, 0, 0, 0, 0), (8, 0, 0, 0, 0)]
abbrev zc_235 : List (List zI0) := [zb_235_0, zb_235_1, zb_235_2, zb_235_3, zb_235_4, zb_235_5, zb_235_6]
abbrev zb_236_0 : List zI0 := [(0, 0, 1, 0, 0), (0, 0, 1, 0, 0), (1, 12, 35, 173, 35), (15, 1, 0, 0, 0), (3, 0, 0, 0, 1), (10, 2, 0, 0, 0)]
abbrev zb_236_1 : List zI0 := [(3, 0, 0, 0, 0), (111, 2, 0, 0, 0)]
abbrev zb_236_2 : List zI0 := [(3, 0, 0, 0, 1), (6, 212, 2, 12, 187), (15, 3, 0, 0, 0), (0, 0, 1, 0, 0), (0, 0, 1, 0, 0), (1, 12, 37, 166, 37), (3, 0, 0, 0, 2), (6, 212, 2, 12, 187), (14, 4, 0, 0, 0), (111, 3, 0, 0, 0)]
abbrev zb_236_3 : List zI0 := [(3, 0, 0, 0, 0), (8, 0, 0, 0, 0)]
abbrev zb_236_4 : List zI0 := [(0, 0, 1, 0, 0), (2, 12, 14, 142, 14), (3, 0, 0, 0, 0), (0, 0, 1, 0, 0), (2, 12, 15, 143, 15), (3, 0, 0, 0, 0), (0, 0, 1, 0, 0), (1, 12, 35, 173, 35), (106, 0, 0, 0, 163), (4, 1, 1, 0, 0), (14, 5, 0, 0, 0), (0, 0, 1, 0, 0), (1, 12, 35, 173, 35), (3, 0, 0, 0, 1), (37, 0, 0, 0, 0), (3, 0, 0, 0, 2), (40, 0, 0, 0, 0), (10, 6, 0, 0, 0)]
abbrev zb_236_5 : List zI0 := [(0, 0, 1, 0, 0), (1, 12, 35, 173, 35), (3, 0, 0, 0, 2), (40, 0, 0, 0, 0), (111, 6, 0, 0, 0)]
abbrev zb_236_6 : List zI0 := [(30, 2, 1, 0, 0), (3, 0, 0, 0, 0), (30, 3, 1, 0, 0), (111, 7, 0, 0, 0)]
abbrev zb_236_7 : List zI0 := [(4, 3, 1, 0, 0), (0, 0, 1, 0, 0), (1, 12, 35, 173, 35), (23, 12, 0, 0, 0), (4, 3, 1, 0, 0), (3, 0, 0, 0, 2), (41, 0, 0, 0, 0), (15, 8, 0, 0, 0), (3, 0, 0, 0, 1), (10, 9, 0, 0, 0)]
abbrev zb_236_8 : List zI0 := [(3, 0, 0, 0, 0), (111, 9, 0, 0, 0)]
abbrev zb_236_9 : List zI0 := [(4, 1, 1, 0, 0), (21, 10, 0, 0, 0), (3, 0, 0, 0, 0), (10, 11, 0, 0, 0)]
abbrev zb_236_10 : List zI0 := [(4, 2, 1, 0, 0), (111, 11, 0, 0, 0)]
abbrev zb_236_11 : List zI0 := [(30, 4, 0, 0, 0), (0, 0, 1, 0, 0), (2, 12, 14, 142, 14), (4, 3, 1, 0, 0), (0, 0, 1, 0, 0), (2, 12, 15, 143, 15), (4, 4, 0, 0, 0), (4, 3, 1, 0, 0), (3, 0, 0, 0, 2), (40, 0, 0, 0, 0), (37, 0, 0, 0, 0), (33, 0, 0, 0, 0), (35, 0, 0, 0, 0), (32, 3, 0, 0, 1), (10, 7, 0, 0, 0)]
abbrev zb_236_12 : List zI0 := [(0, 0, 1, 0, 0), (2, 12, 14, 142, 14), (3, 0, 0, 0, 0), (33, 0, 0, 0, 0), (8, 0, 0, 0, 0)]
abbrev zc_236 : List (List zI0) := [zb_236_0, zb_236_1, zb_236_2, zb_236_3, zb_236_4, zb_236_5, zb_236_6, zb_236_7, zb_236_8, zb_236_9, zb_236_10, zb_236_11, zb_236_12]
abbrev zb_237_0 : List zI0 := [(0, 0, 1, 0, 0), (2, 12, 14, 142, 14), (3, 0, 0, 0, 0), (33, 0, 0, 0, 0), (30, 1, 1, 0, 0), (0, 0, 1, 0, 0), (47, 0, 0, 0, 0), (1, 12, 35, 173, 35), (3, 0, 0, 0, 1), (38, 0, 0, 0, 0), (11, 12, 35, 173, 35), (0, 0, 1, 0, 0), (2, 12, 14, 142, 14), (3, 0, 0, 0, 1), (0, 0, 1, 0, 0), (2, 12, 14, 142, 14), (3, 0, 0, 0, 0), (0, 0, 1, 0, 0), (1, 12, 35, 173, 35), (106, 0, 0, 0, 163), (4, 1, 1, 0, 0), (8, 0, 0, 0, 0)]
abbrev zc_237 : List (List zI0) := [zb_237_0]
abbrev zb_238_0 : List zI0 := [(3, 0, 0, 0, 0), (30, 2, 1, 0, 0), (3, 0, 0, 0, 0), (30, 3, 1, 0, 0), (3, 0, 0, 0, 0), (30, 4, 0, 0, 0), (111, 1, 0, 0, 0)]
abbrev zb_238_1 : List zI0 := [(4, 4, 0, 0, 0), (4, 0, 1, 0, 0), (23, 4, 0, 0, 0), (4, 2, 1, 0, 0), (0, 1, 1, 0, 0), (4, 4, 0, 0, 0), (33, 0, 0, 0, 0), (37, 0, 0, 0, 0), (30, 2, 1, 0, 0), (4, 3, 1, 0, 0), (0, 1, 1, 0, 0), (4, 4, 0, 0, 0), (33, 0, 0, 0, 0), (3, 0, 0, 0, 1), (21, 2, 0, 0, 0), (3, 0, 0, 0, 1), (10, 3, 0, 0, 0)]
abbrev zb_238_2 : List zI0 := [(3, 0, 0, 0, 0), (111, 3, 0, 0, 0)]
abbrev zb_238_3 : List zI0 := [(43, 0, 0, 0, 0), (30, 3, 1, 0, 0), (32, 4, 0, 0, 1), (10, 1, 0, 0, 0)]
abbrev zb_238_4 : List zI0 := [(4, 3, 1, 0, 0), (14, 5, 0, 0, 0), (4, 2, 1, 0, 0), (3, 1, 0, 0, 11), (24, 5, 0, 0, 0), (4, 2, 1, 0, 0), (3, 1, 0, 0, 10), (37, 0, 0, 0, 0), (10, 6, 0, 0, 0)]
abbrev zb_238_5 : List zI0 := [(4, 2, 1, 0, 0), (111, 6, 0, 0, 0)]
abbrev zb_238_6 : List zI0 := [(8, 0, 0, 0, 0)]
abbrev zc_238 : List (List zI0) := [zb_238_0, zb_238_1, zb_238_2, zb_238_3, zb_238_4, zb_238_5, zb_238_6]
abbrev zb_239_0 : List zI0 := [(3, 0, 0, 0, 0), (30, 2, 1, 0, 0), (3, 0, 0, 0, 0), (30, 3, 1, 0, 0), (111, 1, 0, 0, 0)]
abbrev zb_239_1 : List zI0 := [(4, 3, 1, 0, 0), (4, 0, 1, 0, 0), (23, 2, 0, 0, 0), (4, 2, 1, 0, 0), (0, 1, 1, 0, 0), (4, 3, 1, 0, 0), (33, 0, 0, 0, 0), (37, 0, 0, 0, 0), (30, 2, 1, 0, 0), (32, 3, 0, 0, 1), (10, 1, 0, 0, 0)]
abbrev zb_239_2 : List zI0 := [(4, 0, 1, 0, 0), (0, 1, 1, 0, 0), (5, 238, 2, 0, 198), (4, 2, 1, 0, 0), (20, 3, 0, 0, 0), (3, 0, 0, 0, 1), (10, 4, 0, 0, 0)]
abbrev zb_239_3 : List zI0 := [(3, 0, 0, 0, 0), (111, 4, 0, 0, 0)]
abbrev zb_239_4 : List zI0 := [(9, 0, 0, 0, 0)]
abbrev zc_239 : List (List zI0) := [zb_239_0, zb_239_1, zb_239_2, zb_239_3, zb_239_4]
abbrev zb_240_0 : List zI0 := [(0, 0, 1, 0, 0), (2, 12, 22, 150, 22), (4, 1, 1, 0, 0), (34, 0, 0, 0, 0), (4, 2, 1, 0, 0), (33, 0, 0, 0, 0), (0, 0, 1, 0, 0), (2, 12, 21, 149, 21), (4, 1, 1, 0, 0), (34, 0, 0, 0, 0), (4, 2, 1, 0, 0), (34, 0, 0, 0, 0), (5, 238, 2, 0, 198), (8, 0, 0, 0, 0)]
abbrev zc_240 : List (List zI0) := [zb_240_0]
abbrev zb_241_0 : List zI0 := [(0, 0, 1, 0, 0), (2, 12, 20, 148, 20), (4, 1, 1, 0, 0), (33, 0, 0, 0, 0), (3, 0, 0, 0, 1), (21, 1, 0, 0, 0), (0, 0, 1, 0, 0), (2, 12, 22, 150, 22), (4, 1, 1, 0, 0), (34, 0, 0, 0, 0), (3, 0, 0, 0, 0), (33, 0, 0, 0, 0), (3, 0, 0, 0, 2), (21, 1, 0, 0, 0), (0, 0, 1, 0, 0), (4, 1, 1, 0, 0), (3, 0, 0, 0, 0), (6, 240, 2, 12, 199), (3, 1, 0, 0, 21), (21, 1, 0, 0, 0), (3, 0, 0, 0, 1), (10, 2, 0, 0, 0)]
abbrev zb_241_1 : List zI0 := [(3, 0, 0, 0, 0), (111, 2, 0, 0, 0)]
abbrev zb_241_2 : List zI0 := [(9, 0, 0, 0, 0)]
abbrev zc_241 : List (List zI0) := [zb_241_0, zb_241_1, zb_241_2]
abbrev zb_242_0 : List zI0 := [(0, 0, 1, 0, 0), (2, 12, 18, 146, 18), (4, 1, 1, 0, 0), (33, 0, 0, 0, 0), (16, 1, 0, 0, 0), (3, 0, 0, 0, 1), (10, 2, 0, 0, 0)]
abbrev zb_242_1 : List zI0 := [(3, 0, 0, 0, 0), (111, 2, 0, 0, 0)]
abbrev zb_242_2 : List zI0 := [(9, 0, 0, 0, 0)]
abbrev zc_242 : List (List zI0) := [zb_242_0, zb_242_1, zb_242_2]
abbrev zb_243_0 : List zI0 := [(0, 0, 1, 0, 0), (4, 1, 1, 0, 0), (3, 0, 0, 0, 0), (3, 0, 0, 0, 2), (5, 213, 3, 0, 186), (14, 1, 0, 0, 0), (0, 0, 1, 0, 0), (4, 2, 1, 0, 0), (6, 214, 1, 12, 188), (14, 2, 0, 0, 0), (111, 1, 0, 0, 0)]
abbrev zb_243_1 : List zI0 := [(3, 0, 0, 0, 1), (10, 3, 0, 0, 0)]
abbrev zb_243_2 : List zI0 := [(3, 0, 0, 0, 0), (111, 3, 0, 0, 0)]
abbrev zb_243_3 : List zI0 := [(3, 0, 0, 0, 1), (6, 212, 2, 12, 187), (15, 6, 0, 0, 0), (0, 0, 1, 0, 0), (4, 3, 1, 0, 0), (3, 0, 0, 0, 2), (3, 2, 0, 0, 1000), (5, 213, 3, 0, 186), (15, 4, 0, 0, 0), (3, 0, 0, 0, 1), (10, 5, 0, 0, 0)]
abbrev zb_243_4 : List zI0 := [(3, 0, 0, 0, 0), (111, 5, 0, 0, 0)]
abbrev zb_243_5 : List zI0 := [(3, 0, 0, 0, 2), (6, 212, 2, 12, 187), (14, 7, 0, 0, 0), (111, 6, 0, 0, 0)]
abbrev zb_243_6 : List zI0 := [(3, 0, 0, 0, 0), (8, 0, 0, 0, 0)]
abbrev zb_243_7 : List zI0 := [(0, 0, 1, 0, 0), (0, 0, 1, 0, 0), (4, 1, 1, 0, 0), (6, 242, 1, 12, 200), (15, 8, 0, 0, 0), (0, 0, 1, 0, 0), (4, 2, 1, 0, 0), (4, 3, 1, 0, 0), (6, 220, 2, 12, 201), (15, 9, 0, 0, 0), (111, 8, 0, 0, 0)]
abbrev zb_243_8 : List zI0 := [(3, 0, 0, 0, 1), (10, 10, 0, 0, 0)]
abbrev zb_243_9 : List zI0 := [(3, 0, 0, 0, 0), (111, 10, 0, 0, 0)]
abbrev zb_243_10 : List zI0 := [(3, 0, 0, 0, 3), (6, 212, 2, 12, 187), (15, 11, 0, 0, 0), (0, 0, 1, 0, 0), (0, 0, 1, 0, 0), (1, 12, 37, 166, 37), (3, 0, 0, 0, 4), (6, 212, 2, 12, 187), (14, 12, 0, 0, 0), (111, 11, 0, 0, 0)]
abbrev zb_243_11 : List zI0 := [(3, 0, 0, 0, 0), (8, 0, 0, 0, 0)]
abbrev zb_243_12 : List zI0 := [(0, 0, 1, 0, 0), (4, 2, 1, 0, 0), (4, 3, 1, 0, 0), (6, 221, 2, 12, 202), (0, 0, 1, 0, 0), (2, 12, 18, 146, 18), (4, 1, 1, 0, 0), (4, 2, 1, 0, 0), (35, 0, 0, 0, 0), (0, 0, 1, 0, 0), (2, 12, 19, 147, 19), (4, 1, 1, 0, 0), (4, 3, 1, 0, 0), (35, 0, 0, 0, 0), (0, 0, 1, 0, 0), (6, 265, 0, 12, 203), (30, 4, 0, 0, 0), (4, 4, 0, 0, 0), (19, 13, 0, 0, 0), (0, 0, 1, 0, 0), (6, 275, 0, 12, 204), (3, 1, 0, 0, 52), (39, 0, 0, 0, 0), (4, 4, 0, 0, 0), (40, 0, 0, 0, 0), (3, 0, 0, 0, 2), (22, 13, 0, 0, 0), (3, 0, 0, 0, 1), (10, 14, 0, 0, 0)]
abbrev zb_243_13 : List zI0 := [(3, 0, 0, 0, 0), (111, 14, 0, 0, 0)]
abbrev zb_243_14 : List zI0 := [(30, 5, 0, 0, 0), (0, 0, 1, 0, 0), (2, 12, 8, 136, 8), (4, 2, 1, 0, 0), (34, 0, 0, 0, 0), (4, 5, 0, 0, 0), (48, 0, 0, 0, 0), (33, 0, 0, 0, 0), (4, 3, 1, 0, 0), (37, 0, 0, 0, 0), (35, 0, 0, 0, 0), (0, 0, 1, 0, 0), (2, 12, 9, 137, 9), (4, 2, 1, 0, 0), (34, 0, 0, 0, 0), (4, 5, 0, 0, 0), (48, 0, 0, 0, 0), (33, 0, 0, 0, 0), (3, 0, 0, 0, 1), (37, 0, 0, 0, 0), (35, 0, 0, 0, 0), (0, 0, 1, 0, 0), (2, 12, 1, 129, 1), (4, 2, 1, 0, 0), (33, 0, 0, 0, 0), (8, 0, 0, 0, 0)]
abbrev zc_243 : List (List zI0) := [zb_243_0, zb_243_1, zb_243_2, zb_243_3, zb_243_4, zb_243_5, zb_243_6, zb_243_7, zb_243_8, zb_243_9, zb_243_10, zb_243_11, zb_243_12, zb_243_13, zb_243_14]
abbrev zb_244_0 : List zI0 := [(0, 0, 1, 0, 0), (2, 12, 21, 149, 21), (4, 1, 1, 0, 0), (34, 0, 0, 0, 0), (4, 2, 1, 0, 0), (34, 0, 0, 0, 0), (0, 0, 1, 0, 0), (2, 12, 22, 150, 22), (4, 1, 1, 0, 0), (34, 0, 0, 0, 0), (4, 2, 1, 0, 0), (33, 0, 0, 0, 0), (0, 0, 1, 0, 0), (6, 237, 0, 12, 205), (35, 0, 0, 0, 0), (0, 0, 1, 0, 0), (2, 12, 22, 150, 22), (4, 1, 1, 0, 0), (34, 0, 0, 0, 0), (4, 2, 1, 0, 0), (48, 0, 0, 0, 0), (33, 0, 0, 0, 0), (3, 0, 0, 0, 1), (37, 0, 0, 0, 0), (35, 0, 0, 0, 0), (50, 0, 0, 0, 0)]
abbrev zc_244 : List (List zI0) := [zb_244_0]
abbrev zb_245_0 : List zI0 := [(3, 0, 0, 0, 0), (30, 1, 1, 0, 0), (3, 0, 0, 0, 0), (30, 2, 1, 0, 0), (111, 1, 0, 0, 0)]
abbrev zb_245_1 : List zI0 := [(4, 2, 1, 0, 0), (3, 0, 0, 0, 3), (23, 2, 0, 0, 0), (4, 1, 1, 0, 0), (0, 0, 1, 0, 0), (4, 2, 1, 0, 0), (6, 242, 1, 12, 200), (43, 0, 0, 0, 0), (30, 1, 1, 0, 0), (32, 2, 0, 0, 1), (10, 1, 0, 0, 0)]
abbrev zb_245_2 : List zI0 := [(0, 0, 1, 0, 0), (4, 1, 1, 0, 0), (14, 3, 0, 0, 0), (0, 0, 1, 0, 0), (1, 12, 35, 173, 35), (3, 1, 0, 0, 30), (23, 4, 0, 0, 0), (111, 3, 0, 0, 0)]
abbrev zb_245_3 : List zI0 := [(3, 0, 0, 0, 1), (10, 5, 0, 0, 0)]
abbrev zb_245_4 : List zI0 := [(3, 0, 0, 0, 0), (111, 5, 0, 0, 0)]
abbrev zb_245_5 : List zI0 := [(3, 0, 0, 0, 1), (6, 212, 2, 12, 187), (15, 6, 0, 0, 0), (0, 0, 1, 0, 0), (0, 0, 1, 0, 0), (1, 12, 37, 166, 37), (3, 0, 0, 0, 2), (6, 212, 2, 12, 187), (14, 7, 0, 0, 0), (111, 6, 0, 0, 0)]
abbrev zb_245_6 : List zI0 := [(3, 0, 0, 0, 0), (8, 0, 0, 0, 0)]
abbrev zb_245_7 : List zI0 := [(0, 0, 1, 0, 0), (3, 0, 0, 0, 1), (12, 12, 37, 166, 37), (0, 0, 1, 0, 0), (3, 0, 0, 0, 0), (11, 12, 36, 174, 36), (3, 0, 0, 0, 0), (30, 2, 1, 0, 0), (111, 8, 0, 0, 0)]
abbrev zb_245_8 : List zI0 := [(4, 2, 1, 0, 0), (3, 0, 0, 0, 3), (23, 11, 0, 0, 0), (0, 0, 1, 0, 0), (2, 12, 20, 148, 20), (4, 2, 1, 0, 0), (0, 0, 1, 0, 0), (2, 12, 19, 147, 19), (4, 2, 1, 0, 0), (33, 0, 0, 0, 0), (19, 9, 0, 0, 0), (3, 0, 0, 0, 1), (10, 10, 0, 0, 0)]
abbrev zb_245_9 : List zI0 := [(3, 0, 0, 0, 0), (111, 10, 0, 0, 0)]
abbrev zb_245_10 : List zI0 := [(35, 0, 0, 0, 0), (0, 0, 1, 0, 0), (2, 12, 22, 150, 22), (4, 2, 1, 0, 0), (34, 0, 0, 0, 0), (3, 0, 0, 0, 0), (3, 0, 0, 0, 0), (35, 0, 0, 0, 0), (0, 0, 1, 0, 0), (2, 12, 23, 151, 23), (4, 2, 1, 0, 0), (34, 0, 0, 0, 0), (3, 0, 0, 0, 0), (0, 0, 1, 0, 0), (2, 12, 19, 147, 19), (4, 2, 1, 0, 0), (33, 0, 0, 0, 0), (35, 0, 0, 0, 0), (0, 0, 1, 0, 0), (2, 12, 23, 151, 23), (4, 2, 1, 0, 0), (34, 0, 0, 0, 0), (3, 0, 0, 0, 1), (3, 0, 0, 0, 0), (35, 0, 0, 0, 0), (0, 0, 1, 0, 0), (2, 12, 19, 147, 19), (4, 2, 1, 0, 0), (3, 0, 0, 0, 0), (35, 0, 0, 0, 0), (32, 2, 0, 0, 1), (10, 8, 0, 0, 0)]
abbrev zb_245_11 : List zI0 := [(3, 0, 0, 0, 0), (30, 2, 1, 0, 0), (111, 12, 0, 0, 0)]
abbrev zb_245_12 : List zI0 := [(4, 2, 1, 0, 0), (3, 0, 0, 0, 2), (23, 16, 0, 0, 0), (3, 0, 0, 0, 0), (30, 3, 1, 0, 0), (111, 13, 0, 0, 0)]
abbrev zb_245_13 : List zI0 := [(4, 3, 1, 0, 0), (3, 0, 0, 0, 3), (23, 15, 0, 0, 0), (0, 0, 1, 0, 0), (2, 12, 20, 148, 20), (4, 3, 1, 0, 0), (33, 0, 0, 0, 0), (19, 14, 0, 0, 0), (0, 0, 1, 0, 0), (4, 3, 1, 0, 0), (3, 0, 0, 0, 0), (6, 244, 2, 12, 206), (111, 14, 0, 0, 0)]
abbrev zb_245_14 : List zI0 := [(32, 3, 0, 0, 1), (10, 13, 0, 0, 0)]
abbrev zb_245_15 : List zI0 := [(0, 0, 1, 0, 0), (2, 12, 25, 153, 25), (0, 0, 1, 0, 0), (1, 12, 36, 174, 36), (0, 0, 1, 0, 0), (6, 237, 0, 12, 205), (35, 0, 0, 0, 0), (0, 0, 1, 0, 0), (47, 0, 0, 0, 0), (1, 12, 36, 174, 36), (3, 0, 0, 0, 1), (37, 0, 0, 0, 0), (11, 12, 36, 174, 36), (32, 2, 0, 0, 1), (10, 12, 0, 0, 0)]
abbrev zb_245_16 : List zI0 := [(3, 0, 0, 0, 0), (30, 2, 1, 0, 0), (111, 17, 0, 0, 0)]
abbrev zb_245_17 : List zI0 := [(4, 2, 1, 0, 0), (3, 0, 0, 0, 3), (23, 20, 0, 0, 0), (0, 0, 1, 0, 0), (2, 12, 24, 152, 24), (4, 2, 1, 0, 0), (34, 0, 0, 0, 0), (3, 0, 0, 0, 0), (0, 0, 1, 0, 0), (4, 2, 1, 0, 0), (3, 0, 0, 0, 0), (6, 240, 2, 12, 199), (3, 1, 0, 0, 21), (21, 18, 0, 0, 0), (3, 0, 0, 0, 2), (10, 19, 0, 0, 0)]
abbrev zb_245_18 : List zI0 := [(3, 0, 0, 0, 1), (111, 19, 0, 0, 0)]
abbrev zb_245_19 : List zI0 := [(35, 0, 0, 0, 0), (32, 2, 0, 0, 1), (10, 17, 0, 0, 0)]
abbrev zb_245_20 : List zI0 := [(0, 0, 1, 0, 0), (1, 12, 36, 174, 36), (0, 0, 1, 0, 0), (2, 12, 25, 153, 25), (5, 238, 2, 0, 198), (3, 1, 0, 0, 21), (21, 21, 0, 0, 0), (0, 0, 1, 0, 0), (3, 0, 0, 0, 1), (6, 251, 1, 12, 207), (10, 22, 0, 0, 0)]
abbrev zb_245_21 : List zI0 := [(0, 0, 1, 0, 0), (6, 246, 0, 12, 192), (17, 22, 0, 0, 0), (0, 0, 1, 0, 0), (6, 249, 0, 12, 193), (111, 22, 0, 0, 0)]
abbrev zb_245_22 : List zI0 := [(0, 0, 1, 0, 0), (2, 12, 25, 153, 25), (3, 0, 0, 0, 0), (33, 0, 0, 0, 0), (8, 0, 0, 0, 0)]
abbrev zc_245 : List (List zI0) := [zb_245_0, zb_245_1, zb_245_2, zb_245_3, zb_245_4, zb_245_5, zb_245_6, zb_245_7, zb_245_8, zb_245_9, zb_245_10, zb_245_11, zb_245_12, zb_245_13, zb_245_14, zb_245_15, zb_245_16, zb_245_17, zb_245_18, zb_245_19, zb_245_20, zb_245_21, zb_245_22]
abbrev zb_246_0 : List zI0 := [(3, 0, 0, 0, 0), (30, 1, 1, 0, 0), (111, 1, 0, 0, 0)]
abbrev zb_246_1 : List zI0 := [(4, 1, 1, 0, 0), (3, 0, 0, 0, 3), (23, 5, 0, 0, 0), (3, 0, 0, 0, 0), (30, 2, 1, 0, 0), (111, 2, 0, 0, 0)]
abbrev zb_246_2 : List zI0 := [(4, 2, 1, 0, 0), (0, 0, 1, 0, 0), (2, 12, 20, 148, 20), (4, 1, 1, 0, 0), (33, 0, 0, 0, 0), (23, 4, 0, 0, 0), (0, 0, 1, 0, 0), (2, 12, 24, 152, 24), (4, 1, 1, 0, 0), (34, 0, 0, 0, 0), (4, 2, 1, 0, 0), (33, 0, 0, 0, 0), (3, 0, 0, 0, 1), (21, 3, 0, 0, 0), (4, 1, 1, 0, 0), (3, 1, 0, 0, 10), (4, 2, 1, 0, 0), (39, 0, 0, 0, 0), (37, 0, 0, 0, 0), (8, 0, 0, 0, 0)]
abbrev zb_246_3 : List zI0 := [(32, 2, 0, 0, 1), (10, 2, 0, 0, 0)]
abbrev zb_246_4 : List zI0 := [(32, 1, 0, 0, 1), (10, 1, 0, 0, 0)]
abbrev zb_246_5 : List zI0 := [(3, 0, 0, 0, (-1)), (8, 0, 0, 0, 0)]
abbrev zc_246 : List (List zI0) := [zb_246_0, zb_246_1, zb_246_2, zb_246_3, zb_246_4, zb_246_5]
abbrev zb_247_0 : List zI0 := [(0, 0, 1, 0, 0), (2, 12, 10, 138, 10), (3, 0, 0, 0, 0), (48, 0, 0, 0, 0), (33, 0, 0, 0, 0), (0, 0, 1, 0, 0), (2, 12, 23, 151, 23), (4, 1, 1, 0, 0), (34, 0, 0, 0, 0), (4, 2, 1, 0, 0), (33, 0, 0, 0, 0), (37, 0, 0, 0, 0), (35, 0, 0, 0, 0), (0, 0, 1, 0, 0), (2, 12, 23, 151, 23), (4, 1, 1, 0, 0), (34, 0, 0, 0, 0), (4, 2, 1, 0, 0), (3, 0, 0, 0, 0), (35, 0, 0, 0, 0), (0, 0, 1, 0, 0), (2, 12, 24, 152, 24), (4, 1, 1, 0, 0), (34, 0, 0, 0, 0), (4, 2, 1, 0, 0), (3, 0, 0, 0, 3), (35, 0, 0, 0, 0), (50, 0, 0, 0, 0)]
abbrev zc_247 : List (List zI0) := [zb_247_0]
abbrev zb_248_0 : List zI0 := [(0, 0, 1, 0, 0), (2, 12, 18, 146, 18), (4, 1, 1, 0, 0), (33, 0, 0, 0, 0), (30, 4, 0, 0, 0), (0, 0, 1, 0, 0), (2, 12, 1, 129, 1), (4, 4, 0, 0, 0), (48, 0, 0, 0, 0), (33, 0, 0, 0, 0), (0, 0, 1, 0, 0), (2, 12, 23, 151, 23), (4, 1, 1, 0, 0), (34, 0, 0, 0, 0), (4, 2, 1, 0, 0), (33, 0, 0, 0, 0), (37, 0, 0, 0, 0), (35, 0, 0, 0, 0), (0, 0, 1, 0, 0), (2, 12, 23, 151, 23), (4, 1, 1, 0, 0), (34, 0, 0, 0, 0), (4, 2, 1, 0, 0), (3, 0, 0, 0, 0), (35, 0, 0, 0, 0), (0, 0, 1, 0, 0), (2, 12, 24, 152, 24), (4, 1, 1, 0, 0), (34, 0, 0, 0, 0), (4, 2, 1, 0, 0), (3, 0, 0, 0, 3), (35, 0, 0, 0, 0), (0, 0, 1, 0, 0), (3, 0, 0, 0, 0), (4, 4, 0, 0, 0), (4, 3, 1, 0, 0), (6, 222, 3, 12, 208), (50, 0, 0, 0, 0)]
abbrev zc_248 : List (List zI0) := [zb_248_0]
abbrev zb_249_0 : List zI0 := [(3, 0, 0, 0, 0), (30, 1, 1, 0, 0), (3, 0, 0, 0, 0), (30, 2, 1, 0, 0), (111, 1, 0, 0, 0)]
abbrev zb_249_1 : List zI0 := [(4, 2, 1, 0, 0), (3, 0, 0, 0, 3), (23, 6, 0, 0, 0), (3, 0, 0, 0, 0), (30, 3, 1, 0, 0), (111, 2, 0, 0, 0)]
abbrev zb_249_2 : List zI0 := [(4, 3, 1, 0, 0), (0, 0, 1, 0, 0), (2, 12, 20, 148, 20), (4, 2, 1, 0, 0), (33, 0, 0, 0, 0), (23, 5, 0, 0, 0), (4, 1, 1, 0, 0), (0, 0, 1, 0, 0), (2, 12, 24, 152, 24), (4, 2, 1, 0, 0), (34, 0, 0, 0, 0), (4, 3, 1, 0, 0), (33, 0, 0, 0, 0), (3, 0, 0, 0, 2), (21, 3, 0, 0, 0), (0, 0, 1, 0, 0), (4, 2, 1, 0, 0), (6, 241, 1, 12, 209), (15, 3, 0, 0, 0), (3, 0, 0, 0, 1), (10, 4, 0, 0, 0)]
abbrev zb_249_3 : List zI0 := [(3, 0, 0, 0, 0), (111, 4, 0, 0, 0)]
abbrev zb_249_4 : List zI0 := [(43, 0, 0, 0, 0), (30, 1, 1, 0, 0), (32, 3, 0, 0, 1), (10, 2, 0, 0, 0)]
abbrev zb_249_5 : List zI0 := [(32, 2, 0, 0, 1), (10, 1, 0, 0, 0)]
abbrev zb_249_6 : List zI0 := [(4, 1, 1, 0, 0), (14, 7, 0, 0, 0), (0, 0, 1, 0, 0), (1, 12, 35, 173, 35), (19, 7, 0, 0, 0), (0, 0, 1, 0, 0), (0, 0, 1, 0, 0), (1, 12, 36, 174, 36), (0, 0, 1, 0, 0), (2, 12, 25, 153, 25), (5, 238, 2, 0, 198), (0, 0, 1, 0, 0), (1, 12, 36, 174, 36), (0, 0, 1, 0, 0), (2, 12, 25, 153, 25), (5, 239, 2, 0, 210), (6, 250, 2, 12, 211), (15, 7, 0, 0, 0), (0, 0, 1, 0, 0), (2, 12, 25, 153, 25), (0, 0, 1, 0, 0), (1, 12, 36, 174, 36), (0, 0, 1, 0, 0), (6, 237, 0, 12, 205), (35, 0, 0, 0, 0), (0, 0, 1, 0, 0), (47, 0, 0, 0, 0), (1, 12, 36, 174, 36), (3, 0, 0, 0, 1), (37, 0, 0, 0, 0), (11, 12, 36, 174, 36), (10, 6, 0, 0, 0)]
abbrev zb_249_7 : List zI0 := [(0, 0, 1, 0, 0), (3, 0, 0, 0, 0), (6, 251, 1, 12, 207), (50, 0, 0, 0, 0)]
abbrev zc_249 : List (List zI0) := [zb_249_0, zb_249_1, zb_249_2, zb_249_3, zb_249_4, zb_249_5, zb_249_6, zb_249_7]
abbrev zb_250_0 : List zI0 := [(4, 1, 1, 0, 0), (3, 1, 0, 0, 17), (22, 2, 0, 0, 0), (4, 1, 1, 0, 0), (3, 1, 0, 0, 17), (21, 1, 0, 0, 0), (4, 2, 1, 0, 0), (14, 1, 0, 0, 0), (0, 0, 1, 0, 0), (2, 12, 13, 141, 13), (3, 0, 0, 0, 2), (101, 0, 0, 0, 0), (15, 2, 0, 0, 0), (111, 1, 0, 0, 0)]
abbrev zb_250_1 : List zI0 := [(3, 0, 0, 0, 1), (10, 3, 0, 0, 0)]
abbrev zb_250_2 : List zI0 := [(3, 0, 0, 0, 0), (111, 3, 0, 0, 0)]
abbrev zb_250_3 : List zI0 := [(9, 0, 0, 0, 0)]
abbrev zc_250 : List (List zI0) := [zb_250_0, zb_250_1, zb_250_2, zb_250_3]
abbrev zb_251_0 : List zI0 := [(0, 0, 1, 0, 0), (1, 12, 36, 174, 36), (0, 0, 1, 0, 0), (2, 12, 25, 153, 25), (5, 238, 2, 0, 198), (30, 2, 1, 0, 0), (3, 0, 0, 0, 0), (30, 3, 1, 0, 0), (111, 1, 0, 0, 0)]
abbrev zb_251_1 : List zI0 := [(4, 3, 1, 0, 0), (3, 0, 0, 0, 3), (23, 6, 0, 0, 0), (3, 0, 0, 0, 0), (30, 4, 0, 0, 0), (111, 2, 0, 0, 0)]
abbrev zb_251_2 : List zI0 := [(4, 4, 0, 0, 0), (0, 0, 1, 0, 0), (2, 12, 20, 148, 20), (4, 3, 1, 0, 0), (33, 0, 0, 0, 0), (23, 5, 0, 0, 0), (0, 0, 1, 0, 0), (2, 12, 24, 152, 24), (4, 3, 1, 0, 0), (34, 0, 0, 0, 0), (4, 4, 0, 0, 0), (33, 0, 0, 0, 0), (3, 0, 0, 0, 2), (20, 3, 0, 0, 0), (4, 1, 1, 0, 0), (14, 4, 0, 0, 0), (0, 0, 1, 0, 0), (2, 12, 24, 152, 24), (4, 3, 1, 0, 0), (34, 0, 0, 0, 0), (4, 4, 0, 0, 0), (33, 0, 0, 0, 0), (3, 0, 0, 0, 1), (21, 4, 0, 0, 0), (111, 3, 0, 0, 0)]
abbrev zb_251_3 : List zI0 := [(0, 0, 1, 0, 0), (4, 3, 1, 0, 0), (4, 4, 0, 0, 0), (4, 2, 1, 0, 0), (4, 1, 1, 0, 0), (6, 252, 4, 12, 212), (111, 4, 0, 0, 0)]
abbrev zb_251_4 : List zI0 := [(32, 4, 0, 0, 1), (10, 2, 0, 0, 0)]
abbrev zb_251_5 : List zI0 := [(0, 0, 1, 0, 0), (2, 12, 18, 146, 18), (4, 3, 1, 0, 0), (3, 0, 0, 0, (-1)), (35, 0, 0, 0, 0), (32, 3, 0, 0, 1), (10, 1, 0, 0, 0)]
abbrev zb_251_6 : List zI0 := [(0, 0, 1, 0, 0), (3, 0, 0, 0, 0), (12, 12, 37, 166, 37), (50, 0, 0, 0, 0)]
abbrev zc_251 : List (List zI0) := [zb_251_0, zb_251_1, zb_251_2, zb_251_3, zb_251_4, zb_251_5, zb_251_6]
abbrev zb_252_0 : List zI0 := [(0, 0, 1, 0, 0), (2, 12, 23, 151, 23), (4, 1, 1, 0, 0), (34, 0, 0, 0, 0), (4, 2, 1, 0, 0), (33, 0, 0, 0, 0), (30, 5, 0, 0, 0), (0, 0, 1, 0, 0), (4, 1, 1, 0, 0), (4, 2, 1, 0, 0), (6, 240, 2, 12, 199), (30, 6, 0, 0, 0), (0, 0, 1, 0, 0), (4, 1, 1, 0, 0), (6, 241, 1, 12, 209), (14, 7, 0, 0, 0), (4, 4, 0, 0, 0), (14, 1, 0, 0, 0), (3, 0, 0, 0, 0), (10, 3, 0, 0, 0)]
abbrev zb_252_1 : List zI0 := [(0, 0, 1, 0, 0), (2, 12, 13, 141, 13), (3, 0, 0, 0, 3), (101, 0, 0, 0, 0), (14, 2, 0, 0, 0), (4, 5, 0, 0, 0), (3, 1, 0, 0, 6), (39, 0, 0, 0, 0), (3, 0, 0, 0, 5), (40, 0, 0, 0, 0), (10, 3, 0, 0, 0)]
abbrev zb_252_2 : List zI0 := [(4, 5, 0, 0, 0), (3, 0, 0, 0, 3), (39, 0, 0, 0, 0), (3, 0, 0, 0, 2), (40, 0, 0, 0, 0), (111, 3, 0, 0, 0)]
abbrev zb_252_3 : List zI0 := [(30, 7, 0, 0, 0), (0, 0, 1, 0, 0), (47, 0, 0, 0, 0), (1, 12, 38, 175, 38), (4, 4, 0, 0, 0), (14, 4, 0, 0, 0), (3, 0, 0, 0, 0), (10, 6, 0, 0, 0)]
abbrev zb_252_4 : List zI0 := [(0, 0, 1, 0, 0), (2, 12, 13, 141, 13), (3, 0, 0, 0, 3), (101, 0, 0, 0, 0), (14, 5, 0, 0, 0), (4, 5, 0, 0, 0), (3, 1, 0, 0, 6), (39, 0, 0, 0, 0), (3, 0, 0, 0, 5), (41, 0, 0, 0, 0), (3, 0, 0, 0, 2), (39, 0, 0, 0, 0), (10, 6, 0, 0, 0)]
abbrev zb_252_5 : List zI0 := [(4, 5, 0, 0, 0), (3, 0, 0, 0, 2), (41, 0, 0, 0, 0), (3, 0, 0, 0, 5), (39, 0, 0, 0, 0), (111, 6, 0, 0, 0)]
abbrev zb_252_6 : List zI0 := [(37, 0, 0, 0, 0), (11, 12, 38, 175, 38), (0, 0, 1, 0, 0), (4, 1, 1, 0, 0), (4, 2, 1, 0, 0), (4, 7, 0, 0, 0), (6, 248, 3, 12, 213), (10, 11, 0, 0, 0)]
abbrev zb_252_7 : List zI0 := [(4, 4, 0, 0, 0), (15, 9, 0, 0, 0), (4, 6, 0, 0, 0), (4, 3, 1, 0, 0), (24, 8, 0, 0, 0), (4, 3, 1, 0, 0), (3, 1, 0, 0, 21), (25, 9, 0, 0, 0), (111, 8, 0, 0, 0)]
abbrev zb_252_8 : List zI0 := [(0, 0, 1, 0, 0), (4, 1, 1, 0, 0), (4, 2, 1, 0, 0), (4, 5, 0, 0, 0), (6, 248, 3, 12, 213), (10, 11, 0, 0, 0)]
abbrev zb_252_9 : List zI0 := [(4, 4, 0, 0, 0), (15, 10, 0, 0, 0), (4, 6, 0, 0, 0), (4, 3, 1, 0, 0), (21, 10, 0, 0, 0), (0, 0, 1, 0, 0), (4, 1, 1, 0, 0), (4, 2, 1, 0, 0), (3, 0, 0, 0, 0), (6, 248, 3, 12, 213), (10, 11, 0, 0, 0)]
abbrev zb_252_10 : List zI0 := [(0, 0, 1, 0, 0), (4, 1, 1, 0, 0), (4, 2, 1, 0, 0), (6, 247, 2, 12, 214), (111, 11, 0, 0, 0)]
abbrev zb_252_11 : List zI0 := [(50, 0, 0, 0, 0)]
abbrev zc_252 : List (List zI0) := [zb_252_0, zb_252_1, zb_252_2, zb_252_3, zb_252_4, zb_252_5, zb_252_6, zb_252_7, zb_252_8, zb_252_9, zb_252_10, zb_252_11]
abbrev zb_253_0 : List zI0 := [(0, 0, 1, 0, 0), (4, 1, 1, 0, 0), (3, 0, 0, 0, 0), (3, 0, 0, 0, 2), (5, 213, 3, 0, 186), (15, 1, 0, 0, 0), (3, 0, 0, 0, 1), (10, 2, 0, 0, 0)]
abbrev zb_253_1 : List zI0 := [(3, 0, 0, 0, 0), (111, 2, 0, 0, 0)]
abbrev zb_253_2 : List zI0 := [(3, 0, 0, 0, 1), (6, 212, 2, 12, 187), (15, 7, 0, 0, 0), (0, 0, 1, 0, 0), (0, 0, 1, 0, 0), (1, 12, 37, 166, 37), (15, 3, 0, 0, 0), (3, 0, 0, 0, 1), (10, 4, 0, 0, 0)]
abbrev zb_253_3 : List zI0 := [(3, 0, 0, 0, 0), (111, 4, 0, 0, 0)]
abbrev zb_253_4 : List zI0 := [(3, 0, 0, 0, 2), (6, 212, 2, 12, 187), (15, 7, 0, 0, 0), (0, 0, 1, 0, 0), (0, 0, 1, 0, 0), (6, 246, 0, 12, 192), (3, 1, 0, 0, 10), (41, 0, 0, 0, 0), (4, 1, 1, 0, 0), (20, 5, 0, 0, 0), (3, 0, 0, 0, 1), (10, 6, 0, 0, 0)]
abbrev zb_253_5 : List zI0 := [(3, 0, 0, 0, 0), (111, 6, 0, 0, 0)]
abbrev zb_253_6 : List zI0 := [(3, 0, 0, 0, 3), (6, 212, 2, 12, 187), (14, 8, 0, 0, 0), (111, 7, 0, 0, 0)]
abbrev zb_253_7 : List zI0 := [(3, 0, 0, 0, 1), (10, 9, 0, 0, 0)]
abbrev zb_253_8 : List zI0 := [(3, 0, 0, 0, 0), (111, 9, 0, 0, 0)]
abbrev zb_253_9 : List zI0 := [(9, 0, 0, 0, 0)]
abbrev zc_253 : List (List zI0) := [zb_253_0, zb_253_1, zb_253_2, zb_253_3, zb_253_4, zb_253_5, zb_253_6, zb_253_7, zb_253_8, zb_253_9]
abbrev zb_254_0 : List zI0 := [(0, 0, 1, 0, 0), (6, 246, 0, 12, 192), (17, 1, 0, 0, 0), (0, 0, 1, 0, 0), (6, 249, 0, 12, 193), (111, 1, 0, 0, 0)]
abbrev zb_254_1 : List zI0 := [(50, 0, 0, 0, 0)]
abbrev zc_254 : List (List zI0) := [zb_254_0, zb_254_1]
abbrev zb_255_0 : List zI0 := [(0, 0, 1, 0, 0), (4, 1, 1, 0, 0), (4, 2, 1, 0, 0), (6, 240, 2, 12, 199), (30, 3, 1, 0, 0), (0, 0, 1, 0, 0), (2, 12, 24, 152, 24), (4, 1, 1, 0, 0), (34, 0, 0, 0, 0), (4, 2, 1, 0, 0), (4, 3, 1, 0, 0), (3, 1, 0, 0, 21), (21, 1, 0, 0, 0), (3, 0, 0, 0, 2), (10, 2, 0, 0, 0)]
abbrev zb_255_1 : List zI0 := [(0, 0, 1, 0, 0), (2, 12, 24, 152, 24), (4, 1, 1, 0, 0), (34, 0, 0, 0, 0), (4, 2, 1, 0, 0), (33, 0, 0, 0, 0), (111, 2, 0, 0, 0)]
abbrev zb_255_2 : List zI0 := [(35, 0, 0, 0, 0), (4, 3, 1, 0, 0), (3, 1, 0, 0, 21), (25, 3, 0, 0, 0), (0, 0, 1, 0, 0), (4, 1, 1, 0, 0), (4, 2, 1, 0, 0), (6, 247, 2, 12, 214), (111, 3, 0, 0, 0)]
abbrev zb_255_3 : List zI0 := [(50, 0, 0, 0, 0)]
abbrev zc_255 : List (List zI0) := [zb_255_0, zb_255_1, zb_255_2, zb_255_3]
abbrev zb_256_0 : List zI0 := [(0, 0, 1, 0, 0), (4, 1, 1, 0, 0), (6, 253, 1, 12, 215), (15, 3, 0, 0, 0), (0, 0, 1, 0, 0), (0, 0, 1, 0, 0), (1, 12, 35, 173, 35), (15, 1, 0, 0, 0), (3, 0, 0, 0, 1), (10, 2, 0, 0, 0)]
abbrev zb_256_1 : List zI0 := [(3, 0, 0, 0, 0), (111, 2, 0, 0, 0)]
abbrev zb_256_2 : List zI0 := [(3, 0, 0, 0, 3), (6, 212, 2, 12, 187), (14, 4, 0, 0, 0), (111, 3, 0, 0, 0)]
abbrev zb_256_3 : List zI0 := [(3, 0, 0, 0, 0), (8, 0, 0, 0, 0)]
abbrev zb_256_4 : List zI0 := [(0, 0, 1, 0, 0), (6, 246, 0, 12, 192), (3, 1, 0, 0, 10), (40, 0, 0, 0, 0), (30, 2, 1, 0, 0), (0, 0, 1, 0, 0), (4, 1, 1, 0, 0), (4, 2, 1, 0, 0), (6, 244, 2, 12, 206), (0, 0, 1, 0, 0), (4, 1, 1, 0, 0), (4, 2, 1, 0, 0), (6, 240, 2, 12, 199), (30, 3, 1, 0, 0), (0, 0, 1, 0, 0), (4, 1, 1, 0, 0), (4, 2, 1, 0, 0), (6, 255, 2, 12, 216), (0, 0, 1, 0, 0), (6, 254, 0, 12, 217), (4, 3, 1, 0, 0), (8, 0, 0, 0, 0)]
abbrev zc_256 : List (List zI0) := [zb_256_0, zb_256_1, zb_256_2, zb_256_3, zb_256_4]
abbrev zb_257_0 : List zI0 := [(0, 0, 1, 0, 0), (4, 1, 1, 0, 0), (6, 253, 1, 12, 215), (14, 1, 0, 0, 0), (3, 0, 0, 0, 0), (8, 0, 0, 0, 0)]
abbrev zb_257_1 : List zI0 := [(0, 0, 1, 0, 0), (2, 12, 24, 152, 24), (4, 1, 1, 0, 0), (34, 0, 0, 0, 0), (0, 0, 1, 0, 0), (6, 246, 0, 12, 192), (3, 1, 0, 0, 10), (40, 0, 0, 0, 0), (3, 0, 0, 0, 2), (35, 0, 0, 0, 0), (0, 0, 1, 0, 0), (6, 246, 0, 12, 192), (30, 2, 1, 0, 0), (0, 0, 1, 0, 0), (6, 254, 0, 12, 217), (4, 2, 1, 0, 0), (17, 2, 0, 0, 0), (3, 0, 0, 0, (-1)), (10, 3, 0, 0, 0)]
abbrev zb_257_2 : List zI0 := [(4, 2, 1, 0, 0), (3, 1, 0, 0, 10), (41, 0, 0, 0, 0), (111, 3, 0, 0, 0)]
abbrev zb_257_3 : List zI0 := [(8, 0, 0, 0, 0)]
abbrev zc_257 : List (List zI0) := [zb_257_0, zb_257_1, zb_257_2, zb_257_3]
abbrev zb_258_0 : List zI0 := [(0, 0, 1, 0, 0), (4, 1, 1, 0, 0), (6, 253, 1, 12, 215), (14, 1, 0, 0, 0), (3, 0, 0, 0, 0), (8, 0, 0, 0, 0)]
abbrev zb_258_1 : List zI0 := [(0, 0, 1, 0, 0), (6, 246, 0, 12, 192), (3, 1, 0, 0, 10), (40, 0, 0, 0, 0), (30, 2, 1, 0, 0), (0, 0, 1, 0, 0), (2, 12, 23, 151, 23), (4, 1, 1, 0, 0), (34, 0, 0, 0, 0), (4, 2, 1, 0, 0), (33, 0, 0, 0, 0), (30, 3, 1, 0, 0), (0, 0, 1, 0, 0), (2, 12, 22, 150, 22), (4, 1, 1, 0, 0), (34, 0, 0, 0, 0), (4, 2, 1, 0, 0), (33, 0, 0, 0, 0), (3, 0, 0, 0, 2), (21, 3, 0, 0, 0), (0, 0, 1, 0, 0), (2, 12, 20, 148, 20), (4, 1, 1, 0, 0), (33, 0, 0, 0, 0), (3, 0, 0, 0, 1), (20, 2, 0, 0, 0), (0, 0, 1, 0, 0), (2, 12, 13, 141, 13), (3, 0, 0, 0, 0), (101, 0, 0, 0, 0), (14, 3, 0, 0, 0), (111, 2, 0, 0, 0)]
abbrev zb_258_2 : List zI0 := [(0, 0, 1, 0, 0), (1, 12, 35, 173, 35), (19, 3, 0, 0, 0), (3, 0, 0, 0, 1), (10, 4, 0, 0, 0)]
abbrev zb_258_3 : List zI0 := [(3, 0, 0, 0, 0), (111, 4, 0, 0, 0)]
abbrev zb_258_4 : List zI0 := [(30, 4, 0, 0, 0), (0, 0, 1, 0, 0), (4, 4, 0, 0, 0), (14, 5, 0, 0, 0), (0, 0, 1, 0, 0), (0, 0, 1, 0, 0), (2, 12, 18, 146, 18), (4, 1, 1, 0, 0), (33, 0, 0, 0, 0), (4, 3, 1, 0, 0), (6, 220, 2, 12, 201), (15, 6, 0, 0, 0), (111, 5, 0, 0, 0)]
abbrev zb_258_5 : List zI0 := [(3, 0, 0, 0, 1), (10, 7, 0, 0, 0)]
abbrev zb_258_6 : List zI0 := [(3, 0, 0, 0, 0), (111, 7, 0, 0, 0)]
abbrev zb_258_7 : List zI0 := [(3, 0, 0, 0, 3), (6, 212, 2, 12, 187), (14, 8, 0, 0, 0), (3, 0, 0, 0, 0), (8, 0, 0, 0, 0)]
abbrev zb_258_8 : List zI0 := [(0, 0, 1, 0, 0), (0, 0, 1, 0, 0), (2, 12, 18, 146, 18), (4, 1, 1, 0, 0), (33, 0, 0, 0, 0), (4, 3, 1, 0, 0), (6, 221, 2, 12, 202), (0, 0, 1, 0, 0), (2, 12, 23, 151, 23), (4, 1, 1, 0, 0), (34, 0, 0, 0, 0), (4, 2, 1, 0, 0), (3, 0, 0, 0, 2), (4, 3, 1, 0, 0), (39, 0, 0, 0, 0), (35, 0, 0, 0, 0), (0, 0, 1, 0, 0), (4, 1, 1, 0, 0), (4, 2, 1, 0, 0), (6, 244, 2, 12, 206), (0, 0, 1, 0, 0), (4, 1, 1, 0, 0), (4, 2, 1, 0, 0), (6, 240, 2, 12, 199), (30, 5, 0, 0, 0), (0, 0, 1, 0, 0), (2, 12, 24, 152, 24), (4, 1, 1, 0, 0), (34, 0, 0, 0, 0), (4, 2, 1, 0, 0), (3, 0, 0, 0, 2), (35, 0, 0, 0, 0), (0, 0, 1, 0, 0), (4, 1, 1, 0, 0), (4, 2, 1, 0, 0), (6, 255, 2, 12, 216), (0, 0, 1, 0, 0), (6, 254, 0, 12, 217), (4, 5, 0, 0, 0), (8, 0, 0, 0, 0)]
abbrev zc_258 : List (List zI0) := [zb_258_0, zb_258_1, zb_258_2, zb_258_3, zb_258_4, zb_258_5, zb_258_6, zb_258_7, zb_258_8]
abbrev zb_259_0 : List zI0 := [(0, 0, 1, 0, 0), (4, 1, 1, 0, 0), (6, 253, 1, 12, 215), (14, 1, 0, 0, 0), (3, 0, 0, 0, 0), (8, 0, 0, 0, 0)]
abbrev zb_259_1 : List zI0 := [(0, 0, 1, 0, 0), (2, 12, 21, 149, 21), (4, 1, 1, 0, 0), (34, 0, 0, 0, 0), (3, 0, 0, 0, 0), (34, 0, 0, 0, 0), (31, 2, 1, 0, 0), (0, 0, 1, 0, 0), (2, 12, 20, 148, 20), (4, 1, 1, 0, 0), (33, 0, 0, 0, 0), (3, 0, 0, 0, 1), (21, 2, 0, 0, 0), (0, 0, 1, 0, 0), (2, 12, 22, 150, 22), (4, 1, 1, 0, 0), (34, 0, 0, 0, 0), (3, 0, 0, 0, 0), (33, 0, 0, 0, 0), (3, 0, 0, 0, 2), (21, 2, 0, 0, 0), (0, 2, 1, 0, 0), (3, 0, 0, 0, 0), (33, 0, 0, 0, 0), (0, 2, 1, 0, 0), (3, 0, 0, 0, 1), (33, 0, 0, 0, 0), (21, 2, 0, 0, 0), (0, 0, 1, 0, 0), (1, 12, 35, 173, 35), (3, 0, 0, 0, 1), (25, 2, 0, 0, 0), (3, 0, 0, 0, 1), (10, 3, 0, 0, 0)]
abbrev zb_259_2 : List zI0 := [(3, 0, 0, 0, 0), (111, 3, 0, 0, 0)]
abbrev zb_259_3 : List zI0 := [(30, 3, 1, 0, 0), (0, 0, 1, 0, 0), (4, 3, 1, 0, 0), (14, 4, 0, 0, 0), (0, 0, 1, 0, 0), (0, 0, 1, 0, 0), (2, 12, 18, 146, 18), (4, 1, 1, 0, 0), (33, 0, 0, 0, 0), (0, 0, 1, 0, 0), (2, 12, 23, 151, 23), (4, 1, 1, 0, 0), (34, 0, 0, 0, 0), (3, 0, 0, 0, 0), (33, 0, 0, 0, 0), (6, 220, 2, 12, 201), (15, 5, 0, 0, 0), (111, 4, 0, 0, 0)]
abbrev zb_259_4 : List zI0 := [(3, 0, 0, 0, 1), (10, 6, 0, 0, 0)]
abbrev zb_259_5 : List zI0 := [(3, 0, 0, 0, 0), (111, 6, 0, 0, 0)]
abbrev zb_259_6 : List zI0 := [(3, 0, 0, 0, 3), (6, 212, 2, 12, 187), (14, 7, 0, 0, 0), (3, 0, 0, 0, 0), (8, 0, 0, 0, 0)]
abbrev zb_259_7 : List zI0 := [(0, 0, 1, 0, 0), (0, 0, 1, 0, 0), (2, 12, 18, 146, 18), (4, 1, 1, 0, 0), (33, 0, 0, 0, 0), (0, 0, 1, 0, 0), (2, 12, 23, 151, 23), (4, 1, 1, 0, 0), (34, 0, 0, 0, 0), (3, 0, 0, 0, 0), (33, 0, 0, 0, 0), (6, 221, 2, 12, 202), (0, 0, 1, 0, 0), (2, 12, 23, 151, 23), (4, 1, 1, 0, 0), (34, 0, 0, 0, 0), (3, 0, 0, 0, 1), (0, 0, 1, 0, 0), (2, 12, 23, 151, 23), (4, 1, 1, 0, 0), (34, 0, 0, 0, 0), (3, 0, 0, 0, 0), (33, 0, 0, 0, 0), (35, 0, 0, 0, 0), (0, 0, 1, 0, 0), (2, 12, 20, 148, 20), (4, 1, 1, 0, 0), (3, 0, 0, 0, 2), (35, 0, 0, 0, 0), (0, 0, 1, 0, 0), (2, 12, 21, 149, 21), (4, 1, 1, 0, 0), (34, 0, 0, 0, 0), (3, 0, 0, 0, 1), (34, 0, 0, 0, 0), (3, 0, 0, 0, 0), (0, 2, 1, 0, 0), (3, 0, 0, 0, 1), (33, 0, 0, 0, 0), (35, 0, 0, 0, 0), (3, 0, 0, 0, 0), (30, 4, 0, 0, 0), (111, 8, 0, 0, 0)]
abbrev zb_259_8 : List zI0 := [(4, 4, 0, 0, 0), (3, 0, 0, 0, 2), (23, 9, 0, 0, 0), (0, 0, 1, 0, 0), (2, 12, 22, 150, 22), (4, 1, 1, 0, 0), (34, 0, 0, 0, 0), (4, 4, 0, 0, 0), (3, 0, 0, 0, 1), (35, 0, 0, 0, 0), (0, 0, 1, 0, 0), (2, 12, 24, 152, 24), (4, 1, 1, 0, 0), (34, 0, 0, 0, 0), (4, 4, 0, 0, 0), (3, 0, 0, 0, 1), (35, 0, 0, 0, 0), (0, 0, 1, 0, 0), (4, 1, 1, 0, 0), (4, 4, 0, 0, 0), (6, 244, 2, 12, 206), (0, 0, 1, 0, 0), (4, 1, 1, 0, 0), (4, 4, 0, 0, 0), (6, 255, 2, 12, 216), (32, 4, 0, 0, 1), (10, 8, 0, 0, 0)]
abbrev zb_259_9 : List zI0 := [(0, 0, 1, 0, 0), (4, 1, 1, 0, 0), (3, 0, 0, 0, 0), (6, 240, 2, 12, 199), (30, 4, 0, 0, 0), (0, 0, 1, 0, 0), (6, 254, 0, 12, 217), (4, 4, 0, 0, 0), (8, 0, 0, 0, 0)]
abbrev zc_259 : List (List zI0) := [zb_259_0, zb_259_1, zb_259_2, zb_259_3, zb_259_4, zb_259_5, zb_259_6, zb_259_7, zb_259_8, zb_259_9]
abbrev zb_260_0 : List zI0 := [(0, 0, 1, 0, 0), (4, 1, 1, 0, 0), (6, 253, 1, 12, 215), (15, 4, 0, 0, 0), (0, 0, 1, 0, 0), (0, 0, 1, 0, 0), (2, 12, 13, 141, 13), (3, 0, 0, 0, 1), (101, 0, 0, 0, 0), (14, 1, 0, 0, 0), (0, 0, 1, 0, 0), (2, 12, 20, 148, 20), (4, 1, 1, 0, 0), (33, 0, 0, 0, 0), (3, 0, 0, 0, 1), (21, 1, 0, 0, 0), (0, 0, 1, 0, 0), (2, 12, 22, 150, 22), (4, 1, 1, 0, 0), (34, 0, 0, 0, 0), (3, 0, 0, 0, 0), (33, 0, 0, 0, 0), (3, 0, 0, 0, 2), (25, 2, 0, 0, 0), (111, 1, 0, 0, 0)]
abbrev zb_260_1 : List zI0 := [(3, 0, 0, 0, 1), (10, 3, 0, 0, 0)]
abbrev zb_260_2 : List zI0 := [(3, 0, 0, 0, 0), (111, 3, 0, 0, 0)]
abbrev zb_260_3 : List zI0 := [(3, 0, 0, 0, 3), (6, 212, 2, 12, 187), (14, 5, 0, 0, 0), (111, 4, 0, 0, 0)]
abbrev zb_260_4 : List zI0 := [(3, 0, 0, 0, 0), (8, 0, 0, 0, 0)]
abbrev zb_260_5 : List zI0 := [(0, 0, 1, 0, 0), (2, 12, 23, 151, 23), (4, 1, 1, 0, 0), (34, 0, 0, 0, 0), (3, 0, 0, 0, 0), (33, 0, 0, 0, 0), (3, 0, 0, 0, 2), (40, 0, 0, 0, 0), (30, 2, 1, 0, 0), (0, 0, 1, 0, 0), (2, 12, 23, 151, 23), (4, 1, 1, 0, 0), (34, 0, 0, 0, 0), (3, 0, 0, 0, 0), (48, 0, 0, 0, 0), (33, 0, 0, 0, 0), (4, 2, 1, 0, 0), (38, 0, 0, 0, 0), (35, 0, 0, 0, 0), (0, 0, 1, 0, 0), (2, 12, 1, 129, 1), (0, 0, 1, 0, 0), (2, 12, 18, 146, 18), (4, 1, 1, 0, 0), (33, 0, 0, 0, 0), (48, 0, 0, 0, 0), (33, 0, 0, 0, 0), (4, 2, 1, 0, 0), (37, 0, 0, 0, 0), (35, 0, 0, 0, 0), (0, 0, 1, 0, 0), (4, 1, 1, 0, 0), (3, 0, 0, 0, 0), (6, 247, 2, 12, 214), (0, 0, 1, 0, 0), (6, 254, 0, 12, 217), (4, 2, 1, 0, 0), (8, 0, 0, 0, 0)]
abbrev zc_260 : List (List zI0) := [zb_260_0, zb_260_1, zb_260_2, zb_260_3, zb_260_4, zb_260_5]
abbrev zb_261_0 : List zI0 := [(0, 0, 1, 0, 0), (4, 1, 1, 0, 0), (3, 0, 0, 0, 0), (3, 0, 0, 0, 2), (5, 213, 3, 0, 186), (14, 1, 0, 0, 0), (4, 2, 1, 0, 0), (3, 0, 0, 0, 0), (0, 0, 1, 0, 0), (2, 12, 20, 148, 20), (4, 1, 1, 0, 0), (33, 0, 0, 0, 0), (3, 0, 0, 0, 1), (38, 0, 0, 0, 0), (5, 213, 3, 0, 186), (15, 2, 0, 0, 0), (111, 1, 0, 0, 0)]
abbrev zb_261_1 : List zI0 := [(3, 0, 0, 0, 1), (10, 3, 0, 0, 0)]
abbrev zb_261_2 : List zI0 := [(3, 0, 0, 0, 0), (111, 3, 0, 0, 0)]
abbrev zb_261_3 : List zI0 := [(3, 0, 0, 0, 1), (6, 212, 2, 12, 187), (15, 6, 0, 0, 0), (0, 0, 1, 0, 0), (4, 3, 1, 0, 0), (3, 0, 0, 0, 0), (0, 0, 1, 0, 0), (2, 12, 22, 150, 22), (4, 1, 1, 0, 0), (34, 0, 0, 0, 0), (4, 2, 1, 0, 0), (33, 0, 0, 0, 0), (3, 0, 0, 0, 1), (38, 0, 0, 0, 0), (5, 213, 3, 0, 186), (15, 4, 0, 0, 0), (3, 0, 0, 0, 1), (10, 5, 0, 0, 0)]
abbrev zb_261_4 : List zI0 := [(3, 0, 0, 0, 0), (111, 5, 0, 0, 0)]
abbrev zb_261_5 : List zI0 := [(3, 0, 0, 0, 2), (6, 212, 2, 12, 187), (14, 7, 0, 0, 0), (111, 6, 0, 0, 0)]
abbrev zb_261_6 : List zI0 := [(3, 0, 0, 0, 0), (8, 0, 0, 0, 0)]
abbrev zb_261_7 : List zI0 := [(0, 0, 1, 0, 0), (2, 12, 21, 149, 21), (4, 1, 1, 0, 0), (34, 0, 0, 0, 0), (4, 2, 1, 0, 0), (34, 0, 0, 0, 0), (4, 3, 1, 0, 0), (33, 0, 0, 0, 0), (8, 0, 0, 0, 0)]
abbrev zc_261 : List (List zI0) := [zb_261_0, zb_261_1, zb_261_2, zb_261_3, zb_261_4, zb_261_5, zb_261_6, zb_261_7]
abbrev zb_262_0 : List zI0 := [(0, 0, 1, 0, 0), (4, 1, 1, 0, 0), (3, 0, 0, 0, 0), (0, 0, 1, 0, 0), (1, 12, 37, 166, 37), (14, 1, 0, 0, 0), (3, 0, 0, 0, 0), (10, 2, 0, 0, 0)]
abbrev zb_262_1 : List zI0 := [(0, 0, 1, 0, 0), (1, 12, 36, 174, 36), (3, 0, 0, 0, 1), (38, 0, 0, 0, 0), (111, 2, 0, 0, 0)]
abbrev zb_262_2 : List zI0 := [(5, 213, 3, 0, 186), (15, 3, 0, 0, 0), (3, 0, 0, 0, 1), (10, 4, 0, 0, 0)]
abbrev zb_262_3 : List zI0 := [(3, 0, 0, 0, 0), (111, 4, 0, 0, 0)]
abbrev zb_262_4 : List zI0 := [(3, 0, 0, 0, 1), (6, 212, 2, 12, 187), (14, 5, 0, 0, 0), (3, 0, 0, 0, 0), (10, 6, 0, 0, 0)]
abbrev zb_262_5 : List zI0 := [(0, 0, 1, 0, 0), (2, 12, 25, 153, 25), (4, 1, 1, 0, 0), (33, 0, 0, 0, 0), (111, 6, 0, 0, 0)]
abbrev zb_262_6 : List zI0 := [(8, 0, 0, 0, 0)]
abbrev zc_262 : List (List zI0) := [zb_262_0, zb_262_1, zb_262_2, zb_262_3, zb_262_4, zb_262_5, zb_262_6]
abbrev zb_263_0 : List zI0 := [(0, 0, 1, 0, 0), (0, 0, 1, 0, 0), (1, 12, 37, 166, 37), (15, 1, 0, 0, 0), (3, 0, 0, 0, 1), (10, 2, 0, 0, 0)]
abbrev zb_263_1 : List zI0 := [(3, 0, 0, 0, 0), (111, 2, 0, 0, 0)]
abbrev zb_263_2 : List zI0 := [(3, 0, 0, 0, 1), (6, 212, 2, 12, 187), (14, 3, 0, 0, 0), (3, 0, 0, 0, 0), (10, 4, 0, 0, 0)]
abbrev zb_263_3 : List zI0 := [(0, 0, 1, 0, 0), (6, 246, 0, 12, 192), (3, 1, 0, 0, 10), (41, 0, 0, 0, 0), (111, 4, 0, 0, 0)]
abbrev zb_263_4 : List zI0 := [(8, 0, 0, 0, 0)]
abbrev zc_263 : List (List zI0) := [zb_263_0, zb_263_1, zb_263_2, zb_263_3, zb_263_4]
abbrev zb_264_0 : List zI0 := [(0, 0, 1, 0, 0), (1, 12, 37, 166, 37), (14, 1, 0, 0, 0), (0, 0, 1, 0, 0), (2, 12, 25, 153, 25), (3, 0, 0, 0, 1), (33, 0, 0, 0, 0), (4, 1, 1, 0, 0), (21, 1, 0, 0, 0), (3, 0, 0, 0, 1), (10, 2, 0, 0, 0)]
abbrev zb_264_1 : List zI0 := [(3, 0, 0, 0, 0), (111, 2, 0, 0, 0)]
abbrev zb_264_2 : List zI0 := [(30, 2, 1, 0, 0), (3, 0, 0, 0, 0), (30, 3, 1, 0, 0), (111, 3, 0, 0, 0)]
abbrev zb_264_3 : List zI0 := [(4, 3, 1, 0, 0), (0, 0, 1, 0, 0), (1, 12, 35, 173, 35), (23, 6, 0, 0, 0), (4, 2, 1, 0, 0), (0, 0, 1, 0, 0), (2, 12, 14, 142, 14), (4, 3, 1, 0, 0), (33, 0, 0, 0, 0), (4, 1, 1, 0, 0), (21, 4, 0, 0, 0), (3, 0, 0, 0, 1), (10, 5, 0, 0, 0)]
abbrev zb_264_4 : List zI0 := [(3, 0, 0, 0, 0), (111, 5, 0, 0, 0)]
abbrev zb_264_5 : List zI0 := [(37, 0, 0, 0, 0), (30, 2, 1, 0, 0), (32, 3, 0, 0, 1), (10, 3, 0, 0, 0)]
abbrev zb_264_6 : List zI0 := [(4, 2, 1, 0, 0), (8, 0, 0, 0, 0)]
abbrev zc_264 : List (List zI0) := [zb_264_0, zb_264_1, zb_264_2, zb_264_3, zb_264_4, zb_264_5, zb_264_6]
abbrev zb_265_0 : List zI0 := [(0, 0, 1, 0, 0), (1, 12, 35, 173, 35), (0, 0, 1, 0, 0), (1, 12, 37, 166, 37), (14, 1, 0, 0, 0), (3, 0, 0, 0, 1), (10, 2, 0, 0, 0)]
abbrev zb_265_1 : List zI0 := [(3, 0, 0, 0, 0), (111, 2, 0, 0, 0)]
abbrev zb_265_2 : List zI0 := [(37, 0, 0, 0, 0), (8, 0, 0, 0, 0)]
abbrev zc_265 : List (List zI0) := [zb_265_0, zb_265_1, zb_265_2]
abbrev zb_266_0 : List zI0 := [(0, 0, 1, 0, 0), (4, 1, 1, 0, 0), (3, 0, 0, 0, 1), (3, 1, 0, 0, 10), (5, 213, 3, 0, 186), (15, 1, 0, 0, 0), (3, 0, 0, 0, 1), (10, 2, 0, 0, 0)]
abbrev zb_266_1 : List zI0 := [(3, 0, 0, 0, 0), (111, 2, 0, 0, 0)]
abbrev zb_266_2 : List zI0 := [(3, 0, 0, 0, 1), (6, 212, 2, 12, 187), (14, 3, 0, 0, 0), (3, 0, 0, 0, 0), (10, 4, 0, 0, 0)]
abbrev zb_266_3 : List zI0 := [(0, 0, 1, 0, 0), (4, 1, 1, 0, 0), (6, 264, 1, 12, 218), (111, 4, 0, 0, 0)]
abbrev zb_266_4 : List zI0 := [(8, 0, 0, 0, 0)]
abbrev zc_266 : List (List zI0) := [zb_266_0, zb_266_1, zb_266_2, zb_266_3, zb_266_4]
abbrev zb_267_0 : List zI0 := [(73, 0, 1, 0, 0), (74, 4, 0, 0, 0), (73, 2, 1, 0, 0), (74, 6, 0, 0, 0), (111, 1, 0, 0, 0)]
abbrev zb_267_1 : List zI0 := [(73, 6, 0, 0, 0), (64, 0, 0, 0, 0), (72, 0, 0, 0, 0), (14, 2, 0, 0, 0), (73, 4, 0, 0, 0), (73, 6, 0, 0, 0), (71, 0, 0, 0, 0), (74, 8, 0, 0, 0), (73, 6, 0, 0, 0), (74, 4, 0, 0, 0), (73, 8, 0, 0, 0), (74, 6, 0, 0, 0), (10, 1, 0, 0, 0)]
abbrev zb_267_2 : List zI0 := [(73, 4, 0, 0, 0), (52, 0, 0, 0, 0)]
abbrev zc_267 : List (List zI0) := [zb_267_0, zb_267_1, zb_267_2]
abbrev zb_268_0 : List zI0 := [(3, 0, 0, 0, 0), (30, 2, 1, 0, 0), (3, 0, 0, 0, 1), (30, 3, 1, 0, 0), (111, 1, 0, 0, 0)]
abbrev zb_268_1 : List zI0 := [(4, 3, 1, 0, 0), (3, 1, 0, 0, 11), (23, 4, 0, 0, 0), (4, 2, 1, 0, 0), (4, 1, 1, 0, 0), (4, 3, 1, 0, 0), (37, 0, 0, 0, 0), (3, 1, 0, 0, 21), (25, 2, 0, 0, 0), (0, 0, 1, 0, 0), (4, 3, 1, 0, 0), (6, 264, 1, 12, 218), (10, 3, 0, 0, 0)]
abbrev zb_268_2 : List zI0 := [(3, 0, 0, 0, 0), (111, 3, 0, 0, 0)]
abbrev zb_268_3 : List zI0 := [(37, 0, 0, 0, 0), (30, 2, 1, 0, 0), (32, 3, 0, 0, 1), (10, 1, 0, 0, 0)]
abbrev zb_268_4 : List zI0 := [(4, 2, 1, 0, 0), (8, 0, 0, 0, 0)]
abbrev zc_268 : List (List zI0) := [zb_268_0, zb_268_1, zb_268_2, zb_268_3, zb_268_4]
abbrev zb_269_0 : List zI0 := [(0, 0, 1, 0, 0), (4, 1, 1, 0, 0), (3, 0, 0, 0, 4), (3, 1, 0, 0, 21), (5, 213, 3, 0, 186), (15, 1, 0, 0, 0), (3, 0, 0, 0, 1), (10, 2, 0, 0, 0)]
abbrev zb_269_1 : List zI0 := [(3, 0, 0, 0, 0), (111, 2, 0, 0, 0)]
abbrev zb_269_2 : List zI0 := [(3, 0, 0, 0, 1), (6, 212, 2, 12, 187), (15, 5, 0, 0, 0), (0, 0, 1, 0, 0), (0, 0, 1, 0, 0), (6, 265, 0, 12, 203), (15, 3, 0, 0, 0), (3, 0, 0, 0, 1), (10, 4, 0, 0, 0)]
abbrev zb_269_3 : List zI0 := [(3, 0, 0, 0, 0), (111, 4, 0, 0, 0)]
abbrev zb_269_4 : List zI0 := [(3, 0, 0, 0, 2), (6, 212, 2, 12, 187), (14, 6, 0, 0, 0), (111, 5, 0, 0, 0)]
abbrev zb_269_5 : List zI0 := [(64, 0, 0, 0, 0), (52, 0, 0, 0, 0)]
abbrev zb_269_6 : List zI0 := [(0, 0, 1, 0, 0), (4, 1, 1, 0, 0), (6, 268, 1, 12, 219), (30, 3, 1, 0, 0), (4, 2, 1, 0, 0), (14, 7, 0, 0, 0), (4, 3, 1, 0, 0), (10, 8, 0, 0, 0)]
abbrev zb_269_7 : List zI0 := [(0, 0, 1, 0, 0), (6, 265, 0, 12, 203), (111, 8, 0, 0, 0)]
abbrev zb_269_8 : List zI0 := [(65, 0, 0, 0, 0), (4, 3, 1, 0, 0), (65, 0, 0, 0, 0), (0, 0, 1, 0, 0), (6, 265, 0, 12, 203), (65, 0, 0, 0, 0), (5, 267, 2, 0, 220), (70, 0, 0, 0, 0), (52, 0, 0, 0, 0)]
abbrev zc_269 : List (List zI0) := [zb_269_0, zb_269_1, zb_269_2, zb_269_3, zb_269_4, zb_269_5, zb_269_6, zb_269_7, zb_269_8]
abbrev zb_270_0 : List zI0 := [(0, 0, 1, 0, 0), (4, 1, 1, 0, 0), (3, 0, 0, 0, 1), (6, 269, 2, 12, 221), (52, 0, 0, 0, 0)]
abbrev zc_270 : List (List zI0) := [zb_270_0]
abbrev zb_271_0 : List zI0 := [(0, 0, 1, 0, 0), (4, 1, 1, 0, 0), (3, 0, 0, 0, 0), (6, 269, 2, 12, 221), (52, 0, 0, 0, 0)]
abbrev zc_271 : List (List zI0) := [zb_271_0]
abbrev zb_272_0 : List zI0 := [(4, 2, 1, 0, 0), (14, 1, 0, 0, 0), (4, 1, 1, 0, 0), (3, 1, 0, 0, 11), (24, 1, 0, 0, 0), (3, 0, 0, 0, 1), (10, 2, 0, 0, 0)]
abbrev zb_272_1 : List zI0 := [(3, 0, 0, 0, 0), (111, 2, 0, 0, 0)]
abbrev zb_272_2 : List zI0 := [(30, 5, 0, 0, 0), (4, 5, 0, 0, 0), (14, 3, 0, 0, 0), (4, 1, 1, 0, 0), (3, 1, 0, 0, 10), (37, 0, 0, 0, 0), (10, 4, 0, 0, 0)]
abbrev zb_272_3 : List zI0 := [(4, 1, 1, 0, 0), (111, 4, 0, 0, 0)]
abbrev zb_272_4 : List zI0 := [(30, 6, 0, 0, 0), (0, 0, 1, 0, 0), (4, 6, 0, 0, 0), (4, 5, 0, 0, 0), (6, 250, 2, 12, 211), (14, 7, 0, 0, 0), (4, 6, 0, 0, 0), (3, 1, 0, 0, 22), (5, 327, 2, 0, 189), (4, 4, 0, 0, 0), (21, 5, 0, 0, 0), (77, 1, 0, 0, 0), (10, 6, 0, 0, 0)]
abbrev zb_272_5 : List zI0 := [(77, 0, 0, 0, 0), (111, 6, 0, 0, 0)]
abbrev zb_272_6 : List zI0 := [(53, 0, 0, 0, 0)]
abbrev zb_272_7 : List zI0 := [(77, 0, 0, 0, 0), (79, 7, 0, 0, 0), (3, 0, 0, 0, 1), (30, 9, 0, 0, 0), (111, 8, 0, 0, 0)]
abbrev zb_272_8 : List zI0 := [(4, 9, 0, 0, 0), (3, 1, 0, 0, 11), (23, 13, 0, 0, 0), (0, 0, 1, 0, 0), (2, 12, 16, 144, 16), (4, 9, 0, 0, 0), (33, 0, 0, 0, 0), (19, 12, 0, 0, 0), (0, 0, 1, 0, 0), (2, 12, 16, 144, 16), (4, 9, 0, 0, 0), (33, 0, 0, 0, 0), (86, 0, 0, 0, 0), (4, 3, 1, 0, 0), (86, 0, 0, 0, 0), (84, 0, 0, 0, 0), (79, 10, 0, 0, 0), (0, 0, 1, 0, 0), (2, 12, 16, 144, 16), (4, 9, 0, 0, 0), (48, 0, 0, 0, 0), (33, 0, 0, 0, 0), (3, 0, 0, 0, 1), (38, 0, 0, 0, 0), (35, 0, 0, 0, 0), (78, 7, 0, 0, 0), (78, 10, 0, 0, 0), (0, 0, 1, 0, 0), (4, 1, 1, 0, 0), (4, 9, 0, 0, 0), (37, 0, 0, 0, 0), (4, 2, 1, 0, 0), (15, 9, 0, 0, 0), (4, 9, 0, 0, 0), (3, 0, 0, 0, 1), (21, 10, 0, 0, 0), (111, 9, 0, 0, 0)]
abbrev zb_272_9 : List zI0 := [(3, 0, 0, 0, 1), (10, 11, 0, 0, 0)]
abbrev zb_272_10 : List zI0 := [(3, 0, 0, 0, 0), (111, 11, 0, 0, 0)]
abbrev zb_272_11 : List zI0 := [(4, 3, 1, 0, 0), (3, 0, 0, 0, 1), (38, 0, 0, 0, 0), (4, 4, 0, 0, 0), (6, 272, 4, 12, 222), (83, 0, 0, 0, 0), (82, 0, 0, 0, 0), (79, 7, 0, 0, 0), (0, 0, 1, 0, 0), (2, 12, 16, 144, 16), (4, 9, 0, 0, 0), (48, 0, 0, 0, 0), (33, 0, 0, 0, 0), (3, 0, 0, 0, 1), (37, 0, 0, 0, 0), (35, 0, 0, 0, 0), (111, 12, 0, 0, 0)]
abbrev zb_272_12 : List zI0 := [(32, 9, 0, 0, 1), (10, 8, 0, 0, 0)]
abbrev zb_272_13 : List zI0 := [(78, 7, 0, 0, 0), (53, 0, 0, 0, 0)]
abbrev zc_272 : List (List zI0) := [zb_272_0, zb_272_1, zb_272_2, zb_272_3, zb_272_4, zb_272_5, zb_272_6, zb_272_7, zb_272_8, zb_272_9, zb_272_10, zb_272_11, zb_272_12, zb_272_13]
abbrev zb_273_0 : List zI0 := [(0, 0, 1, 0, 0), (4, 1, 1, 0, 0), (3, 1, 0, 0, 17), (3, 1, 0, 0, 22), (5, 213, 3, 0, 186), (15, 1, 0, 0, 0), (3, 0, 0, 0, 1), (10, 2, 0, 0, 0)]
abbrev zb_273_1 : List zI0 := [(3, 0, 0, 0, 0), (111, 2, 0, 0, 0)]
abbrev zb_273_2 : List zI0 := [(3, 0, 0, 0, 1), (6, 212, 2, 12, 187), (15, 5, 0, 0, 0), (0, 0, 1, 0, 0), (0, 0, 1, 0, 0), (1, 12, 37, 166, 37), (15, 3, 0, 0, 0), (3, 0, 0, 0, 1), (10, 4, 0, 0, 0)]
abbrev zb_273_3 : List zI0 := [(3, 0, 0, 0, 0), (111, 4, 0, 0, 0)]
abbrev zb_273_4 : List zI0 := [(3, 0, 0, 0, 2), (6, 212, 2, 12, 187), (14, 6, 0, 0, 0), (111, 5, 0, 0, 0)]
abbrev zb_273_5 : List zI0 := [(77, 0, 0, 0, 0), (53, 0, 0, 0, 0)]
abbrev zb_273_6 : List zI0 := [(3, 0, 0, 0, 1), (30, 2, 1, 0, 0), (111, 7, 0, 0, 0)]
abbrev zb_273_7 : List zI0 := [(4, 2, 1, 0, 0), (3, 1, 0, 0, 11), (23, 8, 0, 0, 0), (0, 0, 1, 0, 0), (2, 12, 16, 144, 16), (4, 2, 1, 0, 0), (0, 0, 1, 0, 0), (4, 2, 1, 0, 0), (6, 264, 1, 12, 218), (35, 0, 0, 0, 0), (32, 2, 0, 0, 1), (10, 7, 0, 0, 0)]
abbrev zb_273_8 : List zI0 := [(0, 0, 1, 0, 0), (0, 0, 1, 0, 0), (2, 12, 25, 153, 25), (3, 0, 0, 0, 0), (33, 0, 0, 0, 0), (0, 0, 1, 0, 0), (2, 12, 25, 153, 25), (3, 0, 0, 0, 0), (33, 0, 0, 0, 0), (3, 0, 0, 0, 1), (21, 9, 0, 0, 0), (3, 0, 0, 0, 1), (10, 10, 0, 0, 0)]
abbrev zb_273_9 : List zI0 := [(3, 0, 0, 0, 0), (111, 10, 0, 0, 0)]
abbrev zb_273_10 : List zI0 := [(0, 0, 1, 0, 0), (6, 265, 0, 12, 203), (4, 1, 1, 0, 0), (6, 272, 4, 12, 222), (53, 0, 0, 0, 0)]
abbrev zc_273 : List (List zI0) := [zb_273_0, zb_273_1, zb_273_2, zb_273_3, zb_273_4, zb_273_5, zb_273_6, zb_273_7, zb_273_8, zb_273_9, zb_273_10]
abbrev zb_274_0 : List zI0 := [(0, 0, 1, 0, 0), (4, 1, 1, 0, 0), (3, 0, 0, 0, 1), (3, 1, 0, 0, 10), (5, 213, 3, 0, 186), (14, 1, 0, 0, 0), (4, 2, 1, 0, 0), (3, 1, 0, 0, (-3)), (3, 0, 0, 0, 3), (5, 213, 3, 0, 186), (15, 2, 0, 0, 0), (111, 1, 0, 0, 0)]
abbrev zb_274_1 : List zI0 := [(3, 0, 0, 0, 1), (10, 3, 0, 0, 0)]
abbrev zb_274_2 : List zI0 := [(3, 0, 0, 0, 0), (111, 3, 0, 0, 0)]
abbrev zb_274_3 : List zI0 := [(3, 0, 0, 0, 1), (6, 212, 2, 12, 187), (14, 4, 0, 0, 0), (3, 0, 0, 0, 0), (8, 0, 0, 0, 0)]
abbrev zb_274_4 : List zI0 := [(0, 0, 1, 0, 0), (2, 12, 17, 145, 17), (4, 1, 1, 0, 0), (33, 0, 0, 0, 0), (30, 3, 1, 0, 0), (0, 0, 1, 0, 0), (2, 12, 17, 145, 17), (4, 1, 1, 0, 0), (4, 2, 1, 0, 0), (35, 0, 0, 0, 0), (4, 3, 1, 0, 0), (8, 0, 0, 0, 0)]
abbrev zc_274 : List (List zI0) := [zb_274_0, zb_274_1, zb_274_2, zb_274_3, zb_274_4]
abbrev zb_275_0 : List zI0 := [(3, 0, 0, 0, 0), (30, 1, 1, 0, 0), (3, 0, 0, 0, 1), (30, 2, 1, 0, 0), (111, 1, 0, 0, 0)]
abbrev zb_275_1 : List zI0 := [(4, 2, 1, 0, 0), (3, 1, 0, 0, 11), (23, 2, 0, 0, 0), (4, 1, 1, 0, 0), (0, 0, 1, 0, 0), (2, 12, 17, 145, 17), (4, 2, 1, 0, 0), (33, 0, 0, 0, 0), (0, 0, 1, 0, 0), (1, 12, 34, 172, 34), (4, 2, 1, 0, 0), (5, 233, 1, 0, 197), (39, 0, 0, 0, 0), (0, 0, 1, 0, 0), (4, 2, 1, 0, 0), (6, 264, 1, 12, 218), (38, 0, 0, 0, 0), (39, 0, 0, 0, 0), (37, 0, 0, 0, 0), (30, 1, 1, 0, 0), (32, 2, 0, 0, 1), (10, 1, 0, 0, 0)]
abbrev zb_275_2 : List zI0 := [(4, 1, 1, 0, 0), (8, 0, 0, 0, 0)]
abbrev zc_275 : List (List zI0) := [zb_275_0, zb_275_1, zb_275_2]
abbrev zb_276_0 : List zI0 := [(0, 0, 1, 0, 0), (3, 0, 0, 0, 0), (11, 12, 49, 163, 49), (0, 0, 1, 0, 0), (6, 275, 0, 12, 204), (8, 0, 0, 0, 0)]
abbrev zc_276 : List (List zI0) := [zb_276_0]
abbrev zb_277_0 : List zI0 := [(0, 0, 1, 0, 0), (0, 0, 1, 0, 0), (6, 265, 0, 12, 203), (15, 1, 0, 0, 0), (3, 0, 0, 0, 1), (10, 2, 0, 0, 0)]
abbrev zb_277_1 : List zI0 := [(3, 0, 0, 0, 0), (111, 2, 0, 0, 0)]
abbrev zb_277_2 : List zI0 := [(3, 0, 0, 0, 1), (6, 212, 2, 12, 187), (14, 3, 0, 0, 0), (3, 0, 0, 0, 0), (10, 4, 0, 0, 0)]
abbrev zb_277_3 : List zI0 := [(0, 0, 1, 0, 0), (6, 275, 0, 12, 204), (3, 1, 0, 0, 52), (39, 0, 0, 0, 0), (0, 0, 1, 0, 0), (6, 265, 0, 12, 203), (40, 0, 0, 0, 0), (111, 4, 0, 0, 0)]
abbrev zb_277_4 : List zI0 := [(8, 0, 0, 0, 0)]
abbrev zc_277 : List (List zI0) := [zb_277_0, zb_277_1, zb_277_2, zb_277_3, zb_277_4]
abbrev zb_278_0 : List zI0 := [(0, 0, 1, 0, 0), (0, 0, 1, 0, 0), (4, 1, 1, 0, 0), (6, 214, 1, 12, 188), (3, 0, 0, 0, 1), (6, 212, 2, 12, 187), (14, 1, 0, 0, 0), (3, 0, 0, 0, 0), (9, 0, 0, 0, 0)]
abbrev zb_278_1 : List zI0 := [(0, 0, 1, 0, 0), (2, 12, 9, 137, 9), (4, 1, 1, 0, 0), (34, 0, 0, 0, 0), (31, 2, 1, 0, 0), (0, 0, 1, 0, 0), (2, 12, 8, 136, 8), (4, 1, 1, 0, 0), (34, 0, 0, 0, 0), (31, 3, 1, 0, 0), (0, 2, 1, 0, 0), (3, 0, 0, 0, 0), (33, 0, 0, 0, 0), (3, 0, 0, 0, 3), (22, 2, 0, 0, 0), (0, 2, 1, 0, 0), (3, 0, 0, 0, 1), (33, 0, 0, 0, 0), (3, 0, 0, 0, 3), (22, 2, 0, 0, 0), (0, 3, 1, 0, 0), (3, 0, 0, 0, 1), (33, 0, 0, 0, 0), (65, 0, 0, 0, 0), (0, 2, 1, 0, 0), (3, 0, 0, 0, 0), (33, 0, 0, 0, 0), (65, 0, 0, 0, 0), (69, 0, 0, 0, 0), (64, 1, 12, 0, 3), (0, 3, 1, 0, 0), (3, 0, 0, 0, 0), (33, 0, 0, 0, 0), (65, 0, 0, 0, 0), (69, 0, 0, 0, 0), (0, 2, 1, 0, 0), (3, 0, 0, 0, 1), (33, 0, 0, 0, 0), (65, 0, 0, 0, 0), (69, 0, 0, 0, 0), (72, 0, 0, 0, 0), (16, 2, 0, 0, 0), (3, 0, 0, 0, 1), (10, 3, 0, 0, 0)]
abbrev zb_278_2 : List zI0 := [(3, 0, 0, 0, 0), (111, 3, 0, 0, 0)]
abbrev zb_278_3 : List zI0 := [(9, 0, 0, 0, 0)]
abbrev zc_278 : List (List zI0) := [zb_278_0, zb_278_1, zb_278_2, zb_278_3]
abbrev zb_279_0 : List zI0 := [(0, 0, 1, 0, 0), (3, 0, 0, 0, 0), (11, 12, 49, 163, 49), (0, 0, 1, 0, 0), (1, 12, 38, 175, 38), (8, 0, 0, 0, 0)]
abbrev zc_279 : List (List zI0) := [zb_279_0]
abbrev zb_280_0 : List zI0 := [(4, 2, 1, 0, 0), (3, 1, 0, 0, 114), (20, 2, 0, 0, 0), (4, 2, 1, 0, 0), (3, 1, 0, 0, 98), (20, 2, 0, 0, 0), (4, 2, 1, 0, 0), (3, 1, 0, 0, 110), (21, 1, 0, 0, 0), (4, 3, 1, 0, 0), (3, 0, 0, 0, 0), (3, 1, 0, 0, 36), (5, 213, 3, 0, 186), (15, 2, 0, 0, 0), (111, 1, 0, 0, 0)]
abbrev zb_280_1 : List zI0 := [(4, 2, 1, 0, 0), (3, 1, 0, 0, 100), (21, 3, 0, 0, 0), (4, 3, 1, 0, 0), (3, 0, 0, 0, 0), (3, 0, 0, 0, 2), (5, 213, 3, 0, 186), (14, 3, 0, 0, 0), (111, 2, 0, 0, 0)]
abbrev zb_280_2 : List zI0 := [(3, 0, 0, 0, 1), (10, 4, 0, 0, 0)]
abbrev zb_280_3 : List zI0 := [(3, 0, 0, 0, 0), (111, 4, 0, 0, 0)]
abbrev zb_280_4 : List zI0 := [(30, 5, 0, 0, 0), (0, 0, 1, 0, 0), (0, 0, 1, 0, 0), (4, 1, 1, 0, 0), (6, 214, 1, 12, 188), (3, 0, 0, 0, 1), (6, 212, 2, 12, 187), (15, 12, 0, 0, 0), (0, 0, 1, 0, 0), (4, 5, 0, 0, 0), (14, 5, 0, 0, 0), (4, 4, 0, 0, 0), (3, 0, 0, 0, 1), (3, 2, 0, 0, 500), (5, 213, 3, 0, 186), (15, 6, 0, 0, 0), (111, 5, 0, 0, 0)]
abbrev zb_280_5 : List zI0 := [(3, 0, 0, 0, 1), (10, 7, 0, 0, 0)]
abbrev zb_280_6 : List zI0 := [(3, 0, 0, 0, 0), (111, 7, 0, 0, 0)]
abbrev zb_280_7 : List zI0 := [(3, 0, 0, 0, 2), (6, 212, 2, 12, 187), (15, 12, 0, 0, 0), (0, 0, 1, 0, 0), (0, 0, 1, 0, 0), (4, 1, 1, 0, 0), (4, 4, 0, 0, 0), (6, 220, 2, 12, 201), (15, 8, 0, 0, 0), (3, 0, 0, 0, 1), (10, 9, 0, 0, 0)]
abbrev zb_280_8 : List zI0 := [(3, 0, 0, 0, 0), (111, 9, 0, 0, 0)]
abbrev zb_280_9 : List zI0 := [(3, 0, 0, 0, 3), (6, 212, 2, 12, 187), (15, 12, 0, 0, 0), (0, 0, 1, 0, 0), (0, 0, 1, 0, 0), (1, 12, 39, 167, 39), (3, 1, 0, 0, 10), (21, 10, 0, 0, 0), (3, 0, 0, 0, 1), (10, 11, 0, 0, 0)]
abbrev zb_280_10 : List zI0 := [(3, 0, 0, 0, 0), (111, 11, 0, 0, 0)]
abbrev zb_280_11 : List zI0 := [(3, 0, 0, 0, 4), (6, 212, 2, 12, 187), (14, 13, 0, 0, 0), (111, 12, 0, 0, 0)]
abbrev zb_280_12 : List zI0 := [(3, 0, 0, 0, 0), (8, 0, 0, 0, 0)]
abbrev zb_280_13 : List zI0 := [(0, 0, 1, 0, 0), (4, 1, 1, 0, 0), (4, 4, 0, 0, 0), (6, 221, 2, 12, 202), (3, 0, 0, 0, 4), (58, 0, 0, 0, 0), (47, 0, 0, 0, 0), (3, 0, 0, 0, 0), (4, 1, 1, 0, 0), (35, 0, 0, 0, 0), (47, 0, 0, 0, 0), (3, 0, 0, 0, 1), (4, 2, 1, 0, 0), (35, 0, 0, 0, 0), (47, 0, 0, 0, 0), (3, 0, 0, 0, 2), (4, 3, 1, 0, 0), (35, 0, 0, 0, 0), (47, 0, 0, 0, 0), (3, 0, 0, 0, 3), (4, 4, 0, 0, 0), (35, 0, 0, 0, 0), (31, 6, 0, 0, 0), (0, 6, 0, 0, 0), (3, 0, 0, 0, 0), (0, 0, 1, 0, 0), (2, 12, 26, 154, 26), (0, 0, 1, 0, 0), (1, 12, 39, 167, 39), (34, 0, 0, 0, 0), (3, 0, 0, 0, 0), (3, 0, 0, 0, 4), (106, 0, 0, 0, 163), (0, 0, 1, 0, 0), (47, 0, 0, 0, 0), (1, 12, 39, 167, 39), (3, 0, 0, 0, 1), (37, 0, 0, 0, 0), (11, 12, 39, 167, 39), (0, 0, 1, 0, 0), (1, 12, 39, 167, 39), (8, 0, 0, 0, 0)]
abbrev zc_280 : List (List zI0) := [zb_280_0, zb_280_1, zb_280_2, zb_280_3, zb_280_4, zb_280_5, zb_280_6, zb_280_7, zb_280_8, zb_280_9, zb_280_10, zb_280_11, zb_280_12, zb_280_13]
abbrev zb_281_0 : List zI0 := [(4, 0, 1, 0, 0), (3, 0, 0, 0, 2), (41, 0, 0, 0, 0), (3, 0, 0, 0, 1), (21, 1, 0, 0, 0), (3, 0, 0, 0, 1), (10, 2, 0, 0, 0)]
abbrev zb_281_1 : List zI0 := [(3, 0, 0, 0, 0), (111, 2, 0, 0, 0)]
abbrev zb_281_2 : List zI0 := [(30, 1, 1, 0, 0), (4, 0, 1, 0, 0), (3, 0, 0, 0, 1), (3, 1, 0, 0, 10), (5, 213, 3, 0, 186), (15, 3, 0, 0, 0), (4, 0, 1, 0, 0), (3, 1, 0, 0, 19), (3, 1, 0, 0, 28), (5, 213, 3, 0, 186), (14, 4, 0, 0, 0), (111, 3, 0, 0, 0)]
abbrev zb_281_3 : List zI0 := [(3, 0, 0, 0, 1), (10, 5, 0, 0, 0)]
abbrev zb_281_4 : List zI0 := [(3, 0, 0, 0, 0), (111, 5, 0, 0, 0)]
abbrev zb_281_5 : List zI0 := [(30, 2, 1, 0, 0), (4, 0, 1, 0, 0), (19, 6, 0, 0, 0), (4, 1, 1, 0, 0), (4, 2, 1, 0, 0), (21, 6, 0, 0, 0), (3, 0, 0, 0, 1), (10, 7, 0, 0, 0)]
abbrev zb_281_6 : List zI0 := [(3, 0, 0, 0, 0), (111, 7, 0, 0, 0)]
abbrev zb_281_7 : List zI0 := [(9, 0, 0, 0, 0)]
abbrev zc_281 : List (List zI0) := [zb_281_0, zb_281_1, zb_281_2, zb_281_3, zb_281_4, zb_281_5, zb_281_6, zb_281_7]
abbrev zb_282_0 : List zI0 := [(4, 0, 1, 0, 0), (3, 1, 0, 0, 110), (21, 3, 0, 0, 0), (4, 1, 1, 0, 0), (4, 2, 1, 0, 0), (21, 1, 0, 0, 0), (3, 1, 0, 0, 35), (10, 2, 0, 0, 0)]
abbrev zb_282_1 : List zI0 := [(3, 0, 0, 0, (-1)), (111, 2, 0, 0, 0)]
abbrev zb_282_2 : List zI0 := [(8, 0, 0, 0, 0)]
abbrev zb_282_3 : List zI0 := [(4, 0, 1, 0, 0), (3, 1, 0, 0, 100), (21, 6, 0, 0, 0), (4, 2, 1, 0, 0), (19, 4, 0, 0, 0), (4, 2, 1, 0, 0), (3, 0, 0, 0, 1), (38, 0, 0, 0, 0), (3, 1, 0, 0, 12), (40, 0, 0, 0, 0), (4, 1, 1, 0, 0), (21, 4, 0, 0, 0), (3, 0, 0, 0, 2), (10, 5, 0, 0, 0)]
abbrev zb_282_4 : List zI0 := [(3, 0, 0, 0, (-1)), (111, 5, 0, 0, 0)]
abbrev zb_282_5 : List zI0 := [(8, 0, 0, 0, 0)]
abbrev zb_282_6 : List zI0 := [(4, 2, 1, 0, 0), (19, 9, 0, 0, 0), (4, 2, 1, 0, 0), (5, 281, 1, 0, 223), (4, 0, 1, 0, 0), (3, 1, 0, 0, 114), (21, 7, 0, 0, 0), (3, 0, 0, 0, 1), (10, 8, 0, 0, 0)]
abbrev zb_282_7 : List zI0 := [(3, 0, 0, 0, 0), (111, 8, 0, 0, 0)]
abbrev zb_282_8 : List zI0 := [(21, 9, 0, 0, 0), (3, 0, 0, 0, 1), (10, 10, 0, 0, 0)]
abbrev zb_282_9 : List zI0 := [(3, 0, 0, 0, (-1)), (111, 10, 0, 0, 0)]
abbrev zb_282_10 : List zI0 := [(8, 0, 0, 0, 0)]
abbrev zc_282 : List (List zI0) := [zb_282_0, zb_282_1, zb_282_2, zb_282_3, zb_282_4, zb_282_5, zb_282_6, zb_282_7, zb_282_8, zb_282_9, zb_282_10]
abbrev zb_283_0 : List zI0 := [(0, 0, 1, 0, 0), (4, 1, 1, 0, 0), (3, 0, 0, 0, 0), (3, 1, 0, 0, 36), (5, 213, 3, 0, 186), (15, 1, 0, 0, 0), (3, 0, 0, 0, 1), (10, 2, 0, 0, 0)]
abbrev zb_283_1 : List zI0 := [(3, 0, 0, 0, 0), (111, 2, 0, 0, 0)]
abbrev zb_283_2 : List zI0 := [(3, 0, 0, 0, 1), (6, 212, 2, 12, 187), (14, 3, 0, 0, 0), (3, 0, 0, 0, 0), (8, 0, 0, 0, 0)]
abbrev zb_283_3 : List zI0 := [(3, 0, 0, 0, 0), (30, 2, 1, 0, 0), (3, 0, 0, 0, 0), (30, 3, 1, 0, 0), (111, 4, 0, 0, 0)]
abbrev zb_283_4 : List zI0 := [(4, 3, 1, 0, 0), (0, 0, 1, 0, 0), (1, 12, 39, 167, 39), (23, 13, 0, 0, 0), (0, 0, 1, 0, 0), (2, 12, 26, 154, 26), (4, 3, 1, 0, 0), (34, 0, 0, 0, 0), (3, 0, 0, 0, 1), (33, 0, 0, 0, 0), (0, 0, 1, 0, 0), (2, 12, 26, 154, 26), (4, 3, 1, 0, 0), (34, 0, 0, 0, 0), (3, 0, 0, 0, 2), (33, 0, 0, 0, 0), (4, 1, 1, 0, 0), (5, 282, 3, 0, 224), (30, 4, 0, 0, 0), (0, 0, 1, 0, 0), (2, 12, 26, 154, 26), (4, 3, 1, 0, 0), (34, 0, 0, 0, 0), (3, 0, 0, 0, 3), (33, 0, 0, 0, 0), (30, 5, 0, 0, 0), (0, 0, 1, 0, 0), (2, 12, 10, 138, 10), (3, 0, 0, 0, 1), (48, 0, 0, 0, 0), (33, 0, 0, 0, 0), (4, 4, 0, 0, 0), (17, 5, 0, 0, 0), (4, 5, 0, 0, 0), (10, 6, 0, 0, 0)]
abbrev zb_283_5 : List zI0 := [(3, 0, 0, 0, 0), (111, 6, 0, 0, 0)]
abbrev zb_283_6 : List zI0 := [(37, 0, 0, 0, 0), (35, 0, 0, 0, 0), (0, 0, 1, 0, 0), (2, 12, 1, 129, 1), (0, 0, 1, 0, 0), (2, 12, 26, 154, 26), (4, 3, 1, 0, 0), (34, 0, 0, 0, 0), (3, 0, 0, 0, 0), (33, 0, 0, 0, 0), (48, 0, 0, 0, 0), (33, 0, 0, 0, 0), (4, 4, 0, 0, 0), (17, 7, 0, 0, 0), (3, 0, 0, 0, 0), (10, 8, 0, 0, 0)]
abbrev zb_283_7 : List zI0 := [(4, 5, 0, 0, 0), (111, 8, 0, 0, 0)]
abbrev zb_283_8 : List zI0 := [(37, 0, 0, 0, 0), (35, 0, 0, 0, 0), (0, 0, 1, 0, 0), (3, 0, 0, 0, 1), (0, 0, 1, 0, 0), (2, 12, 26, 154, 26), (4, 3, 1, 0, 0), (34, 0, 0, 0, 0), (3, 0, 0, 0, 0), (33, 0, 0, 0, 0), (4, 4, 0, 0, 0), (17, 9, 0, 0, 0), (3, 0, 0, 0, 0), (10, 10, 0, 0, 0)]
abbrev zb_283_9 : List zI0 := [(4, 4, 0, 0, 0), (4, 5, 0, 0, 0), (39, 0, 0, 0, 0), (111, 10, 0, 0, 0)]
abbrev zb_283_10 : List zI0 := [(6, 222, 3, 12, 208), (4, 2, 1, 0, 0), (4, 4, 0, 0, 0), (17, 11, 0, 0, 0), (3, 0, 0, 0, 0), (10, 12, 0, 0, 0)]
abbrev zb_283_11 : List zI0 := [(4, 4, 0, 0, 0), (3, 0, 0, 0, 1), (37, 0, 0, 0, 0), (4, 5, 0, 0, 0), (39, 0, 0, 0, 0), (111, 12, 0, 0, 0)]
abbrev zb_283_12 : List zI0 := [(37, 0, 0, 0, 0), (30, 2, 1, 0, 0), (32, 3, 0, 0, 1), (10, 4, 0, 0, 0)]
abbrev zb_283_13 : List zI0 := [(0, 0, 1, 0, 0), (3, 0, 0, 0, 0), (11, 12, 39, 167, 39), (4, 2, 1, 0, 0), (8, 0, 0, 0, 0)]
abbrev zc_283 : List (List zI0) := [zb_283_0, zb_283_1, zb_283_2, zb_283_3, zb_283_4, zb_283_5, zb_283_6, zb_283_7, zb_283_8, zb_283_9, zb_283_10, zb_283_11, zb_283_12, zb_283_13]
abbrev zb_284_0 : List zI0 := [(0, 0, 1, 0, 0), (1, 12, 42, 161, 42), (16, 1, 0, 0, 0), (0, 0, 1, 0, 0), (1, 12, 44, 169, 44), (15, 1, 0, 0, 0), (3, 0, 0, 0, 1), (10, 2, 0, 0, 0)]
abbrev zb_284_1 : List zI0 := [(3, 0, 0, 0, 0), (111, 2, 0, 0, 0)]
abbrev zb_284_2 : List zI0 := [(9, 0, 0, 0, 0)]
abbrev zc_284 : List (List zI0) := [zb_284_0, zb_284_1, zb_284_2]
abbrev zb_285_0 : List zI0 := [(4, 0, 1, 0, 0), (30, 2, 1, 0, 0), (3, 0, 0, 0, 0), (30, 3, 1, 0, 0), (111, 1, 0, 0, 0)]
abbrev zb_285_1 : List zI0 := [(4, 3, 1, 0, 0), (4, 1, 1, 0, 0), (23, 2, 0, 0, 0), (4, 2, 1, 0, 0), (3, 1, 0, 0, 10), (40, 0, 0, 0, 0), (30, 2, 1, 0, 0), (32, 3, 0, 0, 1), (10, 1, 0, 0, 0)]
abbrev zb_285_2 : List zI0 := [(4, 2, 1, 0, 0), (3, 1, 0, 0, 10), (41, 0, 0, 0, 0), (8, 0, 0, 0, 0)]
abbrev zc_285 : List (List zI0) := [zb_285_0, zb_285_1, zb_285_2]
abbrev zb_286_0 : List zI0 := [(4, 0, 1, 0, 0), (16, 3, 0, 0, 0), (4, 0, 1, 0, 0), (4, 1, 1, 0, 0), (5, 285, 2, 0, 225), (15, 3, 0, 0, 0), (4, 0, 1, 0, 0), (4, 1, 1, 0, 0), (3, 1, 0, 0, 8), (21, 1, 0, 0, 0), (3, 4, 13, 0, 100000000), (10, 2, 0, 0, 0)]
abbrev zb_286_1 : List zI0 := [(3, 2, 0, 0, 1000), (111, 2, 0, 0, 0)]
abbrev zb_286_2 : List zI0 := [(23, 3, 0, 0, 0), (3, 0, 0, 0, 1), (10, 4, 0, 0, 0)]
abbrev zb_286_3 : List zI0 := [(3, 0, 0, 0, 0), (111, 4, 0, 0, 0)]
abbrev zb_286_4 : List zI0 := [(30, 3, 1, 0, 0), (3, 0, 0, 0, 0), (30, 4, 0, 0, 0), (111, 5, 0, 0, 0)]
abbrev zb_286_5 : List zI0 := [(4, 4, 0, 0, 0), (4, 1, 1, 0, 0), (23, 8, 0, 0, 0), (4, 3, 1, 0, 0), (4, 0, 1, 0, 0), (4, 4, 0, 0, 0), (5, 285, 2, 0, 225), (4, 2, 1, 0, 0), (24, 6, 0, 0, 0), (3, 0, 0, 0, 1), (10, 7, 0, 0, 0)]
abbrev zb_286_6 : List zI0 := [(3, 0, 0, 0, 0), (111, 7, 0, 0, 0)]
abbrev zb_286_7 : List zI0 := [(42, 0, 0, 0, 0), (30, 3, 1, 0, 0), (32, 4, 0, 0, 1), (10, 5, 0, 0, 0)]
abbrev zb_286_8 : List zI0 := [(4, 3, 1, 0, 0), (9, 0, 0, 0, 0)]
abbrev zc_286 : List (List zI0) := [zb_286_0, zb_286_1, zb_286_2, zb_286_3, zb_286_4, zb_286_5, zb_286_6, zb_286_7, zb_286_8]
abbrev zb_287_0 : List zI0 := [(0, 0, 1, 0, 0), (4, 1, 1, 0, 0), (3, 0, 0, 0, 0), (3, 0, 0, 0, 2), (5, 213, 3, 0, 186), (15, 1, 0, 0, 0), (3, 0, 0, 0, 1), (10, 2, 0, 0, 0)]
abbrev zb_287_1 : List zI0 := [(3, 0, 0, 0, 0), (111, 2, 0, 0, 0)]
abbrev zb_287_2 : List zI0 := [(3, 0, 0, 0, 1), (6, 212, 2, 12, 187), (15, 5, 0, 0, 0), (0, 0, 1, 0, 0), (4, 2, 1, 0, 0), (3, 1, 0, 0, 8), (3, 0, 0, 0, 4), (5, 286, 3, 0, 226), (15, 3, 0, 0, 0), (3, 0, 0, 0, 1), (10, 4, 0, 0, 0)]
abbrev zb_287_3 : List zI0 := [(3, 0, 0, 0, 0), (111, 4, 0, 0, 0)]
abbrev zb_287_4 : List zI0 := [(3, 0, 0, 0, 2), (6, 212, 2, 12, 187), (15, 5, 0, 0, 0), (0, 0, 1, 0, 0), (0, 0, 1, 0, 0), (6, 284, 0, 12, 227), (3, 0, 0, 0, 3), (6, 212, 2, 12, 187), (14, 6, 0, 0, 0), (111, 5, 0, 0, 0)]
abbrev zb_287_5 : List zI0 := [(3, 0, 0, 0, 0), (8, 0, 0, 0, 0)]
abbrev zb_287_6 : List zI0 := [(3, 0, 0, 0, 0), (30, 3, 1, 0, 0), (3, 0, 0, 0, 0), (30, 4, 0, 0, 0), (111, 7, 0, 0, 0)]
abbrev zb_287_7 : List zI0 := [(4, 4, 0, 0, 0), (3, 1, 0, 0, 8), (23, 10, 0, 0, 0), (4, 2, 1, 0, 0), (3, 1, 0, 0, 7), (4, 4, 0, 0, 0), (38, 0, 0, 0, 0), (5, 285, 2, 0, 225), (30, 5, 0, 0, 0), (4, 3, 1, 0, 0), (0, 0, 1, 0, 0), (2, 12, 27, 155, 27), (4, 1, 1, 0, 0), (34, 0, 0, 0, 0), (4, 4, 0, 0, 0), (33, 0, 0, 0, 0), (4, 5, 0, 0, 0), (21, 8, 0, 0, 0), (3, 0, 0, 0, 0), (10, 9, 0, 0, 0)]
abbrev zb_287_8 : List zI0 := [(3, 0, 0, 0, 1), (111, 9, 0, 0, 0)]
abbrev zb_287_9 : List zI0 := [(37, 0, 0, 0, 0), (30, 3, 1, 0, 0), (0, 0, 1, 0, 0), (2, 12, 27, 155, 27), (4, 1, 1, 0, 0), (34, 0, 0, 0, 0), (4, 4, 0, 0, 0), (4, 5, 0, 0, 0), (35, 0, 0, 0, 0), (32, 4, 0, 0, 1), (10, 7, 0, 0, 0)]
abbrev zb_287_10 : List zI0 := [(4, 3, 1, 0, 0), (8, 0, 0, 0, 0)]
abbrev zc_287 : List (List zI0) := [zb_287_0, zb_287_1, zb_287_2, zb_287_3, zb_287_4, zb_287_5, zb_287_6, zb_287_7, zb_287_8, zb_287_9, zb_287_10]
abbrev zb_288_0 : List zI0 := [(0, 0, 1, 0, 0), (4, 1, 1, 0, 0), (3, 0, 0, 0, 0), (3, 0, 0, 0, 4), (5, 213, 3, 0, 186), (14, 1, 0, 0, 0), (4, 2, 1, 0, 0), (3, 0, 0, 0, 0), (3, 2, 0, 0, 200), (5, 213, 3, 0, 186), (15, 2, 0, 0, 0), (111, 1, 0, 0, 0)]
abbrev zb_288_1 : List zI0 := [(3, 0, 0, 0, 1), (10, 3, 0, 0, 0)]
abbrev zb_288_2 : List zI0 := [(3, 0, 0, 0, 0), (111, 3, 0, 0, 0)]
abbrev zb_288_3 : List zI0 := [(3, 0, 0, 0, 1), (6, 212, 2, 12, 187), (15, 4, 0, 0, 0), (0, 0, 1, 0, 0), (0, 0, 1, 0, 0), (6, 284, 0, 12, 227), (3, 0, 0, 0, 2), (6, 212, 2, 12, 187), (14, 5, 0, 0, 0), (111, 4, 0, 0, 0)]
abbrev zb_288_4 : List zI0 := [(3, 0, 0, 0, 0), (8, 0, 0, 0, 0)]
abbrev zb_288_5 : List zI0 := [(0, 0, 1, 0, 0), (2, 12, 28, 156, 28), (4, 1, 1, 0, 0), (33, 0, 0, 0, 0), (30, 3, 1, 0, 0), (0, 0, 1, 0, 0), (2, 12, 28, 156, 28), (4, 1, 1, 0, 0), (4, 2, 1, 0, 0), (35, 0, 0, 0, 0), (4, 3, 1, 0, 0), (8, 0, 0, 0, 0)]
abbrev zc_288 : List (List zI0) := [zb_288_0, zb_288_1, zb_288_2, zb_288_3, zb_288_4, zb_288_5]
abbrev zb_289_0 : List zI0 := [(0, 0, 1, 0, 0), (4, 1, 1, 0, 0), (3, 0, 0, 0, 1), (3, 2, 0, 0, 5000), (5, 213, 3, 0, 186), (15, 1, 0, 0, 0), (3, 0, 0, 0, 1), (10, 2, 0, 0, 0)]
abbrev zb_289_1 : List zI0 := [(3, 0, 0, 0, 0), (111, 2, 0, 0, 0)]
abbrev zb_289_2 : List zI0 := [(3, 0, 0, 0, 1), (6, 212, 2, 12, 187), (15, 3, 0, 0, 0), (0, 0, 1, 0, 0), (0, 0, 1, 0, 0), (6, 284, 0, 12, 227), (3, 0, 0, 0, 2), (6, 212, 2, 12, 187), (14, 4, 0, 0, 0), (111, 3, 0, 0, 0)]
abbrev zb_289_3 : List zI0 := [(3, 0, 0, 0, 0), (8, 0, 0, 0, 0)]
abbrev zb_289_4 : List zI0 := [(0, 0, 1, 0, 0), (1, 12, 40, 160, 40), (30, 2, 1, 0, 0), (0, 0, 1, 0, 0), (4, 1, 1, 0, 0), (11, 12, 40, 160, 40), (4, 2, 1, 0, 0), (8, 0, 0, 0, 0)]
abbrev zc_289 : List (List zI0) := [zb_289_0, zb_289_1, zb_289_2, zb_289_3, zb_289_4]
abbrev zb_290_0 : List zI0 := [(0, 0, 1, 0, 0), (0, 0, 1, 0, 0), (4, 1, 1, 0, 0), (6, 214, 1, 12, 188), (3, 0, 0, 0, 1), (6, 212, 2, 12, 187), (15, 7, 0, 0, 0), (0, 0, 1, 0, 0), (4, 2, 1, 0, 0), (3, 0, 0, 0, 1), (3, 1, 0, 0, 100), (5, 213, 3, 0, 186), (15, 1, 0, 0, 0), (3, 0, 0, 0, 1), (10, 2, 0, 0, 0)]
abbrev zb_290_1 : List zI0 := [(3, 0, 0, 0, 0), (111, 2, 0, 0, 0)]
abbrev zb_290_2 : List zI0 := [(3, 0, 0, 0, 2), (6, 212, 2, 12, 187), (15, 7, 0, 0, 0), (0, 0, 1, 0, 0), (0, 0, 1, 0, 0), (4, 1, 1, 0, 0), (4, 2, 1, 0, 0), (6, 220, 2, 12, 201), (15, 3, 0, 0, 0), (3, 0, 0, 0, 1), (10, 4, 0, 0, 0)]
abbrev zb_290_3 : List zI0 := [(3, 0, 0, 0, 0), (111, 4, 0, 0, 0)]
abbrev zb_290_4 : List zI0 := [(3, 0, 0, 0, 3), (6, 212, 2, 12, 187), (15, 7, 0, 0, 0), (0, 0, 1, 0, 0), (0, 0, 1, 0, 0), (1, 12, 42, 161, 42), (16, 5, 0, 0, 0), (3, 0, 0, 0, 1), (10, 6, 0, 0, 0)]
abbrev zb_290_5 : List zI0 := [(3, 0, 0, 0, 0), (111, 6, 0, 0, 0)]
abbrev zb_290_6 : List zI0 := [(3, 0, 0, 0, 4), (6, 212, 2, 12, 187), (14, 8, 0, 0, 0), (111, 7, 0, 0, 0)]
abbrev zb_290_7 : List zI0 := [(3, 0, 0, 0, 0), (8, 0, 0, 0, 0)]
abbrev zb_290_8 : List zI0 := [(0, 0, 1, 0, 0), (4, 1, 1, 0, 0), (4, 2, 1, 0, 0), (6, 221, 2, 12, 202), (0, 0, 1, 0, 0), (4, 1, 1, 0, 0), (11, 12, 42, 161, 42), (0, 0, 1, 0, 0), (4, 2, 1, 0, 0), (11, 12, 43, 168, 43), (0, 0, 1, 0, 0), (0, 0, 1, 0, 0), (1, 12, 41, 176, 41), (0, 0, 1, 0, 0), (1, 12, 40, 160, 40), (22, 9, 0, 0, 0), (3, 0, 0, 0, 1), (10, 10, 0, 0, 0)]
abbrev zb_290_9 : List zI0 := [(3, 0, 0, 0, 0), (111, 10, 0, 0, 0)]
abbrev zb_290_10 : List zI0 := [(12, 12, 45, 177, 45), (0, 0, 1, 0, 0), (2, 12, 1, 129, 1), (4, 1, 1, 0, 0), (33, 0, 0, 0, 0), (8, 0, 0, 0, 0)]
abbrev zc_290 : List (List zI0) := [zb_290_0, zb_290_1, zb_290_2, zb_290_3, zb_290_4, zb_290_5, zb_290_6, zb_290_7, zb_290_8, zb_290_9, zb_290_10]
abbrev zb_291_0 : List zI0 := [(0, 0, 1, 0, 0), (4, 1, 1, 0, 0), (3, 0, 0, 0, 3), (3, 1, 0, 0, 7), (5, 286, 3, 0, 226), (15, 1, 0, 0, 0), (3, 0, 0, 0, 1), (10, 2, 0, 0, 0)]
abbrev zb_291_1 : List zI0 := [(3, 0, 0, 0, 0), (111, 2, 0, 0, 0)]
abbrev zb_291_2 : List zI0 := [(3, 0, 0, 0, 1), (6, 212, 2, 12, 187), (15, 5, 0, 0, 0), (0, 0, 1, 0, 0), (0, 0, 1, 0, 0), (6, 284, 0, 12, 227), (15, 3, 0, 0, 0), (3, 0, 0, 0, 1), (10, 4, 0, 0, 0)]
abbrev zb_291_3 : List zI0 := [(3, 0, 0, 0, 0), (111, 4, 0, 0, 0)]
abbrev zb_291_4 : List zI0 := [(3, 0, 0, 0, 2), (6, 212, 2, 12, 187), (14, 6, 0, 0, 0), (111, 5, 0, 0, 0)]
abbrev zb_291_5 : List zI0 := [(3, 0, 0, 0, 0), (8, 0, 0, 0, 0)]
abbrev zb_291_6 : List zI0 := [(0, 0, 1, 0, 0), (2, 12, 27, 155, 27), (3, 0, 0, 0, 0), (34, 0, 0, 0, 0), (4, 1, 1, 0, 0), (3, 0, 0, 0, 2), (5, 285, 2, 0, 225), (33, 0, 0, 0, 0), (30, 2, 1, 0, 0), (4, 2, 1, 0, 0), (0, 0, 1, 0, 0), (2, 12, 27, 155, 27), (3, 0, 0, 0, 1), (34, 0, 0, 0, 0), (4, 1, 1, 0, 0), (3, 0, 0, 0, 1), (5, 285, 2, 0, 225), (33, 0, 0, 0, 0), (21, 7, 0, 0, 0), (4, 2, 1, 0, 0), (0, 0, 1, 0, 0), (2, 12, 27, 155, 27), (3, 0, 0, 0, 2), (34, 0, 0, 0, 0), (4, 1, 1, 0, 0), (3, 0, 0, 0, 0), (5, 285, 2, 0, 225), (33, 0, 0, 0, 0), (21, 7, 0, 0, 0), (3, 0, 0, 0, 1), (10, 8, 0, 0, 0)]
abbrev zb_291_7 : List zI0 := [(3, 0, 0, 0, 0), (111, 8, 0, 0, 0)]
abbrev zb_291_8 : List zI0 := [(30, 3, 1, 0, 0), (0, 0, 1, 0, 0), (47, 0, 0, 0, 0), (1, 12, 41, 176, 41), (0, 0, 1, 0, 0), (1, 12, 43, 168, 43), (3, 1, 0, 0, 10), (40, 0, 0, 0, 0), (37, 0, 0, 0, 0), (11, 12, 41, 176, 41), (0, 0, 1, 0, 0), (2, 12, 10, 138, 10), (3, 0, 0, 0, 2), (48, 0, 0, 0, 0), (33, 0, 0, 0, 0), (0, 0, 1, 0, 0), (1, 12, 43, 168, 43), (0, 0, 1, 0, 0), (1, 12, 43, 168, 43), (3, 1, 0, 0, 10), (40, 0, 0, 0, 0), (38, 0, 0, 0, 0), (37, 0, 0, 0, 0), (35, 0, 0, 0, 0), (4, 3, 1, 0, 0), (14, 9, 0, 0, 0), (0, 0, 1, 0, 0), (2, 12, 28, 156, 28), (4, 2, 1, 0, 0), (33, 0, 0, 0, 0), (0, 0, 1, 0, 0), (1, 12, 43, 168, 43), (39, 0, 0, 0, 0), (10, 10, 0, 0, 0)]
abbrev zb_291_9 : List zI0 := [(3, 0, 0, 0, 0), (111, 10, 0, 0, 0)]
abbrev zb_291_10 : List zI0 := [(30, 4, 0, 0, 0), (0, 0, 1, 0, 0), (3, 0, 0, 0, 2), (0, 0, 1, 0, 0), (1, 12, 42, 161, 42), (4, 4, 0, 0, 0), (6, 222, 3, 12, 208), (0, 0, 1, 0, 0), (1, 12, 45, 177, 45), (15, 11, 0, 0, 0), (4, 3, 1, 0, 0), (14, 12, 0, 0, 0), (4, 2, 1, 0, 0), (15, 12, 0, 0, 0), (111, 11, 0, 0, 0)]
abbrev zb_291_11 : List zI0 := [(0, 0, 1, 0, 0), (2, 12, 1, 129, 1), (0, 0, 1, 0, 0), (1, 12, 42, 161, 42), (48, 0, 0, 0, 0), (33, 0, 0, 0, 0), (0, 0, 1, 0, 0), (1, 12, 41, 176, 41), (37, 0, 0, 0, 0), (35, 0, 0, 0, 0), (4, 4, 0, 0, 0), (0, 0, 1, 0, 0), (1, 12, 41, 176, 41), (37, 0, 0, 0, 0), (30, 4, 0, 0, 0), (0, 0, 1, 0, 0), (3, 0, 0, 0, 0), (11, 12, 41, 176, 41), (111, 12, 0, 0, 0)]
abbrev zb_291_12 : List zI0 := [(0, 0, 1, 0, 0), (3, 0, 0, 0, (-1)), (11, 12, 42, 161, 42), (4, 4, 0, 0, 0), (8, 0, 0, 0, 0)]
abbrev zc_291 : List (List zI0) := [zb_291_0, zb_291_1, zb_291_2, zb_291_3, zb_291_4, zb_291_5, zb_291_6, zb_291_7, zb_291_8, zb_291_9, zb_291_10, zb_291_11, zb_291_12]
abbrev zb_292_0 : List zI0 := [(0, 0, 1, 0, 0), (0, 0, 1, 0, 0), (6, 284, 0, 12, 227), (15, 1, 0, 0, 0), (3, 0, 0, 0, 1), (10, 2, 0, 0, 0)]
abbrev zb_292_1 : List zI0 := [(3, 0, 0, 0, 0), (111, 2, 0, 0, 0)]
abbrev zb_292_2 : List zI0 := [(3, 0, 0, 0, 1), (6, 212, 2, 12, 187), (14, 3, 0, 0, 0), (3, 0, 0, 0, 0), (8, 0, 0, 0, 0)]
abbrev zb_292_3 : List zI0 := [(0, 0, 1, 0, 0), (3, 0, 0, 0, 1), (12, 12, 44, 169, 44), (0, 0, 1, 0, 0), (1, 12, 43, 168, 43), (8, 0, 0, 0, 0)]
abbrev zc_292 : List (List zI0) := [zb_292_0, zb_292_1, zb_292_2, zb_292_3]
abbrev zb_293_0 : List zI0 := [(0, 0, 1, 0, 0), (0, 0, 1, 0, 0), (1, 12, 42, 161, 42), (16, 1, 0, 0, 0), (0, 0, 1, 0, 0), (1, 12, 44, 169, 44), (15, 2, 0, 0, 0), (111, 1, 0, 0, 0)]
abbrev zb_293_1 : List zI0 := [(3, 0, 0, 0, 1), (10, 3, 0, 0, 0)]
abbrev zb_293_2 : List zI0 := [(3, 0, 0, 0, 0), (111, 3, 0, 0, 0)]
abbrev zb_293_3 : List zI0 := [(3, 0, 0, 0, 1), (6, 212, 2, 12, 187), (14, 4, 0, 0, 0), (3, 0, 0, 0, 0), (8, 0, 0, 0, 0)]
abbrev zb_293_4 : List zI0 := [(0, 0, 1, 0, 0), (1, 12, 42, 161, 42), (30, 1, 1, 0, 0), (0, 0, 1, 0, 0), (2, 12, 1, 129, 1), (4, 1, 1, 0, 0), (48, 0, 0, 0, 0), (33, 0, 0, 0, 0), (0, 0, 1, 0, 0), (1, 12, 43, 168, 43), (37, 0, 0, 0, 0), (35, 0, 0, 0, 0), (0, 0, 1, 0, 0), (3, 0, 0, 0, (-1)), (11, 12, 42, 161, 42), (0, 0, 1, 0, 0), (3, 0, 0, 0, 0), (12, 12, 44, 169, 44), (0, 0, 1, 0, 0), (2, 12, 1, 129, 1), (4, 1, 1, 0, 0), (33, 0, 0, 0, 0), (8, 0, 0, 0, 0)]
abbrev zc_293 : List (List zI0) := [zb_293_0, zb_293_1, zb_293_2, zb_293_3, zb_293_4]
abbrev zb_294_0 : List zI0 := [(0, 0, 1, 0, 0), (3, 0, 0, 0, 0), (11, 12, 49, 163, 49), (0, 0, 1, 0, 0), (1, 12, 41, 176, 41), (8, 0, 0, 0, 0)]
abbrev zc_294 : List (List zI0) := [zb_294_0]
abbrev zb_295_0 : List zI0 := [(0, 0, 1, 0, 0), (3, 0, 0, 0, 0), (11, 12, 49, 163, 49), (64, 0, 0, 0, 0), (74, 2, 1, 0, 0), (3, 0, 0, 0, 0), (30, 4, 0, 0, 0), (111, 1, 0, 0, 0)]
abbrev zb_295_1 : List zI0 := [(4, 4, 0, 0, 0), (3, 0, 0, 0, 5), (23, 8, 0, 0, 0), (64, 0, 0, 0, 1), (74, 5, 0, 0, 0), (0, 0, 1, 0, 0), (2, 12, 27, 155, 27), (31, 7, 0, 0, 0), (0, 7, 0, 0, 0), (36, 0, 0, 0, 0), (30, 8, 0, 0, 0), (3, 0, 0, 0, 0), (30, 9, 0, 0, 0), (111, 2, 0, 0, 0)]
abbrev zb_295_2 : List zI0 := [(4, 9, 0, 0, 0), (4, 8, 0, 0, 0), (23, 7, 0, 0, 0), (0, 7, 0, 0, 0), (4, 9, 0, 0, 0), (34, 0, 0, 0, 0), (31, 10, 0, 0, 0), (3, 0, 0, 0, 0), (30, 11, 0, 0, 0), (0, 10, 0, 0, 0), (31, 12, 0, 0, 0), (0, 12, 0, 0, 0), (36, 0, 0, 0, 0), (30, 13, 0, 0, 0), (3, 0, 0, 0, 0), (30, 14, 0, 0, 0), (111, 3, 0, 0, 0)]
abbrev zb_295_3 : List zI0 := [(4, 14, 0, 0, 0), (4, 13, 0, 0, 0), (23, 6, 0, 0, 0), (0, 12, 0, 0, 0), (4, 14, 0, 0, 0), (33, 0, 0, 0, 0), (30, 15, 0, 0, 0), (4, 11, 0, 0, 0), (4, 15, 0, 0, 0), (4, 4, 0, 0, 0), (21, 4, 0, 0, 0), (3, 0, 0, 0, 1), (10, 5, 0, 0, 0)]
abbrev zb_295_4 : List zI0 := [(3, 0, 0, 0, 0), (111, 5, 0, 0, 0)]
abbrev zb_295_5 : List zI0 := [(37, 0, 0, 0, 0), (30, 11, 0, 0, 0), (32, 14, 0, 0, 1), (10, 3, 0, 0, 0)]
abbrev zb_295_6 : List zI0 := [(73, 5, 0, 0, 0), (4, 11, 0, 0, 0), (65, 0, 0, 0, 0), (69, 0, 0, 0, 0), (74, 5, 0, 0, 0), (32, 9, 0, 0, 1), (10, 2, 0, 0, 0)]
abbrev zb_295_7 : List zI0 := [(73, 2, 1, 0, 0), (73, 5, 0, 0, 0), (0, 0, 1, 0, 0), (2, 12, 28, 156, 28), (4, 4, 0, 0, 0), (33, 0, 0, 0, 0), (65, 0, 0, 0, 0), (69, 0, 0, 0, 0), (67, 0, 0, 0, 0), (74, 2, 1, 0, 0), (32, 4, 0, 0, 1), (10, 1, 0, 0, 0)]
abbrev zb_295_8 : List zI0 := [(4, 1, 1, 0, 0), (14, 9, 0, 0, 0), (73, 2, 1, 0, 0), (10, 10, 0, 0, 0)]
abbrev zb_295_9 : List zI0 := [(64, 1, 14, 0, 512), (111, 10, 0, 0, 0)]
abbrev zb_295_10 : List zI0 := [(73, 2, 1, 0, 0), (64, 1, 14, 0, 512), (5, 267, 2, 0, 220), (70, 0, 0, 0, 0), (52, 0, 0, 0, 0)]
abbrev zc_295 : List (List zI0) := [zb_295_0, zb_295_1, zb_295_2, zb_295_3, zb_295_4, zb_295_5, zb_295_6, zb_295_7, zb_295_8, zb_295_9, zb_295_10]
abbrev zb_296_0 : List zI0 := [(0, 0, 1, 0, 0), (3, 0, 0, 0, 1), (6, 295, 1, 12, 228), (52, 0, 0, 0, 0)]
abbrev zc_296 : List (List zI0) := [zb_296_0]
abbrev zb_297_0 : List zI0 := [(0, 0, 1, 0, 0), (3, 0, 0, 0, 0), (6, 295, 1, 12, 228), (52, 0, 0, 0, 0)]
abbrev zc_297 : List (List zI0) := [zb_297_0]
abbrev zb_298_0 : List zI0 := [(4, 0, 1, 0, 0), (3, 0, 0, 0, 0), (3, 2, 0, 0, 999), (5, 213, 3, 0, 186), (15, 1, 0, 0, 0), (3, 0, 0, 0, (-1)), (8, 0, 0, 0, 0)]
abbrev zb_298_1 : List zI0 := [(3, 0, 0, 0, 1), (4, 0, 1, 0, 0), (3, 0, 0, 0, 0), (5, 285, 2, 0, 225), (44, 0, 0, 0, 0), (3, 0, 0, 0, 1), (4, 0, 1, 0, 0), (3, 0, 0, 0, 1), (5, 285, 2, 0, 225), (44, 0, 0, 0, 0), (43, 0, 0, 0, 0), (3, 0, 0, 0, 1), (4, 0, 1, 0, 0), (3, 0, 0, 0, 2), (5, 285, 2, 0, 225), (44, 0, 0, 0, 0), (43, 0, 0, 0, 0), (30, 1, 1, 0, 0), (4, 1, 1, 0, 0), (5, 324, 1, 0, 229), (3, 0, 0, 0, 3), (21, 2, 0, 0, 0), (4, 1, 1, 0, 0), (10, 3, 0, 0, 0)]
abbrev zb_298_2 : List zI0 := [(3, 0, 0, 0, (-1)), (111, 3, 0, 0, 0)]
abbrev zb_298_3 : List zI0 := [(8, 0, 0, 0, 0)]
abbrev zc_298 : List (List zI0) := [zb_298_0, zb_298_1, zb_298_2, zb_298_3]
abbrev zb_299_0 : List zI0 := [(0, 0, 1, 0, 0), (0, 0, 1, 0, 0), (4, 1, 1, 0, 0), (6, 214, 1, 12, 188), (3, 0, 0, 0, 1), (6, 212, 2, 12, 187), (15, 8, 0, 0, 0), (0, 0, 1, 0, 0), (4, 2, 1, 0, 0), (5, 298, 1, 0, 230), (17, 1, 0, 0, 0), (3, 0, 0, 0, 1), (10, 2, 0, 0, 0)]
abbrev zb_299_1 : List zI0 := [(3, 0, 0, 0, 0), (111, 2, 0, 0, 0)]
abbrev zb_299_2 : List zI0 := [(3, 0, 0, 0, 2), (6, 212, 2, 12, 187), (15, 8, 0, 0, 0), (0, 0, 1, 0, 0), (0, 0, 1, 0, 0), (4, 1, 1, 0, 0), (3, 0, 0, 0, 2), (6, 220, 2, 12, 201), (15, 3, 0, 0, 0), (3, 0, 0, 0, 1), (10, 4, 0, 0, 0)]
abbrev zb_299_3 : List zI0 := [(3, 0, 0, 0, 0), (111, 4, 0, 0, 0)]
abbrev zb_299_4 : List zI0 := [(3, 0, 0, 0, 3), (6, 212, 2, 12, 187), (15, 8, 0, 0, 0), (0, 0, 1, 0, 0), (0, 0, 1, 0, 0), (1, 12, 46, 170, 46), (3, 1, 0, 0, 12), (20, 5, 0, 0, 0), (0, 0, 1, 0, 0), (1, 12, 47, 162, 47), (16, 6, 0, 0, 0), (111, 5, 0, 0, 0)]
abbrev zb_299_5 : List zI0 := [(3, 0, 0, 0, 1), (10, 7, 0, 0, 0)]
abbrev zb_299_6 : List zI0 := [(3, 0, 0, 0, 0), (111, 7, 0, 0, 0)]
abbrev zb_299_7 : List zI0 := [(3, 0, 0, 0, 4), (6, 212, 2, 12, 187), (14, 9, 0, 0, 0), (111, 8, 0, 0, 0)]
abbrev zb_299_8 : List zI0 := [(3, 0, 0, 0, 0), (8, 0, 0, 0, 0)]
abbrev zb_299_9 : List zI0 := [(0, 0, 1, 0, 0), (4, 1, 1, 0, 0), (3, 0, 0, 0, 2), (6, 221, 2, 12, 202), (0, 0, 1, 0, 0), (47, 0, 0, 0, 0), (1, 12, 48, 171, 48), (3, 0, 0, 0, 2), (37, 0, 0, 0, 0), (11, 12, 48, 171, 48), (0, 0, 1, 0, 0), (2, 12, 29, 157, 29), (0, 0, 1, 0, 0), (1, 12, 46, 170, 46), (34, 0, 0, 0, 0), (3, 0, 0, 0, 0), (4, 1, 1, 0, 0), (35, 0, 0, 0, 0), (0, 0, 1, 0, 0), (2, 12, 29, 157, 29), (0, 0, 1, 0, 0), (1, 12, 46, 170, 46), (34, 0, 0, 0, 0), (3, 0, 0, 0, 1), (4, 2, 1, 0, 0), (5, 298, 1, 0, 230), (35, 0, 0, 0, 0), (0, 0, 1, 0, 0), (47, 0, 0, 0, 0), (1, 12, 46, 170, 46), (3, 0, 0, 0, 1), (37, 0, 0, 0, 0), (11, 12, 46, 170, 46), (0, 0, 1, 0, 0), (1, 12, 46, 170, 46), (8, 0, 0, 0, 0)]
abbrev zc_299 : List (List zI0) := [zb_299_0, zb_299_1, zb_299_2, zb_299_3, zb_299_4, zb_299_5, zb_299_6, zb_299_7, zb_299_8, zb_299_9]
abbrev zb_300_0 : List zI0 := [(3, 0, 0, 0, 0), (30, 2, 1, 0, 0), (3, 0, 0, 0, 0), (30, 3, 1, 0, 0), (111, 1, 0, 0, 0)]
abbrev zb_300_1 : List zI0 := [(4, 3, 1, 0, 0), (0, 0, 1, 0, 0), (1, 12, 46, 170, 46), (23, 4, 0, 0, 0), (4, 2, 1, 0, 0), (0, 0, 1, 0, 0), (2, 12, 29, 157, 29), (4, 3, 1, 0, 0), (34, 0, 0, 0, 0), (3, 0, 0, 0, 0), (33, 0, 0, 0, 0), (16, 2, 0, 0, 0), (0, 0, 1, 0, 0), (2, 12, 29, 157, 29), (4, 3, 1, 0, 0), (34, 0, 0, 0, 0), (3, 0, 0, 0, 1), (33, 0, 0, 0, 0), (0, 0, 1, 0, 0), (1, 12, 47, 162, 47), (42, 0, 0, 0, 0), (5, 324, 1, 0, 229), (4, 1, 1, 0, 0), (21, 2, 0, 0, 0), (3, 0, 0, 0, 1), (10, 3, 0, 0, 0)]
abbrev zb_300_2 : List zI0 := [(3, 0, 0, 0, 0), (111, 3, 0, 0, 0)]
abbrev zb_300_3 : List zI0 := [(37, 0, 0, 0, 0), (30, 2, 1, 0, 0), (32, 3, 0, 0, 1), (10, 1, 0, 0, 0)]
abbrev zb_300_4 : List zI0 := [(4, 2, 1, 0, 0), (8, 0, 0, 0, 0)]
abbrev zc_300 : List (List zI0) := [zb_300_0, zb_300_1, zb_300_2, zb_300_3, zb_300_4]
abbrev zb_301_0 : List zI0 := [(0, 0, 1, 0, 0), (4, 1, 1, 0, 0), (5, 298, 1, 0, 230), (17, 1, 0, 0, 0), (3, 0, 0, 0, 1), (10, 2, 0, 0, 0)]
abbrev zb_301_1 : List zI0 := [(3, 0, 0, 0, 0), (111, 2, 0, 0, 0)]
abbrev zb_301_2 : List zI0 := [(3, 0, 0, 0, 1), (6, 212, 2, 12, 187), (14, 3, 0, 0, 0), (3, 0, 0, 0, 0), (8, 0, 0, 0, 0)]
abbrev zb_301_3 : List zI0 := [(0, 0, 1, 0, 0), (4, 1, 1, 0, 0), (5, 298, 1, 0, 230), (11, 12, 47, 162, 47), (0, 0, 1, 0, 0), (3, 0, 0, 0, 3), (6, 300, 1, 12, 231), (8, 0, 0, 0, 0)]
abbrev zc_301 : List (List zI0) := [zb_301_0, zb_301_1, zb_301_2, zb_301_3]
abbrev zb_302_0 : List zI0 := [(0, 0, 1, 0, 0), (0, 0, 1, 0, 0), (1, 12, 47, 162, 47), (17, 1, 0, 0, 0), (3, 0, 0, 0, 1), (10, 2, 0, 0, 0)]
abbrev zb_302_1 : List zI0 := [(3, 0, 0, 0, 0), (111, 2, 0, 0, 0)]
abbrev zb_302_2 : List zI0 := [(3, 0, 0, 0, 1), (6, 212, 2, 12, 187), (14, 3, 0, 0, 0), (3, 0, 0, 0, 0), (8, 0, 0, 0, 0)]
abbrev zb_302_3 : List zI0 := [(0, 0, 1, 0, 0), (3, 0, 0, 0, 3), (6, 300, 1, 12, 231), (15, 4, 0, 0, 0), (3, 0, 0, 0, 0), (10, 5, 0, 0, 0)]
abbrev zb_302_4 : List zI0 := [(0, 0, 1, 0, 0), (1, 12, 48, 171, 48), (3, 1, 0, 0, 6), (39, 0, 0, 0, 0), (3, 1, 0, 0, 10), (40, 0, 0, 0, 0), (0, 0, 1, 0, 0), (3, 0, 0, 0, 3), (6, 300, 1, 12, 231), (40, 0, 0, 0, 0), (111, 5, 0, 0, 0)]
abbrev zb_302_5 : List zI0 := [(30, 1, 1, 0, 0), (0, 0, 1, 0, 0), (3, 0, 0, 0, 2), (6, 300, 1, 12, 231), (15, 6, 0, 0, 0), (3, 0, 0, 0, 0), (10, 7, 0, 0, 0)]
abbrev zb_302_6 : List zI0 := [(0, 0, 1, 0, 0), (1, 12, 48, 171, 48), (3, 0, 0, 0, 2), (39, 0, 0, 0, 0), (3, 1, 0, 0, 10), (40, 0, 0, 0, 0), (0, 0, 1, 0, 0), (3, 0, 0, 0, 2), (6, 300, 1, 12, 231), (40, 0, 0, 0, 0), (111, 7, 0, 0, 0)]
abbrev zb_302_7 : List zI0 := [(30, 2, 1, 0, 0), (3, 0, 0, 0, 0), (30, 3, 1, 0, 0), (3, 0, 0, 0, 0), (30, 4, 0, 0, 0), (111, 8, 0, 0, 0)]
abbrev zb_302_8 : List zI0 := [(4, 4, 0, 0, 0), (0, 0, 1, 0, 0), (1, 12, 46, 170, 46), (23, 14, 0, 0, 0), (0, 0, 1, 0, 0), (2, 12, 29, 157, 29), (4, 4, 0, 0, 0), (34, 0, 0, 0, 0), (3, 0, 0, 0, 1), (33, 0, 0, 0, 0), (0, 0, 1, 0, 0), (1, 12, 47, 162, 47), (42, 0, 0, 0, 0), (5, 324, 1, 0, 229), (30, 5, 0, 0, 0), (0, 0, 1, 0, 0), (2, 12, 29, 157, 29), (4, 4, 0, 0, 0), (34, 0, 0, 0, 0), (3, 0, 0, 0, 0), (33, 0, 0, 0, 0), (17, 9, 0, 0, 0), (3, 0, 0, 0, 0), (10, 12, 0, 0, 0)]
abbrev zb_302_9 : List zI0 := [(4, 5, 0, 0, 0), (3, 0, 0, 0, 3), (21, 10, 0, 0, 0), (4, 1, 1, 0, 0), (10, 12, 0, 0, 0)]
abbrev zb_302_10 : List zI0 := [(4, 5, 0, 0, 0), (3, 0, 0, 0, 2), (21, 11, 0, 0, 0), (4, 2, 1, 0, 0), (10, 12, 0, 0, 0)]
abbrev zb_302_11 : List zI0 := [(3, 0, 0, 0, 0), (111, 12, 0, 0, 0)]
abbrev zb_302_12 : List zI0 := [(30, 6, 0, 0, 0), (4, 6, 0, 0, 0), (19, 13, 0, 0, 0), (0, 0, 1, 0, 0), (2, 12, 30, 158, 30), (0, 0, 1, 0, 0), (2, 12, 29, 157, 29), (4, 4, 0, 0, 0), (34, 0, 0, 0, 0), (3, 0, 0, 0, 0), (33, 0, 0, 0, 0), (34, 0, 0, 0, 0), (0, 0, 1, 0, 0), (1, 12, 33, 165, 33), (3, 0, 0, 0, 4), (41, 0, 0, 0, 0), (48, 0, 0, 0, 0), (33, 0, 0, 0, 0), (4, 6, 0, 0, 0), (37, 0, 0, 0, 0), (35, 0, 0, 0, 0), (4, 3, 1, 0, 0), (4, 6, 0, 0, 0), (37, 0, 0, 0, 0), (30, 3, 1, 0, 0), (111, 13, 0, 0, 0)]
abbrev zb_302_13 : List zI0 := [(32, 4, 0, 0, 1), (10, 8, 0, 0, 0)]
abbrev zb_302_14 : List zI0 := [(0, 0, 1, 0, 0), (47, 0, 0, 0, 0), (1, 12, 48, 171, 48), (4, 3, 1, 0, 0), (38, 0, 0, 0, 0), (11, 12, 48, 171, 48), (0, 0, 1, 0, 0), (3, 0, 0, 0, 0), (11, 12, 46, 170, 46), (0, 0, 1, 0, 0), (3, 0, 0, 0, (-1)), (11, 12, 47, 162, 47), (4, 3, 1, 0, 0), (8, 0, 0, 0, 0)]
abbrev zc_302 : List (List zI0) := [zb_302_0, zb_302_1, zb_302_2, zb_302_3, zb_302_4, zb_302_5, zb_302_6, zb_302_7, zb_302_8, zb_302_9, zb_302_10, zb_302_11, zb_302_12, zb_302_13, zb_302_14]
abbrev zb_303_0 : List zI0 := [(0, 0, 1, 0, 0), (0, 0, 1, 0, 0), (4, 1, 1, 0, 0), (6, 214, 1, 12, 188), (3, 0, 0, 0, 1), (6, 212, 2, 12, 187), (14, 1, 0, 0, 0), (3, 0, 0, 0, 0), (8, 0, 0, 0, 0)]
abbrev zb_303_1 : List zI0 := [(3, 0, 0, 0, 0), (30, 2, 1, 0, 0), (3, 0, 0, 0, 0), (30, 3, 1, 0, 0), (111, 2, 0, 0, 0)]
abbrev zb_303_2 : List zI0 := [(4, 3, 1, 0, 0), (3, 0, 0, 0, 4), (23, 3, 0, 0, 0), (4, 2, 1, 0, 0), (0, 0, 1, 0, 0), (2, 12, 30, 158, 30), (4, 1, 1, 0, 0), (34, 0, 0, 0, 0), (4, 3, 1, 0, 0), (33, 0, 0, 0, 0), (37, 0, 0, 0, 0), (30, 2, 1, 0, 0), (32, 3, 0, 0, 1), (10, 2, 0, 0, 0)]
abbrev zb_303_3 : List zI0 := [(0, 0, 1, 0, 0), (4, 2, 1, 0, 0), (15, 4, 0, 0, 0), (3, 0, 0, 0, 1), (10, 5, 0, 0, 0)]
abbrev zb_303_4 : List zI0 := [(3, 0, 0, 0, 0), (111, 5, 0, 0, 0)]
abbrev zb_303_5 : List zI0 := [(3, 0, 0, 0, 2), (6, 212, 2, 12, 187), (14, 6, 0, 0, 0), (3, 0, 0, 0, 0), (8, 0, 0, 0, 0)]
abbrev zb_303_6 : List zI0 := [(3, 0, 0, 0, 0), (30, 3, 1, 0, 0), (111, 7, 0, 0, 0)]
abbrev zb_303_7 : List zI0 := [(4, 3, 1, 0, 0), (3, 0, 0, 0, 4), (23, 8, 0, 0, 0), (0, 0, 1, 0, 0), (2, 12, 30, 158, 30), (4, 1, 1, 0, 0), (34, 0, 0, 0, 0), (4, 3, 1, 0, 0), (3, 0, 0, 0, 0), (35, 0, 0, 0, 0), (32, 3, 0, 0, 1), (10, 7, 0, 0, 0)]
abbrev zb_303_8 : List zI0 := [(0, 0, 1, 0, 0), (2, 12, 1, 129, 1), (4, 1, 1, 0, 0), (48, 0, 0, 0, 0), (33, 0, 0, 0, 0), (4, 2, 1, 0, 0), (37, 0, 0, 0, 0), (35, 0, 0, 0, 0), (4, 2, 1, 0, 0), (8, 0, 0, 0, 0)]
abbrev zc_303 : List (List zI0) := [zb_303_0, zb_303_1, zb_303_2, zb_303_3, zb_303_4, zb_303_5, zb_303_6, zb_303_7, zb_303_8]
abbrev zb_304_0 : List zI0 := [(0, 0, 1, 0, 0), (3, 0, 0, 0, 0), (11, 12, 49, 163, 49), (0, 0, 1, 0, 0), (1, 12, 48, 171, 48), (8, 0, 0, 0, 0)]
abbrev zc_304 : List (List zI0) := [zb_304_0]
abbrev zb_305_0 : List zI0 := [(0, 0, 1, 0, 0), (3, 0, 0, 0, 0), (11, 12, 49, 163, 49), (0, 0, 1, 0, 0), (1, 12, 33, 165, 33), (8, 0, 0, 0, 0)]
abbrev zc_305 : List (List zI0) := [zb_305_0]
abbrev zb_306_0 : List zI0 := [(0, 0, 1, 0, 0), (0, 0, 1, 0, 0), (4, 1, 1, 0, 0), (6, 214, 1, 12, 188), (3, 0, 0, 0, 1), (6, 212, 2, 12, 187), (14, 1, 0, 0, 0), (3, 0, 0, 0, 0), (10, 2, 0, 0, 0)]
abbrev zb_306_1 : List zI0 := [(0, 0, 1, 0, 0), (2, 12, 0, 128, 0), (4, 1, 1, 0, 0), (33, 0, 0, 0, 0), (111, 2, 0, 0, 0)]
abbrev zb_306_2 : List zI0 := [(8, 0, 0, 0, 0)]
abbrev zc_306 : List (List zI0) := [zb_306_0, zb_306_1, zb_306_2]
abbrev zb_307_0 : List zI0 := [(0, 0, 1, 0, 0), (0, 0, 1, 0, 0), (4, 1, 1, 0, 0), (6, 214, 1, 12, 188), (3, 0, 0, 0, 1), (6, 212, 2, 12, 187), (14, 1, 0, 0, 0), (3, 0, 0, 0, 0), (10, 2, 0, 0, 0)]
abbrev zb_307_1 : List zI0 := [(0, 0, 1, 0, 0), (2, 12, 1, 129, 1), (4, 1, 1, 0, 0), (33, 0, 0, 0, 0), (111, 2, 0, 0, 0)]
abbrev zb_307_2 : List zI0 := [(8, 0, 0, 0, 0)]
abbrev zc_307 : List (List zI0) := [zb_307_0, zb_307_1, zb_307_2]
abbrev zb_308_0 : List zI0 := [(0, 0, 1, 0, 0), (0, 0, 1, 0, 0), (4, 1, 1, 0, 0), (6, 214, 1, 12, 188), (3, 0, 0, 0, 1), (6, 212, 2, 12, 187), (15, 1, 0, 0, 0), (0, 0, 1, 0, 0), (4, 1, 1, 0, 0), (6, 219, 1, 12, 190), (14, 1, 0, 0, 0), (3, 0, 0, 0, 1), (10, 2, 0, 0, 0)]
abbrev zb_308_1 : List zI0 := [(3, 0, 0, 0, 0), (111, 2, 0, 0, 0)]
abbrev zb_308_2 : List zI0 := [(9, 0, 0, 0, 0)]
abbrev zc_308 : List (List zI0) := [zb_308_0, zb_308_1, zb_308_2]
abbrev zb_309_0 : List zI0 := [(0, 0, 1, 0, 0), (0, 0, 1, 0, 0), (4, 1, 1, 0, 0), (6, 214, 1, 12, 188), (3, 0, 0, 0, 1), (6, 212, 2, 12, 187), (14, 1, 0, 0, 0), (3, 0, 0, 0, 0), (10, 2, 0, 0, 0)]
abbrev zb_309_1 : List zI0 := [(0, 0, 1, 0, 0), (2, 12, 2, 130, 2), (4, 1, 1, 0, 0), (33, 0, 0, 0, 0), (111, 2, 0, 0, 0)]
abbrev zb_309_2 : List zI0 := [(8, 0, 0, 0, 0)]
abbrev zc_309 : List (List zI0) := [zb_309_0, zb_309_1, zb_309_2]
abbrev zb_310_0 : List zI0 := [(0, 0, 1, 0, 0), (0, 0, 1, 0, 0), (4, 1, 1, 0, 0), (6, 214, 1, 12, 188), (3, 0, 0, 0, 1), (6, 212, 2, 12, 187), (14, 1, 0, 0, 0), (3, 0, 0, 0, 0), (10, 2, 0, 0, 0)]
abbrev zb_310_1 : List zI0 := [(0, 0, 1, 0, 0), (2, 12, 4, 132, 4), (4, 1, 1, 0, 0), (33, 0, 0, 0, 0), (111, 2, 0, 0, 0)]
abbrev zb_310_2 : List zI0 := [(8, 0, 0, 0, 0)]
abbrev zc_310 : List (List zI0) := [zb_310_0, zb_310_1, zb_310_2]
abbrev zb_311_0 : List zI0 := [(0, 0, 1, 0, 0), (4, 1, 1, 0, 0), (5, 225, 1, 0, 194), (3, 0, 0, 0, 1), (6, 212, 2, 12, 187), (14, 1, 0, 0, 0), (3, 0, 0, 0, 0), (10, 2, 0, 0, 0)]
abbrev zb_311_1 : List zI0 := [(0, 0, 1, 0, 0), (2, 12, 10, 138, 10), (4, 1, 1, 0, 0), (33, 0, 0, 0, 0), (111, 2, 0, 0, 0)]
abbrev zb_311_2 : List zI0 := [(8, 0, 0, 0, 0)]
abbrev zc_311 : List (List zI0) := [zb_311_0, zb_311_1, zb_311_2]
abbrev zb_312_0 : List zI0 := [(0, 0, 1, 0, 0), (3, 0, 0, 0, 0), (11, 12, 49, 163, 49), (0, 0, 1, 0, 0), (1, 12, 32, 159, 32), (8, 0, 0, 0, 0)]
abbrev zc_312 : List (List zI0) := [zb_312_0]
abbrev zb_313_0 : List zI0 := [(64, 0, 0, 0, 1), (74, 3, 1, 0, 0), (3, 0, 0, 0, 0), (30, 5, 0, 0, 0), (111, 1, 0, 0, 0)]
abbrev zb_313_1 : List zI0 := [(4, 5, 0, 0, 0), (4, 2, 1, 0, 0), (23, 2, 0, 0, 0), (73, 3, 1, 0, 0), (73, 0, 1, 0, 0), (69, 0, 0, 0, 0), (74, 3, 1, 0, 0), (32, 5, 0, 0, 1), (10, 1, 0, 0, 0)]
abbrev zb_313_2 : List zI0 := [(73, 3, 1, 0, 0), (52, 0, 0, 0, 0)]
abbrev zc_313 : List (List zI0) := [zb_313_0, zb_313_1, zb_313_2]
abbrev zb_314_0 : List zI0 := [(0, 0, 1, 0, 0), (4, 2, 1, 0, 0), (3, 0, 0, 0, 1), (3, 1, 0, 0, 14), (5, 213, 3, 0, 186), (14, 1, 0, 0, 0), (4, 1, 1, 0, 0), (3, 0, 0, 0, 0), (4, 2, 1, 0, 0), (5, 213, 3, 0, 186), (15, 2, 0, 0, 0), (111, 1, 0, 0, 0)]
abbrev zb_314_1 : List zI0 := [(3, 0, 0, 0, 1), (10, 3, 0, 0, 0)]
abbrev zb_314_2 : List zI0 := [(3, 0, 0, 0, 0), (111, 3, 0, 0, 0)]
abbrev zb_314_3 : List zI0 := [(3, 0, 0, 0, 1), (6, 212, 2, 12, 187), (14, 4, 0, 0, 0), (64, 0, 0, 0, 0), (52, 0, 0, 0, 0)]
abbrev zb_314_4 : List zI0 := [(64, 1, 15, 0, 19), (4, 1, 1, 0, 0), (5, 313, 2, 0, 232), (64, 1, 16, 0, 18), (4, 1, 1, 0, 0), (5, 313, 2, 0, 232), (68, 0, 0, 0, 0), (64, 1, 16, 0, 18), (4, 2, 1, 0, 0), (4, 1, 1, 0, 0), (38, 0, 0, 0, 0), (5, 313, 2, 0, 232), (69, 0, 0, 0, 0), (74, 4, 0, 0, 0), (64, 1, 15, 0, 19), (4, 2, 1, 0, 0), (5, 313, 2, 0, 232), (64, 1, 16, 0, 18), (4, 2, 1, 0, 0), (5, 313, 2, 0, 232), (68, 0, 0, 0, 0), (74, 6, 0, 0, 0), (4, 3, 1, 0, 0), (14, 5, 0, 0, 0), (73, 4, 0, 0, 0), (10, 6, 0, 0, 0)]
abbrev zb_314_5 : List zI0 := [(73, 6, 0, 0, 0), (111, 6, 0, 0, 0)]
abbrev zb_314_6 : List zI0 := [(73, 4, 0, 0, 0), (73, 6, 0, 0, 0), (5, 267, 2, 0, 220), (70, 0, 0, 0, 0), (52, 0, 0, 0, 0)]
abbrev zc_314 : List (List zI0) := [zb_314_0, zb_314_1, zb_314_2, zb_314_3, zb_314_4, zb_314_5, zb_314_6]
abbrev zb_315_0 : List zI0 := [(0, 0, 1, 0, 0), (4, 1, 1, 0, 0), (4, 2, 1, 0, 0), (3, 0, 0, 0, 1), (6, 314, 3, 12, 233), (52, 0, 0, 0, 0)]
abbrev zc_315 : List (List zI0) := [zb_315_0]
abbrev zb_316_0 : List zI0 := [(0, 0, 1, 0, 0), (4, 1, 1, 0, 0), (4, 2, 1, 0, 0), (3, 0, 0, 0, 0), (6, 314, 3, 12, 233), (52, 0, 0, 0, 0)]
abbrev zc_316 : List (List zI0) := [zb_316_0]
abbrev zb_317_0 : List zI0 := [(0, 0, 1, 0, 0), (3, 0, 0, 0, 0), (11, 12, 49, 163, 49), (64, 1, 17, 0, 7), (74, 1, 1, 0, 0), (3, 0, 0, 0, 0), (30, 3, 1, 0, 0), (111, 1, 0, 0, 0)]
abbrev zb_317_1 : List zI0 := [(4, 3, 1, 0, 0), (0, 0, 1, 0, 0), (1, 12, 31, 164, 31), (23, 2, 0, 0, 0), (64, 1, 18, 0, 31), (73, 1, 1, 0, 0), (69, 0, 0, 0, 0), (0, 0, 1, 0, 0), (2, 12, 0, 128, 0), (4, 3, 1, 0, 0), (33, 0, 0, 0, 0), (65, 0, 0, 0, 0), (67, 0, 0, 0, 0), (74, 1, 1, 0, 0), (64, 1, 18, 0, 31), (73, 1, 1, 0, 0), (69, 0, 0, 0, 0), (0, 0, 1, 0, 0), (2, 12, 1, 129, 1), (4, 3, 1, 0, 0), (33, 0, 0, 0, 0), (65, 0, 0, 0, 0), (67, 0, 0, 0, 0), (74, 1, 1, 0, 0), (32, 3, 0, 0, 1), (10, 1, 0, 0, 0)]
abbrev zb_317_2 : List zI0 := [(0, 0, 1, 0, 0), (2, 12, 10, 138, 10), (31, 3, 1, 0, 0), (0, 3, 1, 0, 0), (36, 0, 0, 0, 0), (30, 4, 0, 0, 0), (3, 0, 0, 0, 0), (30, 5, 0, 0, 0), (111, 3, 0, 0, 0)]
abbrev zb_317_3 : List zI0 := [(4, 5, 0, 0, 0), (4, 4, 0, 0, 0), (23, 4, 0, 0, 0), (0, 3, 1, 0, 0), (4, 5, 0, 0, 0), (33, 0, 0, 0, 0), (30, 6, 0, 0, 0), (64, 1, 18, 0, 31), (73, 1, 1, 0, 0), (69, 0, 0, 0, 0), (4, 6, 0, 0, 0), (65, 0, 0, 0, 0), (67, 0, 0, 0, 0), (74, 1, 1, 0, 0), (32, 5, 0, 0, 1), (10, 3, 0, 0, 0)]
abbrev zb_317_4 : List zI0 := [(64, 1, 18, 0, 31), (73, 1, 1, 0, 0), (69, 0, 0, 0, 0), (0, 0, 1, 0, 0), (1, 12, 32, 159, 32), (65, 0, 0, 0, 0), (67, 0, 0, 0, 0), (74, 1, 1, 0, 0), (64, 1, 18, 0, 31), (73, 1, 1, 0, 0), (69, 0, 0, 0, 0), (0, 0, 1, 0, 0), (1, 12, 41, 176, 41), (65, 0, 0, 0, 0), (67, 0, 0, 0, 0), (74, 1, 1, 0, 0), (64, 1, 18, 0, 31), (73, 1, 1, 0, 0), (69, 0, 0, 0, 0), (0, 0, 1, 0, 0), (1, 12, 48, 171, 48), (65, 0, 0, 0, 0), (67, 0, 0, 0, 0), (52, 0, 0, 0, 0)]
abbrev zc_317 : List (List zI0) := [zb_317_0, zb_317_1, zb_317_2, zb_317_3, zb_317_4]
abbrev zb_318_0 : List zI0 := [(0, 0, 1, 0, 0), (3, 0, 0, 0, 0), (11, 12, 49, 163, 49), (0, 0, 1, 0, 0), (1, 12, 32, 159, 32), (95, 0, 0, 0, 0), (98, 1, 19, 0, 1203982336), (90, 0, 0, 0, 0), (5, 323, 1, 0, 234), (8, 0, 0, 0, 0)]
abbrev zc_318 : List (List zI0) := [zb_318_0]
abbrev zb_319_0 : List zI0 := [(0, 0, 1, 0, 0), (0, 0, 1, 0, 0), (1, 12, 31, 164, 31), (15, 1, 0, 0, 0), (3, 0, 0, 0, 1), (10, 2, 0, 0, 0)]
abbrev zb_319_1 : List zI0 := [(3, 0, 0, 0, 0), (111, 2, 0, 0, 0)]
abbrev zb_319_2 : List zI0 := [(3, 0, 0, 0, 1), (6, 212, 2, 12, 187), (14, 3, 0, 0, 0), (87, 0, 0, 0, 0), (54, 0, 0, 0, 0)]
abbrev zb_319_3 : List zI0 := [(3, 0, 0, 0, 0), (30, 1, 1, 0, 0), (3, 0, 0, 0, 0), (30, 2, 1, 0, 0), (111, 4, 0, 0, 0)]
abbrev zb_319_4 : List zI0 := [(4, 2, 1, 0, 0), (0, 0, 1, 0, 0), (1, 12, 31, 164, 31), (23, 7, 0, 0, 0), (4, 1, 1, 0, 0), (0, 0, 1, 0, 0), (4, 2, 1, 0, 0), (6, 219, 1, 12, 190), (14, 5, 0, 0, 0), (3, 0, 0, 0, 1), (10, 6, 0, 0, 0)]
abbrev zb_319_5 : List zI0 := [(3, 0, 0, 0, 0), (111, 6, 0, 0, 0)]
abbrev zb_319_6 : List zI0 := [(37, 0, 0, 0, 0), (30, 1, 1, 0, 0), (32, 2, 0, 0, 1), (10, 4, 0, 0, 0)]
abbrev zb_319_7 : List zI0 := [(4, 1, 1, 0, 0), (95, 0, 0, 0, 0), (0, 0, 1, 0, 0), (1, 12, 31, 164, 31), (95, 0, 0, 0, 0), (90, 0, 0, 0, 0), (54, 0, 0, 0, 0)]
abbrev zc_319 : List (List zI0) := [zb_319_0, zb_319_1, zb_319_2, zb_319_3, zb_319_4, zb_319_5, zb_319_6, zb_319_7]
abbrev zb_320_0 : List zI0 := [(0, 0, 1, 0, 0), (0, 0, 1, 0, 0), (1, 12, 31, 164, 31), (15, 1, 0, 0, 0), (3, 0, 0, 0, 1), (10, 2, 0, 0, 0)]
abbrev zb_320_1 : List zI0 := [(3, 0, 0, 0, 0), (111, 2, 0, 0, 0)]
abbrev zb_320_2 : List zI0 := [(3, 0, 0, 0, 1), (6, 212, 2, 12, 187), (14, 3, 0, 0, 0), (77, 0, 0, 0, 0), (53, 0, 0, 0, 0)]
abbrev zb_320_3 : List zI0 := [(3, 0, 0, 0, 0), (30, 1, 1, 0, 0), (3, 0, 0, 0, 0), (30, 2, 1, 0, 0), (111, 4, 0, 0, 0)]
abbrev zb_320_4 : List zI0 := [(4, 2, 1, 0, 0), (0, 0, 1, 0, 0), (1, 12, 31, 164, 31), (23, 5, 0, 0, 0), (4, 1, 1, 0, 0), (0, 0, 1, 0, 0), (2, 12, 1, 129, 1), (4, 2, 1, 0, 0), (33, 0, 0, 0, 0), (37, 0, 0, 0, 0), (30, 1, 1, 0, 0), (32, 2, 0, 0, 1), (10, 4, 0, 0, 0)]
abbrev zb_320_5 : List zI0 := [(4, 1, 1, 0, 0), (86, 0, 0, 0, 0), (0, 0, 1, 0, 0), (1, 12, 31, 164, 31), (86, 0, 0, 0, 0), (84, 0, 0, 0, 0), (53, 0, 0, 0, 0)]
abbrev zc_320 : List (List zI0) := [zb_320_0, zb_320_1, zb_320_2, zb_320_3, zb_320_4, zb_320_5]
abbrev zb_321_0 : List zI0 := [(0, 0, 1, 0, 0), (3, 0, 0, 0, 0), (11, 12, 49, 163, 49), (3, 0, 0, 0, 1), (9, 0, 0, 0, 0)]
abbrev zc_321 : List (List zI0) := [zb_321_0]
abbrev zb_322_0 : List zI0 := [(88, 0, 1, 0, 0), (88, 0, 1, 0, 0), (94, 0, 0, 0, 0), (14, 1, 0, 0, 0), (3, 0, 0, 0, 1), (10, 2, 0, 0, 0)]
abbrev zb_322_1 : List zI0 := [(3, 0, 0, 0, 0), (111, 2, 0, 0, 0)]
abbrev zb_322_2 : List zI0 := [(9, 0, 0, 0, 0)]
abbrev zc_322 : List (List zI0) := [zb_322_0, zb_322_1, zb_322_2]
abbrev zb_323_0 : List zI0 := [(88, 0, 1, 0, 0), (5, 322, 1, 0, 235), (15, 1, 0, 0, 0), (88, 0, 1, 0, 0), (107, 0, 0, 0, 74), (8, 0, 0, 0, 0)]
abbrev zb_323_1 : List zI0 := [(3, 3, 20, 0, 2143289344), (8, 0, 0, 0, 0)]
abbrev zc_323 : List (List zI0) := [zb_323_0, zb_323_1]
abbrev zb_324_0 : List zI0 := [(4, 0, 1, 0, 0), (4, 0, 1, 0, 0), (3, 0, 0, 0, 1), (45, 0, 0, 0, 0), (3, 4, 21, 0, 1431655765), (42, 0, 0, 0, 0), (38, 0, 0, 0, 0), (30, 0, 1, 0, 0), (4, 0, 1, 0, 0), (3, 4, 22, 0, 858993459), (42, 0, 0, 0, 0), (4, 0, 1, 0, 0), (3, 0, 0, 0, 2), (45, 0, 0, 0, 0), (3, 4, 22, 0, 858993459), (42, 0, 0, 0, 0), (37, 0, 0, 0, 0), (30, 0, 1, 0, 0), (4, 0, 1, 0, 0), (4, 0, 1, 0, 0), (3, 0, 0, 0, 4), (45, 0, 0, 0, 0), (37, 0, 0, 0, 0), (3, 4, 23, 0, 252645135), (42, 0, 0, 0, 0), (30, 0, 1, 0, 0), (4, 0, 1, 0, 0), (4, 0, 1, 0, 0), (3, 1, 0, 0, 8), (45, 0, 0, 0, 0), (37, 0, 0, 0, 0), (30, 0, 1, 0, 0), (4, 0, 1, 0, 0), (4, 0, 1, 0, 0), (3, 1, 0, 0, 16), (45, 0, 0, 0, 0), (37, 0, 0, 0, 0), (30, 0, 1, 0, 0), (4, 0, 1, 0, 0), (3, 1, 0, 0, 63), (42, 0, 0, 0, 0), (8, 0, 0, 0, 0)]
abbrev zc_324 : List (List zI0) := [zb_324_0]
abbrev zb_325_0 : List zI0 := [(4, 0, 1, 0, 0), (4, 1, 1, 0, 0), (41, 0, 0, 0, 0), (30, 2, 1, 0, 0), (4, 0, 1, 0, 0), (4, 1, 1, 0, 0), (46, 0, 0, 0, 0), (17, 1, 0, 0, 0), (4, 2, 1, 0, 0), (14, 1, 0, 0, 0), (4, 2, 1, 0, 0), (4, 1, 1, 0, 0), (37, 0, 0, 0, 0), (8, 0, 0, 0, 0)]
abbrev zb_325_1 : List zI0 := [(4, 2, 1, 0, 0), (8, 0, 0, 0, 0)]
abbrev zc_325 : List (List zI0) := [zb_325_0, zb_325_1]
abbrev zb_326_0 : List zI0 := [(4, 0, 1, 0, 0), (4, 1, 1, 0, 0), (22, 1, 0, 0, 0), (4, 0, 1, 0, 0), (10, 2, 0, 0, 0)]
abbrev zb_326_1 : List zI0 := [(4, 1, 1, 0, 0), (111, 2, 0, 0, 0)]
abbrev zb_326_2 : List zI0 := [(8, 0, 0, 0, 0)]
abbrev zc_326 : List (List zI0) := [zb_326_0, zb_326_1, zb_326_2]
abbrev zb_327_0 : List zI0 := [(4, 0, 1, 0, 0), (4, 1, 1, 0, 0), (24, 1, 0, 0, 0), (4, 0, 1, 0, 0), (10, 2, 0, 0, 0)]
abbrev zb_327_1 : List zI0 := [(4, 1, 1, 0, 0), (111, 2, 0, 0, 0)]
abbrev zb_327_2 : List zI0 := [(8, 0, 0, 0, 0)]
abbrev zc_327 : List (List zI0) := [zb_327_0, zb_327_1, zb_327_2]
abbrev zb_328_0 : List zI0 := [(3, 0, 0, 0, 0), (30, 2, 1, 0, 0), (0, 0, 1, 0, 0), (36, 0, 0, 0, 0), (30, 3, 1, 0, 0), (111, 1, 0, 0, 0)]
abbrev zb_328_1 : List zI0 := [(4, 2, 1, 0, 0), (4, 3, 1, 0, 0), (23, 2, 0, 0, 0), (0, 0, 1, 0, 0), (4, 2, 1, 0, 0), (4, 1, 1, 0, 0), (35, 0, 0, 0, 0), (32, 2, 0, 0, 1), (10, 1, 0, 0, 0)]
abbrev zb_328_2 : List zI0 := [(50, 0, 0, 0, 0)]
abbrev zc_328 : List (List zI0) := [zb_328_0, zb_328_1, zb_328_2]
abbrev zb_329_0 : List zI0 := [(0, 2, 1, 0, 0), (3, 0, 0, 0, 0), (0, 0, 1, 0, 0), (4, 1, 1, 0, 0), (6, 118, 1, 11, 236), (65, 0, 0, 0, 0), (76, 0, 0, 0, 0), (10, 3, 0, 0, 0)]
abbrev zb_329_1 : List zI0 := [(3, 0, 0, 0, 1), (8, 0, 0, 0, 0)]
abbrev zb_329_2 : List zI0 := [(3, 0, 0, 0, 2), (8, 0, 0, 0, 0)]
abbrev zb_329_3 : List zI0 := [(3, 0, 0, 0, 0), (8, 0, 0, 0, 0)]
abbrev zc_329 : List (List zI0) := [zb_329_0, zb_329_1, zb_329_2, zb_329_3]
abbrev zb_330_0 : List zI0 := [(0, 3, 1, 0, 0), (3, 0, 0, 0, 0), (0, 0, 1, 0, 0), (4, 1, 1, 0, 0), (4, 2, 1, 0, 0), (6, 119, 2, 11, 237), (65, 0, 0, 0, 0), (76, 0, 0, 0, 0), (10, 4, 0, 0, 0)]
abbrev zb_330_1 : List zI0 := [(3, 0, 0, 0, 1), (8, 0, 0, 0, 0)]
abbrev zb_330_2 : List zI0 := [(3, 0, 0, 0, 2), (8, 0, 0, 0, 0)]
abbrev zb_330_3 : List zI0 := [(3, 0, 0, 0, 3), (8, 0, 0, 0, 0)]
abbrev zb_330_4 : List zI0 := [(3, 0, 0, 0, 0), (8, 0, 0, 0, 0)]
abbrev zc_330 : List (List zI0) := [zb_330_0, zb_330_1, zb_330_2, zb_330_3, zb_330_4]
abbrev zb_331_0 : List zI0 := [(0, 3, 1, 0, 0), (3, 0, 0, 0, 0), (0, 0, 1, 0, 0), (4, 1, 1, 0, 0), (4, 2, 1, 0, 0), (6, 120, 2, 11, 238), (65, 0, 0, 0, 0), (76, 0, 0, 0, 0), (10, 4, 0, 0, 0)]
abbrev zb_331_1 : List zI0 := [(3, 0, 0, 0, 1), (8, 0, 0, 0, 0)]
abbrev zb_331_2 : List zI0 := [(3, 0, 0, 0, 2), (8, 0, 0, 0, 0)]
abbrev zb_331_3 : List zI0 := [(3, 0, 0, 0, 3), (8, 0, 0, 0, 0)]
abbrev zb_331_4 : List zI0 := [(3, 0, 0, 0, 0), (8, 0, 0, 0, 0)]
abbrev zc_331 : List (List zI0) := [zb_331_0, zb_331_1, zb_331_2, zb_331_3, zb_331_4]
abbrev zb_332_0 : List zI0 := [(0, 3, 1, 0, 0), (3, 0, 0, 0, 0), (0, 0, 1, 0, 0), (4, 1, 1, 0, 0), (4, 2, 1, 0, 0), (6, 121, 2, 11, 239), (65, 0, 0, 0, 0), (76, 0, 0, 0, 0), (10, 3, 0, 0, 0)]
abbrev zb_332_1 : List zI0 := [(3, 0, 0, 0, 1), (8, 0, 0, 0, 0)]
abbrev zb_332_2 : List zI0 := [(3, 0, 0, 0, 2), (8, 0, 0, 0, 0)]
abbrev zb_332_3 : List zI0 := [(3, 0, 0, 0, 0), (8, 0, 0, 0, 0)]
abbrev zc_332 : List (List zI0) := [zb_332_0, zb_332_1, zb_332_2, zb_332_3]
abbrev zb_333_0 : List zI0 := [(0, 3, 1, 0, 0), (3, 0, 0, 0, 0), (0, 0, 1, 0, 0), (4, 1, 1, 0, 0), (4, 2, 1, 0, 0), (6, 122, 2, 11, 240), (65, 0, 0, 0, 0), (76, 0, 0, 0, 0), (10, 3, 0, 0, 0)]
abbrev zb_333_1 : List zI0 := [(3, 0, 0, 0, 1), (8, 0, 0, 0, 0)]
abbrev zb_333_2 : List zI0 := [(3, 0, 0, 0, 2), (8, 0, 0, 0, 0)]
abbrev zb_333_3 : List zI0 := [(3, 0, 0, 0, 0), (8, 0, 0, 0, 0)]
abbrev zc_333 : List (List zI0) := [zb_333_0, zb_333_1, zb_333_2, zb_333_3]
abbrev zb_334_0 : List zI0 := [(0, 2, 1, 0, 0), (3, 0, 0, 0, 0), (0, 0, 1, 0, 0), (4, 1, 1, 0, 0), (6, 123, 1, 11, 241), (65, 0, 0, 0, 0), (76, 0, 0, 0, 0), (10, 3, 0, 0, 0)]
abbrev zb_334_1 : List zI0 := [(3, 0, 0, 0, 1), (8, 0, 0, 0, 0)]
abbrev zb_334_2 : List zI0 := [(3, 0, 0, 0, 2), (8, 0, 0, 0, 0)]
abbrev zb_334_3 : List zI0 := [(3, 0, 0, 0, 0), (8, 0, 0, 0, 0)]
abbrev zc_334 : List (List zI0) := [zb_334_0, zb_334_1, zb_334_2, zb_334_3]
abbrev zb_335_0 : List zI0 := [(0, 3, 1, 0, 0), (3, 0, 0, 0, 0), (0, 0, 1, 0, 0), (4, 1, 1, 0, 0), (4, 2, 1, 0, 0), (6, 124, 2, 11, 242), (65, 0, 0, 0, 0), (76, 0, 0, 0, 0), (10, 4, 0, 0, 0)]
abbrev zb_335_1 : List zI0 := [(3, 0, 0, 0, 1), (8, 0, 0, 0, 0)]
abbrev zb_335_2 : List zI0 := [(3, 0, 0, 0, 2), (8, 0, 0, 0, 0)]
abbrev zb_335_3 : List zI0 := [(3, 0, 0, 0, 3), (8, 0, 0, 0, 0)]
abbrev zb_335_4 : List zI0 := [(3, 0, 0, 0, 0), (8, 0, 0, 0, 0)]
abbrev zc_335 : List (List zI0) := [zb_335_0, zb_335_1, zb_335_2, zb_335_3, zb_335_4]
abbrev zb_336_0 : List zI0 := [(0, 3, 1, 0, 0), (3, 0, 0, 0, 0), (0, 0, 1, 0, 0), (4, 1, 1, 0, 0), (4, 2, 1, 0, 0), (6, 125, 2, 11, 243), (65, 0, 0, 0, 0), (76, 0, 0, 0, 0), (10, 4, 0, 0, 0)]
abbrev zb_336_1 : List zI0 := [(3, 0, 0, 0, 1), (8, 0, 0, 0, 0)]
abbrev zb_336_2 : List zI0 := [(3, 0, 0, 0, 2), (8, 0, 0, 0, 0)]
abbrev zb_336_3 : List zI0 := [(3, 0, 0, 0, 3), (8, 0, 0, 0, 0)]
abbrev zb_336_4 : List zI0 := [(3, 0, 0, 0, 0), (8, 0, 0, 0, 0)]
abbrev zc_336 : List (List zI0) := [zb_336_0, zb_336_1, zb_336_2, zb_336_3, zb_336_4]
abbrev zb_337_0 : List zI0 := [(0, 2, 1, 0, 0), (3, 0, 0, 0, 0), (0, 0, 1, 0, 0), (4, 1, 1, 0, 0), (6, 127, 1, 11, 244), (65, 0, 0, 0, 0), (76, 0, 0, 0, 0), (10, 2, 0, 0, 0)]
abbrev zb_337_1 : List zI0 := [(3, 0, 0, 0, 1), (8, 0, 0, 0, 0)]
abbrev zb_337_2 : List zI0 := [(3, 0, 0, 0, 0), (8, 0, 0, 0, 0)]
abbrev zc_337 : List (List zI0) := [zb_337_0, zb_337_1, zb_337_2]
abbrev zb_338_0 : List zI0 := [(0, 3, 1, 0, 0), (3, 0, 0, 0, 0), (0, 0, 1, 0, 0), (4, 1, 1, 0, 0), (4, 2, 1, 0, 0), (6, 128, 2, 11, 245), (14, 1, 0, 0, 0), (64, 0, 0, 0, 1), (10, 2, 0, 0, 0)]
abbrev zb_338_1 : List zI0 := [(64, 0, 0, 0, 0), (111, 2, 0, 0, 0)]
abbrev zb_338_2 : List zI0 := [(76, 0, 0, 0, 0), (10, 5, 0, 0, 0)]
abbrev zb_338_3 : List zI0 := [(3, 0, 0, 0, 1), (8, 0, 0, 0, 0)]
abbrev zb_338_4 : List zI0 := [(3, 0, 0, 0, 2), (8, 0, 0, 0, 0)]
abbrev zb_338_5 : List zI0 := [(3, 0, 0, 0, 0), (8, 0, 0, 0, 0)]
abbrev zc_338 : List (List zI0) := [zb_338_0, zb_338_1, zb_338_2, zb_338_3, zb_338_4, zb_338_5]
abbrev zb_339_0 : List zI0 := [(0, 2, 1, 0, 0), (3, 0, 0, 0, 0), (0, 0, 1, 0, 0), (4, 1, 1, 0, 0), (6, 129, 1, 11, 246), (65, 0, 0, 0, 0), (76, 0, 0, 0, 0), (10, 3, 0, 0, 0)]
abbrev zb_339_1 : List zI0 := [(3, 0, 0, 0, 1), (8, 0, 0, 0, 0)]
abbrev zb_339_2 : List zI0 := [(3, 0, 0, 0, 2), (8, 0, 0, 0, 0)]
abbrev zb_339_3 : List zI0 := [(3, 0, 0, 0, 0), (8, 0, 0, 0, 0)]
abbrev zc_339 : List (List zI0) := [zb_339_0, zb_339_1, zb_339_2, zb_339_3]
abbrev zb_340_0 : List zI0 := [(0, 2, 1, 0, 0), (3, 0, 0, 0, 0), (0, 0, 1, 0, 0), (4, 1, 1, 0, 0), (6, 130, 1, 11, 247), (65, 0, 0, 0, 0), (76, 0, 0, 0, 0), (10, 3, 0, 0, 0)]
abbrev zb_340_1 : List zI0 := [(3, 0, 0, 0, 1), (8, 0, 0, 0, 0)]
abbrev zb_340_2 : List zI0 := [(3, 0, 0, 0, 2), (8, 0, 0, 0, 0)]
abbrev zb_340_3 : List zI0 := [(3, 0, 0, 0, 0), (8, 0, 0, 0, 0)]
abbrev zc_340 : List (List zI0) := [zb_340_0, zb_340_1, zb_340_2, zb_340_3]
abbrev zb_341_0 : List zI0 := [(0, 2, 1, 0, 0), (3, 0, 0, 0, 0), (0, 0, 1, 0, 0), (4, 1, 1, 0, 0), (6, 131, 1, 11, 248), (65, 0, 0, 0, 0), (76, 0, 0, 0, 0), (10, 3, 0, 0, 0)]
abbrev zb_341_1 : List zI0 := [(3, 0, 0, 0, 1), (8, 0, 0, 0, 0)]
abbrev zb_341_2 : List zI0 := [(3, 0, 0, 0, 2), (8, 0, 0, 0, 0)]
abbrev zb_341_3 : List zI0 := [(3, 0, 0, 0, 0), (8, 0, 0, 0, 0)]
abbrev zc_341 : List (List zI0) := [zb_341_0, zb_341_1, zb_341_2, zb_341_3]
abbrev zb_342_0 : List zI0 := [(0, 4, 0, 0, 0), (3, 0, 0, 0, 0), (0, 0, 1, 0, 0), (4, 1, 1, 0, 0), (4, 2, 1, 0, 0), (4, 3, 1, 0, 0), (6, 132, 3, 11, 249), (65, 0, 0, 0, 0), (76, 0, 0, 0, 0), (10, 5, 0, 0, 0)]
abbrev zb_342_1 : List zI0 := [(3, 0, 0, 0, 1), (8, 0, 0, 0, 0)]
abbrev zb_342_2 : List zI0 := [(3, 0, 0, 0, 2), (8, 0, 0, 0, 0)]
abbrev zb_342_3 : List zI0 := [(3, 0, 0, 0, 3), (8, 0, 0, 0, 0)]
abbrev zb_342_4 : List zI0 := [(3, 0, 0, 0, 4), (8, 0, 0, 0, 0)]
abbrev zb_342_5 : List zI0 := [(3, 0, 0, 0, 0), (8, 0, 0, 0, 0)]
abbrev zc_342 : List (List zI0) := [zb_342_0, zb_342_1, zb_342_2, zb_342_3, zb_342_4, zb_342_5]
abbrev zb_343_0 : List zI0 := [(0, 1, 1, 0, 0), (3, 0, 0, 0, 0), (0, 0, 1, 0, 0), (6, 133, 0, 11, 250), (65, 0, 0, 0, 0), (76, 0, 0, 0, 0), (10, 3, 0, 0, 0)]
abbrev zb_343_1 : List zI0 := [(3, 0, 0, 0, 1), (8, 0, 0, 0, 0)]
abbrev zb_343_2 : List zI0 := [(3, 0, 0, 0, 2), (8, 0, 0, 0, 0)]
abbrev zb_343_3 : List zI0 := [(3, 0, 0, 0, 0), (8, 0, 0, 0, 0)]
abbrev zc_343 : List (List zI0) := [zb_343_0, zb_343_1, zb_343_2, zb_343_3]
abbrev zb_344_0 : List zI0 := [(0, 2, 1, 0, 0), (3, 0, 0, 0, 0), (0, 0, 1, 0, 0), (4, 1, 1, 0, 0), (6, 134, 1, 11, 251), (65, 0, 0, 0, 0), (76, 0, 0, 0, 0), (10, 4, 0, 0, 0)]
abbrev zb_344_1 : List zI0 := [(3, 0, 0, 0, 1), (8, 0, 0, 0, 0)]
abbrev zb_344_2 : List zI0 := [(3, 0, 0, 0, 2), (8, 0, 0, 0, 0)]
abbrev zb_344_3 : List zI0 := [(3, 0, 0, 0, 3), (8, 0, 0, 0, 0)]
abbrev zb_344_4 : List zI0 := [(3, 0, 0, 0, 0), (8, 0, 0, 0, 0)]
abbrev zc_344 : List (List zI0) := [zb_344_0, zb_344_1, zb_344_2, zb_344_3, zb_344_4]
abbrev zb_345_0 : List zI0 := [(0, 2, 1, 0, 0), (3, 0, 0, 0, 0), (0, 0, 1, 0, 0), (4, 1, 1, 0, 0), (6, 135, 1, 11, 252), (65, 0, 0, 0, 0), (76, 0, 0, 0, 0), (10, 4, 0, 0, 0)]
abbrev zb_345_1 : List zI0 := [(3, 0, 0, 0, 1), (8, 0, 0, 0, 0)]
abbrev zb_345_2 : List zI0 := [(3, 0, 0, 0, 2), (8, 0, 0, 0, 0)]
abbrev zb_345_3 : List zI0 := [(3, 0, 0, 0, 3), (8, 0, 0, 0, 0)]
abbrev zb_345_4 : List zI0 := [(3, 0, 0, 0, 0), (8, 0, 0, 0, 0)]
abbrev zc_345 : List (List zI0) := [zb_345_0, zb_345_1, zb_345_2, zb_345_3, zb_345_4]
abbrev zb_346_0 : List zI0 := [(0, 2, 1, 0, 0), (3, 0, 0, 0, 0), (0, 0, 1, 0, 0), (4, 1, 1, 0, 0), (6, 136, 1, 11, 253), (65, 0, 0, 0, 0), (76, 0, 0, 0, 0), (10, 4, 0, 0, 0)]
abbrev zb_346_1 : List zI0 := [(3, 0, 0, 0, 1), (8, 0, 0, 0, 0)]
abbrev zb_346_2 : List zI0 := [(3, 0, 0, 0, 2), (8, 0, 0, 0, 0)]
abbrev zb_346_3 : List zI0 := [(3, 0, 0, 0, 3), (8, 0, 0, 0, 0)]
abbrev zb_346_4 : List zI0 := [(3, 0, 0, 0, 0), (8, 0, 0, 0, 0)]
abbrev zc_346 : List (List zI0) := [zb_346_0, zb_346_1, zb_346_2, zb_346_3, zb_346_4]
abbrev zb_347_0 : List zI0 := [(0, 2, 1, 0, 0), (3, 0, 0, 0, 0), (0, 0, 1, 0, 0), (4, 1, 1, 0, 0), (6, 137, 1, 11, 254), (65, 0, 0, 0, 0), (76, 0, 0, 0, 0), (10, 4, 0, 0, 0)]
abbrev zb_347_1 : List zI0 := [(3, 0, 0, 0, 1), (8, 0, 0, 0, 0)]
abbrev zb_347_2 : List zI0 := [(3, 0, 0, 0, 2), (8, 0, 0, 0, 0)]
abbrev zb_347_3 : List zI0 := [(3, 0, 0, 0, 3), (8, 0, 0, 0, 0)]
abbrev zb_347_4 : List zI0 := [(3, 0, 0, 0, 0), (8, 0, 0, 0, 0)]
abbrev zc_347 : List (List zI0) := [zb_347_0, zb_347_1, zb_347_2, zb_347_3, zb_347_4]
abbrev zb_348_0 : List zI0 := [(0, 2, 1, 0, 0), (3, 0, 0, 0, 0), (0, 0, 1, 0, 0), (4, 1, 1, 0, 0), (6, 138, 1, 11, 255), (65, 0, 0, 0, 0), (76, 0, 0, 0, 0), (10, 4, 0, 0, 0)]
abbrev zb_348_1 : List zI0 := [(3, 0, 0, 0, 1), (8, 0, 0, 0, 0)]
abbrev zb_348_2 : List zI0 := [(3, 0, 0, 0, 2), (8, 0, 0, 0, 0)]
abbrev zb_348_3 : List zI0 := [(3, 0, 0, 0, 3), (8, 0, 0, 0, 0)]
abbrev zb_348_4 : List zI0 := [(3, 0, 0, 0, 0), (8, 0, 0, 0, 0)]
abbrev zc_348 : List (List zI0) := [zb_348_0, zb_348_1, zb_348_2, zb_348_3, zb_348_4]
abbrev zb_349_0 : List zI0 := [(0, 4, 0, 0, 0), (3, 0, 0, 0, 0), (0, 0, 1, 0, 0), (4, 1, 1, 0, 0), (4, 2, 1, 0, 0), (4, 3, 1, 0, 0), (6, 139, 3, 11, 256), (65, 0, 0, 0, 0), (76, 0, 0, 0, 0), (10, 3, 0, 0, 0)]
abbrev zb_349_1 : List zI0 := [(3, 0, 0, 0, 1), (8, 0, 0, 0, 0)]
abbrev zb_349_2 : List zI0 := [(3, 0, 0, 0, 2), (8, 0, 0, 0, 0)]
abbrev zb_349_3 : List zI0 := [(3, 0, 0, 0, 0), (8, 0, 0, 0, 0)]
abbrev zc_349 : List (List zI0) := [zb_349_0, zb_349_1, zb_349_2, zb_349_3]
abbrev zb_350_0 : List zI0 := [(0, 2, 1, 0, 0), (3, 0, 0, 0, 0), (0, 0, 1, 0, 0), (4, 1, 1, 0, 0), (6, 140, 1, 11, 257), (65, 0, 0, 0, 0), (76, 0, 0, 0, 0), (10, 2, 0, 0, 0)]
abbrev zb_350_1 : List zI0 := [(3, 0, 0, 0, 1), (8, 0, 0, 0, 0)]
abbrev zb_350_2 : List zI0 := [(3, 0, 0, 0, 0), (8, 0, 0, 0, 0)]
abbrev zc_350 : List (List zI0) := [zb_350_0, zb_350_1, zb_350_2]
abbrev zb_351_0 : List zI0 := [(0, 1, 1, 0, 0), (3, 0, 0, 0, 0), (0, 0, 1, 0, 0), (6, 141, 0, 11, 258), (65, 0, 0, 0, 0), (76, 0, 0, 0, 0), (10, 2, 0, 0, 0)]
abbrev zb_351_1 : List zI0 := [(3, 0, 0, 0, 1), (8, 0, 0, 0, 0)]
abbrev zb_351_2 : List zI0 := [(3, 0, 0, 0, 0), (8, 0, 0, 0, 0)]
abbrev zc_351 : List (List zI0) := [zb_351_0, zb_351_1, zb_351_2]
abbrev zb_352_0 : List zI0 := [(0, 2, 1, 0, 0), (3, 0, 0, 0, 0), (0, 0, 1, 0, 0), (4, 1, 1, 0, 0), (6, 142, 1, 11, 259), (65, 0, 0, 0, 0), (76, 0, 0, 0, 0), (10, 2, 0, 0, 0)]
abbrev zb_352_1 : List zI0 := [(3, 0, 0, 0, 1), (8, 0, 0, 0, 0)]
abbrev zb_352_2 : List zI0 := [(3, 0, 0, 0, 0), (8, 0, 0, 0, 0)]
abbrev zc_352 : List (List zI0) := [zb_352_0, zb_352_1, zb_352_2]
abbrev zb_353_0 : List zI0 := [(0, 2, 1, 0, 0), (3, 0, 0, 0, 0), (0, 0, 1, 0, 0), (4, 1, 1, 0, 0), (6, 143, 1, 11, 260), (76, 0, 0, 0, 0), (10, 3, 0, 0, 0)]
abbrev zb_353_1 : List zI0 := [(3, 0, 0, 0, 1), (8, 0, 0, 0, 0)]
abbrev zb_353_2 : List zI0 := [(3, 0, 0, 0, 2), (8, 0, 0, 0, 0)]
abbrev zb_353_3 : List zI0 := [(3, 0, 0, 0, 0), (8, 0, 0, 0, 0)]
abbrev zc_353 : List (List zI0) := [zb_353_0, zb_353_1, zb_353_2, zb_353_3]
abbrev zb_354_0 : List zI0 := [(0, 2, 1, 0, 0), (3, 0, 0, 0, 0), (0, 0, 1, 0, 0), (4, 1, 1, 0, 0), (6, 144, 1, 11, 261), (76, 0, 0, 0, 0), (10, 3, 0, 0, 0)]
abbrev zb_354_1 : List zI0 := [(3, 0, 0, 0, 1), (8, 0, 0, 0, 0)]
abbrev zb_354_2 : List zI0 := [(3, 0, 0, 0, 2), (8, 0, 0, 0, 0)]
abbrev zb_354_3 : List zI0 := [(3, 0, 0, 0, 0), (8, 0, 0, 0, 0)]
abbrev zc_354 : List (List zI0) := [zb_354_0, zb_354_1, zb_354_2, zb_354_3]
abbrev zb_355_0 : List zI0 := [(0, 2, 1, 0, 0), (3, 0, 0, 0, 0), (0, 0, 1, 0, 0), (4, 1, 1, 0, 0), (6, 145, 1, 11, 262), (81, 0, 0, 0, 0), (10, 3, 0, 0, 0)]
abbrev zb_355_1 : List zI0 := [(3, 0, 0, 0, 1), (8, 0, 0, 0, 0)]
abbrev zb_355_2 : List zI0 := [(3, 0, 0, 0, 2), (8, 0, 0, 0, 0)]
abbrev zb_355_3 : List zI0 := [(3, 0, 0, 0, 0), (8, 0, 0, 0, 0)]
abbrev zc_355 : List (List zI0) := [zb_355_0, zb_355_1, zb_355_2, zb_355_3]
abbrev zb_356_0 : List zI0 := [(0, 3, 1, 0, 0), (3, 0, 0, 0, 0), (0, 0, 1, 0, 0), (4, 1, 1, 0, 0), (4, 2, 1, 0, 0), (6, 146, 2, 11, 263), (65, 0, 0, 0, 0), (76, 0, 0, 0, 0), (10, 2, 0, 0, 0)]
abbrev zb_356_1 : List zI0 := [(3, 0, 0, 0, 1), (8, 0, 0, 0, 0)]
abbrev zb_356_2 : List zI0 := [(3, 0, 0, 0, 0), (8, 0, 0, 0, 0)]
abbrev zc_356 : List (List zI0) := [zb_356_0, zb_356_1, zb_356_2]
abbrev zb_357_0 : List zI0 := [(0, 1, 1, 0, 0), (3, 0, 0, 0, 0), (0, 0, 1, 0, 0), (6, 148, 0, 11, 264), (65, 0, 0, 0, 0), (76, 0, 0, 0, 0), (10, 2, 0, 0, 0)]
abbrev zb_357_1 : List zI0 := [(3, 0, 0, 0, 1), (8, 0, 0, 0, 0)]
abbrev zb_357_2 : List zI0 := [(3, 0, 0, 0, 0), (8, 0, 0, 0, 0)]
abbrev zc_357 : List (List zI0) := [zb_357_0, zb_357_1, zb_357_2]
abbrev zb_358_0 : List zI0 := [(0, 2, 1, 0, 0), (3, 0, 0, 0, 0), (0, 0, 1, 0, 0), (4, 1, 1, 0, 0), (6, 149, 1, 11, 265), (14, 1, 0, 0, 0), (64, 0, 0, 0, 1), (10, 2, 0, 0, 0)]
abbrev zb_358_1 : List zI0 := [(64, 0, 0, 0, 0), (111, 2, 0, 0, 0)]
abbrev zb_358_2 : List zI0 := [(76, 0, 0, 0, 0), (10, 4, 0, 0, 0)]
abbrev zb_358_3 : List zI0 := [(3, 0, 0, 0, 1), (8, 0, 0, 0, 0)]
abbrev zb_358_4 : List zI0 := [(3, 0, 0, 0, 0), (8, 0, 0, 0, 0)]
abbrev zc_358 : List (List zI0) := [zb_358_0, zb_358_1, zb_358_2, zb_358_3, zb_358_4]
abbrev zb_359_0 : List zI0 := [(0, 5, 0, 0, 0), (3, 0, 0, 0, 0), (0, 0, 1, 0, 0), (4, 1, 1, 0, 0), (4, 2, 1, 0, 0), (4, 3, 1, 0, 0), (4, 4, 0, 0, 0), (6, 151, 4, 11, 266), (65, 0, 0, 0, 0), (76, 0, 0, 0, 0), (10, 5, 0, 0, 0)]
abbrev zb_359_1 : List zI0 := [(3, 0, 0, 0, 1), (8, 0, 0, 0, 0)]
abbrev zb_359_2 : List zI0 := [(3, 0, 0, 0, 2), (8, 0, 0, 0, 0)]
abbrev zb_359_3 : List zI0 := [(3, 0, 0, 0, 3), (8, 0, 0, 0, 0)]
abbrev zb_359_4 : List zI0 := [(3, 0, 0, 0, 4), (8, 0, 0, 0, 0)]
abbrev zb_359_5 : List zI0 := [(3, 0, 0, 0, 0), (8, 0, 0, 0, 0)]
abbrev zc_359 : List (List zI0) := [zb_359_0, zb_359_1, zb_359_2, zb_359_3, zb_359_4, zb_359_5]
abbrev zb_360_0 : List zI0 := [(0, 2, 1, 0, 0), (3, 0, 0, 0, 0), (0, 0, 1, 0, 0), (4, 1, 1, 0, 0), (6, 152, 1, 11, 267), (65, 0, 0, 0, 0), (76, 0, 0, 0, 0), (10, 2, 0, 0, 0)]
abbrev zb_360_1 : List zI0 := [(3, 0, 0, 0, 1), (8, 0, 0, 0, 0)]
abbrev zb_360_2 : List zI0 := [(3, 0, 0, 0, 0), (8, 0, 0, 0, 0)]
abbrev zc_360 : List (List zI0) := [zb_360_0, zb_360_1, zb_360_2]
abbrev zb_361_0 : List zI0 := [(0, 3, 1, 0, 0), (3, 0, 0, 0, 0), (0, 0, 1, 0, 0), (4, 1, 1, 0, 0), (4, 2, 1, 0, 0), (6, 153, 2, 11, 268), (65, 0, 0, 0, 0), (76, 0, 0, 0, 0), (10, 4, 0, 0, 0)]
abbrev zb_361_1 : List zI0 := [(3, 0, 0, 0, 1), (8, 0, 0, 0, 0)]
abbrev zb_361_2 : List zI0 := [(3, 0, 0, 0, 2), (8, 0, 0, 0, 0)]
abbrev zb_361_3 : List zI0 := [(3, 0, 0, 0, 3), (8, 0, 0, 0, 0)]
abbrev zb_361_4 : List zI0 := [(3, 0, 0, 0, 0), (8, 0, 0, 0, 0)]
abbrev zc_361 : List (List zI0) := [zb_361_0, zb_361_1, zb_361_2, zb_361_3, zb_361_4]
abbrev zb_362_0 : List zI0 := [(0, 3, 1, 0, 0), (3, 0, 0, 0, 0), (0, 0, 1, 0, 0), (4, 1, 1, 0, 0), (4, 2, 1, 0, 0), (6, 154, 2, 11, 269), (65, 0, 0, 0, 0), (76, 0, 0, 0, 0), (10, 3, 0, 0, 0)]
abbrev zb_362_1 : List zI0 := [(3, 0, 0, 0, 1), (8, 0, 0, 0, 0)]
abbrev zb_362_2 : List zI0 := [(3, 0, 0, 0, 2), (8, 0, 0, 0, 0)]
abbrev zb_362_3 : List zI0 := [(3, 0, 0, 0, 0), (8, 0, 0, 0, 0)]
abbrev zc_362 : List (List zI0) := [zb_362_0, zb_362_1, zb_362_2, zb_362_3]
abbrev zb_363_0 : List zI0 := [(0, 2, 1, 0, 0), (3, 0, 0, 0, 0), (0, 0, 1, 0, 0), (4, 1, 1, 0, 0), (6, 155, 1, 11, 270), (65, 0, 0, 0, 0), (76, 0, 0, 0, 0), (10, 3, 0, 0, 0)]
abbrev zb_363_1 : List zI0 := [(3, 0, 0, 0, 1), (8, 0, 0, 0, 0)]
abbrev zb_363_2 : List zI0 := [(3, 0, 0, 0, 2), (8, 0, 0, 0, 0)]
abbrev zb_363_3 : List zI0 := [(3, 0, 0, 0, 0), (8, 0, 0, 0, 0)]
abbrev zc_363 : List (List zI0) := [zb_363_0, zb_363_1, zb_363_2, zb_363_3]
abbrev zb_364_0 : List zI0 := [(0, 3, 1, 0, 0), (3, 0, 0, 0, 0), (0, 0, 1, 0, 0), (4, 1, 1, 0, 0), (4, 2, 1, 0, 0), (6, 156, 2, 11, 271), (65, 0, 0, 0, 0), (76, 0, 0, 0, 0), (10, 5, 0, 0, 0)]
abbrev zb_364_1 : List zI0 := [(3, 0, 0, 0, 1), (8, 0, 0, 0, 0)]
abbrev zb_364_2 : List zI0 := [(3, 0, 0, 0, 2), (8, 0, 0, 0, 0)]
abbrev zb_364_3 : List zI0 := [(3, 0, 0, 0, 3), (8, 0, 0, 0, 0)]
abbrev zb_364_4 : List zI0 := [(3, 0, 0, 0, 4), (8, 0, 0, 0, 0)]
abbrev zb_364_5 : List zI0 := [(3, 0, 0, 0, 0), (8, 0, 0, 0, 0)]
abbrev zc_364 : List (List zI0) := [zb_364_0, zb_364_1, zb_364_2, zb_364_3, zb_364_4, zb_364_5]
abbrev zb_365_0 : List zI0 := [(0, 2, 1, 0, 0), (3, 0, 0, 0, 0), (0, 0, 1, 0, 0), (4, 1, 1, 0, 0), (6, 157, 1, 11, 272), (65, 0, 0, 0, 0), (76, 0, 0, 0, 0), (10, 3, 0, 0, 0)]
abbrev zb_365_1 : List zI0 := [(3, 0, 0, 0, 1), (8, 0, 0, 0, 0)]
abbrev zb_365_2 : List zI0 := [(3, 0, 0, 0, 2), (8, 0, 0, 0, 0)]
abbrev zb_365_3 : List zI0 := [(3, 0, 0, 0, 0), (8, 0, 0, 0, 0)]
abbrev zc_365 : List (List zI0) := [zb_365_0, zb_365_1, zb_365_2, zb_365_3]
abbrev zb_366_0 : List zI0 := [(0, 1, 1, 0, 0), (3, 0, 0, 0, 0), (0, 0, 1, 0, 0), (6, 158, 0, 11, 273), (65, 0, 0, 0, 0), (76, 0, 0, 0, 0), (10, 2, 0, 0, 0)]
abbrev zb_366_1 : List zI0 := [(3, 0, 0, 0, 1), (8, 0, 0, 0, 0)]
abbrev zb_366_2 : List zI0 := [(3, 0, 0, 0, 0), (8, 0, 0, 0, 0)]
abbrev zc_366 : List (List zI0) := [zb_366_0, zb_366_1, zb_366_2]
abbrev zb_367_0 : List zI0 := [(0, 1, 1, 0, 0), (3, 0, 0, 0, 0), (0, 0, 1, 0, 0), (6, 159, 0, 11, 274), (65, 0, 0, 0, 0), (76, 0, 0, 0, 0), (10, 2, 0, 0, 0)]
abbrev zb_367_1 : List zI0 := [(3, 0, 0, 0, 1), (8, 0, 0, 0, 0)]
abbrev zb_367_2 : List zI0 := [(3, 0, 0, 0, 0), (8, 0, 0, 0, 0)]
abbrev zc_367 : List (List zI0) := [zb_367_0, zb_367_1, zb_367_2]
abbrev zb_368_0 : List zI0 := [(0, 3, 1, 0, 0), (3, 0, 0, 0, 0), (0, 0, 1, 0, 0), (4, 1, 1, 0, 0), (4, 2, 1, 0, 0), (6, 163, 2, 11, 275), (65, 0, 0, 0, 0), (76, 0, 0, 0, 0), (10, 5, 0, 0, 0)]
abbrev zb_368_1 : List zI0 := [(3, 0, 0, 0, 1), (8, 0, 0, 0, 0)]
abbrev zb_368_2 : List zI0 := [(3, 0, 0, 0, 2), (8, 0, 0, 0, 0)]
abbrev zb_368_3 : List zI0 := [(3, 0, 0, 0, 3), (8, 0, 0, 0, 0)]
abbrev zb_368_4 : List zI0 := [(3, 0, 0, 0, 4), (8, 0, 0, 0, 0)]
abbrev zb_368_5 : List zI0 := [(3, 0, 0, 0, 0), (8, 0, 0, 0, 0)]
abbrev zc_368 : List (List zI0) := [zb_368_0, zb_368_1, zb_368_2, zb_368_3, zb_368_4, zb_368_5]
abbrev zb_369_0 : List zI0 := [(0, 2, 1, 0, 0), (3, 0, 0, 0, 0), (0, 0, 1, 0, 0), (4, 1, 1, 0, 0), (6, 164, 1, 11, 276), (65, 0, 0, 0, 0), (76, 0, 0, 0, 0), (10, 2, 0, 0, 0)]
abbrev zb_369_1 : List zI0 := [(3, 0, 0, 0, 1), (8, 0, 0, 0, 0)]
abbrev zb_369_2 : List zI0 := [(3, 0, 0, 0, 0), (8, 0, 0, 0, 0)]
abbrev zc_369 : List (List zI0) := [zb_369_0, zb_369_1, zb_369_2]
abbrev zb_370_0 : List zI0 := [(0, 1, 1, 0, 0), (3, 0, 0, 0, 0), (0, 0, 1, 0, 0), (6, 165, 0, 11, 277), (65, 0, 0, 0, 0), (76, 0, 0, 0, 0), (10, 2, 0, 0, 0)]
abbrev zb_370_1 : List zI0 := [(3, 0, 0, 0, 1), (8, 0, 0, 0, 0)]
abbrev zb_370_2 : List zI0 := [(3, 0, 0, 0, 0), (8, 0, 0, 0, 0)]
abbrev zc_370 : List (List zI0) := [zb_370_0, zb_370_1, zb_370_2]
abbrev zb_371_0 : List zI0 := [(0, 2, 1, 0, 0), (3, 0, 0, 0, 0), (0, 0, 1, 0, 0), (4, 1, 1, 0, 0), (6, 166, 1, 11, 278), (65, 0, 0, 0, 0), (76, 0, 0, 0, 0), (10, 3, 0, 0, 0)]
abbrev zb_371_1 : List zI0 := [(3, 0, 0, 0, 1), (8, 0, 0, 0, 0)]
abbrev zb_371_2 : List zI0 := [(3, 0, 0, 0, 2), (8, 0, 0, 0, 0)]
abbrev zb_371_3 : List zI0 := [(3, 0, 0, 0, 0), (8, 0, 0, 0, 0)]
abbrev zc_371 : List (List zI0) := [zb_371_0, zb_371_1, zb_371_2, zb_371_3]
abbrev zb_372_0 : List zI0 := [(0, 2, 1, 0, 0), (3, 0, 0, 0, 0), (0, 0, 1, 0, 0), (4, 1, 1, 0, 0), (6, 169, 1, 11, 279), (65, 0, 0, 0, 0), (76, 0, 0, 0, 0), (10, 2, 0, 0, 0)]
abbrev zb_372_1 : List zI0 := [(3, 0, 0, 0, 1), (8, 0, 0, 0, 0)]
abbrev zb_372_2 : List zI0 := [(3, 0, 0, 0, 0), (8, 0, 0, 0, 0)]
abbrev zc_372 : List (List zI0) := [zb_372_0, zb_372_1, zb_372_2]
abbrev zb_373_0 : List zI0 := [(0, 2, 1, 0, 0), (3, 0, 0, 0, 0), (0, 0, 1, 0, 0), (4, 1, 1, 0, 0), (6, 170, 1, 11, 280), (65, 0, 0, 0, 0), (76, 0, 0, 0, 0), (10, 2, 0, 0, 0)]
abbrev zb_373_1 : List zI0 := [(3, 0, 0, 0, 1), (8, 0, 0, 0, 0)]
abbrev zb_373_2 : List zI0 := [(3, 0, 0, 0, 0), (8, 0, 0, 0, 0)]
abbrev zc_373 : List (List zI0) := [zb_373_0, zb_373_1, zb_373_2]
abbrev zb_374_0 : List zI0 := [(0, 2, 1, 0, 0), (3, 0, 0, 0, 0), (0, 0, 1, 0, 0), (4, 1, 1, 0, 0), (6, 171, 1, 11, 281), (14, 1, 0, 0, 0), (64, 0, 0, 0, 1), (10, 2, 0, 0, 0)]
abbrev zb_374_1 : List zI0 := [(64, 0, 0, 0, 0), (111, 2, 0, 0, 0)]
abbrev zb_374_2 : List zI0 := [(76, 0, 0, 0, 0), (10, 4, 0, 0, 0)]
abbrev zb_374_3 : List zI0 := [(3, 0, 0, 0, 1), (8, 0, 0, 0, 0)]
abbrev zb_374_4 : List zI0 := [(3, 0, 0, 0, 0), (8, 0, 0, 0, 0)]
abbrev zc_374 : List (List zI0) := [zb_374_0, zb_374_1, zb_374_2, zb_374_3, zb_374_4]
abbrev zb_375_0 : List zI0 := [(0, 2, 1, 0, 0), (3, 0, 0, 0, 0), (0, 0, 1, 0, 0), (4, 1, 1, 0, 0), (6, 172, 1, 11, 282), (65, 0, 0, 0, 0), (76, 0, 0, 0, 0), (10, 2, 0, 0, 0)]
abbrev zb_375_1 : List zI0 := [(3, 0, 0, 0, 1), (8, 0, 0, 0, 0)]
abbrev zb_375_2 : List zI0 := [(3, 0, 0, 0, 0), (8, 0, 0, 0, 0)]
abbrev zc_375 : List (List zI0) := [zb_375_0, zb_375_1, zb_375_2]
abbrev zb_376_0 : List zI0 := [(0, 2, 1, 0, 0), (3, 0, 0, 0, 0), (0, 0, 1, 0, 0), (4, 1, 1, 0, 0), (6, 173, 1, 11, 283), (65, 0, 0, 0, 0), (76, 0, 0, 0, 0), (10, 2, 0, 0, 0)]
abbrev zb_376_1 : List zI0 := [(3, 0, 0, 0, 1), (8, 0, 0, 0, 0)]
abbrev zb_376_2 : List zI0 := [(3, 0, 0, 0, 0), (8, 0, 0, 0, 0)]
abbrev zc_376 : List (List zI0) := [zb_376_0, zb_376_1, zb_376_2]
abbrev zb_377_0 : List zI0 := [(0, 2, 1, 0, 0), (3, 0, 0, 0, 0), (0, 0, 1, 0, 0), (4, 1, 1, 0, 0), (6, 174, 1, 11, 284), (65, 0, 0, 0, 0), (76, 0, 0, 0, 0), (10, 2, 0, 0, 0)]
abbrev zb_377_1 : List zI0 := [(3, 0, 0, 0, 1), (8, 0, 0, 0, 0)]
abbrev zb_377_2 : List zI0 := [(3, 0, 0, 0, 0), (8, 0, 0, 0, 0)]
abbrev zc_377 : List (List zI0) := [zb_377_0, zb_377_1, zb_377_2]
abbrev zb_378_0 : List zI0 := [(0, 3, 1, 0, 0), (3, 0, 0, 0, 0), (0, 0, 1, 0, 0), (4, 1, 1, 0, 0), (4, 2, 1, 0, 0), (6, 176, 2, 11, 285), (76, 0, 0, 0, 0), (10, 2, 0, 0, 0)]
abbrev zb_378_1 : List zI0 := [(3, 0, 0, 0, 1), (8, 0, 0, 0, 0)]
abbrev zb_378_2 : List zI0 := [(3, 0, 0, 0, 0), (8, 0, 0, 0, 0)]
abbrev zc_378 : List (List zI0) := [zb_378_0, zb_378_1, zb_378_2]
abbrev zb_379_0 : List zI0 := [(0, 3, 1, 0, 0), (3, 0, 0, 0, 0), (0, 0, 1, 0, 0), (4, 1, 1, 0, 0), (4, 2, 1, 0, 0), (6, 177, 2, 11, 286), (76, 0, 0, 0, 0), (10, 2, 0, 0, 0)]
abbrev zb_379_1 : List zI0 := [(3, 0, 0, 0, 1), (8, 0, 0, 0, 0)]
abbrev zb_379_2 : List zI0 := [(3, 0, 0, 0, 0), (8, 0, 0, 0, 0)]
abbrev zc_379 : List (List zI0) := [zb_379_0, zb_379_1, zb_379_2]
abbrev zb_380_0 : List zI0 := [(0, 1, 1, 0, 0), (3, 0, 0, 0, 0), (0, 0, 1, 0, 0), (6, 180, 0, 11, 287), (97, 0, 0, 0, 0), (81, 0, 0, 0, 0), (10, 2, 0, 0, 0)]
abbrev zb_380_1 : List zI0 := [(3, 0, 0, 0, 1), (8, 0, 0, 0, 0)]
abbrev zb_380_2 : List zI0 := [(3, 0, 0, 0, 0), (8, 0, 0, 0, 0)]
abbrev zc_380 : List (List zI0) := [zb_380_0, zb_380_1, zb_380_2]
abbrev zb_381_0 : List zI0 := [(0, 1, 1, 0, 0), (3, 0, 0, 0, 0), (0, 0, 1, 0, 0), (6, 181, 0, 11, 288), (81, 0, 0, 0, 0), (10, 2, 0, 0, 0)]
abbrev zb_381_1 : List zI0 := [(3, 0, 0, 0, 1), (8, 0, 0, 0, 0)]
abbrev zb_381_2 : List zI0 := [(3, 0, 0, 0, 0), (8, 0, 0, 0, 0)]
abbrev zc_381 : List (List zI0) := [zb_381_0, zb_381_1, zb_381_2]
abbrev zb_382_0 : List zI0 := [(57, 11, 11, 19, 0), (47, 0, 0, 0, 0), (7, 117, 0, 11, 289), (31, 1, 1, 0, 0), (57, 12, 50, 20, 0), (47, 0, 0, 0, 0), (7, 210, 0, 12, 290), (31, 2, 1, 0, 0), (3, 0, 0, 0, 1), (58, 1, 0, 0, 0), (31, 3, 1, 0, 0), (3, 0, 0, 0, 1), (58, 2, 0, 0, 0), (31, 4, 0, 0, 0), (3, 0, 0, 0, 0), (30, 5, 0, 0, 0), (111, 1, 0, 0, 0)]
abbrev zb_382_1 : List zI0 := [(4, 5, 0, 0, 0), (0, 0, 1, 0, 0), (113, 0, 0, 0, 0), (3, 0, 0, 0, 5), (38, 0, 0, 0, 0), (24, 78, 0, 0, 0), (0, 0, 1, 0, 0), (4, 5, 0, 0, 0), (112, 0, 0, 0, 0), (3, 1, 0, 0, 127), (42, 0, 0, 0, 0), (104, 77, 65, 0, 276)]
abbrev zb_382_2 : List zI0 := [(0, 1, 1, 0, 0), (0, 0, 1, 0, 0), (4, 5, 0, 0, 0), (3, 0, 0, 0, 1), (37, 0, 0, 0, 0), (112, 0, 0, 0, 0), (0, 3, 1, 0, 0), (5, 329, 3, 0, 291), (30, 6, 0, 0, 0), (0, 2, 1, 0, 0), (0, 0, 1, 0, 0), (4, 5, 0, 0, 0), (3, 0, 0, 0, 1), (37, 0, 0, 0, 0), (112, 0, 0, 0, 0), (6, 215, 1, 12, 292), (30, 7, 0, 0, 0), (10, 77, 0, 0, 0)]
abbrev zb_382_3 : List zI0 := [(0, 1, 1, 0, 0), (0, 0, 1, 0, 0), (4, 5, 0, 0, 0), (3, 0, 0, 0, 1), (37, 0, 0, 0, 0), (112, 0, 0, 0, 0), (0, 0, 1, 0, 0), (4, 5, 0, 0, 0), (3, 0, 0, 0, 2), (37, 0, 0, 0, 0), (112, 0, 0, 0, 0), (0, 3, 1, 0, 0), (5, 330, 4, 0, 293), (30, 6, 0, 0, 0), (0, 2, 1, 0, 0), (0, 0, 1, 0, 0), (4, 5, 0, 0, 0), (3, 0, 0, 0, 1), (37, 0, 0, 0, 0), (112, 0, 0, 0, 0), (0, 0, 1, 0, 0), (4, 5, 0, 0, 0), (3, 0, 0, 0, 2), (37, 0, 0, 0, 0), (112, 0, 0, 0, 0), (6, 216, 2, 12, 294), (30, 7, 0, 0, 0), (10, 77, 0, 0, 0)]
abbrev zb_382_4 : List zI0 := [(0, 1, 1, 0, 0), (0, 0, 1, 0, 0), (4, 5, 0, 0, 0), (3, 0, 0, 0, 1), (37, 0, 0, 0, 0), (112, 0, 0, 0, 0), (0, 0, 1, 0, 0), (4, 5, 0, 0, 0), (3, 0, 0, 0, 2), (37, 0, 0, 0, 0), (112, 0, 0, 0, 0), (0, 3, 1, 0, 0), (5, 331, 4, 0, 295), (30, 6, 0, 0, 0), (0, 2, 1, 0, 0), (0, 0, 1, 0, 0), (4, 5, 0, 0, 0), (3, 0, 0, 0, 1), (37, 0, 0, 0, 0), (112, 0, 0, 0, 0), (0, 0, 1, 0, 0), (4, 5, 0, 0, 0), (3, 0, 0, 0, 2), (37, 0, 0, 0, 0), (112, 0, 0, 0, 0), (6, 217, 2, 12, 296), (30, 7, 0, 0, 0), (10, 77, 0, 0, 0)]
abbrev zb_382_5 : List zI0 := [(0, 1, 1, 0, 0), (0, 0, 1, 0, 0), (4, 5, 0, 0, 0), (3, 0, 0, 0, 1), (37, 0, 0, 0, 0), (112, 0, 0, 0, 0), (0, 0, 1, 0, 0), (4, 5, 0, 0, 0), (3, 0, 0, 0, 2), (37, 0, 0, 0, 0), (112, 0, 0, 0, 0), (0, 3, 1, 0, 0), (5, 332, 4, 0, 297), (30, 6, 0, 0, 0), (0, 2, 1, 0, 0), (0, 0, 1, 0, 0), (4, 5, 0, 0, 0), (3, 0, 0, 0, 1), (37, 0, 0, 0, 0), (112, 0, 0, 0, 0), (0, 0, 1, 0, 0), (4, 5, 0, 0, 0), (3, 0, 0, 0, 2), (37, 0, 0, 0, 0), (112, 0, 0, 0, 0), (6, 218, 2, 12, 298), (30, 7, 0, 0, 0), (10, 77, 0, 0, 0)]
abbrev zb_382_6 : List zI0 := [(0, 1, 1, 0, 0), (0, 0, 1, 0, 0), (4, 5, 0, 0, 0), (3, 0, 0, 0, 1), (37, 0, 0, 0, 0), (112, 0, 0, 0, 0), (0, 0, 1, 0, 0), (4, 5, 0, 0, 0), (3, 0, 0, 0, 2), (37, 0, 0, 0, 0), (112, 0, 0, 0, 0), (0, 3, 1, 0, 0), (5, 333, 4, 0, 299), (30, 6, 0, 0, 0), (0, 2, 1, 0, 0), (0, 0, 1, 0, 0), (4, 5, 0, 0, 0), (3, 0, 0, 0, 1), (37, 0, 0, 0, 0), (112, 0, 0, 0, 0), (0, 0, 1, 0, 0), (4, 5, 0, 0, 0), (3, 0, 0, 0, 2), (37, 0, 0, 0, 0), (112, 0, 0, 0, 0), (6, 223, 2, 12, 300), (30, 7, 0, 0, 0), (10, 77, 0, 0, 0)]
abbrev zb_382_7 : List zI0 := [(0, 1, 1, 0, 0), (0, 0, 1, 0, 0), (4, 5, 0, 0, 0), (3, 0, 0, 0, 1), (37, 0, 0, 0, 0), (112, 0, 0, 0, 0), (0, 3, 1, 0, 0), (5, 334, 3, 0, 301), (30, 6, 0, 0, 0), (0, 2, 1, 0, 0), (0, 0, 1, 0, 0), (4, 5, 0, 0, 0), (3, 0, 0, 0, 1), (37, 0, 0, 0, 0), (112, 0, 0, 0, 0), (6, 224, 1, 12, 302), (30, 7, 0, 0, 0), (10, 77, 0, 0, 0)]
abbrev zb_382_8 : List zI0 := [(0, 1, 1, 0, 0), (0, 0, 1, 0, 0), (4, 5, 0, 0, 0), (3, 0, 0, 0, 1), (37, 0, 0, 0, 0), (112, 0, 0, 0, 0), (0, 0, 1, 0, 0), (4, 5, 0, 0, 0), (3, 0, 0, 0, 2), (37, 0, 0, 0, 0), (112, 0, 0, 0, 0), (0, 3, 1, 0, 0), (5, 335, 4, 0, 303), (30, 6, 0, 0, 0), (0, 2, 1, 0, 0), (0, 0, 1, 0, 0), (4, 5, 0, 0, 0), (3, 0, 0, 0, 1), (37, 0, 0, 0, 0), (112, 0, 0, 0, 0), (0, 0, 1, 0, 0), (4, 5, 0, 0, 0), (3, 0, 0, 0, 2), (37, 0, 0, 0, 0), (112, 0, 0, 0, 0), (6, 226, 2, 12, 304), (30, 7, 0, 0, 0), (10, 77, 0, 0, 0)]
abbrev zb_382_9 : List zI0 := [(0, 1, 1, 0, 0), (0, 0, 1, 0, 0), (4, 5, 0, 0, 0), (3, 0, 0, 0, 1), (37, 0, 0, 0, 0), (112, 0, 0, 0, 0), (0, 0, 1, 0, 0), (4, 5, 0, 0, 0), (3, 0, 0, 0, 2), (37, 0, 0, 0, 0), (112, 0, 0, 0, 0), (0, 3, 1, 0, 0), (5, 336, 4, 0, 305), (30, 6, 0, 0, 0), (0, 2, 1, 0, 0), (0, 0, 1, 0, 0), (4, 5, 0, 0, 0), (3, 0, 0, 0, 1), (37, 0, 0, 0, 0), (112, 0, 0, 0, 0), (0, 0, 1, 0, 0), (4, 5, 0, 0, 0), (3, 0, 0, 0, 2), (37, 0, 0, 0, 0), (112, 0, 0, 0, 0), (6, 227, 2, 12, 306), (30, 7, 0, 0, 0), (10, 77, 0, 0, 0)]
abbrev zb_382_10 : List zI0 := [(0, 1, 1, 0, 0), (6, 126, 0, 11, 307), (49, 0, 0, 0, 0), (0, 2, 1, 0, 0), (6, 229, 0, 12, 308), (49, 0, 0, 0, 0), (10, 77, 0, 0, 0)]
abbrev zb_382_11 : List zI0 := [(0, 1, 1, 0, 0), (0, 0, 1, 0, 0), (4, 5, 0, 0, 0), (3, 0, 0, 0, 1), (37, 0, 0, 0, 0), (112, 0, 0, 0, 0), (0, 3, 1, 0, 0), (5, 337, 3, 0, 309), (30, 6, 0, 0, 0), (0, 2, 1, 0, 0), (0, 0, 1, 0, 0), (4, 5, 0, 0, 0), (3, 0, 0, 0, 1), (37, 0, 0, 0, 0), (112, 0, 0, 0, 0), (6, 230, 1, 12, 310), (30, 7, 0, 0, 0), (10, 77, 0, 0, 0)]
abbrev zb_382_12 : List zI0 := [(0, 1, 1, 0, 0), (0, 0, 1, 0, 0), (4, 5, 0, 0, 0), (3, 0, 0, 0, 1), (37, 0, 0, 0, 0), (112, 0, 0, 0, 0), (103, 0, 0, 0, 0), (0, 0, 1, 0, 0), (4, 5, 0, 0, 0), (3, 0, 0, 0, 2), (37, 0, 0, 0, 0), (112, 0, 0, 0, 0), (14, 13, 0, 0, 0), (3, 0, 0, 0, 1), (10, 14, 0, 0, 0)]
abbrev zb_382_13 : List zI0 := [(3, 0, 0, 0, 0), (111, 14, 0, 0, 0)]
abbrev zb_382_14 : List zI0 := [(0, 3, 1, 0, 0), (5, 338, 4, 0, 311), (30, 6, 0, 0, 0), (0, 2, 1, 0, 0), (0, 0, 1, 0, 0), (4, 5, 0, 0, 0), (3, 0, 0, 0, 1), (37, 0, 0, 0, 0), (112, 0, 0, 0, 0), (103, 0, 0, 0, 0), (0, 0, 1, 0, 0), (4, 5, 0, 0, 0), (3, 0, 0, 0, 2), (37, 0, 0, 0, 0), (112, 0, 0, 0, 0), (14, 15, 0, 0, 0), (3, 0, 0, 0, 1), (10, 16, 0, 0, 0)]
abbrev zb_382_15 : List zI0 := [(3, 0, 0, 0, 0), (111, 16, 0, 0, 0)]
abbrev zb_382_16 : List zI0 := [(6, 232, 2, 12, 312), (30, 7, 0, 0, 0), (10, 77, 0, 0, 0)]
abbrev zb_382_17 : List zI0 := [(0, 1, 1, 0, 0), (0, 0, 1, 0, 0), (4, 5, 0, 0, 0), (3, 0, 0, 0, 1), (37, 0, 0, 0, 0), (112, 0, 0, 0, 0), (0, 3, 1, 0, 0), (5, 339, 3, 0, 313), (30, 6, 0, 0, 0), (0, 2, 1, 0, 0), (0, 0, 1, 0, 0), (4, 5, 0, 0, 0), (3, 0, 0, 0, 1), (37, 0, 0, 0, 0), (112, 0, 0, 0, 0), (6, 234, 1, 12, 314), (30, 7, 0, 0, 0), (10, 77, 0, 0, 0)]
abbrev zb_382_18 : List zI0 := [(0, 1, 1, 0, 0), (0, 0, 1, 0, 0), (4, 5, 0, 0, 0), (3, 0, 0, 0, 1), (37, 0, 0, 0, 0), (112, 0, 0, 0, 0), (0, 3, 1, 0, 0), (5, 340, 3, 0, 315), (30, 6, 0, 0, 0), (0, 2, 1, 0, 0), (0, 0, 1, 0, 0), (4, 5, 0, 0, 0), (3, 0, 0, 0, 1), (37, 0, 0, 0, 0), (112, 0, 0, 0, 0), (6, 235, 1, 12, 316), (30, 7, 0, 0, 0), (10, 77, 0, 0, 0)]
abbrev zb_382_19 : List zI0 := [(0, 1, 1, 0, 0), (0, 0, 1, 0, 0), (4, 5, 0, 0, 0), (3, 0, 0, 0, 1), (37, 0, 0, 0, 0), (112, 0, 0, 0, 0), (14, 20, 0, 0, 0), (3, 0, 0, 0, 1), (10, 21, 0, 0, 0)]
abbrev zb_382_20 : List zI0 := [(3, 0, 0, 0, 0), (111, 21, 0, 0, 0)]
abbrev zb_382_21 : List zI0 := [(0, 3, 1, 0, 0), (5, 341, 3, 0, 317), (30, 6, 0, 0, 0), (0, 2, 1, 0, 0), (0, 0, 1, 0, 0), (4, 5, 0, 0, 0), (3, 0, 0, 0, 1), (37, 0, 0, 0, 0), (112, 0, 0, 0, 0), (14, 22, 0, 0, 0), (3, 0, 0, 0, 1), (10, 23, 0, 0, 0)]
abbrev zb_382_22 : List zI0 := [(3, 0, 0, 0, 0), (111, 23, 0, 0, 0)]
abbrev zb_382_23 : List zI0 := [(6, 236, 1, 12, 318), (30, 7, 0, 0, 0), (10, 77, 0, 0, 0)]
abbrev zb_382_24 : List zI0 := [(0, 1, 1, 0, 0), (0, 0, 1, 0, 0), (4, 5, 0, 0, 0), (3, 0, 0, 0, 1), (37, 0, 0, 0, 0), (112, 0, 0, 0, 0), (0, 0, 1, 0, 0), (4, 5, 0, 0, 0), (3, 0, 0, 0, 2), (37, 0, 0, 0, 0), (112, 0, 0, 0, 0), (0, 0, 1, 0, 0), (4, 5, 0, 0, 0), (3, 0, 0, 0, 3), (37, 0, 0, 0, 0), (112, 0, 0, 0, 0), (0, 3, 1, 0, 0), (5, 342, 5, 0, 319), (30, 6, 0, 0, 0), (0, 2, 1, 0, 0), (0, 0, 1, 0, 0), (4, 5, 0, 0, 0), (3, 0, 0, 0, 1), (37, 0, 0, 0, 0), (112, 0, 0, 0, 0), (0, 0, 1, 0, 0), (4, 5, 0, 0, 0), (3, 0, 0, 0, 2), (37, 0, 0, 0, 0), (112, 0, 0, 0, 0), (0, 0, 1, 0, 0), (4, 5, 0, 0, 0), (3, 0, 0, 0, 3), (37, 0, 0, 0, 0), (112, 0, 0, 0, 0), (6, 243, 3, 12, 320), (30, 7, 0, 0, 0), (10, 77, 0, 0, 0)]
abbrev zb_382_25 : List zI0 := [(0, 1, 1, 0, 0), (0, 3, 1, 0, 0), (5, 343, 2, 0, 321), (30, 6, 0, 0, 0), (0, 2, 1, 0, 0), (6, 245, 0, 12, 322), (30, 7, 0, 0, 0), (10, 77, 0, 0, 0)]
abbrev zb_382_26 : List zI0 := [(0, 1, 1, 0, 0), (0, 0, 1, 0, 0), (4, 5, 0, 0, 0), (3, 0, 0, 0, 1), (37, 0, 0, 0, 0), (112, 0, 0, 0, 0), (0, 3, 1, 0, 0), (5, 344, 3, 0, 323), (30, 6, 0, 0, 0), (0, 2, 1, 0, 0), (0, 0, 1, 0, 0), (4, 5, 0, 0, 0), (3, 0, 0, 0, 1), (37, 0, 0, 0, 0), (112, 0, 0, 0, 0), (6, 256, 1, 12, 324), (30, 7, 0, 0, 0), (10, 77, 0, 0, 0)]
abbrev zb_382_27 : List zI0 := [(0, 1, 1, 0, 0), (0, 0, 1, 0, 0), (4, 5, 0, 0, 0), (3, 0, 0, 0, 1), (37, 0, 0, 0, 0), (112, 0, 0, 0, 0), (0, 3, 1, 0, 0), (5, 345, 3, 0, 325), (30, 6, 0, 0, 0), (0, 2, 1, 0, 0), (0, 0, 1, 0, 0), (4, 5, 0, 0, 0), (3, 0, 0, 0, 1), (37, 0, 0, 0, 0), (112, 0, 0, 0, 0), (6, 257, 1, 12, 326), (30, 7, 0, 0, 0), (10, 77, 0, 0, 0)]
abbrev zb_382_28 : List zI0 := [(0, 1, 1, 0, 0), (0, 0, 1, 0, 0), (4, 5, 0, 0, 0), (3, 0, 0, 0, 1), (37, 0, 0, 0, 0), (112, 0, 0, 0, 0), (0, 3, 1, 0, 0), (5, 346, 3, 0, 327), (30, 6, 0, 0, 0), (0, 2, 1, 0, 0), (0, 0, 1, 0, 0), (4, 5, 0, 0, 0), (3, 0, 0, 0, 1), (37, 0, 0, 0, 0), (112, 0, 0, 0, 0), (6, 258, 1, 12, 328), (30, 7, 0, 0, 0), (10, 77, 0, 0, 0)]
abbrev zb_382_29 : List zI0 := [(0, 1, 1, 0, 0), (0, 0, 1, 0, 0), (4, 5, 0, 0, 0), (3, 0, 0, 0, 1), (37, 0, 0, 0, 0), (112, 0, 0, 0, 0), (0, 3, 1, 0, 0), (5, 347, 3, 0, 329), (30, 6, 0, 0, 0), (0, 2, 1, 0, 0), (0, 0, 1, 0, 0), (4, 5, 0, 0, 0), (3, 0, 0, 0, 1), (37, 0, 0, 0, 0), (112, 0, 0, 0, 0), (6, 259, 1, 12, 330), (30, 7, 0, 0, 0), (10, 77, 0, 0, 0)]
abbrev zb_382_30 : List zI0 := [(0, 1, 1, 0, 0), (0, 0, 1, 0, 0), (4, 5, 0, 0, 0), (3, 0, 0, 0, 1), (37, 0, 0, 0, 0), (112, 0, 0, 0, 0), (0, 3, 1, 0, 0), (5, 348, 3, 0, 331), (30, 6, 0, 0, 0), (0, 2, 1, 0, 0), (0, 0, 1, 0, 0), (4, 5, 0, 0, 0), (3, 0, 0, 0, 1), (37, 0, 0, 0, 0), (112, 0, 0, 0, 0), (6, 260, 1, 12, 332), (30, 7, 0, 0, 0), (10, 77, 0, 0, 0)]
abbrev zb_382_31 : List zI0 := [(0, 1, 1, 0, 0), (0, 0, 1, 0, 0), (4, 5, 0, 0, 0), (3, 0, 0, 0, 1), (37, 0, 0, 0, 0), (112, 0, 0, 0, 0), (0, 0, 1, 0, 0), (4, 5, 0, 0, 0), (3, 0, 0, 0, 2), (37, 0, 0, 0, 0), (112, 0, 0, 0, 0), (0, 0, 1, 0, 0), (4, 5, 0, 0, 0), (3, 0, 0, 0, 3), (37, 0, 0, 0, 0), (112, 0, 0, 0, 0), (0, 3, 1, 0, 0), (5, 349, 5, 0, 333), (30, 6, 0, 0, 0), (0, 2, 1, 0, 0), (0, 0, 1, 0, 0), (4, 5, 0, 0, 0), (3, 0, 0, 0, 1), (37, 0, 0, 0, 0), (112, 0, 0, 0, 0), (0, 0, 1, 0, 0), (4, 5, 0, 0, 0), (3, 0, 0, 0, 2), (37, 0, 0, 0, 0), (112, 0, 0, 0, 0), (0, 0, 1, 0, 0), (4, 5, 0, 0, 0), (3, 0, 0, 0, 3), (37, 0, 0, 0, 0), (112, 0, 0, 0, 0), (6, 261, 3, 12, 334), (30, 7, 0, 0, 0), (10, 77, 0, 0, 0)]
abbrev zb_382_32 : List zI0 := [(0, 1, 1, 0, 0), (0, 0, 1, 0, 0), (4, 5, 0, 0, 0), (3, 0, 0, 0, 1), (37, 0, 0, 0, 0), (112, 0, 0, 0, 0), (0, 3, 1, 0, 0), (5, 350, 3, 0, 335), (30, 6, 0, 0, 0), (0, 2, 1, 0, 0), (0, 0, 1, 0, 0), (4, 5, 0, 0, 0), (3, 0, 0, 0, 1), (37, 0, 0, 0, 0), (112, 0, 0, 0, 0), (6, 262, 1, 12, 336), (30, 7, 0, 0, 0), (10, 77, 0, 0, 0)]
abbrev zb_382_33 : List zI0 := [(0, 1, 1, 0, 0), (0, 3, 1, 0, 0), (5, 351, 2, 0, 337), (30, 6, 0, 0, 0), (0, 2, 1, 0, 0), (6, 263, 0, 12, 338), (30, 7, 0, 0, 0), (10, 77, 0, 0, 0)]
abbrev zb_382_34 : List zI0 := [(0, 1, 1, 0, 0), (0, 0, 1, 0, 0), (4, 5, 0, 0, 0), (3, 0, 0, 0, 1), (37, 0, 0, 0, 0), (112, 0, 0, 0, 0), (0, 3, 1, 0, 0), (5, 352, 3, 0, 339), (30, 6, 0, 0, 0), (0, 2, 1, 0, 0), (0, 0, 1, 0, 0), (4, 5, 0, 0, 0), (3, 0, 0, 0, 1), (37, 0, 0, 0, 0), (112, 0, 0, 0, 0), (6, 266, 1, 12, 340), (30, 7, 0, 0, 0), (10, 77, 0, 0, 0)]
abbrev zb_382_35 : List zI0 := [(0, 1, 1, 0, 0), (0, 0, 1, 0, 0), (4, 5, 0, 0, 0), (3, 0, 0, 0, 1), (37, 0, 0, 0, 0), (112, 0, 0, 0, 0), (0, 3, 1, 0, 0), (5, 353, 3, 0, 341), (30, 6, 0, 0, 0), (0, 2, 1, 0, 0), (0, 0, 1, 0, 0), (4, 5, 0, 0, 0), (3, 0, 0, 0, 1), (37, 0, 0, 0, 0), (112, 0, 0, 0, 0), (6, 270, 1, 12, 342), (74, 7, 0, 0, 0), (10, 77, 0, 0, 0)]
abbrev zb_382_36 : List zI0 := [(0, 1, 1, 0, 0), (0, 0, 1, 0, 0), (4, 5, 0, 0, 0), (3, 0, 0, 0, 1), (37, 0, 0, 0, 0), (112, 0, 0, 0, 0), (0, 3, 1, 0, 0), (5, 354, 3, 0, 343), (30, 6, 0, 0, 0), (0, 2, 1, 0, 0), (0, 0, 1, 0, 0), (4, 5, 0, 0, 0), (3, 0, 0, 0, 1), (37, 0, 0, 0, 0), (112, 0, 0, 0, 0), (6, 271, 1, 12, 344), (74, 7, 0, 0, 0), (10, 77, 0, 0, 0)]
abbrev zb_382_37 : List zI0 := [(0, 1, 1, 0, 0), (0, 0, 1, 0, 0), (4, 5, 0, 0, 0), (3, 0, 0, 0, 1), (37, 0, 0, 0, 0), (112, 0, 0, 0, 0), (0, 4, 0, 0, 0), (5, 355, 3, 0, 345), (30, 6, 0, 0, 0), (0, 2, 1, 0, 0), (0, 0, 1, 0, 0), (4, 5, 0, 0, 0), (3, 0, 0, 0, 1), (37, 0, 0, 0, 0), (112, 0, 0, 0, 0), (6, 273, 1, 12, 346), (79, 7, 0, 0, 0), (10, 77, 0, 0, 0)]
abbrev zb_382_38 : List zI0 := [(0, 1, 1, 0, 0), (0, 0, 1, 0, 0), (4, 5, 0, 0, 0), (3, 0, 0, 0, 1), (37, 0, 0, 0, 0), (112, 0, 0, 0, 0), (0, 0, 1, 0, 0), (4, 5, 0, 0, 0), (3, 0, 0, 0, 2), (37, 0, 0, 0, 0), (112, 0, 0, 0, 0), (0, 3, 1, 0, 0), (5, 356, 4, 0, 347), (30, 6, 0, 0, 0), (0, 2, 1, 0, 0), (0, 0, 1, 0, 0), (4, 5, 0, 0, 0), (3, 0, 0, 0, 1), (37, 0, 0, 0, 0), (112, 0, 0, 0, 0), (0, 0, 1, 0, 0), (4, 5, 0, 0, 0), (3, 0, 0, 0, 2), (37, 0, 0, 0, 0), (112, 0, 0, 0, 0), (6, 274, 2, 12, 348), (30, 7, 0, 0, 0), (10, 77, 0, 0, 0)]
abbrev zb_382_39 : List zI0 := [(0, 1, 1, 0, 0), (6, 147, 0, 11, 349), (49, 0, 0, 0, 0), (0, 2, 1, 0, 0), (6, 276, 0, 12, 350), (49, 0, 0, 0, 0), (10, 77, 0, 0, 0)]
abbrev zb_382_40 : List zI0 := [(0, 1, 1, 0, 0), (0, 3, 1, 0, 0), (5, 357, 2, 0, 351), (30, 6, 0, 0, 0), (0, 2, 1, 0, 0), (6, 277, 0, 12, 352), (30, 7, 0, 0, 0), (10, 77, 0, 0, 0)]
abbrev zb_382_41 : List zI0 := [(0, 1, 1, 0, 0), (0, 0, 1, 0, 0), (4, 5, 0, 0, 0), (3, 0, 0, 0, 1), (37, 0, 0, 0, 0), (112, 0, 0, 0, 0), (0, 3, 1, 0, 0), (5, 358, 3, 0, 353), (30, 6, 0, 0, 0), (0, 2, 1, 0, 0), (0, 0, 1, 0, 0), (4, 5, 0, 0, 0), (3, 0, 0, 0, 1), (37, 0, 0, 0, 0), (112, 0, 0, 0, 0), (6, 278, 1, 12, 354), (30, 7, 0, 0, 0), (10, 77, 0, 0, 0)]
abbrev zb_382_42 : List zI0 := [(0, 1, 1, 0, 0), (6, 150, 0, 11, 355), (49, 0, 0, 0, 0), (0, 2, 1, 0, 0), (6, 279, 0, 12, 356), (49, 0, 0, 0, 0), (10, 77, 0, 0, 0)]
abbrev zb_382_43 : List zI0 := [(0, 1, 1, 0, 0), (0, 0, 1, 0, 0), (4, 5, 0, 0, 0), (3, 0, 0, 0, 1), (37, 0, 0, 0, 0), (112, 0, 0, 0, 0), (0, 0, 1, 0, 0), (4, 5, 0, 0, 0), (3, 0, 0, 0, 2), (37, 0, 0, 0, 0), (112, 0, 0, 0, 0), (103, 0, 0, 0, 0), (0, 0, 1, 0, 0), (4, 5, 0, 0, 0), (3, 0, 0, 0, 3), (37, 0, 0, 0, 0), (112, 0, 0, 0, 0), (0, 0, 1, 0, 0), (4, 5, 0, 0, 0), (3, 0, 0, 0, 4), (37, 0, 0, 0, 0), (112, 0, 0, 0, 0), (0, 3, 1, 0, 0), (5, 359, 6, 0, 357), (30, 6, 0, 0, 0), (0, 2, 1, 0, 0), (0, 0, 1, 0, 0), (4, 5, 0, 0, 0), (3, 0, 0, 0, 1), (37, 0, 0, 0, 0), (112, 0, 0, 0, 0), (0, 0, 1, 0, 0), (4, 5, 0, 0, 0), (3, 0, 0, 0, 2), (37, 0, 0, 0, 0), (112, 0, 0, 0, 0), (103, 0, 0, 0, 0), (0, 0, 1, 0, 0), (4, 5, 0, 0, 0), (3, 0, 0, 0, 3), (37, 0, 0, 0, 0), (112, 0, 0, 0, 0), (0, 0, 1, 0, 0), (4, 5, 0, 0, 0), (3, 0, 0, 0, 4), (37, 0, 0, 0, 0), (112, 0, 0, 0, 0), (6, 280, 4, 12, 358), (30, 7, 0, 0, 0), (10, 77, 0, 0, 0)]
abbrev zb_382_44 : List zI0 := [(0, 1, 1, 0, 0), (0, 0, 1, 0, 0), (4, 5, 0, 0, 0), (3, 0, 0, 0, 1), (37, 0, 0, 0, 0), (112, 0, 0, 0, 0), (0, 3, 1, 0, 0), (5, 360, 3, 0, 359), (30, 6, 0, 0, 0), (0, 2, 1, 0, 0), (0, 0, 1, 0, 0), (4, 5, 0, 0, 0), (3, 0, 0, 0, 1), (37, 0, 0, 0, 0), (112, 0, 0, 0, 0), (6, 283, 1, 12, 360), (30, 7, 0, 0, 0), (10, 77, 0, 0, 0)]
abbrev zb_382_45 : List zI0 := [(0, 1, 1, 0, 0), (0, 0, 1, 0, 0), (4, 5, 0, 0, 0), (3, 0, 0, 0, 1), (37, 0, 0, 0, 0), (112, 0, 0, 0, 0), (0, 0, 1, 0, 0), (4, 5, 0, 0, 0), (3, 0, 0, 0, 2), (37, 0, 0, 0, 0), (112, 0, 0, 0, 0), (0, 3, 1, 0, 0), (5, 361, 4, 0, 361), (30, 6, 0, 0, 0), (0, 2, 1, 0, 0), (0, 0, 1, 0, 0), (4, 5, 0, 0, 0), (3, 0, 0, 0, 1), (37, 0, 0, 0, 0), (112, 0, 0, 0, 0), (0, 0, 1, 0, 0), (4, 5, 0, 0, 0), (3, 0, 0, 0, 2), (37, 0, 0, 0, 0), (112, 0, 0, 0, 0), (6, 287, 2, 12, 362), (30, 7, 0, 0, 0), (10, 77, 0, 0, 0)]
abbrev zb_382_46 : List zI0 := [(0, 1, 1, 0, 0), (0, 0, 1, 0, 0), (4, 5, 0, 0, 0), (3, 0, 0, 0, 1), (37, 0, 0, 0, 0), (112, 0, 0, 0, 0), (0, 0, 1, 0, 0), (4, 5, 0, 0, 0), (3, 0, 0, 0, 2), (37, 0, 0, 0, 0), (112, 0, 0, 0, 0), (0, 3, 1, 0, 0), (5, 362, 4, 0, 363), (30, 6, 0, 0, 0), (0, 2, 1, 0, 0), (0, 0, 1, 0, 0), (4, 5, 0, 0, 0), (3, 0, 0, 0, 1), (37, 0, 0, 0, 0), (112, 0, 0, 0, 0), (0, 0, 1, 0, 0), (4, 5, 0, 0, 0), (3, 0, 0, 0, 2), (37, 0, 0, 0, 0), (112, 0, 0, 0, 0), (6, 288, 2, 12, 364), (30, 7, 0, 0, 0), (10, 77, 0, 0, 0)]
abbrev zb_382_47 : List zI0 := [(0, 1, 1, 0, 0), (0, 0, 1, 0, 0), (4, 5, 0, 0, 0), (3, 0, 0, 0, 1), (37, 0, 0, 0, 0), (112, 0, 0, 0, 0), (0, 3, 1, 0, 0), (5, 363, 3, 0, 365), (30, 6, 0, 0, 0), (0, 2, 1, 0, 0), (0, 0, 1, 0, 0), (4, 5, 0, 0, 0), (3, 0, 0, 0, 1), (37, 0, 0, 0, 0), (112, 0, 0, 0, 0), (6, 289, 1, 12, 366), (30, 7, 0, 0, 0), (10, 77, 0, 0, 0)]
abbrev zb_382_48 : List zI0 := [(0, 1, 1, 0, 0), (0, 0, 1, 0, 0), (4, 5, 0, 0, 0), (3, 0, 0, 0, 1), (37, 0, 0, 0, 0), (112, 0, 0, 0, 0), (0, 0, 1, 0, 0), (4, 5, 0, 0, 0), (3, 0, 0, 0, 2), (37, 0, 0, 0, 0), (112, 0, 0, 0, 0), (0, 3, 1, 0, 0), (5, 364, 4, 0, 367), (30, 6, 0, 0, 0), (0, 2, 1, 0, 0), (0, 0, 1, 0, 0), (4, 5, 0, 0, 0), (3, 0, 0, 0, 1), (37, 0, 0, 0, 0), (112, 0, 0, 0, 0), (0, 0, 1, 0, 0), (4, 5, 0, 0, 0), (3, 0, 0, 0, 2), (37, 0, 0, 0, 0), (112, 0, 0, 0, 0), (6, 290, 2, 12, 368), (30, 7, 0, 0, 0), (10, 77, 0, 0, 0)]
abbrev zb_382_49 : List zI0 := [(0, 1, 1, 0, 0), (0, 0, 1, 0, 0), (4, 5, 0, 0, 0), (3, 0, 0, 0, 1), (37, 0, 0, 0, 0), (112, 0, 0, 0, 0), (0, 3, 1, 0, 0), (5, 365, 3, 0, 369), (30, 6, 0, 0, 0), (0, 2, 1, 0, 0), (0, 0, 1, 0, 0), (4, 5, 0, 0, 0), (3, 0, 0, 0, 1), (37, 0, 0, 0, 0), (112, 0, 0, 0, 0), (6, 291, 1, 12, 370), (30, 7, 0, 0, 0), (10, 77, 0, 0, 0)]
abbrev zb_382_50 : List zI0 := [(0, 1, 1, 0, 0), (0, 3, 1, 0, 0), (5, 366, 2, 0, 371), (30, 6, 0, 0, 0), (0, 2, 1, 0, 0), (6, 292, 0, 12, 372), (30, 7, 0, 0, 0), (10, 77, 0, 0, 0)]
abbrev zb_382_51 : List zI0 := [(0, 1, 1, 0, 0), (0, 3, 1, 0, 0), (5, 367, 2, 0, 373), (30, 6, 0, 0, 0), (0, 2, 1, 0, 0), (6, 293, 0, 12, 374), (30, 7, 0, 0, 0), (10, 77, 0, 0, 0)]
abbrev zb_382_52 : List zI0 := [(0, 1, 1, 0, 0), (6, 160, 0, 11, 375), (49, 0, 0, 0, 0), (0, 2, 1, 0, 0), (6, 294, 0, 12, 376), (49, 0, 0, 0, 0), (10, 77, 0, 0, 0)]
abbrev zb_382_53 : List zI0 := [(0, 1, 1, 0, 0), (6, 161, 0, 11, 377), (63, 0, 0, 0, 0), (0, 2, 1, 0, 0), (6, 296, 0, 12, 378), (63, 0, 0, 0, 0), (10, 77, 0, 0, 0)]
abbrev zb_382_54 : List zI0 := [(0, 1, 1, 0, 0), (6, 162, 0, 11, 379), (63, 0, 0, 0, 0), (0, 2, 1, 0, 0), (6, 297, 0, 12, 380), (63, 0, 0, 0, 0), (10, 77, 0, 0, 0)]
abbrev zb_382_55 : List zI0 := [(0, 1, 1, 0, 0), (0, 0, 1, 0, 0), (4, 5, 0, 0, 0), (3, 0, 0, 0, 1), (37, 0, 0, 0, 0), (112, 0, 0, 0, 0), (0, 0, 1, 0, 0), (4, 5, 0, 0, 0), (3, 0, 0, 0, 2), (37, 0, 0, 0, 0), (112, 0, 0, 0, 0), (0, 3, 1, 0, 0), (5, 368, 4, 0, 381), (30, 6, 0, 0, 0), (0, 2, 1, 0, 0), (0, 0, 1, 0, 0), (4, 5, 0, 0, 0), (3, 0, 0, 0, 1), (37, 0, 0, 0, 0), (112, 0, 0, 0, 0), (0, 0, 1, 0, 0), (4, 5, 0, 0, 0), (3, 0, 0, 0, 2), (37, 0, 0, 0, 0), (112, 0, 0, 0, 0), (6, 299, 2, 12, 382), (30, 7, 0, 0, 0), (10, 77, 0, 0, 0)]
abbrev zb_382_56 : List zI0 := [(0, 1, 1, 0, 0), (0, 0, 1, 0, 0), (4, 5, 0, 0, 0), (3, 0, 0, 0, 1), (37, 0, 0, 0, 0), (112, 0, 0, 0, 0), (0, 3, 1, 0, 0), (5, 369, 3, 0, 383), (30, 6, 0, 0, 0), (0, 2, 1, 0, 0), (0, 0, 1, 0, 0), (4, 5, 0, 0, 0), (3, 0, 0, 0, 1), (37, 0, 0, 0, 0), (112, 0, 0, 0, 0), (6, 301, 1, 12, 384), (30, 7, 0, 0, 0), (10, 77, 0, 0, 0)]
abbrev zb_382_57 : List zI0 := [(0, 1, 1, 0, 0), (0, 3, 1, 0, 0), (5, 370, 2, 0, 385), (30, 6, 0, 0, 0), (0, 2, 1, 0, 0), (6, 302, 0, 12, 386), (30, 7, 0, 0, 0), (10, 77, 0, 0, 0)]
abbrev zb_382_58 : List zI0 := [(0, 1, 1, 0, 0), (0, 0, 1, 0, 0), (4, 5, 0, 0, 0), (3, 0, 0, 0, 1), (37, 0, 0, 0, 0), (112, 0, 0, 0, 0), (0, 3, 1, 0, 0), (5, 371, 3, 0, 387), (30, 6, 0, 0, 0), (0, 2, 1, 0, 0), (0, 0, 1, 0, 0), (4, 5, 0, 0, 0), (3, 0, 0, 0, 1), (37, 0, 0, 0, 0), (112, 0, 0, 0, 0), (6, 303, 1, 12, 388), (30, 7, 0, 0, 0), (10, 77, 0, 0, 0)]
abbrev zb_382_59 : List zI0 := [(0, 1, 1, 0, 0), (6, 167, 0, 11, 389), (49, 0, 0, 0, 0), (0, 2, 1, 0, 0), (6, 304, 0, 12, 390), (49, 0, 0, 0, 0), (10, 77, 0, 0, 0)]
abbrev zb_382_60 : List zI0 := [(0, 1, 1, 0, 0), (6, 168, 0, 11, 391), (49, 0, 0, 0, 0), (0, 2, 1, 0, 0), (6, 305, 0, 12, 392), (49, 0, 0, 0, 0), (10, 77, 0, 0, 0)]
abbrev zb_382_61 : List zI0 := [(0, 1, 1, 0, 0), (0, 0, 1, 0, 0), (4, 5, 0, 0, 0), (3, 0, 0, 0, 1), (37, 0, 0, 0, 0), (112, 0, 0, 0, 0), (0, 3, 1, 0, 0), (5, 372, 3, 0, 393), (30, 6, 0, 0, 0), (0, 2, 1, 0, 0), (0, 0, 1, 0, 0), (4, 5, 0, 0, 0), (3, 0, 0, 0, 1), (37, 0, 0, 0, 0), (112, 0, 0, 0, 0), (6, 306, 1, 12, 394), (30, 7, 0, 0, 0), (10, 77, 0, 0, 0)]
abbrev zb_382_62 : List zI0 := [(0, 1, 1, 0, 0), (0, 0, 1, 0, 0), (4, 5, 0, 0, 0), (3, 0, 0, 0, 1), (37, 0, 0, 0, 0), (112, 0, 0, 0, 0), (0, 3, 1, 0, 0), (5, 373, 3, 0, 395), (30, 6, 0, 0, 0), (0, 2, 1, 0, 0), (0, 0, 1, 0, 0), (4, 5, 0, 0, 0), (3, 0, 0, 0, 1), (37, 0, 0, 0, 0), (112, 0, 0, 0, 0), (6, 307, 1, 12, 396), (30, 7, 0, 0, 0), (10, 77, 0, 0, 0)]
abbrev zb_382_63 : List zI0 := [(0, 1, 1, 0, 0), (0, 0, 1, 0, 0), (4, 5, 0, 0, 0), (3, 0, 0, 0, 1), (37, 0, 0, 0, 0), (112, 0, 0, 0, 0), (0, 3, 1, 0, 0), (5, 374, 3, 0, 397), (30, 6, 0, 0, 0), (0, 2, 1, 0, 0), (0, 0, 1, 0, 0), (4, 5, 0, 0, 0), (3, 0, 0, 0, 1), (37, 0, 0, 0, 0), (112, 0, 0, 0, 0), (6, 308, 1, 12, 398), (30, 7, 0, 0, 0), (10, 77, 0, 0, 0)]
abbrev zb_382_64 : List zI0 := [(0, 1, 1, 0, 0), (0, 0, 1, 0, 0), (4, 5, 0, 0, 0), (3, 0, 0, 0, 1), (37, 0, 0, 0, 0), (112, 0, 0, 0, 0), (0, 3, 1, 0, 0), (5, 375, 3, 0, 399), (30, 6, 0, 0, 0), (0, 2, 1, 0, 0), (0, 0, 1, 0, 0), (4, 5, 0, 0, 0), (3, 0, 0, 0, 1), (37, 0, 0, 0, 0), (112, 0, 0, 0, 0), (6, 309, 1, 12, 400), (30, 7, 0, 0, 0), (10, 77, 0, 0, 0)]
abbrev zb_382_65 : List zI0 := [(0, 1, 1, 0, 0), (0, 0, 1, 0, 0), (4, 5, 0, 0, 0), (3, 0, 0, 0, 1), (37, 0, 0, 0, 0), (112, 0, 0, 0, 0), (0, 3, 1, 0, 0), (5, 376, 3, 0, 401), (30, 6, 0, 0, 0), (0, 2, 1, 0, 0), (0, 0, 1, 0, 0), (4, 5, 0, 0, 0), (3, 0, 0, 0, 1), (37, 0, 0, 0, 0), (112, 0, 0, 0, 0), (6, 310, 1, 12, 402), (30, 7, 0, 0, 0), (10, 77, 0, 0, 0)]
abbrev zb_382_66 : List zI0 := [(0, 1, 1, 0, 0), (0, 0, 1, 0, 0), (4, 5, 0, 0, 0), (3, 0, 0, 0, 1), (37, 0, 0, 0, 0), (112, 0, 0, 0, 0), (0, 3, 1, 0, 0), (5, 377, 3, 0, 403), (30, 6, 0, 0, 0), (0, 2, 1, 0, 0), (0, 0, 1, 0, 0), (4, 5, 0, 0, 0), (3, 0, 0, 0, 1), (37, 0, 0, 0, 0), (112, 0, 0, 0, 0), (6, 311, 1, 12, 404), (30, 7, 0, 0, 0), (10, 77, 0, 0, 0)]
abbrev zb_382_67 : List zI0 := [(0, 1, 1, 0, 0), (6, 175, 0, 11, 405), (49, 0, 0, 0, 0), (0, 2, 1, 0, 0), (6, 312, 0, 12, 406), (49, 0, 0, 0, 0), (10, 77, 0, 0, 0)]
abbrev zb_382_68 : List zI0 := [(0, 1, 1, 0, 0), (0, 0, 1, 0, 0), (4, 5, 0, 0, 0), (3, 0, 0, 0, 1), (37, 0, 0, 0, 0), (112, 0, 0, 0, 0), (0, 0, 1, 0, 0), (4, 5, 0, 0, 0), (3, 0, 0, 0, 2), (37, 0, 0, 0, 0), (112, 0, 0, 0, 0), (0, 3, 1, 0, 0), (5, 378, 4, 0, 407), (30, 6, 0, 0, 0), (0, 2, 1, 0, 0), (0, 0, 1, 0, 0), (4, 5, 0, 0, 0), (3, 0, 0, 0, 1), (37, 0, 0, 0, 0), (112, 0, 0, 0, 0), (0, 0, 1, 0, 0), (4, 5, 0, 0, 0), (3, 0, 0, 0, 2), (37, 0, 0, 0, 0), (112, 0, 0, 0, 0), (6, 315, 2, 12, 408), (74, 7, 0, 0, 0), (10, 77, 0, 0, 0)]
abbrev zb_382_69 : List zI0 := [(0, 1, 1, 0, 0), (0, 0, 1, 0, 0), (4, 5, 0, 0, 0), (3, 0, 0, 0, 1), (37, 0, 0, 0, 0), (112, 0, 0, 0, 0), (0, 0, 1, 0, 0), (4, 5, 0, 0, 0), (3, 0, 0, 0, 2), (37, 0, 0, 0, 0), (112, 0, 0, 0, 0), (0, 3, 1, 0, 0), (5, 379, 4, 0, 409), (30, 6, 0, 0, 0), (0, 2, 1, 0, 0), (0, 0, 1, 0, 0), (4, 5, 0, 0, 0), (3, 0, 0, 0, 1), (37, 0, 0, 0, 0), (112, 0, 0, 0, 0), (0, 0, 1, 0, 0), (4, 5, 0, 0, 0), (3, 0, 0, 0, 2), (37, 0, 0, 0, 0), (112, 0, 0, 0, 0), (6, 316, 2, 12, 410), (74, 7, 0, 0, 0), (0, 2, 1, 0, 0), (6, 211, 0, 12, 411), (4, 6, 0, 0, 0), (20, 70, 0, 0, 0), (3, 0, 0, 0, 0), (9, 0, 0, 0, 0)]
abbrev zb_382_70 : List zI0 := [(4, 6, 0, 0, 0), (15, 71, 0, 0, 0), (0, 3, 1, 0, 0), (3, 0, 0, 0, 0), (75, 0, 0, 0, 0), (73, 7, 0, 0, 0), (72, 0, 0, 0, 0), (14, 71, 0, 0, 0), (3, 0, 0, 0, 0), (9, 0, 0, 0, 0)]
abbrev zb_382_71 : List zI0 := [(10, 77, 0, 0, 0)]
abbrev zb_382_72 : List zI0 := [(0, 1, 1, 0, 0), (6, 178, 0, 11, 412), (63, 0, 0, 0, 0), (0, 2, 1, 0, 0), (6, 317, 0, 12, 413), (63, 0, 0, 0, 0), (10, 77, 0, 0, 0)]
abbrev zb_382_73 : List zI0 := [(0, 1, 1, 0, 0), (6, 179, 0, 11, 414), (49, 0, 0, 0, 0), (0, 2, 1, 0, 0), (6, 318, 0, 12, 415), (49, 0, 0, 0, 0), (10, 77, 0, 0, 0)]
abbrev zb_382_74 : List zI0 := [(0, 1, 1, 0, 0), (0, 4, 0, 0, 0), (5, 380, 2, 0, 416), (30, 6, 0, 0, 0), (0, 2, 1, 0, 0), (6, 319, 0, 12, 417), (89, 7, 0, 0, 0), (10, 77, 0, 0, 0)]
abbrev zb_382_75 : List zI0 := [(0, 1, 1, 0, 0), (0, 4, 0, 0, 0), (5, 381, 2, 0, 418), (30, 6, 0, 0, 0), (0, 2, 1, 0, 0), (6, 320, 0, 12, 419), (79, 7, 0, 0, 0), (10, 77, 0, 0, 0)]
abbrev zb_382_76 : List zI0 := [(0, 1, 1, 0, 0), (6, 182, 0, 11, 420), (49, 0, 0, 0, 0), (0, 2, 1, 0, 0), (6, 321, 0, 12, 421), (49, 0, 0, 0, 0), (10, 77, 0, 0, 0)]
abbrev zb_382_77 : List zI0 := [(32, 5, 0, 0, 5), (10, 1, 0, 0, 0)]
abbrev zb_382_78 : List zI0 := [(3, 0, 0, 0, 1), (9, 0, 0, 0, 0)]
set_option maxRecDepth 100000 in
abbrev zc_382 : List (List zI0) := [zb_382_0, zb_382_1, zb_382_2, zb_382_3, zb_382_4, zb_382_5, zb_382_6, zb_382_7, zb_382_8, zb_382_9, zb_382_10, zb_382_11, zb_382_12, zb_382_13, zb_382_14, zb_382_15, zb_382_16, zb_382_17, zb_382_18, zb_382_19, zb_382_20, zb_382_21, zb_382_22, zb_382_23, zb_382_24, zb_382_25, zb_382_26, zb_382_27, zb_382_28, zb_382_29, zb_382_30, zb_382_31, zb_382_32, zb_382_33, zb_382_34, zb_382_35, zb_382_36, zb_382_37, zb_382_38, zb_382_39, zb_382_40, zb_382_41, zb_382_42, zb_382_43, zb_382_44, zb_382_45, zb_382_46, zb_382_47, zb_382_48, zb_382_49, zb_382_50, zb_382_51, zb_382_52, zb_382_53, zb_382_54, zb_382_55, zb_382_56, zb_382_57, zb_382_58, zb_382_59, zb_382_60, zb_382_61, zb_382_62, zb_382_63, zb_382_64, zb_382_65, zb_382_66, zb_382_67, zb_382_68, zb_382_69, zb_382_70, zb_382_71, zb_382_72, zb_382_73, zb_382_74, zb_382_75, zb_382_76, zb_382_77, zb_382_78]
set_option maxRecDepth 100000 in
def zCD : List (List (List zI0)) := [zc_0, zc_1, zc_2, zc_3, zc_4, zc_5, zc_6, zc_7, zc_8, zc_9, zc_10, zc_11, zc_12, zc_13, zc_14, zc_15, zc_16, zc_17, zc_18, zc_19, zc_20, zc_21, zc_22, zc_23, zc_24, zc_25, zc_26, zc_27, zc_28, zc_29, zc_30, zc_31, zc_32, zc_33, zc_34, zc_35, zc_36, zc_37, zc_38, zc_39, zc_40, zc_41, zc_42, zc_43, zc_44, zc_45, zc_46, zc_47, zc_48, zc_49, zc_50, zc_51, zc_52, zc_53, zc_54, zc_55, zc_56, zc_57, zc_58, zc_59, zc_60, zc_61, zc_62, zc_63, zc_64, zc_65, zc_66, zc_67, zc_68, zc_69, zc_70, zc_71, zc_72, zc_73, zc_74, zc_75, zc_76, zc_77, zc_78, zc_79, zc_80, zc_81, zc_82, zc_83, zc_84, zc_85, zc_86, zc_87, zc_88, zc_89, zc_90, zc_91, zc_92, zc_93, zc_94, zc_95, zc_96, zc_97, zc_98, zc_99, zc_100, zc_101, zc_102, zc_103, zc_104, zc_105, zc_106, zc_107, zc_108, zc_109, zc_110, zc_111, zc_112, zc_113, zc_114, zc_115, zc_116, zc_117, zc_118, zc_119, zc_120, zc_121, zc_122, zc_123, zc_124, zc_125, zc_126, zc_127, zc_128, zc_129, zc_130, zc_131, zc_132, zc_133, zc_134, zc_135, zc_136, zc_137, zc_138, zc_139, zc_140, zc_141, zc_142, zc_143, zc_144, zc_145, zc_146, zc_147, zc_148, zc_149, zc_150, zc_151, zc_152, zc_153, zc_154, zc_155, zc_156, zc_157, zc_158, zc_159, zc_160, zc_161, zc_162, zc_163, zc_164, zc_165, zc_166, zc_167, zc_168, zc_169, zc_170, zc_171, zc_172, zc_173, zc_174, zc_175, zc_176, zc_177, zc_178, zc_179, zc_180, zc_181, zc_182, zc_183, zc_184, zc_185, zc_186, zc_187, zc_188, zc_189, zc_190, zc_191, zc_192, zc_193, zc_194, zc_195, zc_196, zc_197, zc_198, zc_199, zc_200, zc_201, zc_202, zc_203, zc_204, zc_205, zc_206, zc_207, zc_208, zc_209, zc_210, zc_211, zc_212, zc_213, zc_214, zc_215, zc_216, zc_217, zc_218, zc_219, zc_220, zc_221, zc_222, zc_223, zc_224, zc_225, zc_226, zc_227, zc_228, zc_229, zc_230, zc_231, zc_232, zc_233, zc_234, zc_235, zc_236, zc_237, zc_238, zc_239, zc_240, zc_241, zc_242, zc_243, zc_244, zc_245, zc_246, zc_247, zc_248, zc_249, zc_250, zc_251, zc_252, zc_253, zc_254, zc_255, zc_256, zc_257, zc_258, zc_259, zc_260, zc_261, zc_262, zc_263, zc_264, zc_265, zc_266, zc_267, zc_268, zc_269, zc_270, zc_271, zc_272, zc_273, zc_274, zc_275, zc_276, zc_277, zc_278, zc_279, zc_280, zc_281, zc_282, zc_283, zc_284, zc_285, zc_286, zc_287, zc_288, zc_289, zc_290, zc_291, zc_292, zc_293, zc_294, zc_295, zc_296, zc_297, zc_298, zc_299, zc_300, zc_301, zc_302, zc_303, zc_304, zc_305, zc_306, zc_307, zc_308, zc_309, zc_310, zc_311, zc_312, zc_313, zc_314, zc_315, zc_316, zc_317, zc_318, zc_319, zc_320, zc_321, zc_322, zc_323, zc_324, zc_325, zc_326, zc_327, zc_328, zc_329, zc_330, zc_331, zc_332, zc_333, zc_334, zc_335, zc_336, zc_337, zc_338, zc_339, zc_340, zc_341, zc_342, zc_343, zc_344, zc_345, zc_346, zc_347, zc_348, zc_349, zc_350, zc_351, zc_352, zc_353, zc_354, zc_355, zc_356, zc_357, zc_358, zc_359, zc_360, zc_361, zc_362, zc_363, zc_364, zc_365, zc_366, zc_367, zc_368, zc_369, zc_370, zc_371, zc_372, zc_373, zc_374, zc_375, zc_376, zc_377, zc_378, zc_379, zc_380, zc_381, zc_382]
set_option maxRecDepth 100000 in
def zBPl : List (List Nat) := [[0, 35, 63],
  [0, 19, 38, 57, 67],
  [0, 10, 30, 36],
  [0, 14, 44, 50],
  [0, 14, 48, 54],
  [0, 10, 31],
  [0, 2, 25, 31],
  [0, 55, 100, 101, 110],
  [0, 10, 43, 49],
  [0, 36, 47],
  [0, 42],
  [0, 14, 15, 36, 79],
  [0, 13, 37, 41, 42, 49, 51, 98],
  [0, 37, 41, 42],
  [0, 16, 17, 48, 71],
  [0, 21, 29, 30, 57, 62, 72, 73],
  [0, 31],
  [0],
  [0, 5, 47, 83, 84],
  [0, 14, 15, 29, 30, 58, 76, 77, 78, 90, 92, 98, 156, 160, 161, 184, 190],
  [0],
  [0, 12, 13],
  [0, 33, 34],
  [0],
  [0, 52],
  [0, 18],
  [0],
  [0, 27, 47],
  [0, 50, 51],
  [0, 29],
  [0, 19, 21],
  [0, 13, 36],
  [0],
  [0],
  [0, 62, 66, 67, 70],
  [0],
  [0, 30, 31],
  [0, 26, 30],
  [0, 15, 16],
  [0, 25, 26],
  [0, 21, 22],
  [0],
  [0, 17],
  [0],
  [0, 11, 13, 49, 50],
  [0, 13, 14],
  [0, 11, 12],
  [0, 56],
  [0, 19, 21],
  [0, 4, 24, 30],
  [0],
  [0, 14, 23, 71, 77],
  [0, 2, 33, 39],
  [0],
  [0],
  [0],
  [0, 5, 23, 25, 36, 44, 45],
  [0, 18, 19],
  [0, 15, 16],
  [0, 29, 30],
  [0, 22, 23],
  [0, 9, 68, 81],
  [0, 26],
  [0, 31, 32],
  [0, 43, 44, 96, 97, 123, 137, 158],
  [0, 19],
  [0, 4, 14, 36, 52],
  [0, 5, 26, 32],
  [0],
  [0, 27, 31, 32],
  [0],
  [0],
  [0, 14, 24, 39, 40],
  [0, 15, 32, 33],
  [0],
  [0, 21, 22],
  [0, 18, 19],
  [0],
  [0],
  [0],
  [0],
  [0, 11, 12],
  [0],
  [0, 41, 42],
  [0, 30, 38, 93, 99],
  [0, 7, 43, 47, 57],
  [0, 17, 20, 24, 51, 52, 60, 61, 82, 88, 98],
  [0, 2, 43],
  [0, 20],
  [0, 23],
  [0],
  [0],
  [0],
  [0, 32, 33],
  [0, 6, 26],
  [0],
  [0, 13, 15],
  [0, 4, 44],
  [0, 13, 22],
  [0, 2, 20, 21, 24, 44, 50, 61, 67],
  [0],
  [0],
  [0],
  [0],
  [0, 18],
  [0],
  [0],
  [0],
  [0],
  [0, 20, 21, 22, 41, 42, 43, 55, 59, 60],
  [0, 10, 11, 23, 35, 39, 40, 54, 55],
  [0, 16, 17, 18, 47, 48, 49, 67, 68, 75, 76],
  [0, 13, 14],
  [0, 67],
  [0, 4, 54, 70, 121, 127],
  [0, 4, 37, 43],
  [0, 19, 74, 80],
  [0, 67, 95, 97, 129],
  [0, 26, 36],
  [0, 33, 43],
  [0, 31],
  [0],
  [0, 29, 39],
  [0, 27, 37, 39, 66, 111, 117],
  [0, 35],
  [0, 32],
  [0, 13, 44],
  [0],
  [0, 34],
  [0],
  [0, 16, 26],
  [0, 20],
  [0, 40, 69, 70],
  [0, 22, 32],
  [0],
  [0],
  [0, 37, 48],
  [0, 26, 37],
  [0, 37, 48],
  [0, 27, 51],
  [0, 18, 29, 45],
  [0],
  [0],
  [0],
  [0],
  [0],
  [0],
  [0],
  [0],
  [0],
  [0],
  [0, 26, 64],
  [0],
  [0, 9, 20, 38],
  [0],
  [0],
  [0, 40],
  [0, 18],
  [0],
  [0, 22, 33],
  [0],
  [0],
  [0],
  [0, 36, 47],
  [0],
  [0, 21],
  [0, 26],
  [0],
  [0],
  [0],
  [0],
  [0],
  [0],
  [0],
  [0],
  [0],
  [0],
  [0],
  [0, 6, 63, 75, 107],
  [0],
  [0, 8, 44, 50],
  [0],
  [0, 35, 36],
  [0, 21, 32],
  [0, 13, 24],
  [0, 16, 27],
  [0, 30, 41],
  [0, 21, 32],
  [0, 23],
  [0, 22],
  [0, 21],
  [0, 21],
  [0, 21],
  [0, 21],
  [0, 21],
  [0, 18],
  [0, 18],
  [0],
  [0, 10, 21],
  [0, 4, 39],
  [0, 40, 66, 77, 110, 121, 122],
  [0],
  [0, 10, 43, 49],
  [0, 5, 42, 54, 55],
  [0, 18, 22],
  [0, 18, 22],
  [0, 9, 45],
  [0, 5, 22],
  [0],
  [0, 8, 19, 20, 26, 52, 54, 80, 99, 100],
  [0, 305, 318, 337, 343, 345, 363],
  [0],
  [0, 9, 10],
  [0, 14, 15],
  [0, 18, 19],
  [0, 15, 16, 37, 38, 45, 47],
  [0, 29, 30, 56, 60, 61, 68, 70, 137, 138],
  [0, 28, 29, 51, 52, 59, 61],
  [0, 29, 30, 37, 39, 58, 59],
  [0, 17, 18],
  [0, 39, 40],
  [0],
  [0],
  [0, 40, 44, 45, 52, 54, 66, 96, 156, 173, 180, 197, 203, 209, 246, 269, 275, 306, 309, 343, 352, 359, 362, 402, 430],
  [0, 15, 16, 45, 49, 50, 57, 59, 61, 78, 123, 129, 179, 185],
  [0, 13, 14],
  [0, 28, 29, 49, 50, 57, 59],
  [0, 28, 29, 51, 52, 59, 61],
  [0],
  [0, 9, 47],
  [0, 16, 21],
  [0, 10, 20, 30, 40, 41],
  [0, 12, 13, 32, 34],
  [0, 11, 12],
  [0, 14, 15, 34, 36, 48, 56, 92, 98, 100, 118],
  [0, 19, 20, 39, 41, 60, 93],
  [0, 12, 13, 32, 34, 66, 72, 75, 93, 94, 102, 103, 128],
  [0],
  [0, 7, 33, 34, 42, 59, 60],
  [0, 4, 21, 34, 35],
  [0],
  [0, 37, 38],
  [0, 13, 14],
  [0, 18, 22, 23, 46, 47, 54, 56, 74, 78, 79, 98, 100, 149, 150],
  [0],
  [0, 4, 23, 37, 41, 42, 61, 63, 75, 98, 99, 145, 147, 154, 174, 180, 209, 211, 238, 239, 246, 270, 281],
  [0, 2, 9, 38, 44, 50],
  [0],
  [0],
  [0, 4, 11, 46, 47, 55, 61, 127],
  [0, 25, 29, 30],
  [0, 14, 22, 63, 72, 78, 91],
  [0, 35, 54, 60, 76, 97, 103, 118, 135, 146, 167, 173],
  [0, 14, 15, 34, 35, 58, 59, 66, 70, 71],
  [0, 11],
  [0, 24, 32, 45],
  [0, 20, 21, 28, 30],
  [0, 10, 42, 46],
  [0, 10, 58, 69, 70, 92, 96, 97, 106],
  [0, 10, 62, 63, 90, 94, 95, 104, 161, 207],
  [0, 40, 44, 45, 52, 54],
  [0, 26, 30, 31, 61, 62, 69, 71],
  [0, 14, 20, 30, 31, 42, 48],
  [0, 12, 13, 24, 31],
  [0, 21, 22, 25, 48, 49, 57],
  [0, 15, 16],
  [0, 15, 16, 27, 32],
  [0, 6, 31],
  [0, 4, 27, 28, 36],
  [0, 15, 16, 35, 36, 43, 45, 59, 63],
  [0],
  [0],
  [0, 14, 15, 29, 30, 59, 60, 61, 67, 127, 131, 132, 155, 161],
  [0, 16, 17, 36, 37, 44, 46, 48, 71, 92, 93],
  [0, 21, 25, 26, 35],
  [0, 4, 41],
  [0],
  [0, 12, 13, 24, 36],
  [0, 15, 73, 74],
  [0],
  [0, 28, 43, 47, 48, 81, 85, 86, 108, 109, 130, 131, 138, 140],
  [0, 11, 12, 34, 38, 39, 53, 54],
  [0, 16, 17, 18, 42, 43, 44, 62, 63, 70, 71],
  [0, 15, 16, 25, 29, 86, 87, 112, 114, 135, 140, 153, 160, 168],
  [0, 18, 19],
  [0, 4, 20],
  [0, 25, 28, 35, 36, 40, 61, 62, 70],
  [0, 14, 15, 37, 38, 57, 59, 64, 101, 102, 121],
  [0, 21, 25, 26, 45, 47],
  [0, 16, 17, 36, 38],
  [0, 28, 29, 50, 51, 70, 71, 78, 80, 112, 113],
  [0, 15, 16, 35, 36, 43, 45, 94, 95, 151, 152, 180, 210],
  [0, 12, 13, 22],
  [0, 15, 19, 20, 29],
  [0],
  [0, 10, 33, 62, 89, 90, 99, 113, 133, 141, 144],
  [0],
  [0],
  [0, 13, 49, 50],
  [0, 25, 26, 47, 48, 72, 76, 77, 84, 86],
  [0, 4, 48, 49, 57],
  [0, 12, 13, 22],
  [0, 12, 13, 22, 34, 50, 63, 78, 84, 128, 138, 148, 149, 187, 193],
  [0, 15, 19, 41, 50, 51, 60, 62, 82],
  [0],
  [0],
  [0, 17, 23],
  [0, 17, 23],
  [0, 25, 26],
  [0, 17, 23],
  [0, 17, 23],
  [0, 16, 22],
  [0],
  [0, 5, 21],
  [0, 20, 24, 25, 34, 87, 89],
  [0],
  [0],
  [0, 11, 53, 65, 94],
  [0],
  [0, 12, 13, 22, 26, 47, 48, 56],
  [0, 12, 13, 22, 26, 49],
  [0],
  [0, 10, 11],
  [0, 12],
  [0],
  [0, 18],
  [0, 9, 10],
  [0, 9, 10],
  [0, 5, 20],
  [0, 13, 16, 18],
  [0, 15, 19, 23, 25],
  [0, 15, 19, 23, 25],
  [0, 15, 19, 21],
  [0, 15, 19, 21],
  [0, 13, 16, 18],
  [0, 15, 19, 23, 25],
  [0, 15, 19, 23, 25],
  [0, 13, 15],
  [0, 15, 16, 22, 26, 28],
  [0, 13, 16, 18],
  [0, 13, 16, 18],
  [0, 13, 16, 18],
  [0, 17, 21, 25, 29, 31],
  [0, 12, 15, 17],
  [0, 13, 16, 19, 21],
  [0, 13, 16, 19, 21],
  [0, 13, 16, 19, 21],
  [0, 13, 16, 19, 21],
  [0, 13, 16, 19, 21],
  [0, 17, 21, 23],
  [0, 13, 15],
  [0, 12, 14],
  [0, 13, 15],
  [0, 12, 15, 17],
  [0, 12, 15, 17],
  [0, 12, 15, 17],
  [0, 15, 17],
  [0, 12, 14],
  [0, 14, 15, 20, 22],
  [0, 19, 23, 27, 31, 33],
  [0, 13, 15],
  [0, 15, 19, 23, 25],
  [0, 15, 19, 21],
  [0, 13, 16, 18],
  [0, 15, 19, 23, 27, 29],
  [0, 13, 16, 18],
  [0, 12, 14],
  [0, 12, 14],
  [0, 15, 19, 23, 27, 29],
  [0, 13, 15],
  [0, 12, 14],
  [0, 13, 16, 18],
  [0, 13, 15],
  [0, 13, 15],
  [0, 14, 15, 20, 22],
  [0, 13, 15],
  [0, 13, 15],
  [0, 13, 15],
  [0, 14, 16],
  [0, 14, 16],
  [0, 12, 14],
  [0, 11, 13],
  [0, 28, 320, 348, 388, 428, 468, 508, 536, 576, 616, 629, 657, 678, 679, 706, 707, 715, 743, 771, 785, 786, 806, 807, 815, 867, 883, 911, 939, 967, 995, 1023, 1075, 1103, 1119, 1147, 1175, 1203, 1232, 1272, 1285, 1301, 1329, 1342, 1408, 1436, 1476, 1516, 1544, 1584, 1612, 1628, 1644, 1657, 1670, 1683, 1723, 1751, 1767, 1795, 1808, 1821, 1849, 1877, 1905, 1933, 1961, 1989, 2002, 2042, 2090, 2106, 2109, 2122, 2135, 2152, 2169, 2182, 2188]]
def zbp (m b : Nat) : Nat := (zBPl.getD m []).getD b 0
set_option maxRecDepth 100000 in
def zHDl : List (List (Nat × (Nat × Nat))) := [[], [], [], [], [], [], [], [], [], [], [], [], [], [], [], [], [], [], [], [], [], [], [], [], [], [], [], [], [], [], [], [], [], [], [], [], [], [], [], [], [], [], [], [], [], [], [], [], [], [], [], [], [], [], [], [], [], [], [], [], [], [], [], [], [], [], [], [], [], [], [], [], [], [], [], [], [], [], [], [], [], [], [], [], [], [], [], [], [], [], [], [], [], [], [], [], [], [], [], [], [], [], [], [], [], [], [], [], [], [], [], [], [], [], [], [], [], [], [], [], [], [], [], [], [], [], [], [], [], [], [], [], [], [], [], [], [], [], [], [], [], [], [], [], [], [], [], [], [], [], [], [], [], [], [], [], [], [], [], [], [], [], [], [], [], [], [], [], [], [], [], [], [], [], [], [], [], [], [], [], [], [], [], [], [], [], [], [], [], [], [], [], [], [], [], [], [], [], [], [], [], [], [], [], [], [], [], [], [], [], [], [], [], [], [], [], [], [], [], [], [], [], [], [], [], [], [], [], [], [], [], [], [], [], [], [], [], [], [], [], [], [], [], [], [], [], [], [], [], [], [], [], [], [], [], [], [], [], [], [], [], [], [], [], [], [], [], [], [], [], [], [], [], [], [], [], [], [], [], [], [], [], [], [], [], [], [], [], [], [], [], [], [], [], [], [], [], [], [], [], [], [], [], [], [], [], [], [], [], [], [], [], [], [], [], [], [], [], [], [], [], [], [], [], [], [], [], [], [], [(0, (1, 3)), (1, (2, 3))], [(2, (1, 4)), (0, (2, 4)), (3, (3, 4))], [(2, (1, 4)), (0, (2, 4)), (3, (3, 4))], [(2, (1, 4)), (0, (2, 4))], [(2, (1, 4)), (0, (2, 4))], [(0, (1, 3)), (1, (2, 3))], [(2, (1, 4)), (0, (2, 4)), (3, (3, 4))], [(2, (1, 4)), (0, (2, 4)), (3, (3, 4))], [(2, (1, 3))], [(0, (3, 4)), (1, (4, 4))], [(0, (1, 3)), (1, (2, 3))], [(0, (1, 3)), (1, (2, 3))], [(3, (1, 3)), (1, (2, 3))], [(2, (1, 5)), (0, (2, 5)), (3, (3, 5)), (1, (4, 5))], [(3, (1, 2)), (1, (2, 2))], [(2, (1, 3)), (1, (2, 3)), (3, (3, 3))], [(2, (1, 3)), (1, (2, 3)), (3, (3, 3))], [(2, (1, 3)), (1, (2, 3)), (3, (3, 3))], [(2, (1, 3)), (1, (2, 3)), (3, (3, 3))], [(2, (1, 3)), (1, (2, 3)), (3, (3, 3))], [(2, (1, 5)), (4, (2, 5))], [(4, (1, 3))], [(1, (1, 2))], [(0, (1, 3))], [(0, (1, 3)), (5, (2, 3))], [(0, (1, 3)), (5, (2, 3))], [(0, (1, 3)), (1, (2, 3))], [(0, (1, 4))], [(5, (1, 2))], [(2, (3, 3))], [(2, (1, 6)), (0, (2, 6)), (3, (3, 6)), (1, (4, 6))], [(0, (1, 3))], [(2, (1, 4)), (0, (2, 4)), (1, (3, 4))], [(0, (1, 4)), (1, (2, 4))], [(0, (1, 3)), (1, (2, 3))], [(2, (1, 4)), (0, (2, 4)), (3, (3, 4)), (1, (4, 4))], [(0, (1, 3)), (1, (2, 3))], [(1, (1, 2))], [(1, (1, 2))], [(2, (1, 4)), (0, (2, 4)), (3, (3, 4)), (1, (4, 4))], [(0, (1, 3))], [(1, (1, 2))], [(2, (1, 3)), (4, (2, 3))], [(2, (1, 3))], [(2, (1, 3))], [(2, (3, 3))], [(2, (1, 3))], [(2, (1, 3))], [(2, (1, 3))], [(0, (1, 4))], [(0, (1, 4))], [(5, (1, 2))], [(5, (1, 2))], []]
set_option maxRecDepth 100000 in
def zSWl : List (List Nat) := [[], [], [], [], [], [], [], [], [], [], [], [], [], [], [], [], [], [], [], [], [], [], [], [], [], [], [], [], [], [], [], [], [], [], [], [], [], [], [], [], [], [], [], [], [], [], [], [], [], [], [], [], [], [], [], [], [], [], [], [], [], [], [], [], [], [], [], [], [], [], [], [], [], [], [], [], [], [], [], [], [], [], [], [], [], [], [], [], [], [], [], [], [], [], [], [], [], [], [], [], [], [], [], [], [], [], [], [], [], [], [], [], [], [], [], [], [], [], [], [], [], [], [], [], [], [], [], [], [], [], [], [], [], [], [], [], [], [], [], [], [], [], [], [], [], [], [], [], [], [], [], [], [], [], [], [], [], [], [], [], [], [], [], [], [], [], [], [], [], [], [], [], [], [], [], [], [], [], [], [], [], [], [], [], [], [], [], [], [], [], [], [], [], [], [], [], [], [], [], [], [], [], [], [], [], [], [], [], [], [], [], [], [], [], [], [], [], [], [], [], [], [], [], [], [], [], [], [], [], [], [], [], [], [], [], [], [], [], [], [], [], [], [], [], [], [], [], [], [], [], [], [], [], [], [], [], [], [], [], [], [], [], [], [], [], [], [], [], [], [], [], [], [], [], [], [], [], [], [], [], [], [], [], [], [], [], [], [], [], [], [], [], [], [], [], [], [], [], [], [], [], [], [], [], [], [], [], [], [], [], [], [], [], [], [], [], [], [], [], [], [], [], [], [], [], [], [], [], [], [], [], [], [], [], [], [], [], [], [], [], [], [], [], [], [], [], [], [], [], [], [], [], [], [], [], [], [], [], [], [], [], [], [], [], [], [], [], [], [], [], [], [], [], [], [], [], [], [], [], [], [], [], [2, 3, 4, 5, 6, 7, 8, 9, 10, 11, 12, 17, 18, 19, 24, 25, 26, 27, 28, 29, 30, 31, 32, 33, 34, 35, 36, 37, 38, 39, 40, 41, 42, 43, 44, 45, 46, 47, 48, 49, 50, 51, 52, 53, 54, 55, 56, 57, 58, 59, 60, 61, 62, 63, 64, 65, 66, 67, 68, 69, 72, 73, 74, 75, 76]]
