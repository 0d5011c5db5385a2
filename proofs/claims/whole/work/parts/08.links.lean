/-! WORDS, LINKS, METHODS (by program) -/
def g_rmv (n : Nat) : Room := { frames := n, cells := 0, slots := 0, locals := 60 * n }
abbrev eX0_init (rm : Room) : mE := (RX0, cX0_init, 1, none, rm, true)
abbrev eX0_become (rm : Room) : mE := (RX0, cX0_become, 2, none, rm, false)
abbrev eX0_replace (rm : Room) : mE := (RX0, cX0_replace, 4, (some .int), rm, false)
abbrev eX0_worthNow (rm : Room) : mE := (RX0, cX0_worthNow, 1, (some .int), rm, false)
abbrev eX0_worthOtherWay (rm : Room) : mE := (RX0, cX0_worthOtherWay, 1, (some .int), rm, false)
abbrev eX0_worthAs (rm : Room) : mE := (RX0, cX0_worthAs, 2, (some .int), rm, false)
abbrev eX0_worthPaidTo (rm : Room) : mE := (RX0, cX0_worthPaidTo, 2, (some .int), rm, false)
abbrev eX0_worthIf (rm : Room) : mE := (RX0, cX0_worthIf, 7, (some .int), rm, false)
abbrev eX0_liesTurned (rm : Room) : mE := (RX0, cX0_liesTurned, 1, (some .int), rm, false)
abbrev eX0_turnsTurned (rm : Room) : mE := (RX0, cX0_turnsTurned, 1, (some .int), rm, false)
abbrev eX0_turnOver (rm : Room) : mE := (RX0, cX0_turnOver, 2, none, rm, false)
abbrev eX0_payTo (rm : Room) : mE := (RX0, cX0_payTo, 2, none, rm, false)
abbrev eX0_isA (rm : Room) : mE := (RX0, cX0_isA, 4, (some .boolean), rm, false)
abbrev eX1_init (rm : Room) : mE := (RX1, cX1_init, 2, none, rm, true)
abbrev eX1_become (rm : Room) : mE := (RX1, cX1_become, 3, none, rm, false)
abbrev eX1_hasCoin (rm : Room) : mE := (RX1, cX1_hasCoin, 2, (some .boolean), rm, false)
abbrev eX1_hasSet (rm : Room) : mE := (RX1, cX1_hasSet, 2, (some .boolean), rm, false)
abbrev eX1_addCoin (rm : Room) : mE := (RX1, cX1_addCoin, 5, (some .int), rm, false)
abbrev eX1_allCoins (rm : Room) : mE := (RX1, cX1_allCoins, 1, (some .int), rm, false)
abbrev eX1_coinsIn (rm : Room) : mE := (RX1, cX1_coinsIn, 4, (some .int), rm, false)
abbrev eX1_coinsLying (rm : Room) : mE := (RX1, cX1_coinsLying, 4, (some .int), rm, false)
abbrev eX1_worthOf (rm : Room) : mE := (RX1, cX1_worthOf, 4, (some .int), rm, false)
abbrev eX1_worthIfTurned (rm : Room) : mE := (RX1, cX1_worthIfTurned, 4, (some .int), rm, false)
abbrev eX1_paySet (rm : Room) : mE := (RX1, cX1_paySet, 4, none, rm, false)
abbrev eX1_exchange (rm : Room) : mE := (RX1, cX1_exchange, 5, none, rm, false)
abbrev eX1_turnsOfAll (rm : Room) : mE := (RX1, cX1_turnsOfAll, 3, (some .int), rm, false)
abbrev eX1_spotsHeld (rm : Room) : mE := (RX1, cX1_spotsHeld, 3, (some .int), rm, false)
abbrev eX1_draw (rm : Room) : mE := (RX1, cX1_draw, 1, (some .int), rm, false)
abbrev eX1_passDays (rm : Room) : mE := (RX1, cX1_passDays, 4, (some .int), rm, false)
abbrev eX1_turnShips (rm : Room) : mE := (RX1, cX1_turnShips, 3, (some .int), rm, false)
abbrev eX2_init (rm : Room) : mE := (RX2, cX2_init, 1, none, rm, true)
abbrev eX2_gather (rm : Room) : mE := (RX2, cX2_gather, 4, none, rm, false)
abbrev eX2_isReached (rm : Room) : mE := (RX2, cX2_isReached, 2, (some .boolean), rm, false)
abbrev eX2_reachedCount (rm : Room) : mE := (RX2, cX2_reachedCount, 3, (some .int), rm, false)
abbrev eX2_firstUnreached (rm : Room) : mE := (RX2, cX2_firstUnreached, 3, (some .int), rm, false)
abbrev eX2_wantNothing (rm : Room) : mE := (RX2, cX2_wantNothing, 1, none, rm, false)
abbrev eX2_want (rm : Room) : mE := (RX2, cX2_want, 2, none, rm, false)
abbrev eX2_fewestFlips (rm : Room) : mE := (RX2, cX2_fewestFlips, 4, (some .int), rm, false)
abbrev eX2_tryFlips (rm : Room) : mE := (RX2, cX2_tryFlips, 3, none, rm, false)
abbrev eX2_hasAllWanted (rm : Room) : mE := (RX2, cX2_hasAllWanted, 3, (some .boolean), rm, false)
abbrev eX2_startRow (rm : Room) : mE := (RX2, cX2_startRow, 1, none, rm, false)
abbrev eX2_spread (rm : Room) : mE := (RX2, cX2_spread, 10, none, rm, false)
abbrev eX3_init (rm : Room) : mE := (RX3, cX3_init, 1, none, rm, true)
abbrev eX3_readText (rm : Room) : mE := (RX3, cX3_readText, 5, (some .int), rm, false)
abbrev eX3_readItem (rm : Room) : mE := (RX3, cX3_readItem, 3, (some .boolean), rm, false)
abbrev eX3_readCoin (rm : Room) : mE := (RX3, cX3_readCoin, 5, (some .boolean), rm, false)
abbrev eX3_readPay (rm : Room) : mE := (RX3, cX3_readPay, 3, (some .boolean), rm, false)
abbrev eX3_isNumber (rm : Room) : mE := (RX3, cX3_isNumber, 2, (some .boolean), rm, false)
abbrev eX3_isWord (rm : Room) : mE := (RX3, cX3_isWord, 3, (some .boolean), rm, false)
abbrev eX3_step (rm : Room) : mE := (RX3, cX3_step, 1, none, rm, false)
abbrev eX3_isLetter (rm : Room) : mE := (RX3, cX3_isLetter, 1, (some .boolean), rm, false)
abbrev eX3_isDigit (rm : Room) : mE := (RX3, cX3_isDigit, 1, (some .boolean), rm, false)
abbrev eX3_nameOf (rm : Room) : mE := (RX3, cX3_nameOf, 1, (some (.object "java/lang/String")), rm, false)
abbrev eX4_init (rm : Room) : mE := (RX4, cX4_init, 1, none, rm, true)
abbrev eX4_isMissing (rm : Room) : mE := (RX4, cX4_isMissing, 1, (some .boolean), rm, false)
abbrev eX4_clear (rm : Room) : mE := (RX4, cX4_clear, 3, none, rm, false)
abbrev eX4_put (rm : Room) : mE := (RX4, cX4_put, 3, none, rm, false)
abbrev eX4_hasRow (rm : Room) : mE := (RX4, cX4_hasRow, 3, (some .boolean), rm, false)
abbrev eX5_init (rm : Room) : mE := (RX5, cX5_init, 1, none, rm, true)
abbrev eX5_leastSetWorth (rm : Room) : mE := (RX5, cX5_leastSetWorth, 5, (some .int), rm, false)
abbrev eX5_waysWorth (rm : Room) : mE := (RX5, cX5_waysWorth, 7, (some .int), rm, false)
abbrev eX5_fewestCoins (rm : Room) : mE := (RX5, cX5_fewestCoins, 7, (some .int), rm, false)
abbrev eX5_findPayment (rm : Room) : mE := (RX5, cX5_findPayment, 11, (some .boolean), rm, false)
abbrev eX5_findChange (rm : Room) : mE := (RX5, cX5_findChange, 9, (some .boolean), rm, false)
abbrev eX5_gainOf (rm : Room) : mE := (RX5, cX5_gainOf, 4, (some .int), rm, false)
abbrev eX5_withSets (rm : Room) : mE := (RX5, cX5_withSets, 4, (some .long), rm, false)
abbrev eX5_takeSets (rm : Room) : mE := (RX5, cX5_takeSets, 3, none, rm, false)
abbrev eX5_weigh (rm : Room) : mE := (RX5, cX5_weigh, 8, none, rm, false)
abbrev eX5_listSets (rm : Room) : mE := (RX5, cX5_listSets, 4, none, rm, false)
abbrev eX5_totalOf (rm : Room) : mE := (RX5, cX5_totalOf, 4, (some .int), rm, false)
abbrev eX6_init (rm : Room) : mE := (RX6, cX6_init, 2, none, rm, true)
abbrev eX6_coin (rm : Room) : mE := (RX6, cX6_coin, 4, (some .int), rm, false)
abbrev eX6_of (rm : Room) : mE := (RX6, cX6_of, 4, (some .int), rm, false)
abbrev eX6_change (rm : Room) : mE := (RX6, cX6_change, 4, (some .int), rm, false)
abbrev eX6_turn (rm : Room) : mE := (RX6, cX6_turn, 2, (some .int), rm, false)
abbrev eX6_purse (rm : Room) : mE := (RX6, cX6_purse, 4, (some .int), rm, false)
abbrev eX6_sum (rm : Room) : mE := (RX6, cX6_sum, 2, (some .int), rm, false)
abbrev eX6_pay (rm : Room) : mE := (RX6, cX6_pay, 5, (some .int), rm, false)
abbrev eX6_there (rm : Room) : mE := (RX6, cX6_there, 5, (some .int), rm, false)
abbrev eX6_can (rm : Room) : mE := (RX6, cX6_can, 3, (some .int), rm, false)
abbrev eX6_with (rm : Room) : mE := (RX6, cX6_with, 4, (some .int), rm, false)
abbrev eX6_sums (rm : Room) : mE := (RX6, cX6_sums, 2, (some .int), rm, false)
abbrev eX6_cannot (rm : Room) : mE := (RX6, cX6_cannot, 2, (some .int), rm, false)
abbrev eX6_cost (rm : Room) : mE := (RX6, cX6_cost, 5, (some .int), rm, false)
abbrev eX6_given (rm : Room) : mE := (RX6, cX6_given, 5, (some .int), rm, false)
abbrev eX6_back (rm : Room) : mE := (RX6, cX6_back, 5, (some .int), rm, false)
abbrev eX6_buy (rm : Room) : mE := (RX6, cX6_buy, 5, (some .int), rm, false)
abbrev eX6_fewest (rm : Room) : mE := (RX6, cX6_fewest, 5, (some .int), rm, false)
abbrev eX6_dearth (rm : Room) : mE := (RX6, cX6_dearth, 6, (some .int), rm, false)
abbrev eX6_gain (rm : Room) : mE := (RX6, cX6_gain, 4, (some .int), rm, false)
abbrev eX6_lot (rm : Room) : mE := (RX6, cX6_lot, 4, (some .int), rm, false)
abbrev eX6_deal (rm : Room) : mE := (RX6, cX6_deal, 4, (some .int), rm, false)
abbrev eX6_deals (rm : Room) : mE := (RX6, cX6_deals, 4, (some .int), rm, false)
abbrev eX6_partner (rm : Room) : mE := (RX6, cX6_partner, 5, (some .int), rm, false)
abbrev eX6_round (rm : Room) : mE := (RX6, cX6_round, 7, (some .int), rm, false)
abbrev eX6_flip (rm : Room) : mE := (RX6, cX6_flip, 4, (some .int), rm, false)
abbrev eX6_highest (rm : Room) : mE := (RX6, cX6_highest, 5, (some .int), rm, false)
abbrev eX6_wrong (rm : Room) : mE := (RX6, cX6_wrong, 3, (some .int), rm, false)
abbrev eX6_ways (rm : Room) : mE := (RX6, cX6_ways, 3, (some .int), rm, false)
abbrev eX6_kindFor (rm : Room) : mE := (RX6, cX6_kindFor, 5, (some .int), rm, false)
abbrev eX6_days (rm : Room) : mE := (RX6, cX6_days, 2, (some .int), rm, false)
abbrev eX6_ahead (rm : Room) : mE := (RX6, cX6_ahead, 3, (some .int), rm, false)
abbrev eX6_market (rm : Room) : mE := (RX6, cX6_market, 5, (some .int), rm, false)
abbrev eX6_toss (rm : Room) : mE := (RX6, cX6_toss, 6, (some .int), rm, false)
abbrev eX6_seed (rm : Room) : mE := (RX6, cX6_seed, 3, (some .int), rm, false)
abbrev eX6_feed (rm : Room) : mE := (RX6, cX6_feed, 4, (some .int), rm, false)
abbrev eX6_wipe (rm : Room) : mE := (RX6, cX6_wipe, 2, (some .int), rm, false)
abbrev eX6_text (rm : Room) : mE := (RX6, cX6_text, 2, (some .int), rm, false)
abbrev eX6_hold (rm : Room) : mE := (RX6, cX6_hold, 3, (some .int), rm, false)
abbrev eX6_as (rm : Room) : mE := (RX6, cX6_as, 4, (some .int), rm, false)
abbrev eX6_sheet (rm : Room) : mE := (RX6, cX6_sheet, 4, (some .int), rm, false)
abbrev eX6_write (rm : Room) : mE := (RX6, cX6_write, 5, (some .int), rm, false)
abbrev eX6_copy (rm : Room) : mE := (RX6, cX6_copy, 8, (some .int), rm, false)
abbrev eX6_load (rm : Room) : mE := (RX6, cX6_load, 6, (some .int), rm, false)
abbrev eX6_strike (rm : Room) : mE := (RX6, cX6_strike, 5, (some .int), rm, false)
abbrev eX6_judge (rm : Room) : mE := (RX6, cX6_judge, 7, (some .int), rm, false)
abbrev eX6_image (rm : Room) : mE := (RX6, cX6_image, 1, (some .int), rm, false)
abbrev eX6_undo (rm : Room) : mE := (RX6, cX6_undo, 1, (some .int), rm, false)
abbrev eX6_tear (rm : Room) : mE := (RX6, cX6_tear, 2, (some .int), rm, false)
abbrev eX6_count (rm : Room) : mE := (RX6, cX6_count, 2, (some .int), rm, false)
abbrev eX6_status (rm : Room) : mE := (RX6, cX6_status, 4, (some .int), rm, false)
abbrev eX6_tell (rm : Room) : mE := (RX6, cX6_tell, 3, (some .int), rm, false)
abbrev eX6_seekPayment (rm : Room) : mE := (RX6, cX6_seekPayment, 4, (some .int), rm, false)
abbrev eX6_seekChange (rm : Room) : mE := (RX6, cX6_seekChange, 3, (some .int), rm, false)
abbrev eX6_seekSheet (rm : Room) : mE := (RX6, cX6_seekSheet, 2, (some .int), rm, false)
abbrev eX6_isWithin (rm : Room) : mE := (RX6, cX6_isWithin, 2, (some .boolean), rm, false)
abbrev eX6_isPurse (rm : Room) : mE := (RX6, cX6_isPurse, 1, (some .boolean), rm, false)
abbrev eX6_areTwoPurses (rm : Room) : mE := (RX6, cX6_areTwoPurses, 2, (some .boolean), rm, false)
abbrev eX6_isSheet (rm : Room) : mE := (RX6, cX6_isSheet, 1, (some .boolean), rm, false)
abbrev eX6_mostOf (rm : Room) : mE := (RX6, cX6_mostOf, 1, (some .int), rm, false)
abbrev eX6_holds (rm : Room) : mE := (RX6, cX6_holds, 2, (some .boolean), rm, false)
abbrev eX7_init (rm : Room) : mE := (RX7, cX7_init, 2, none, rm, true)
abbrev eX7_finding (rm : Room) : mE := (RX7, cX7_finding, 2, (some .int), rm, false)
abbrev eX7_within (rm : Room) : mE := (RX7, cX7_within, 3, (some .boolean), rm, false)
abbrev eX7_become (rm : Room) : mE := (RX7, cX7_become, 4, (some .int), rm, false)
abbrev eX7_copyRow (rm : Room) : mE := (RX7, cX7_copyRow, 3, none, rm, false)
abbrev eX7_putBack (rm : Room) : mE := (RX7, cX7_putBack, 2, (some .int), rm, false)
abbrev eX7_isCoin (rm : Room) : mE := (RX7, cX7_isCoin, 2, (some .boolean), rm, false)
abbrev eX7_isPurse (rm : Room) : mE := (RX7, cX7_isPurse, 1, (some .boolean), rm, false)
abbrev eX7_areTwo (rm : Room) : mE := (RX7, cX7_areTwo, 2, (some .boolean), rm, false)
abbrev eX7_isSet (rm : Room) : mE := (RX7, cX7_isSet, 2, (some .boolean), rm, false)
abbrev eX7_at (rm : Room) : mE := (RX7, cX7_at, 2, (some .int), rm, false)
abbrev eX7_coinIs (rm : Room) : mE := (RX7, cX7_coinIs, 3, (some .int), rm, false)
abbrev eX7_isKind (rm : Room) : mE := (RX7, cX7_isKind, 1, (some .boolean), rm, false)
abbrev eX7_struck (rm : Room) : mE := (RX7, cX7_struck, 7, (some .int), rm, false)
abbrev eX7_coin (rm : Room) : mE := (RX7, cX7_coin, 4, (some .int), rm, false)
abbrev eX7_above (rm : Room) : mE := (RX7, cX7_above, 1, (some .int), rm, false)
abbrev eX7_isUnder (rm : Room) : mE := (RX7, cX7_isUnder, 3, (some .boolean), rm, false)
abbrev eX7_worthSo (rm : Room) : mE := (RX7, cX7_worthSo, 7, (some .int), rm, false)
abbrev eX7_worth (rm : Room) : mE := (RX7, cX7_worth, 2, (some .int), rm, false)
abbrev eX7_liesThen (rm : Room) : mE := (RX7, cX7_liesThen, 3, (some .int), rm, false)
abbrev eX7_turnsThen (rm : Room) : mE := (RX7, cX7_turnsThen, 3, (some .int), rm, false)
abbrev eX7_worthPaid (rm : Room) : mE := (RX7, cX7_worthPaid, 3, (some .int), rm, false)
abbrev eX7_turnsOver (rm : Room) : mE := (RX7, cX7_turnsOver, 3, none, rm, false)
abbrev eX7_paid (rm : Room) : mE := (RX7, cX7_paid, 3, none, rm, false)
abbrev eX7_of (rm : Room) : mE := (RX7, cX7_of, 3, (some .int), rm, false)
abbrev eX7_change (rm : Room) : mE := (RX7, cX7_change, 6, (some .int), rm, false)
abbrev eX7_turn (rm : Room) : mE := (RX7, cX7_turn, 2, (some .int), rm, false)
abbrev eX7_setOf (rm : Room) : mE := (RX7, cX7_setOf, 4, (some .int), rm, false)
abbrev eX7_shipUp (rm : Room) : mE := (RX7, cX7_shipUp, 3, (some .int), rm, false)
abbrev eX7_has (rm : Room) : mE := (RX7, cX7_has, 2, (some .boolean), rm, false)
abbrev eX7_sumOf (rm : Room) : mE := (RX7, cX7_sumOf, 4, (some .int), rm, false)
abbrev eX7_sumPaid (rm : Room) : mE := (RX7, cX7_sumPaid, 5, (some .int), rm, false)
abbrev eX7_purse (rm : Room) : mE := (RX7, cX7_purse, 4, (some .int), rm, false)
abbrev eX7_sum (rm : Room) : mE := (RX7, cX7_sum, 2, (some .int), rm, false)
abbrev eX7_paidAll (rm : Room) : mE := (RX7, cX7_paidAll, 5, (some .int), rm, false)
abbrev eX7_pay (rm : Room) : mE := (RX7, cX7_pay, 4, (some .int), rm, false)
abbrev eX7_there (rm : Room) : mE := (RX7, cX7_there, 6, (some .int), rm, false)
abbrev eX7_setWith (rm : Room) : mE := (RX7, cX7_setWith, 5, (some .int), rm, false)
abbrev eX7_isSum (rm : Room) : mE := (RX7, cX7_isSum, 1, (some .boolean), rm, false)
abbrev eX7_can (rm : Room) : mE := (RX7, cX7_can, 3, (some .int), rm, false)
abbrev eX7_with (rm : Room) : mE := (RX7, cX7_with, 4, (some .int), rm, false)
abbrev eX7_clear (rm : Room) : mE := (RX7, cX7_clear, 2, none, rm, false)
abbrev eX7_findSums (rm : Room) : mE := (RX7, cX7_findSums, 4, none, rm, false)
abbrev eX7_sums (rm : Room) : mE := (RX7, cX7_sums, 4, (some .int), rm, false)
abbrev eX7_cannot (rm : Room) : mE := (RX7, cX7_cannot, 3, (some .int), rm, false)
abbrev eX7_bits (rm : Room) : mE := (RX7, cX7_bits, 3, (some .int), rm, false)
abbrev eX7_isAhead (rm : Room) : mE := (RX7, cX7_isAhead, 5, (some .boolean), rm, false)
abbrev eX7_findBest (rm : Room) : mE := (RX7, cX7_findBest, 10, (some .boolean), rm, false)
abbrev eX7_refuses (rm : Room) : mE := (RX7, cX7_refuses, 4, (some .int), rm, false)
abbrev eX7_cost (rm : Room) : mE := (RX7, cX7_cost, 5, (some .int), rm, false)
abbrev eX7_given (rm : Room) : mE := (RX7, cX7_given, 5, (some .int), rm, false)
abbrev eX7_back (rm : Room) : mE := (RX7, cX7_back, 5, (some .int), rm, false)
abbrev eX7_bothPaid (rm : Room) : mE := (RX7, cX7_bothPaid, 6, none, rm, false)
abbrev eX7_buy (rm : Room) : mE := (RX7, cX7_buy, 5, (some .int), rm, false)
abbrev eX7_fewest (rm : Room) : mE := (RX7, cX7_fewest, 9, (some .int), rm, false)
abbrev eX7_dearth (rm : Room) : mE := (RX7, cX7_dearth, 7, (some .int), rm, false)
abbrev eX7_findChange (rm : Room) : mE := (RX7, cX7_findChange, 13, (some .int), rm, false)
abbrev eX7_gain (rm : Room) : mE := (RX7, cX7_gain, 4, (some .int), rm, false)
abbrev eX7_lot (rm : Room) : mE := (RX7, cX7_lot, 3, (some .int), rm, false)
abbrev eX7_deal (rm : Room) : mE := (RX7, cX7_deal, 4, (some .int), rm, false)
abbrev eX7_deals (rm : Room) : mE := (RX7, cX7_deals, 4, (some .int), rm, false)
abbrev eX7_partner (rm : Room) : mE := (RX7, cX7_partner, 6, (some .int), rm, false)
abbrev eX7_round (rm : Room) : mE := (RX7, cX7_round, 7, (some .int), rm, false)
abbrev eX7_liesOtherwise (rm : Room) : mE := (RX7, cX7_liesOtherwise, 3, none, rm, false)
abbrev eX7_flip (rm : Room) : mE := (RX7, cX7_flip, 6, (some .int), rm, false)
abbrev eX7_worthOtherwise (rm : Room) : mE := (RX7, cX7_worthOtherwise, 2, (some .int), rm, false)
abbrev eX7_highest (rm : Room) : mE := (RX7, cX7_highest, 4, (some .int), rm, false)
abbrev eX7_wrong (rm : Room) : mE := (RX7, cX7_wrong, 3, (some .int), rm, false)
abbrev eX7_ways (rm : Room) : mE := (RX7, cX7_ways, 6, (some .int), rm, false)
abbrev eX7_kindFor (rm : Room) : mE := (RX7, cX7_kindFor, 6, (some .int), rm, false)
abbrev eX7_daysGo (rm : Room) : mE := (RX7, cX7_daysGo, 5, (some .int), rm, false)
abbrev eX7_days (rm : Room) : mE := (RX7, cX7_days, 2, (some .int), rm, false)
abbrev eX7_ahead (rm : Room) : mE := (RX7, cX7_ahead, 4, (some .int), rm, false)
abbrev eX7_drawn (rm : Room) : mE := (RX7, cX7_drawn, 1, (some .int), rm, false)
abbrev eX7_market (rm : Room) : mE := (RX7, cX7_market, 5, (some .int), rm, false)
abbrev eX7_toss (rm : Room) : mE := (RX7, cX7_toss, 5, (some .int), rm, false)
abbrev eX7_seed (rm : Room) : mE := (RX7, cX7_seed, 2, (some .int), rm, false)
abbrev eX7_feed (rm : Room) : mE := (RX7, cX7_feed, 4, (some .int), rm, false)
abbrev eX7_wipe (rm : Room) : mE := (RX7, cX7_wipe, 2, (some .int), rm, false)
abbrev eX7_byteAt (rm : Room) : mE := (RX7, cX7_byteAt, 2, (some .int), rm, false)
abbrev eX7_next (rm : Room) : mE := (RX7, cX7_next, 2, none, rm, false)
abbrev eX7_isWord (rm : Room) : mE := (RX7, cX7_isWord, 4, (some .boolean), rm, false)
abbrev eX7_must (rm : Room) : mE := (RX7, cX7_must, 2, none, rm, false)
abbrev eX7_number (rm : Room) : mE := (RX7, cX7_number, 4, (some .int), rm, false)
abbrev eX7_item (rm : Room) : mE := (RX7, cX7_item, 7, none, rm, false)
abbrev eX7_kindTold (rm : Room) : mE := (RX7, cX7_kindTold, 3, (some .int), rm, false)
abbrev eX7_readItem (rm : Room) : mE := (RX7, cX7_readItem, 4, none, rm, false)
abbrev eX7_readCoin (rm : Room) : mE := (RX7, cX7_readCoin, 6, none, rm, false)
abbrev eX7_isSo (rm : Room) : mE := (RX7, cX7_isSo, 3, none, rm, false)
abbrev eX7_text (rm : Room) : mE := (RX7, cX7_text, 2, (some .int), rm, false)
abbrev eX7_isSpot (rm : Room) : mE := (RX7, cX7_isSpot, 1, (some .boolean), rm, false)
abbrev eX7_hold (rm : Room) : mE := (RX7, cX7_hold, 3, (some .int), rm, false)
abbrev eX7_as (rm : Room) : mE := (RX7, cX7_as, 4, (some .int), rm, false)
abbrev eX7_isSheet (rm : Room) : mE := (RX7, cX7_isSheet, 1, (some .boolean), rm, false)
abbrev eX7_cutTo (rm : Room) : mE := (RX7, cX7_cutTo, 2, (some .int), rm, false)
abbrev eX7_sheet (rm : Room) : mE := (RX7, cX7_sheet, 5, (some .int), rm, false)
abbrev eX7_write (rm : Room) : mE := (RX7, cX7_write, 4, (some .int), rm, false)
abbrev eX7_copy (rm : Room) : mE := (RX7, cX7_copy, 7, (some .int), rm, false)
abbrev eX7_load (rm : Room) : mE := (RX7, cX7_load, 3, (some .int), rm, false)
abbrev eX7_areAllSums (rm : Room) : mE := (RX7, cX7_areAllSums, 5, (some .boolean), rm, false)
abbrev eX7_strike (rm : Room) : mE := (RX7, cX7_strike, 6, (some .int), rm, false)
abbrev eX7_judge (rm : Room) : mE := (RX7, cX7_judge, 5, (some .int), rm, false)
abbrev eX7_image (rm : Room) : mE := (RX7, cX7_image, 1, (some .int), rm, false)
abbrev eX7_undo (rm : Room) : mE := (RX7, cX7_undo, 1, (some .int), rm, false)
abbrev eX7_tear (rm : Room) : mE := (RX7, cX7_tear, 2, (some .int), rm, false)
abbrev eX7_count (rm : Room) : mE := (RX7, cX7_count, 4, (some .int), rm, false)
abbrev eX7_status (rm : Room) : mE := (RX7, cX7_status, 2, (some .int), rm, false)
abbrev eJ6_bitCount_0f7a4 (rm : Room) : mE := (RJ6, cJ6_bitCount_0f7a4, 1, (some .int), rm, false)
abbrev eJ13_bitCount_95d88 (rm : Room) : mE := (RJ13, cJ13_bitCount_95d88, 2, (some .int), rm, false)
abbrev eJ9_max_7cf53 (rm : Room) : mE := (RJ9, cJ9_max_7cf53, 2, (some .int), rm, false)
abbrev eJ9_min_7cf53 (rm : Room) : mE := (RJ9, cJ9_min_7cf53, 2, (some .int), rm, false)
abbrev eJ9_min_f86c9 (rm : Room) : mE := (RJ9, cJ9_min_f86c9, 4, (some .long), rm, false)
abbrev eJ0_length_8abf5 (rm : Room) : mE := (RJ0, cJ0_length_8abf5, 1, (some .int), rm, false)
abbrev eJ0_charAt_5068e (rm : Room) : mE := (RJ0, cJ0_charAt_5068e, 2, (some .char), rm, false)
abbrev eJ0_coder_7d493 (rm : Room) : mE := (RJ0, cJ0_coder_7d493, 1, (some .byte), rm, false)
abbrev eJ0_isLatin1_aae02 (rm : Room) : mE := (RJ0, cJ0_isLatin1_aae02, 1, (some .boolean), rm, false)
abbrev eJ0_checkIndex_df160 (rm : Room) : mE := (RJ0, cJ0_checkIndex_df160, 2, none, rm, false)
abbrev eJ1_charAt_3b067 (rm : Room) : mE := (RJ1, cJ1_charAt_3b067, 2, (some .char), rm, false)
abbrev eJ2_getChar_3b067 (rm : Room) : mE := (RJ2, cJ2_getChar_3b067, 2, (some .char), rm, false)
abbrev eJ2_length_9d52b (rm : Room) : mE := (RJ2, cJ2_length_9d52b, 1, (some .int), rm, false)
abbrev eJ2_charAt_3b067 (rm : Room) : mE := (RJ2, cJ2_charAt_3b067, 2, (some .char), rm, false)
abbrev eJ2_checkIndex_2214a (rm : Room) : mE := (RJ2, cJ2_checkIndex_2214a, 2, none, rm, false)
abbrev eJ7_fill_d0a16 (rm : Room) : mE := (RJ7, cJ7_fill_d0a16, 5, none, rm, false)
abbrev eJ7_fill_53178 (rm : Room) : mE := (RJ7, cJ7_fill_53178, 4, none, rm, false)
abbrev eJ3_checkIndex_8e157 (rm : Room) : mE := (RJ3, cJ3_checkIndex_8e157, 3, (some .int), rm, false)
theorem tw39 : (Jvm.Cond.fieldLink "TurningCoins$Coin" (9 : Nat) "TurningCoins$Coin" "kind" "I") ∈ tG := tG_t (i := 39) (by decide +kernel) (by decide +kernel)
theorem fl_RX0_9 : g_fl RX0 9 0 0 false := ⟨_, rfl, by decide, tw39, rfl, fun _ => rfl⟩
theorem tw40 : (Jvm.Cond.fieldLink "TurningCoins" (90 : Nat) "TurningCoins$Coin" "kind" "I") ∈ tG := tG_t (i := 40) (by decide +kernel) (by decide +kernel)
theorem fl_RX6_90 : g_fl RX6 90 0 0 false := ⟨_, rfl, by decide, tw40, rfl, fun h => by cases h⟩
theorem tw41 : (Jvm.Cond.fieldLink "TurningCoins$Land" (52 : Nat) "TurningCoins$Coin" "kind" "I") ∈ tG := tG_t (i := 41) (by decide +kernel) (by decide +kernel)
theorem fl_RX1_52 : g_fl RX1 52 0 0 false := ⟨_, rfl, by decide, tw41, rfl, fun h => by cases h⟩
theorem tw42 : (Jvm.Cond.fieldLink "TurningCoins$Coin" (15 : Nat) "TurningCoins$Coin" "purse" "I") ∈ tG := tG_t (i := 42) (by decide +kernel) (by decide +kernel)
theorem fl_RX0_15 : g_fl RX0 15 0 1 false := ⟨_, rfl, by decide, tw42, rfl, fun _ => rfl⟩
theorem tw43 : (Jvm.Cond.fieldLink "TurningCoins" (95 : Nat) "TurningCoins$Coin" "purse" "I") ∈ tG := tG_t (i := 43) (by decide +kernel) (by decide +kernel)
theorem fl_RX6_95 : g_fl RX6 95 0 1 false := ⟨_, rfl, by decide, tw43, rfl, fun h => by cases h⟩
theorem tw44 : (Jvm.Cond.fieldLink "TurningCoins$Reader" (80 : Nat) "TurningCoins$Coin" "purse" "I") ∈ tG := tG_t (i := 44) (by decide +kernel) (by decide +kernel)
theorem fl_RX3_80 : g_fl RX3 80 0 1 false := ⟨_, rfl, by decide, tw44, rfl, fun h => by cases h⟩
theorem tw45 : (Jvm.Cond.fieldLink "TurningCoins$Land" (55 : Nat) "TurningCoins$Coin" "purse" "I") ∈ tG := tG_t (i := 45) (by decide +kernel) (by decide +kernel)
theorem fl_RX1_55 : g_fl RX1 55 0 1 false := ⟨_, rfl, by decide, tw45, rfl, fun h => by cases h⟩
theorem tw46 : (Jvm.Cond.fieldLink "TurningCoins$Trades" (108 : Nat) "TurningCoins$Coin" "purse" "I") ∈ tG := tG_t (i := 46) (by decide +kernel) (by decide +kernel)
theorem fl_RX5_108 : g_fl RX5 108 0 1 false := ⟨_, rfl, by decide, tw46, rfl, fun h => by cases h⟩
theorem tw47 : (Jvm.Cond.fieldLink "TurningCoins$Coin" (18 : Nat) "TurningCoins$Coin" "king" "I") ∈ tG := tG_t (i := 47) (by decide +kernel) (by decide +kernel)
theorem fl_RX0_18 : g_fl RX0 18 0 2 false := ⟨_, rfl, by decide, tw47, rfl, fun _ => rfl⟩
theorem tw48 : (Jvm.Cond.fieldLink "TurningCoins" (98 : Nat) "TurningCoins$Coin" "king" "I") ∈ tG := tG_t (i := 48) (by decide +kernel) (by decide +kernel)
theorem fl_RX6_98 : g_fl RX6 98 0 2 false := ⟨_, rfl, by decide, tw48, rfl, fun h => by cases h⟩
theorem tw49 : (Jvm.Cond.fieldLink "TurningCoins$Land" (58 : Nat) "TurningCoins$Coin" "king" "I") ∈ tG := tG_t (i := 49) (by decide +kernel) (by decide +kernel)
theorem fl_RX1_58 : g_fl RX1 58 0 2 false := ⟨_, rfl, by decide, tw49, rfl, fun h => by cases h⟩
theorem tw50 : (Jvm.Cond.fieldLink "TurningCoins$Coin" (21 : Nat) "TurningCoins$Coin" "ship" "I") ∈ tG := tG_t (i := 50) (by decide +kernel) (by decide +kernel)
theorem fl_RX0_21 : g_fl RX0 21 0 3 false := ⟨_, rfl, by decide, tw50, rfl, fun _ => rfl⟩
theorem tw51 : (Jvm.Cond.fieldLink "TurningCoins" (101 : Nat) "TurningCoins$Coin" "ship" "I") ∈ tG := tG_t (i := 51) (by decide +kernel) (by decide +kernel)
theorem fl_RX6_101 : g_fl RX6 101 0 3 false := ⟨_, rfl, by decide, tw51, rfl, fun h => by cases h⟩
theorem tw52 : (Jvm.Cond.fieldLink "TurningCoins$Land" (61 : Nat) "TurningCoins$Coin" "ship" "I") ∈ tG := tG_t (i := 52) (by decide +kernel) (by decide +kernel)
theorem fl_RX1_61 : g_fl RX1 61 0 3 false := ⟨_, rfl, by decide, tw52, rfl, fun h => by cases h⟩
theorem tw53 : (Jvm.Cond.fieldLink "TurningCoins$Coin" (24 : Nat) "TurningCoins$Coin" "lies" "I") ∈ tG := tG_t (i := 53) (by decide +kernel) (by decide +kernel)
theorem fl_RX0_24 : g_fl RX0 24 0 4 false := ⟨_, rfl, by decide, tw53, rfl, fun _ => rfl⟩
theorem tw54 : (Jvm.Cond.fieldLink "TurningCoins" (104 : Nat) "TurningCoins$Coin" "lies" "I") ∈ tG := tG_t (i := 54) (by decide +kernel) (by decide +kernel)
theorem fl_RX6_104 : g_fl RX6 104 0 4 false := ⟨_, rfl, by decide, tw54, rfl, fun h => by cases h⟩
theorem tw55 : (Jvm.Cond.fieldLink "TurningCoins$Reader" (87 : Nat) "TurningCoins$Coin" "lies" "I") ∈ tG := tG_t (i := 55) (by decide +kernel) (by decide +kernel)
theorem fl_RX3_87 : g_fl RX3 87 0 4 false := ⟨_, rfl, by decide, tw55, rfl, fun h => by cases h⟩
theorem tw56 : (Jvm.Cond.fieldLink "TurningCoins$Land" (64 : Nat) "TurningCoins$Coin" "lies" "I") ∈ tG := tG_t (i := 56) (by decide +kernel) (by decide +kernel)
theorem fl_RX1_64 : g_fl RX1 64 0 4 false := ⟨_, rfl, by decide, tw56, rfl, fun h => by cases h⟩
theorem tw57 : (Jvm.Cond.fieldLink "TurningCoins$Coin" (27 : Nat) "TurningCoins$Coin" "turns" "I") ∈ tG := tG_t (i := 57) (by decide +kernel) (by decide +kernel)
theorem fl_RX0_27 : g_fl RX0 27 0 5 false := ⟨_, rfl, by decide, tw57, rfl, fun _ => rfl⟩
theorem tw58 : (Jvm.Cond.fieldLink "TurningCoins" (107 : Nat) "TurningCoins$Coin" "turns" "I") ∈ tG := tG_t (i := 58) (by decide +kernel) (by decide +kernel)
theorem fl_RX6_107 : g_fl RX6 107 0 5 false := ⟨_, rfl, by decide, tw58, rfl, fun h => by cases h⟩
theorem tw59 : (Jvm.Cond.fieldLink "TurningCoins$Land" (67 : Nat) "TurningCoins$Coin" "turns" "I") ∈ tG := tG_t (i := 59) (by decide +kernel) (by decide +kernel)
theorem fl_RX1_67 : g_fl RX1 67 0 5 false := ⟨_, rfl, by decide, tw59, rfl, fun h => by cases h⟩
theorem tw77 : (Jvm.Cond.fieldLink "TurningCoins$Land" (11 : Nat) "TurningCoins$Land" "coins" "[LTurningCoins$Coin;") ∈ tG := tG_t (i := 77) (by decide +kernel) (by decide +kernel)
theorem fl_RX1_11 : g_fl RX1 11 1 0 true := ⟨_, rfl, by decide, tw77, rfl, fun _ => rfl⟩
theorem tw78 : (Jvm.Cond.fieldLink "TurningCoins$Trades" (45 : Nat) "TurningCoins$Land" "coins" "[LTurningCoins$Coin;") ∈ tG := tG_t (i := 78) (by decide +kernel) (by decide +kernel)
theorem fl_RX5_45 : ∃ r : vw_C, vwCl[1]? = some r ∧ 0 < r.2.2 ∧ Cond.fieldLink RX5 45 (r.2.1 0).1 (r.2.1 0).2.1 (r.2.1 0).2.2.1 ∈ tG := ⟨_, rfl, by decide, tw78⟩
theorem tw79 : (Jvm.Cond.fieldLink "TurningCoins$Reach" (56 : Nat) "TurningCoins$Land" "coins" "[LTurningCoins$Coin;") ∈ tG := tG_t (i := 79) (by decide +kernel) (by decide +kernel)
theorem fl_RX2_56 : ∃ r : vw_C, vwCl[1]? = some r ∧ 0 < r.2.2 ∧ Cond.fieldLink RX2 56 (r.2.1 0).1 (r.2.1 0).2.1 (r.2.1 0).2.2.1 ∈ tG := ⟨_, rfl, by decide, tw79⟩
theorem tw80 : (Jvm.Cond.fieldLink "TurningCoins" (86 : Nat) "TurningCoins$Land" "coins" "[LTurningCoins$Coin;") ∈ tG := tG_t (i := 80) (by decide +kernel) (by decide +kernel)
theorem fl_RX6_86 : ∃ r : vw_C, vwCl[1]? = some r ∧ 0 < r.2.2 ∧ Cond.fieldLink RX6 86 (r.2.1 0).1 (r.2.1 0).2.1 (r.2.1 0).2.2.1 ∈ tG := ⟨_, rfl, by decide, tw80⟩
theorem tw81 : (Jvm.Cond.fieldLink "TurningCoins$Reader" (70 : Nat) "TurningCoins$Land" "coins" "[LTurningCoins$Coin;") ∈ tG := tG_t (i := 81) (by decide +kernel) (by decide +kernel)
theorem fl_RX3_70 : ∃ r : vw_C, vwCl[1]? = some r ∧ 0 < r.2.2 ∧ Cond.fieldLink RX3 70 (r.2.1 0).1 (r.2.1 0).2.1 (r.2.1 0).2.2.1 ∈ tG := ⟨_, rfl, by decide, tw81⟩
theorem tw82 : (Jvm.Cond.fieldLink "TurningCoins$Land" (17 : Nat) "TurningCoins$Land" "spots" "[I") ∈ tG := tG_t (i := 82) (by decide +kernel) (by decide +kernel)
theorem fl_RX1_17 : g_fl RX1 17 1 1 true := ⟨_, rfl, by decide, tw82, rfl, fun _ => rfl⟩
theorem tw83 : (Jvm.Cond.fieldLink "TurningCoins" (248 : Nat) "TurningCoins$Land" "spots" "[I") ∈ tG := tG_t (i := 83) (by decide +kernel) (by decide +kernel)
theorem fl_RX6_248 : ∃ r : vw_C, vwCl[1]? = some r ∧ 1 < r.2.2 ∧ Cond.fieldLink RX6 248 (r.2.1 1).1 (r.2.1 1).2.1 (r.2.1 1).2.2.1 ∈ tG := ⟨_, rfl, by decide, tw83⟩
theorem tw84 : (Jvm.Cond.fieldLink "TurningCoins$Land" (21 : Nat) "TurningCoins$Land" "coinCount" "I") ∈ tG := tG_t (i := 84) (by decide +kernel) (by decide +kernel)
theorem fl_RX1_21 : g_fl RX1 21 1 2 false := ⟨_, rfl, by decide, tw84, rfl, fun _ => rfl⟩
theorem tw85 : (Jvm.Cond.fieldLink "TurningCoins$Trades" (40 : Nat) "TurningCoins$Land" "coinCount" "I") ∈ tG := tG_t (i := 85) (by decide +kernel) (by decide +kernel)
theorem fl_RX5_40 : g_fl RX5 40 1 2 false := ⟨_, rfl, by decide, tw85, rfl, fun h => by cases h⟩
theorem tw86 : (Jvm.Cond.fieldLink "TurningCoins$Reach" (47 : Nat) "TurningCoins$Land" "coinCount" "I") ∈ tG := tG_t (i := 86) (by decide +kernel) (by decide +kernel)
theorem fl_RX2_47 : g_fl RX2 47 1 2 false := ⟨_, rfl, by decide, tw86, rfl, fun h => by cases h⟩
theorem tw87 : (Jvm.Cond.fieldLink "TurningCoins" (74 : Nat) "TurningCoins$Land" "coinCount" "I") ∈ tG := tG_t (i := 87) (by decide +kernel) (by decide +kernel)
theorem fl_RX6_74 : g_fl RX6 74 1 2 false := ⟨_, rfl, by decide, tw87, rfl, fun h => by cases h⟩
theorem tw88 : (Jvm.Cond.fieldLink "TurningCoins$Reader" (61 : Nat) "TurningCoins$Land" "coinCount" "I") ∈ tG := tG_t (i := 88) (by decide +kernel) (by decide +kernel)
theorem fl_RX3_61 : g_fl RX3 61 1 2 false := ⟨_, rfl, by decide, tw88, rfl, fun h => by cases h⟩
theorem tw89 : (Jvm.Cond.fieldLink "TurningCoins$Land" (25 : Nat) "TurningCoins$Land" "day" "I") ∈ tG := tG_t (i := 89) (by decide +kernel) (by decide +kernel)
theorem fl_RX1_25 : g_fl RX1 25 1 3 false := ⟨_, rfl, by decide, tw89, rfl, fun _ => rfl⟩
theorem tw90 : (Jvm.Cond.fieldLink "TurningCoins" (227 : Nat) "TurningCoins$Land" "day" "I") ∈ tG := tG_t (i := 90) (by decide +kernel) (by decide +kernel)
theorem fl_RX6_227 : g_fl RX6 227 1 3 false := ⟨_, rfl, by decide, tw90, rfl, fun h => by cases h⟩
theorem tw91 : (Jvm.Cond.fieldLink "TurningCoins$Land" (28 : Nat) "TurningCoins$Land" "z" "I") ∈ tG := tG_t (i := 91) (by decide +kernel) (by decide +kernel)
theorem fl_RX1_28 : g_fl RX1 28 1 4 false := ⟨_, rfl, by decide, tw91, rfl, fun _ => rfl⟩
theorem tw92 : (Jvm.Cond.fieldLink "TurningCoins" (241 : Nat) "TurningCoins$Land" "z" "I") ∈ tG := tG_t (i := 92) (by decide +kernel) (by decide +kernel)
theorem fl_RX6_241 : g_fl RX6 241 1 4 false := ⟨_, rfl, by decide, tw92, rfl, fun h => by cases h⟩
theorem tw110 : (Jvm.Cond.fieldLink "TurningCoins$Reader" (9 : Nat) "TurningCoins$Reader" "bytes" "[I") ∈ tG := tG_t (i := 110) (by decide +kernel) (by decide +kernel)
theorem fl_RX3_9 : g_fl RX3 9 3 0 false := ⟨_, rfl, by decide, tw110, rfl, fun _ => rfl⟩
theorem tw111 : (Jvm.Cond.fieldLink "TurningCoins$Reader" (15 : Nat) "TurningCoins$Reader" "length" "I") ∈ tG := tG_t (i := 111) (by decide +kernel) (by decide +kernel)
theorem fl_RX3_15 : g_fl RX3 15 3 1 false := ⟨_, rfl, by decide, tw111, rfl, fun _ => rfl⟩
theorem tw112 : (Jvm.Cond.fieldLink "TurningCoins$Reader" (19 : Nat) "TurningCoins$Reader" "sort" "I") ∈ tG := tG_t (i := 112) (by decide +kernel) (by decide +kernel)
theorem fl_RX3_19 : g_fl RX3 19 3 2 false := ⟨_, rfl, by decide, tw112, rfl, fun _ => rfl⟩
theorem tw113 : (Jvm.Cond.fieldLink "TurningCoins$Reader" (22 : Nat) "TurningCoins$Reader" "start" "I") ∈ tG := tG_t (i := 113) (by decide +kernel) (by decide +kernel)
theorem fl_RX3_22 : g_fl RX3 22 3 3 false := ⟨_, rfl, by decide, tw113, rfl, fun _ => rfl⟩
theorem tw114 : (Jvm.Cond.fieldLink "TurningCoins$Reader" (25 : Nat) "TurningCoins$Reader" "behind" "I") ∈ tG := tG_t (i := 114) (by decide +kernel) (by decide +kernel)
theorem fl_RX3_25 : g_fl RX3 25 3 4 false := ⟨_, rfl, by decide, tw114, rfl, fun _ => rfl⟩
theorem tw115 : (Jvm.Cond.fieldLink "TurningCoins$Reader" (28 : Nat) "TurningCoins$Reader" "value" "I") ∈ tG := tG_t (i := 115) (by decide +kernel) (by decide +kernel)
theorem fl_RX3_28 : g_fl RX3 28 3 5 false := ⟨_, rfl, by decide, tw115, rfl, fun _ => rfl⟩
theorem tw139 : (Jvm.Cond.fieldLink "TurningCoins$Reach" (13 : Nat) "TurningCoins$Reach" "rows" "[[J") ∈ tG := tG_t (i := 139) (by decide +kernel) (by decide +kernel)
theorem fl_RX2_13 : g_fl RX2 13 2 0 true := ⟨_, rfl, by decide, tw139, rfl, fun _ => rfl⟩
theorem tw140 : (Jvm.Cond.fieldLink "TurningCoins$Reach" (16 : Nat) "TurningCoins$Reach" "wanted" "[J") ∈ tG := tG_t (i := 140) (by decide +kernel) (by decide +kernel)
theorem fl_RX2_16 : g_fl RX2 16 2 1 true := ⟨_, rfl, by decide, tw140, rfl, fun _ => rfl⟩
theorem tw141 : (Jvm.Cond.fieldLink "TurningCoins$Reach" (20 : Nat) "TurningCoins$Reach" "isPossible" "Z") ∈ tG := tG_t (i := 141) (by decide +kernel) (by decide +kernel)
theorem fl_RX2_20 : g_fl RX2 20 2 2 false := ⟨_, rfl, by decide, tw141, rfl, fun _ => rfl⟩
theorem tw142 : (Jvm.Cond.fieldLink "TurningCoins$Reach" (24 : Nat) "TurningCoins$Reach" "width" "I") ∈ tG := tG_t (i := 142) (by decide +kernel) (by decide +kernel)
theorem fl_RX2_24 : g_fl RX2 24 2 3 false := ⟨_, rfl, by decide, tw142, rfl, fun _ => rfl⟩
theorem tw143 : (Jvm.Cond.fieldLink "TurningCoins$Reach" (28 : Nat) "TurningCoins$Reach" "numbers" "[I") ∈ tG := tG_t (i := 143) (by decide +kernel) (by decide +kernel)
theorem fl_RX2_28 : g_fl RX2 28 2 4 true := ⟨_, rfl, by decide, tw143, rfl, fun _ => rfl⟩
theorem tw144 : (Jvm.Cond.fieldLink "TurningCoins$Reach" (32 : Nat) "TurningCoins$Reach" "asIs" "[I") ∈ tG := tG_t (i := 144) (by decide +kernel) (by decide +kernel)
theorem fl_RX2_32 : g_fl RX2 32 2 5 true := ⟨_, rfl, by decide, tw144, rfl, fun _ => rfl⟩
theorem tw145 : (Jvm.Cond.fieldLink "TurningCoins$Reach" (35 : Nat) "TurningCoins$Reach" "otherWay" "[I") ∈ tG := tG_t (i := 145) (by decide +kernel) (by decide +kernel)
theorem fl_RX2_35 : g_fl RX2 35 2 6 true := ⟨_, rfl, by decide, tw145, rfl, fun _ => rfl⟩
theorem tw146 : (Jvm.Cond.fieldLink "TurningCoins$Reach" (38 : Nat) "TurningCoins$Reach" "size" "I") ∈ tG := tG_t (i := 146) (by decide +kernel) (by decide +kernel)
theorem fl_RX2_38 : g_fl RX2 38 2 7 false := ⟨_, rfl, by decide, tw146, rfl, fun _ => rfl⟩
theorem tw147 : (Jvm.Cond.fieldLink "TurningCoins$Reach" (41 : Nat) "TurningCoins$Reach" "best" "I") ∈ tG := tG_t (i := 147) (by decide +kernel) (by decide +kernel)
theorem fl_RX2_41 : g_fl RX2 41 2 8 false := ⟨_, rfl, by decide, tw147, rfl, fun _ => rfl⟩
theorem tw174 : (Jvm.Cond.fieldLink "TurningCoins$Trades" (9 : Nat) "TurningCoins$Trades" "sets" "[I") ∈ tG := tG_t (i := 174) (by decide +kernel) (by decide +kernel)
theorem fl_RX5_9 : g_fl RX5 9 5 0 true := ⟨_, rfl, by decide, tw174, rfl, fun _ => rfl⟩
theorem tw175 : (Jvm.Cond.fieldLink "TurningCoins$Trades" (15 : Nat) "TurningCoins$Trades" "totals" "[I") ∈ tG := tG_t (i := 175) (by decide +kernel) (by decide +kernel)
theorem fl_RX5_15 : g_fl RX5 15 5 1 true := ⟨_, rfl, by decide, tw175, rfl, fun _ => rfl⟩
theorem tw176 : (Jvm.Cond.fieldLink "TurningCoins$Trades" (18 : Nat) "TurningCoins$Trades" "setCount" "I") ∈ tG := tG_t (i := 176) (by decide +kernel) (by decide +kernel)
theorem fl_RX5_18 : g_fl RX5 18 5 2 false := ⟨_, rfl, by decide, tw176, rfl, fun _ => rfl⟩
theorem tw177 : (Jvm.Cond.fieldLink "TurningCoins$Trades" (22 : Nat) "TurningCoins$Trades" "each" "[I") ∈ tG := tG_t (i := 177) (by decide +kernel) (by decide +kernel)
theorem fl_RX5_22 : g_fl RX5 22 5 3 true := ⟨_, rfl, by decide, tw177, rfl, fun _ => rfl⟩
theorem tw178 : (Jvm.Cond.fieldLink "TurningCoins$Trades" (25 : Nat) "TurningCoins$Trades" "loss" "[I") ∈ tG := tG_t (i := 178) (by decide +kernel) (by decide +kernel)
theorem fl_RX5_25 : g_fl RX5 25 5 4 true := ⟨_, rfl, by decide, tw178, rfl, fun _ => rfl⟩
theorem tw179 : (Jvm.Cond.fieldLink "TurningCoins$Trades" (28 : Nat) "TurningCoins$Trades" "otherLoss" "[I") ∈ tG := tG_t (i := 179) (by decide +kernel) (by decide +kernel)
theorem fl_RX5_28 : g_fl RX5 28 5 5 true := ⟨_, rfl, by decide, tw179, rfl, fun _ => rfl⟩
theorem tw180 : (Jvm.Cond.fieldLink "TurningCoins$Trades" (31 : Nat) "TurningCoins$Trades" "given" "I") ∈ tG := tG_t (i := 180) (by decide +kernel) (by decide +kernel)
theorem fl_RX5_31 : g_fl RX5 31 5 6 false := ⟨_, rfl, by decide, tw180, rfl, fun _ => rfl⟩
theorem tw181 : (Jvm.Cond.fieldLink "TurningCoins" (174 : Nat) "TurningCoins$Trades" "given" "I") ∈ tG := tG_t (i := 181) (by decide +kernel) (by decide +kernel)
theorem fl_RX6_174 : g_fl RX6 174 5 6 false := ⟨_, rfl, by decide, tw181, rfl, fun h => by cases h⟩
theorem tw182 : (Jvm.Cond.fieldLink "TurningCoins$Trades" (34 : Nat) "TurningCoins$Trades" "back" "I") ∈ tG := tG_t (i := 182) (by decide +kernel) (by decide +kernel)
theorem fl_RX5_34 : g_fl RX5 34 5 7 false := ⟨_, rfl, by decide, tw182, rfl, fun _ => rfl⟩
theorem tw183 : (Jvm.Cond.fieldLink "TurningCoins" (177 : Nat) "TurningCoins$Trades" "back" "I") ∈ tG := tG_t (i := 183) (by decide +kernel) (by decide +kernel)
theorem fl_RX6_177 : g_fl RX6 177 5 7 false := ⟨_, rfl, by decide, tw183, rfl, fun h => by cases h⟩
theorem tw184 : (Jvm.Cond.fieldLink "TurningCoins$Trades" (37 : Nat) "TurningCoins$Trades" "amount" "I") ∈ tG := tG_t (i := 184) (by decide +kernel) (by decide +kernel)
theorem fl_RX5_37 : g_fl RX5 37 5 8 false := ⟨_, rfl, by decide, tw184, rfl, fun _ => rfl⟩
theorem tw185 : (Jvm.Cond.fieldLink "TurningCoins" (171 : Nat) "TurningCoins$Trades" "amount" "I") ∈ tG := tG_t (i := 185) (by decide +kernel) (by decide +kernel)
theorem fl_RX6_171 : g_fl RX6 171 5 8 false := ⟨_, rfl, by decide, tw185, rfl, fun h => by cases h⟩
theorem tw210 : (Jvm.Cond.fieldLink "TurningCoins$Sheet" (9 : Nat) "TurningCoins$Sheet" "numbers" "[I") ∈ tG := tG_t (i := 210) (by decide +kernel) (by decide +kernel)
theorem fl_RX4_9 : g_fl RX4 9 4 0 true := ⟨_, rfl, by decide, tw210, rfl, fun _ => rfl⟩
theorem tw211 : (Jvm.Cond.fieldLink "TurningCoins" (282 : Nat) "TurningCoins$Sheet" "numbers" "[I") ∈ tG := tG_t (i := 211) (by decide +kernel) (by decide +kernel)
theorem fl_RX6_282 : ∃ r : vw_C, vwCl[4]? = some r ∧ 0 < r.2.2 ∧ Cond.fieldLink RX6 282 (r.2.1 0).1 (r.2.1 0).2.1 (r.2.1 0).2.2.1 ∈ tG := ⟨_, rfl, by decide, tw211⟩
theorem tw212 : (Jvm.Cond.fieldLink "TurningCoins$Sheet" (15 : Nat) "TurningCoins$Sheet" "bits" "I") ∈ tG := tG_t (i := 212) (by decide +kernel) (by decide +kernel)
theorem fl_RX4_15 : g_fl RX4 15 4 1 false := ⟨_, rfl, by decide, tw212, rfl, fun _ => rfl⟩
theorem tw213 : (Jvm.Cond.fieldLink "TurningCoins" (276 : Nat) "TurningCoins$Sheet" "bits" "I") ∈ tG := tG_t (i := 213) (by decide +kernel) (by decide +kernel)
theorem fl_RX6_276 : g_fl RX6 276 4 1 false := ⟨_, rfl, by decide, tw213, rfl, fun h => by cases h⟩
theorem tw214 : (Jvm.Cond.fieldLink "TurningCoins$Sheet" (19 : Nat) "TurningCoins$Sheet" "size" "I") ∈ tG := tG_t (i := 214) (by decide +kernel) (by decide +kernel)
theorem fl_RX4_19 : g_fl RX4 19 4 2 false := ⟨_, rfl, by decide, tw214, rfl, fun _ => rfl⟩
theorem tw215 : (Jvm.Cond.fieldLink "TurningCoins" (263 : Nat) "TurningCoins$Sheet" "size" "I") ∈ tG := tG_t (i := 215) (by decide +kernel) (by decide +kernel)
theorem fl_RX6_263 : g_fl RX6 263 4 2 false := ⟨_, rfl, by decide, tw215, rfl, fun h => by cases h⟩
theorem tw223 : (Jvm.Cond.fieldLink "TurningCoins" (12 : Nat) "TurningCoins" "land" "LTurningCoins$Land;") ∈ tG := tG_t (i := 223) (by decide +kernel) (by decide +kernel)
theorem fl_RX6_12 : g_fl RX6 12 6 0 true := ⟨_, rfl, by decide, tw223, rfl, fun _ => rfl⟩
theorem tw224 : (Jvm.Cond.fieldLink "TurningCoins" (16 : Nat) "TurningCoins" "trial" "LTurningCoins$Land;") ∈ tG := tG_t (i := 224) (by decide +kernel) (by decide +kernel)
theorem fl_RX6_16 : g_fl RX6 16 6 1 true := ⟨_, rfl, by decide, tw224, rfl, fun _ => rfl⟩
theorem tw225 : (Jvm.Cond.fieldLink "TurningCoins" (19 : Nat) "TurningCoins" "kept" "LTurningCoins$Land;") ∈ tG := tG_t (i := 225) (by decide +kernel) (by decide +kernel)
theorem fl_RX6_19 : g_fl RX6 19 6 2 true := ⟨_, rfl, by decide, tw225, rfl, fun _ => rfl⟩
theorem tw226 : (Jvm.Cond.fieldLink "TurningCoins" (22 : Nat) "TurningCoins" "isKept" "Z") ∈ tG := tG_t (i := 226) (by decide +kernel) (by decide +kernel)
theorem fl_RX6_22 : g_fl RX6 22 6 3 false := ⟨_, rfl, by decide, tw226, rfl, fun _ => rfl⟩
theorem tw227 : (Jvm.Cond.fieldLink "TurningCoins" (26 : Nat) "TurningCoins" "tape" "[I") ∈ tG := tG_t (i := 227) (by decide +kernel) (by decide +kernel)
theorem fl_RX6_26 : g_fl RX6 26 6 4 true := ⟨_, rfl, by decide, tw227, rfl, fun _ => rfl⟩
theorem tw228 : (Jvm.Cond.fieldLink "TurningCoins" (30 : Nat) "TurningCoins" "tapeLength" "I") ∈ tG := tG_t (i := 228) (by decide +kernel) (by decide +kernel)
theorem fl_RX6_30 : g_fl RX6 30 6 5 false := ⟨_, rfl, by decide, tw228, rfl, fun _ => rfl⟩
theorem tw229 : (Jvm.Cond.fieldLink "TurningCoins" (37 : Nat) "TurningCoins" "reader" "LTurningCoins$Reader;") ∈ tG := tG_t (i := 229) (by decide +kernel) (by decide +kernel)
theorem fl_RX6_37 : g_fl RX6 37 6 6 true := ⟨_, rfl, by decide, tw229, rfl, fun _ => rfl⟩
theorem tw230 : (Jvm.Cond.fieldLink "TurningCoins" (43 : Nat) "TurningCoins" "sheets" "[LTurningCoins$Sheet;") ∈ tG := tG_t (i := 230) (by decide +kernel) (by decide +kernel)
theorem fl_RX6_43 : g_fl RX6 43 6 7 true := ⟨_, rfl, by decide, tw230, rfl, fun _ => rfl⟩
theorem tw231 : (Jvm.Cond.fieldLink "TurningCoins" (50 : Nat) "TurningCoins" "reach" "LTurningCoins$Reach;") ∈ tG := tG_t (i := 231) (by decide +kernel) (by decide +kernel)
theorem fl_RX6_50 : g_fl RX6 50 6 8 true := ⟨_, rfl, by decide, tw231, rfl, fun _ => rfl⟩
theorem tw232 : (Jvm.Cond.fieldLink "TurningCoins" (57 : Nat) "TurningCoins" "trades" "LTurningCoins$Trades;") ∈ tG := tG_t (i := 232) (by decide +kernel) (by decide +kernel)
theorem fl_RX6_57 : g_fl RX6 57 6 9 true := ⟨_, rfl, by decide, tw232, rfl, fun _ => rfl⟩
theorem tw233 : (Jvm.Cond.fieldLink "TurningCoins" (61 : Nat) "TurningCoins" "found" "[I") ∈ tG := tG_t (i := 233) (by decide +kernel) (by decide +kernel)
theorem fl_RX6_61 : g_fl RX6 61 6 10 true := ⟨_, rfl, by decide, tw233, rfl, fun _ => rfl⟩
theorem tw713 : (Jvm.Cond.fieldLink "java/lang/String" (38 : Nat) "java/lang/String" "COMPACT_STRINGS" "Z") ∈ tG := tG_t (i := 713) (by decide +kernel) (by decide +kernel)
theorem tw729 : (Jvm.Cond.fieldLink "java/lang/String" (1053 : Nat) "jdk/internal/util/Preconditions" "SIOOBE_FORMATTER" "Ljava/util/function/BiFunction;") ∈ tG := tG_t (i := 729) (by decide +kernel) (by decide +kernel)
theorem tw747 : (Jvm.Cond.fieldLink "java/lang/StringUTF16" (44 : Nat) "java/lang/StringUTF16" "$assertionsDisabled" "Z") ∈ tG := tG_t (i := 747) (by decide +kernel) (by decide +kernel)
theorem tw749 : (Jvm.Cond.fieldLink "java/lang/StringUTF16" (59 : Nat) "java/lang/StringUTF16" "HI_BYTE_SHIFT" "I") ∈ tG := tG_t (i := 749) (by decide +kernel) (by decide +kernel)
theorem tw751 : (Jvm.Cond.fieldLink "java/lang/StringUTF16" (63 : Nat) "java/lang/StringUTF16" "LO_BYTE_SHIFT" "I") ∈ tG := tG_t (i := 751) (by decide +kernel) (by decide +kernel)
theorem tw883 : (Jvm.Cond.fieldLink "TurningCoinsModel" (9 : Nat) "TurningCoinsModel" "now" "[I") ∈ tG := tG_t (i := 883) (by decide +kernel) (by decide +kernel)
theorem fl_RX7_9 : g_fl RX7 9 7 0 true := ⟨_, rfl, by decide, tw883, rfl, fun _ => rfl⟩
theorem tw884 : (Jvm.Cond.fieldLink "TurningCoinsModel" (13 : Nat) "TurningCoinsModel" "kept" "[I") ∈ tG := tG_t (i := 884) (by decide +kernel) (by decide +kernel)
theorem fl_RX7_13 : g_fl RX7 13 7 1 true := ⟨_, rfl, by decide, tw884, rfl, fun _ => rfl⟩
theorem tw885 : (Jvm.Cond.fieldLink "TurningCoinsModel" (16 : Nat) "TurningCoinsModel" "aside" "[I") ∈ tG := tG_t (i := 885) (by decide +kernel) (by decide +kernel)
theorem fl_RX7_16 : g_fl RX7 16 7 2 true := ⟨_, rfl, by decide, tw885, rfl, fun _ => rfl⟩
theorem tw886 : (Jvm.Cond.fieldLink "TurningCoinsModel" (315 : Nat) "TurningCoinsModel" "isKept" "Z") ∈ tG := tG_t (i := 886) (by decide +kernel) (by decide +kernel)
theorem fl_RX7_315 : g_fl RX7 315 7 3 false := ⟨_, rfl, by decide, tw886, rfl, fun _ => rfl⟩
theorem tw887 : (Jvm.Cond.fieldLink "TurningCoinsModel" (19 : Nat) "TurningCoinsModel" "found" "[I") ∈ tG := tG_t (i := 887) (by decide +kernel) (by decide +kernel)
theorem fl_RX7_19 : g_fl RX7 19 7 4 true := ⟨_, rfl, by decide, tw887, rfl, fun _ => rfl⟩
theorem tw888 : (Jvm.Cond.fieldLink "TurningCoinsModel" (22 : Nat) "TurningCoinsModel" "isThere" "[Z") ∈ tG := tG_t (i := 888) (by decide +kernel) (by decide +kernel)
theorem fl_RX7_22 : g_fl RX7 22 7 5 true := ⟨_, rfl, by decide, tw888, rfl, fun _ => rfl⟩
theorem tw889 : (Jvm.Cond.fieldLink "TurningCoinsModel" (179 : Nat) "TurningCoinsModel" "bestGiven" "I") ∈ tG := tG_t (i := 889) (by decide +kernel) (by decide +kernel)
theorem fl_RX7_179 : g_fl RX7 179 7 6 false := ⟨_, rfl, by decide, tw889, rfl, fun _ => rfl⟩
theorem tw890 : (Jvm.Cond.fieldLink "TurningCoinsModel" (189 : Nat) "TurningCoinsModel" "bestBack" "I") ∈ tG := tG_t (i := 890) (by decide +kernel) (by decide +kernel)
theorem fl_RX7_189 : g_fl RX7 189 7 7 false := ⟨_, rfl, by decide, tw890, rfl, fun _ => rfl⟩
theorem tw891 : (Jvm.Cond.fieldLink "TurningCoinsModel" (183 : Nat) "TurningCoinsModel" "bestCost" "I") ∈ tG := tG_t (i := 891) (by decide +kernel) (by decide +kernel)
theorem fl_RX7_183 : g_fl RX7 183 7 8 false := ⟨_, rfl, by decide, tw891, rfl, fun _ => rfl⟩
theorem tw892 : (Jvm.Cond.fieldLink "TurningCoinsModel" (26 : Nat) "TurningCoinsModel" "tape" "[I") ∈ tG := tG_t (i := 892) (by decide +kernel) (by decide +kernel)
theorem fl_RX7_26 : g_fl RX7 26 7 9 true := ⟨_, rfl, by decide, tw892, rfl, fun _ => rfl⟩
theorem tw893 : (Jvm.Cond.fieldLink "TurningCoinsModel" (227 : Nat) "TurningCoinsModel" "taped" "I") ∈ tG := tG_t (i := 893) (by decide +kernel) (by decide +kernel)
theorem fl_RX7_227 : g_fl RX7 227 7 10 false := ⟨_, rfl, by decide, tw893, rfl, fun _ => rfl⟩
theorem tw894 : (Jvm.Cond.fieldLink "TurningCoinsModel" (233 : Nat) "TurningCoinsModel" "begins" "I") ∈ tG := tG_t (i := 894) (by decide +kernel) (by decide +kernel)
theorem fl_RX7_233 : g_fl RX7 233 7 11 false := ⟨_, rfl, by decide, tw894, rfl, fun _ => rfl⟩
theorem tw895 : (Jvm.Cond.fieldLink "TurningCoinsModel" (230 : Nat) "TurningCoinsModel" "ends" "I") ∈ tG := tG_t (i := 895) (by decide +kernel) (by decide +kernel)
theorem fl_RX7_230 : g_fl RX7 230 7 12 false := ⟨_, rfl, by decide, tw895, rfl, fun _ => rfl⟩
theorem tw896 : (Jvm.Cond.fieldLink "TurningCoinsModel" (242 : Nat) "TurningCoinsModel" "sort" "I") ∈ tG := tG_t (i := 896) (by decide +kernel) (by decide +kernel)
theorem fl_RX7_242 : g_fl RX7 242 7 13 false := ⟨_, rfl, by decide, tw896, rfl, fun _ => rfl⟩
theorem tw897 : (Jvm.Cond.fieldLink "TurningCoinsModel" (239 : Nat) "TurningCoinsModel" "value" "I") ∈ tG := tG_t (i := 897) (by decide +kernel) (by decide +kernel)
theorem fl_RX7_239 : g_fl RX7 239 7 14 false := ⟨_, rfl, by decide, tw897, rfl, fun _ => rfl⟩
theorem tw898 : (Jvm.Cond.fieldLink "TurningCoinsModel" (252 : Nat) "TurningCoinsModel" "isWrong" "Z") ∈ tG := tG_t (i := 898) (by decide +kernel) (by decide +kernel)
theorem fl_RX7_252 : g_fl RX7 252 7 15 false := ⟨_, rfl, by decide, tw898, rfl, fun _ => rfl⟩
theorem tw899 : (Jvm.Cond.fieldLink "TurningCoinsModel" (45 : Nat) "TurningCoinsModel" "kinds" "[Ljava/lang/String;") ∈ tG := tG_t (i := 899) (by decide +kernel) (by decide +kernel)
theorem fl_RX7_45 : g_fl RX7 45 7 16 true := ⟨_, rfl, by decide, tw899, rfl, fun _ => rfl⟩
theorem tw900 : (Jvm.Cond.fieldLink "TurningCoinsModel" (49 : Nat) "TurningCoinsModel" "items" "[I") ∈ tG := tG_t (i := 900) (by decide +kernel) (by decide +kernel)
theorem fl_RX7_49 : g_fl RX7 49 7 17 true := ⟨_, rfl, by decide, tw900, rfl, fun _ => rfl⟩
theorem tw901 : (Jvm.Cond.fieldLink "TurningCoinsModel" (263 : Nat) "TurningCoinsModel" "itemMany" "I") ∈ tG := tG_t (i := 901) (by decide +kernel) (by decide +kernel)
theorem fl_RX7_263 : g_fl RX7 263 7 18 false := ⟨_, rfl, by decide, tw901, rfl, fun _ => rfl⟩
theorem tw902 : (Jvm.Cond.fieldLink "TurningCoinsModel" (278 : Nat) "TurningCoinsModel" "coinThen" "I") ∈ tG := tG_t (i := 902) (by decide +kernel) (by decide +kernel)
theorem fl_RX7_278 : g_fl RX7 278 7 19 false := ⟨_, rfl, by decide, tw902, rfl, fun _ => rfl⟩
theorem tw903 : (Jvm.Cond.fieldLink "TurningCoinsModel" (52 : Nat) "TurningCoinsModel" "purseThen" "[I") ∈ tG := tG_t (i := 903) (by decide +kernel) (by decide +kernel)
theorem fl_RX7_52 : g_fl RX7 52 7 20 true := ⟨_, rfl, by decide, tw903, rfl, fun _ => rfl⟩
theorem tw904 : (Jvm.Cond.fieldLink "TurningCoinsModel" (55 : Nat) "TurningCoinsModel" "widths" "[I") ∈ tG := tG_t (i := 904) (by decide +kernel) (by decide +kernel)
theorem fl_RX7_55 : g_fl RX7 55 7 21 true := ⟨_, rfl, by decide, tw904, rfl, fun _ => rfl⟩
theorem tw905 : (Jvm.Cond.fieldLink "TurningCoinsModel" (58 : Nat) "TurningCoinsModel" "sizes" "[I") ∈ tG := tG_t (i := 905) (by decide +kernel) (by decide +kernel)
theorem fl_RX7_58 : g_fl RX7 58 7 22 true := ⟨_, rfl, by decide, tw905, rfl, fun _ => rfl⟩
theorem tw906 : (Jvm.Cond.fieldLink "TurningCoinsModel" (61 : Nat) "TurningCoinsModel" "numbers" "[I") ∈ tG := tG_t (i := 906) (by decide +kernel) (by decide +kernel)
theorem fl_RX7_61 : g_fl RX7 61 7 23 true := ⟨_, rfl, by decide, tw906, rfl, fun _ => rfl⟩
theorem tw907 : (Jvm.Cond.fieldLink "TurningCoinsModel" (64 : Nat) "TurningCoinsModel" "moved" "[I") ∈ tG := tG_t (i := 907) (by decide +kernel) (by decide +kernel)
theorem fl_RX7_64 : g_fl RX7 64 7 24 true := ⟨_, rfl, by decide, tw907, rfl, fun _ => rfl⟩
theorem tw1386 : (Jvm.Cond.fieldLink "java/lang/String" (9 : Nat) "java/lang/String" "value" "[B") ∈ tG := tG_t (i := 1386) (by decide +kernel) (by decide +kernel)
theorem tw1387 : (Jvm.Cond.fieldLink "java/lang/String" (15 : Nat) "java/lang/String" "coder" "B") ∈ tG := tG_t (i := 1387) (by decide +kernel) (by decide +kernel)
theorem tw1 : (Jvm.Cond.initialized "TurningCoins") ∈ tG := tG_t (i := 1) (by decide +kernel) (by decide +kernel)
theorem tw22 : (Jvm.Cond.code ({ cls := "TurningCoins", name := "<init>", desc := "()V" } : Jvm.MethodName) prog_1_method_1_code (2 : Nat) (Option.none : Option Jvm.ClassFile.FieldType)) ∈ tG := tG_t (i := 22) (by decide +kernel) (by decide +kernel)
theorem tw20 : (Jvm.Cond.methodLink "TurningCoinsLaw" (9 : Nat) ({ cls := "TurningCoins", name := "<init>", desc := "()V" } : Jvm.MethodName)) ∈ tG := tG_t (i := 20) (by decide +kernel) (by decide +kernel)
theorem tw21 : (Jvm.Cond.instanceMethod ({ cls := "TurningCoins", name := "<init>", desc := "()V" } : Jvm.MethodName)) ∈ tG := tG_t (i := 21) (by decide +kernel) (by decide +kernel)
theorem k_RL_9 (rm : Room) : g_kI RL 9 yX6_init (eX6_init rm) 0 := ⟨tw20, tw21, rfl, rfl, ⟨tw1, tw22, by decide +kernel, by decide +kernel, by decide +kernel⟩⟩
theorem tw23 : (Jvm.Cond.methodLink "TurningCoins" (3 : Nat) ({ cls := "java/lang/Object", name := "<init>", desc := "()V" } : Jvm.MethodName)) ∈ tG := tG_t (i := 23) (by decide +kernel) (by decide +kernel)
theorem tw24 : (Jvm.Cond.instanceMethod ({ cls := "java/lang/Object", name := "<init>", desc := "()V" } : Jvm.MethodName)) ∈ tG := tG_t (i := 24) (by decide +kernel) (by decide +kernel)
theorem tw25 : (Jvm.Cond.code ({ cls := "java/lang/Object", name := "<init>", desc := "()V" } : Jvm.MethodName) object_method_1_code (1 : Nat) (Option.none : Option Jvm.ClassFile.FieldType)) ∈ tG := tG_t (i := 25) (by decide +kernel) (by decide +kernel)
theorem ko_RX6_3 : Cond.methodLink RX6 3 objectInit ∈ tG ∧ Cond.instanceMethod objectInit ∈ tG ∧ Cond.code objectInit ⟨#[0xb1]⟩ 1 none ∈ tG := ⟨tw23, tw24, tw25⟩
theorem tw2 : (Jvm.Cond.initialized "TurningCoins$Land") ∈ tG := tG_t (i := 2) (by decide +kernel) (by decide +kernel)
theorem tw30 : (Jvm.Cond.code ({ cls := "TurningCoins$Land", name := "<init>", desc := "()V" } : Jvm.MethodName) prog_3_method_1_code (2 : Nat) (Option.none : Option Jvm.ClassFile.FieldType)) ∈ tG := tG_t (i := 30) (by decide +kernel) (by decide +kernel)
theorem tw28 : (Jvm.Cond.methodLink "TurningCoins" (11 : Nat) ({ cls := "TurningCoins$Land", name := "<init>", desc := "()V" } : Jvm.MethodName)) ∈ tG := tG_t (i := 28) (by decide +kernel) (by decide +kernel)
theorem tw29 : (Jvm.Cond.instanceMethod ({ cls := "TurningCoins$Land", name := "<init>", desc := "()V" } : Jvm.MethodName)) ∈ tG := tG_t (i := 29) (by decide +kernel) (by decide +kernel)
theorem k_RX6_11 (rm : Room) : g_kI RX6 11 yX1_init (eX1_init rm) 0 := ⟨tw28, tw29, rfl, rfl, ⟨tw2, tw30, by decide +kernel, by decide +kernel, by decide +kernel⟩⟩
theorem tw31 : (Jvm.Cond.methodLink "TurningCoins$Land" (3 : Nat) ({ cls := "java/lang/Object", name := "<init>", desc := "()V" } : Jvm.MethodName)) ∈ tG := tG_t (i := 31) (by decide +kernel) (by decide +kernel)
theorem ko_RX1_3 : Cond.methodLink RX1 3 objectInit ∈ tG ∧ Cond.instanceMethod objectInit ∈ tG ∧ Cond.code objectInit ⟨#[0xb1]⟩ 1 none ∈ tG := ⟨tw31, tw24, tw25⟩
theorem tw3 : (Jvm.Cond.initialized "TurningCoins$Coin") ∈ tG := tG_t (i := 3) (by decide +kernel) (by decide +kernel)
theorem tw37 : (Jvm.Cond.code ({ cls := "TurningCoins$Coin", name := "<init>", desc := "()V" } : Jvm.MethodName) prog_2_method_1_code (1 : Nat) (Option.none : Option Jvm.ClassFile.FieldType)) ∈ tG := tG_t (i := 37) (by decide +kernel) (by decide +kernel)
theorem tw36 : (Jvm.Cond.instanceMethod ({ cls := "TurningCoins$Coin", name := "<init>", desc := "()V" } : Jvm.MethodName)) ∈ tG := tG_t (i := 36) (by decide +kernel) (by decide +kernel)
theorem k_RX1_31 (rm : Room) : g_kIN RX1 31 yX0_init (eX0_init rm) 0 := ⟨List.mem_of_getElem? (i := 0) rfl, tw36, rfl, rfl, ⟨tw3, tw37, by decide +kernel, by decide +kernel, by decide +kernel⟩⟩
theorem tw38 : (Jvm.Cond.methodLink "TurningCoins$Coin" (3 : Nat) ({ cls := "java/lang/Object", name := "<init>", desc := "()V" } : Jvm.MethodName)) ∈ tG := tG_t (i := 38) (by decide +kernel) (by decide +kernel)
theorem ko_RX0_3 : Cond.methodLink RX0 3 objectInit ∈ tG ∧ Cond.instanceMethod objectInit ∈ tG ∧ Cond.code objectInit ⟨#[0xb1]⟩ 1 none ∈ tG := ⟨tw38, tw24, tw25⟩
theorem tw4 : (Jvm.Cond.initialized "java/util/Arrays") ∈ tG := tG_t (i := 4) (by decide +kernel) (by decide +kernel)
theorem tw76 : (Jvm.Cond.code ({ cls := "java/util/Arrays", name := "fill", desc := "([II)V" } : Jvm.MethodName) prog_17_method_103_code (4 : Nat) (Option.none : Option Jvm.ClassFile.FieldType)) ∈ tG := tG_t (i := 76) (by decide +kernel) (by decide +kernel)
theorem tw74 : (Jvm.Cond.methodLink "TurningCoins$Land" (32 : Nat) ({ cls := "java/util/Arrays", name := "fill", desc := "([II)V" } : Jvm.MethodName)) ∈ tG := tG_t (i := 74) (by decide +kernel) (by decide +kernel)
theorem tw75 : (Jvm.Cond.static ({ cls := "java/util/Arrays", name := "fill", desc := "([II)V" } : Jvm.MethodName)) ∈ tG := tG_t (i := 75) (by decide +kernel) (by decide +kernel)
theorem k_RX1_32 (rm : Room) : g_kS RX1 32 yJ7_fill_53178 (eJ7_fill_53178 rm) 2 := ⟨tw74, tw75, ⟨tw4, tw76, by decide +kernel, by decide +kernel, by decide +kernel⟩⟩
theorem tw5 : (Jvm.Cond.initialized "TurningCoins$Reader") ∈ tG := tG_t (i := 5) (by decide +kernel) (by decide +kernel)
theorem tw108 : (Jvm.Cond.code ({ cls := "TurningCoins$Reader", name := "<init>", desc := "()V" } : Jvm.MethodName) prog_5_method_1_code (1 : Nat) (Option.none : Option Jvm.ClassFile.FieldType)) ∈ tG := tG_t (i := 108) (by decide +kernel) (by decide +kernel)
theorem tw107 : (Jvm.Cond.instanceMethod ({ cls := "TurningCoins$Reader", name := "<init>", desc := "()V" } : Jvm.MethodName)) ∈ tG := tG_t (i := 107) (by decide +kernel) (by decide +kernel)
theorem k_RX6_36 (rm : Room) : g_kIN RX6 36 yX3_init (eX3_init rm) 0 := ⟨List.mem_of_getElem? (i := 1) rfl, tw107, rfl, rfl, ⟨tw5, tw108, by decide +kernel, by decide +kernel, by decide +kernel⟩⟩
theorem tw109 : (Jvm.Cond.methodLink "TurningCoins$Reader" (3 : Nat) ({ cls := "java/lang/Object", name := "<init>", desc := "()V" } : Jvm.MethodName)) ∈ tG := tG_t (i := 109) (by decide +kernel) (by decide +kernel)
theorem ko_RX3_3 : Cond.methodLink RX3 3 objectInit ∈ tG ∧ Cond.instanceMethod objectInit ∈ tG ∧ Cond.code objectInit ⟨#[0xb1]⟩ 1 none ∈ tG := ⟨tw109, tw24, tw25⟩
theorem tw6 : (Jvm.Cond.initialized "TurningCoins$Reach") ∈ tG := tG_t (i := 6) (by decide +kernel) (by decide +kernel)
theorem tw135 : (Jvm.Cond.code ({ cls := "TurningCoins$Reach", name := "<init>", desc := "()V" } : Jvm.MethodName) prog_4_method_1_code (1 : Nat) (Option.none : Option Jvm.ClassFile.FieldType)) ∈ tG := tG_t (i := 135) (by decide +kernel) (by decide +kernel)
theorem tw134 : (Jvm.Cond.instanceMethod ({ cls := "TurningCoins$Reach", name := "<init>", desc := "()V" } : Jvm.MethodName)) ∈ tG := tG_t (i := 134) (by decide +kernel) (by decide +kernel)
theorem k_RX6_49 (rm : Room) : g_kIN RX6 49 yX2_init (eX2_init rm) 0 := ⟨List.mem_of_getElem? (i := 2) rfl, tw134, rfl, rfl, ⟨tw6, tw135, by decide +kernel, by decide +kernel, by decide +kernel⟩⟩
theorem tw136 : (Jvm.Cond.methodLink "TurningCoins$Reach" (5 : Nat) ({ cls := "java/lang/Object", name := "<init>", desc := "()V" } : Jvm.MethodName)) ∈ tG := tG_t (i := 136) (by decide +kernel) (by decide +kernel)
theorem ko_RX2_5 : Cond.methodLink RX2 5 objectInit ∈ tG ∧ Cond.instanceMethod objectInit ∈ tG ∧ Cond.code objectInit ⟨#[0xb1]⟩ 1 none ∈ tG := ⟨tw136, tw24, tw25⟩
theorem tw7 : (Jvm.Cond.initialized "TurningCoins$Trades") ∈ tG := tG_t (i := 7) (by decide +kernel) (by decide +kernel)
theorem tw172 : (Jvm.Cond.code ({ cls := "TurningCoins$Trades", name := "<init>", desc := "()V" } : Jvm.MethodName) prog_7_method_1_code (1 : Nat) (Option.none : Option Jvm.ClassFile.FieldType)) ∈ tG := tG_t (i := 172) (by decide +kernel) (by decide +kernel)
theorem tw171 : (Jvm.Cond.instanceMethod ({ cls := "TurningCoins$Trades", name := "<init>", desc := "()V" } : Jvm.MethodName)) ∈ tG := tG_t (i := 171) (by decide +kernel) (by decide +kernel)
theorem k_RX6_56 (rm : Room) : g_kIN RX6 56 yX5_init (eX5_init rm) 0 := ⟨List.mem_of_getElem? (i := 3) rfl, tw171, rfl, rfl, ⟨tw7, tw172, by decide +kernel, by decide +kernel, by decide +kernel⟩⟩
theorem tw173 : (Jvm.Cond.methodLink "TurningCoins$Trades" (3 : Nat) ({ cls := "java/lang/Object", name := "<init>", desc := "()V" } : Jvm.MethodName)) ∈ tG := tG_t (i := 173) (by decide +kernel) (by decide +kernel)
theorem ko_RX5_3 : Cond.methodLink RX5 3 objectInit ∈ tG ∧ Cond.instanceMethod objectInit ∈ tG ∧ Cond.code objectInit ⟨#[0xb1]⟩ 1 none ∈ tG := ⟨tw173, tw24, tw25⟩
theorem tw8 : (Jvm.Cond.initialized "TurningCoins$Sheet") ∈ tG := tG_t (i := 8) (by decide +kernel) (by decide +kernel)
theorem tw208 : (Jvm.Cond.code ({ cls := "TurningCoins$Sheet", name := "<init>", desc := "()V" } : Jvm.MethodName) prog_6_method_1_code (1 : Nat) (Option.none : Option Jvm.ClassFile.FieldType)) ∈ tG := tG_t (i := 208) (by decide +kernel) (by decide +kernel)
theorem tw207 : (Jvm.Cond.instanceMethod ({ cls := "TurningCoins$Sheet", name := "<init>", desc := "()V" } : Jvm.MethodName)) ∈ tG := tG_t (i := 207) (by decide +kernel) (by decide +kernel)
theorem k_RX6_64 (rm : Room) : g_kIN RX6 64 yX4_init (eX4_init rm) 0 := ⟨List.mem_of_getElem? (i := 4) rfl, tw207, rfl, rfl, ⟨tw8, tw208, by decide +kernel, by decide +kernel, by decide +kernel⟩⟩
theorem tw209 : (Jvm.Cond.methodLink "TurningCoins$Sheet" (3 : Nat) ({ cls := "java/lang/Object", name := "<init>", desc := "()V" } : Jvm.MethodName)) ∈ tG := tG_t (i := 209) (by decide +kernel) (by decide +kernel)
theorem ko_RX4_3 : Cond.methodLink RX4 3 objectInit ∈ tG ∧ Cond.instanceMethod objectInit ∈ tG ∧ Cond.code objectInit ⟨#[0xb1]⟩ 1 none ∈ tG := ⟨tw209, tw24, tw25⟩
theorem tw260 : (Jvm.Cond.code ({ cls := "TurningCoins", name := "coin", desc := "(III)I" } : Jvm.MethodName) prog_1_method_2_code (4 : Nat) (Option.some Jvm.ClassFile.FieldType.int)) ∈ tG := tG_t (i := 260) (by decide +kernel) (by decide +kernel)
theorem tw257 : (Jvm.Cond.methodLink "TurningCoinsLaw" (13 : Nat) ({ cls := "TurningCoins", name := "coin", desc := "(III)I" } : Jvm.MethodName)) ∈ tG := tG_t (i := 257) (by decide +kernel) (by decide +kernel)
theorem tw258 : (Jvm.Cond.instanceMethod ({ cls := "TurningCoins", name := "coin", desc := "(III)I" } : Jvm.MethodName)) ∈ tG := tG_t (i := 258) (by decide +kernel) (by decide +kernel)
theorem tw259 : (Jvm.Cond.selects "TurningCoins" ({ cls := "TurningCoins", name := "coin", desc := "(III)I" } : Jvm.MethodName) ({ cls := "TurningCoins", name := "coin", desc := "(III)I" } : Jvm.MethodName)) ∈ tG := tG_t (i := 259) (by decide +kernel) (by decide +kernel)
theorem k_RL_13 (rm : Room) : g_kV RL 13 yX6_coin (eX6_coin rm) 3 := ⟨tw257, tw258, tw259, ⟨tw1, tw260, by decide +kernel, by decide +kernel, by decide +kernel⟩⟩
theorem tw263 : (Jvm.Cond.code ({ cls := "TurningCoins", name := "isWithin", desc := "(II)Z" } : Jvm.MethodName) prog_1_method_56_code (2 : Nat) (Option.some Jvm.ClassFile.FieldType.boolean)) ∈ tG := tG_t (i := 263) (by decide +kernel) (by decide +kernel)
theorem tw261 : (Jvm.Cond.methodLink "TurningCoins" (65 : Nat) ({ cls := "TurningCoins", name := "isWithin", desc := "(II)Z" } : Jvm.MethodName)) ∈ tG := tG_t (i := 261) (by decide +kernel) (by decide +kernel)
theorem tw262 : (Jvm.Cond.static ({ cls := "TurningCoins", name := "isWithin", desc := "(II)Z" } : Jvm.MethodName)) ∈ tG := tG_t (i := 262) (by decide +kernel) (by decide +kernel)
theorem k_RX6_65 (rm : Room) : g_kS RX6 65 yX6_isWithin (eX6_isWithin rm) 2 := ⟨tw261, tw262, ⟨tw1, tw263, by decide +kernel, by decide +kernel, by decide +kernel⟩⟩
theorem tw268 : (Jvm.Cond.code ({ cls := "TurningCoins", name := "tell", desc := "(I)I" } : Jvm.MethodName) prog_1_method_52_code (3 : Nat) (Option.some Jvm.ClassFile.FieldType.int)) ∈ tG := tG_t (i := 268) (by decide +kernel) (by decide +kernel)
theorem tw265 : (Jvm.Cond.methodLink "TurningCoins" (70 : Nat) ({ cls := "TurningCoins", name := "tell", desc := "(I)I" } : Jvm.MethodName)) ∈ tG := tG_t (i := 265) (by decide +kernel) (by decide +kernel)
theorem tw267 : (Jvm.Cond.instanceMethod ({ cls := "TurningCoins", name := "tell", desc := "(I)I" } : Jvm.MethodName)) ∈ tG := tG_t (i := 267) (by decide +kernel) (by decide +kernel)
theorem sel_X6_tell : Cond.selects RX6 yX6_tell yX6_tell ∈ tG := tG_s (q := (yX6_tell, 11)) (i := 0) (by decide +kernel) (by decide +kernel)
theorem k_RX6_70 (rm : Room) : g_kV RX6 70 yX6_tell (eX6_tell rm) 1 := ⟨tw265, tw267, sel_X6_tell, ⟨tw1, tw268, by decide +kernel, by decide +kernel, by decide +kernel⟩⟩
theorem tw273 : (Jvm.Cond.code ({ cls := "TurningCoins$Land", name := "addCoin", desc := "(III)I" } : Jvm.MethodName) prog_3_method_5_code (5 : Nat) (Option.some Jvm.ClassFile.FieldType.int)) ∈ tG := tG_t (i := 273) (by decide +kernel) (by decide +kernel)
theorem tw270 : (Jvm.Cond.methodLink "TurningCoins" (78 : Nat) ({ cls := "TurningCoins$Land", name := "addCoin", desc := "(III)I" } : Jvm.MethodName)) ∈ tG := tG_t (i := 270) (by decide +kernel) (by decide +kernel)
theorem tw271 : (Jvm.Cond.instanceMethod ({ cls := "TurningCoins$Land", name := "addCoin", desc := "(III)I" } : Jvm.MethodName)) ∈ tG := tG_t (i := 271) (by decide +kernel) (by decide +kernel)
theorem tw272 : (Jvm.Cond.selects "TurningCoins$Land" ({ cls := "TurningCoins$Land", name := "addCoin", desc := "(III)I" } : Jvm.MethodName) ({ cls := "TurningCoins$Land", name := "addCoin", desc := "(III)I" } : Jvm.MethodName)) ∈ tG := tG_t (i := 272) (by decide +kernel) (by decide +kernel)
theorem k_RX6_78 (rm : Room) : g_kV RX6 78 yX1_addCoin (eX1_addCoin rm) 3 := ⟨tw270, tw271, tw272, ⟨tw2, tw273, by decide +kernel, by decide +kernel, by decide +kernel⟩⟩
theorem tw277 : (Jvm.Cond.code ({ cls := "TurningCoins", name := "of", desc := "(II)I" } : Jvm.MethodName) prog_1_method_3_code (4 : Nat) (Option.some Jvm.ClassFile.FieldType.int)) ∈ tG := tG_t (i := 277) (by decide +kernel) (by decide +kernel)
theorem tw274 : (Jvm.Cond.methodLink "TurningCoinsLaw" (18 : Nat) ({ cls := "TurningCoins", name := "of", desc := "(II)I" } : Jvm.MethodName)) ∈ tG := tG_t (i := 274) (by decide +kernel) (by decide +kernel)
theorem tw275 : (Jvm.Cond.instanceMethod ({ cls := "TurningCoins", name := "of", desc := "(II)I" } : Jvm.MethodName)) ∈ tG := tG_t (i := 275) (by decide +kernel) (by decide +kernel)
theorem tw276 : (Jvm.Cond.selects "TurningCoins" ({ cls := "TurningCoins", name := "of", desc := "(II)I" } : Jvm.MethodName) ({ cls := "TurningCoins", name := "of", desc := "(II)I" } : Jvm.MethodName)) ∈ tG := tG_t (i := 276) (by decide +kernel) (by decide +kernel)
theorem k_RL_18 (rm : Room) : g_kV RL 18 yX6_of (eX6_of rm) 2 := ⟨tw274, tw275, tw276, ⟨tw1, tw277, by decide +kernel, by decide +kernel, by decide +kernel⟩⟩
theorem tw281 : (Jvm.Cond.code ({ cls := "TurningCoins$Land", name := "hasCoin", desc := "(I)Z" } : Jvm.MethodName) prog_3_method_3_code (2 : Nat) (Option.some Jvm.ClassFile.FieldType.boolean)) ∈ tG := tG_t (i := 281) (by decide +kernel) (by decide +kernel)
theorem tw278 : (Jvm.Cond.methodLink "TurningCoins" (82 : Nat) ({ cls := "TurningCoins$Land", name := "hasCoin", desc := "(I)Z" } : Jvm.MethodName)) ∈ tG := tG_t (i := 278) (by decide +kernel) (by decide +kernel)
theorem tw279 : (Jvm.Cond.instanceMethod ({ cls := "TurningCoins$Land", name := "hasCoin", desc := "(I)Z" } : Jvm.MethodName)) ∈ tG := tG_t (i := 279) (by decide +kernel) (by decide +kernel)
theorem tw280 : (Jvm.Cond.selects "TurningCoins$Land" ({ cls := "TurningCoins$Land", name := "hasCoin", desc := "(I)Z" } : Jvm.MethodName) ({ cls := "TurningCoins$Land", name := "hasCoin", desc := "(I)Z" } : Jvm.MethodName)) ∈ tG := tG_t (i := 280) (by decide +kernel) (by decide +kernel)
theorem k_RX6_82 (rm : Room) : g_kV RX6 82 yX1_hasCoin (eX1_hasCoin rm) 1 := ⟨tw278, tw279, tw280, ⟨tw2, tw281, by decide +kernel, by decide +kernel, by decide +kernel⟩⟩
theorem tw285 : (Jvm.Cond.code ({ cls := "TurningCoins$Coin", name := "worthNow", desc := "()I" } : Jvm.MethodName) prog_2_method_4_code (1 : Nat) (Option.some Jvm.ClassFile.FieldType.int)) ∈ tG := tG_t (i := 285) (by decide +kernel) (by decide +kernel)
theorem tw282 : (Jvm.Cond.methodLink "TurningCoins" (110 : Nat) ({ cls := "TurningCoins$Coin", name := "worthNow", desc := "()I" } : Jvm.MethodName)) ∈ tG := tG_t (i := 282) (by decide +kernel) (by decide +kernel)
theorem tw283 : (Jvm.Cond.instanceMethod ({ cls := "TurningCoins$Coin", name := "worthNow", desc := "()I" } : Jvm.MethodName)) ∈ tG := tG_t (i := 283) (by decide +kernel) (by decide +kernel)
theorem tw284 : (Jvm.Cond.selects "TurningCoins$Coin" ({ cls := "TurningCoins$Coin", name := "worthNow", desc := "()I" } : Jvm.MethodName) ({ cls := "TurningCoins$Coin", name := "worthNow", desc := "()I" } : Jvm.MethodName)) ∈ tG := tG_t (i := 284) (by decide +kernel) (by decide +kernel)
theorem k_RX6_110 (rm : Room) : g_kV RX6 110 yX0_worthNow (eX0_worthNow rm) 0 := ⟨tw282, tw283, tw284, ⟨tw3, tw285, by decide +kernel, by decide +kernel, by decide +kernel⟩⟩
theorem tw289 : (Jvm.Cond.code ({ cls := "TurningCoins$Coin", name := "worthIf", desc := "(IIII)I" } : Jvm.MethodName) prog_2_method_8_code (7 : Nat) (Option.some Jvm.ClassFile.FieldType.int)) ∈ tG := tG_t (i := 289) (by decide +kernel) (by decide +kernel)
theorem tw286 : (Jvm.Cond.methodLink "TurningCoins$Coin" (30 : Nat) ({ cls := "TurningCoins$Coin", name := "worthIf", desc := "(IIII)I" } : Jvm.MethodName)) ∈ tG := tG_t (i := 286) (by decide +kernel) (by decide +kernel)
theorem tw288 : (Jvm.Cond.instanceMethod ({ cls := "TurningCoins$Coin", name := "worthIf", desc := "(IIII)I" } : Jvm.MethodName)) ∈ tG := tG_t (i := 288) (by decide +kernel) (by decide +kernel)
theorem sel_X0_worthIf : Cond.selects RX0 yX0_worthIf yX0_worthIf ∈ tG := tG_s (q := (yX0_worthIf, 6)) (i := 1) (by decide +kernel) (by decide +kernel)
theorem k_RX0_30 (rm : Room) : g_kV RX0 30 yX0_worthIf (eX0_worthIf rm) 4 := ⟨tw286, tw288, sel_X0_worthIf, ⟨tw3, tw289, by decide +kernel, by decide +kernel, by decide +kernel⟩⟩
theorem tw10 : (Jvm.Cond.initialized "java/lang/Math") ∈ tG := tG_t (i := 10) (by decide +kernel) (by decide +kernel)
theorem tw292 : (Jvm.Cond.code ({ cls := "java/lang/Math", name := "max", desc := "(II)I" } : Jvm.MethodName) prog_12_method_65_code (2 : Nat) (Option.some Jvm.ClassFile.FieldType.int)) ∈ tG := tG_t (i := 292) (by decide +kernel) (by decide +kernel)
theorem tw290 : (Jvm.Cond.methodLink "TurningCoins$Coin" (41 : Nat) ({ cls := "java/lang/Math", name := "max", desc := "(II)I" } : Jvm.MethodName)) ∈ tG := tG_t (i := 290) (by decide +kernel) (by decide +kernel)
theorem tw291 : (Jvm.Cond.static ({ cls := "java/lang/Math", name := "max", desc := "(II)I" } : Jvm.MethodName)) ∈ tG := tG_t (i := 291) (by decide +kernel) (by decide +kernel)
theorem k_RX0_41 (rm : Room) : g_kS RX0 41 yJ9_max_7cf53 (eJ9_max_7cf53 rm) 2 := ⟨tw290, tw291, ⟨tw10, tw292, by decide +kernel, by decide +kernel, by decide +kernel⟩⟩
theorem tw296 : (Jvm.Cond.code ({ cls := "TurningCoins", name := "change", desc := "(III)I" } : Jvm.MethodName) prog_1_method_4_code (4 : Nat) (Option.some Jvm.ClassFile.FieldType.int)) ∈ tG := tG_t (i := 296) (by decide +kernel) (by decide +kernel)
theorem tw293 : (Jvm.Cond.methodLink "TurningCoinsLaw" (23 : Nat) ({ cls := "TurningCoins", name := "change", desc := "(III)I" } : Jvm.MethodName)) ∈ tG := tG_t (i := 293) (by decide +kernel) (by decide +kernel)
theorem tw294 : (Jvm.Cond.instanceMethod ({ cls := "TurningCoins", name := "change", desc := "(III)I" } : Jvm.MethodName)) ∈ tG := tG_t (i := 294) (by decide +kernel) (by decide +kernel)
theorem tw295 : (Jvm.Cond.selects "TurningCoins" ({ cls := "TurningCoins", name := "change", desc := "(III)I" } : Jvm.MethodName) ({ cls := "TurningCoins", name := "change", desc := "(III)I" } : Jvm.MethodName)) ∈ tG := tG_t (i := 295) (by decide +kernel) (by decide +kernel)
theorem k_RL_23 (rm : Room) : g_kV RL 23 yX6_change (eX6_change rm) 3 := ⟨tw293, tw294, tw295, ⟨tw1, tw296, by decide +kernel, by decide +kernel, by decide +kernel⟩⟩
theorem tw299 : (Jvm.Cond.code ({ cls := "TurningCoins", name := "mostOf", desc := "(I)I" } : Jvm.MethodName) prog_1_method_60_code (1 : Nat) (Option.some Jvm.ClassFile.FieldType.int)) ∈ tG := tG_t (i := 299) (by decide +kernel) (by decide +kernel)
theorem tw297 : (Jvm.Cond.methodLink "TurningCoins" (114 : Nat) ({ cls := "TurningCoins", name := "mostOf", desc := "(I)I" } : Jvm.MethodName)) ∈ tG := tG_t (i := 297) (by decide +kernel) (by decide +kernel)
theorem tw298 : (Jvm.Cond.static ({ cls := "TurningCoins", name := "mostOf", desc := "(I)I" } : Jvm.MethodName)) ∈ tG := tG_t (i := 298) (by decide +kernel) (by decide +kernel)
theorem k_RX6_114 (rm : Room) : g_kS RX6 114 yX6_mostOf (eX6_mostOf rm) 1 := ⟨tw297, tw298, ⟨tw1, tw299, by decide +kernel, by decide +kernel, by decide +kernel⟩⟩
theorem tw303 : (Jvm.Cond.code ({ cls := "TurningCoins$Coin", name := "replace", desc := "(II)I" } : Jvm.MethodName) prog_2_method_3_code (4 : Nat) (Option.some Jvm.ClassFile.FieldType.int)) ∈ tG := tG_t (i := 303) (by decide +kernel) (by decide +kernel)
theorem tw300 : (Jvm.Cond.methodLink "TurningCoins" (117 : Nat) ({ cls := "TurningCoins$Coin", name := "replace", desc := "(II)I" } : Jvm.MethodName)) ∈ tG := tG_t (i := 300) (by decide +kernel) (by decide +kernel)
theorem tw301 : (Jvm.Cond.instanceMethod ({ cls := "TurningCoins$Coin", name := "replace", desc := "(II)I" } : Jvm.MethodName)) ∈ tG := tG_t (i := 301) (by decide +kernel) (by decide +kernel)
theorem tw302 : (Jvm.Cond.selects "TurningCoins$Coin" ({ cls := "TurningCoins$Coin", name := "replace", desc := "(II)I" } : Jvm.MethodName) ({ cls := "TurningCoins$Coin", name := "replace", desc := "(II)I" } : Jvm.MethodName)) ∈ tG := tG_t (i := 302) (by decide +kernel) (by decide +kernel)
theorem k_RX6_117 (rm : Room) : g_kV RX6 117 yX0_replace (eX0_replace rm) 2 := ⟨tw300, tw301, tw302, ⟨tw3, tw303, by decide +kernel, by decide +kernel, by decide +kernel⟩⟩
theorem tw307 : (Jvm.Cond.code ({ cls := "TurningCoins", name := "turn", desc := "(I)I" } : Jvm.MethodName) prog_1_method_5_code (2 : Nat) (Option.some Jvm.ClassFile.FieldType.int)) ∈ tG := tG_t (i := 307) (by decide +kernel) (by decide +kernel)
theorem tw304 : (Jvm.Cond.methodLink "TurningCoinsLaw" (27 : Nat) ({ cls := "TurningCoins", name := "turn", desc := "(I)I" } : Jvm.MethodName)) ∈ tG := tG_t (i := 304) (by decide +kernel) (by decide +kernel)
theorem tw305 : (Jvm.Cond.instanceMethod ({ cls := "TurningCoins", name := "turn", desc := "(I)I" } : Jvm.MethodName)) ∈ tG := tG_t (i := 305) (by decide +kernel) (by decide +kernel)
theorem tw306 : (Jvm.Cond.selects "TurningCoins" ({ cls := "TurningCoins", name := "turn", desc := "(I)I" } : Jvm.MethodName) ({ cls := "TurningCoins", name := "turn", desc := "(I)I" } : Jvm.MethodName)) ∈ tG := tG_t (i := 306) (by decide +kernel) (by decide +kernel)
theorem k_RL_27 (rm : Room) : g_kV RL 27 yX6_turn (eX6_turn rm) 1 := ⟨tw304, tw305, tw306, ⟨tw1, tw307, by decide +kernel, by decide +kernel, by decide +kernel⟩⟩
theorem tw311 : (Jvm.Cond.code ({ cls := "TurningCoins$Coin", name := "turnOver", desc := "()V" } : Jvm.MethodName) prog_2_method_11_code (2 : Nat) (Option.none : Option Jvm.ClassFile.FieldType)) ∈ tG := tG_t (i := 311) (by decide +kernel) (by decide +kernel)
theorem tw308 : (Jvm.Cond.methodLink "TurningCoins" (121 : Nat) ({ cls := "TurningCoins$Coin", name := "turnOver", desc := "()V" } : Jvm.MethodName)) ∈ tG := tG_t (i := 308) (by decide +kernel) (by decide +kernel)
theorem tw309 : (Jvm.Cond.instanceMethod ({ cls := "TurningCoins$Coin", name := "turnOver", desc := "()V" } : Jvm.MethodName)) ∈ tG := tG_t (i := 309) (by decide +kernel) (by decide +kernel)
theorem tw310 : (Jvm.Cond.selects "TurningCoins$Coin" ({ cls := "TurningCoins$Coin", name := "turnOver", desc := "()V" } : Jvm.MethodName) ({ cls := "TurningCoins$Coin", name := "turnOver", desc := "()V" } : Jvm.MethodName)) ∈ tG := tG_t (i := 310) (by decide +kernel) (by decide +kernel)
theorem k_RX6_121 (rm : Room) : g_kV RX6 121 yX0_turnOver (eX0_turnOver rm) 0 := ⟨tw308, tw309, tw310, ⟨tw3, tw311, by decide +kernel, by decide +kernel, by decide +kernel⟩⟩
theorem tw315 : (Jvm.Cond.code ({ cls := "TurningCoins$Coin", name := "liesTurned", desc := "()I" } : Jvm.MethodName) prog_2_method_9_code (1 : Nat) (Option.some Jvm.ClassFile.FieldType.int)) ∈ tG := tG_t (i := 315) (by decide +kernel) (by decide +kernel)
theorem tw312 : (Jvm.Cond.methodLink "TurningCoins$Coin" (34 : Nat) ({ cls := "TurningCoins$Coin", name := "liesTurned", desc := "()I" } : Jvm.MethodName)) ∈ tG := tG_t (i := 312) (by decide +kernel) (by decide +kernel)
theorem tw314 : (Jvm.Cond.instanceMethod ({ cls := "TurningCoins$Coin", name := "liesTurned", desc := "()I" } : Jvm.MethodName)) ∈ tG := tG_t (i := 314) (by decide +kernel) (by decide +kernel)
theorem sel_X0_liesTurned : Cond.selects RX0 yX0_liesTurned yX0_liesTurned ∈ tG := tG_s (q := (yX0_liesTurned, 6)) (i := 2) (by decide +kernel) (by decide +kernel)
theorem k_RX0_34 (rm : Room) : g_kV RX0 34 yX0_liesTurned (eX0_liesTurned rm) 0 := ⟨tw312, tw314, sel_X0_liesTurned, ⟨tw3, tw315, by decide +kernel, by decide +kernel, by decide +kernel⟩⟩
theorem tw319 : (Jvm.Cond.code ({ cls := "TurningCoins$Coin", name := "turnsTurned", desc := "()I" } : Jvm.MethodName) prog_2_method_10_code (1 : Nat) (Option.some Jvm.ClassFile.FieldType.int)) ∈ tG := tG_t (i := 319) (by decide +kernel) (by decide +kernel)
theorem tw316 : (Jvm.Cond.methodLink "TurningCoins$Coin" (38 : Nat) ({ cls := "TurningCoins$Coin", name := "turnsTurned", desc := "()I" } : Jvm.MethodName)) ∈ tG := tG_t (i := 316) (by decide +kernel) (by decide +kernel)
theorem tw318 : (Jvm.Cond.instanceMethod ({ cls := "TurningCoins$Coin", name := "turnsTurned", desc := "()I" } : Jvm.MethodName)) ∈ tG := tG_t (i := 318) (by decide +kernel) (by decide +kernel)
theorem sel_X0_turnsTurned : Cond.selects RX0 yX0_turnsTurned yX0_turnsTurned ∈ tG := tG_s (q := (yX0_turnsTurned, 6)) (i := 3) (by decide +kernel) (by decide +kernel)
theorem k_RX0_38 (rm : Room) : g_kV RX0 38 yX0_turnsTurned (eX0_turnsTurned rm) 0 := ⟨tw316, tw318, sel_X0_turnsTurned, ⟨tw3, tw319, by decide +kernel, by decide +kernel, by decide +kernel⟩⟩
theorem tw323 : (Jvm.Cond.code ({ cls := "TurningCoins", name := "purse", desc := "(II)I" } : Jvm.MethodName) prog_1_method_6_code (4 : Nat) (Option.some Jvm.ClassFile.FieldType.int)) ∈ tG := tG_t (i := 323) (by decide +kernel) (by decide +kernel)
theorem tw320 : (Jvm.Cond.methodLink "TurningCoinsLaw" (32 : Nat) ({ cls := "TurningCoins", name := "purse", desc := "(II)I" } : Jvm.MethodName)) ∈ tG := tG_t (i := 320) (by decide +kernel) (by decide +kernel)
theorem tw321 : (Jvm.Cond.instanceMethod ({ cls := "TurningCoins", name := "purse", desc := "(II)I" } : Jvm.MethodName)) ∈ tG := tG_t (i := 321) (by decide +kernel) (by decide +kernel)
theorem tw322 : (Jvm.Cond.selects "TurningCoins" ({ cls := "TurningCoins", name := "purse", desc := "(II)I" } : Jvm.MethodName) ({ cls := "TurningCoins", name := "purse", desc := "(II)I" } : Jvm.MethodName)) ∈ tG := tG_t (i := 322) (by decide +kernel) (by decide +kernel)
theorem k_RL_32 (rm : Room) : g_kV RL 32 yX6_purse (eX6_purse rm) 2 := ⟨tw320, tw321, tw322, ⟨tw1, tw323, by decide +kernel, by decide +kernel, by decide +kernel⟩⟩
theorem tw326 : (Jvm.Cond.code ({ cls := "TurningCoins", name := "isPurse", desc := "(I)Z" } : Jvm.MethodName) prog_1_method_57_code (1 : Nat) (Option.some Jvm.ClassFile.FieldType.boolean)) ∈ tG := tG_t (i := 326) (by decide +kernel) (by decide +kernel)
theorem tw324 : (Jvm.Cond.methodLink "TurningCoins" (124 : Nat) ({ cls := "TurningCoins", name := "isPurse", desc := "(I)Z" } : Jvm.MethodName)) ∈ tG := tG_t (i := 324) (by decide +kernel) (by decide +kernel)
theorem tw325 : (Jvm.Cond.static ({ cls := "TurningCoins", name := "isPurse", desc := "(I)Z" } : Jvm.MethodName)) ∈ tG := tG_t (i := 325) (by decide +kernel) (by decide +kernel)
theorem k_RX6_124 (rm : Room) : g_kS RX6 124 yX6_isPurse (eX6_isPurse rm) 1 := ⟨tw324, tw325, ⟨tw1, tw326, by decide +kernel, by decide +kernel, by decide +kernel⟩⟩
theorem tw330 : (Jvm.Cond.code ({ cls := "TurningCoins$Land", name := "coinsIn", desc := "(I)I" } : Jvm.MethodName) prog_3_method_7_code (4 : Nat) (Option.some Jvm.ClassFile.FieldType.int)) ∈ tG := tG_t (i := 330) (by decide +kernel) (by decide +kernel)
theorem tw327 : (Jvm.Cond.methodLink "TurningCoins" (127 : Nat) ({ cls := "TurningCoins$Land", name := "coinsIn", desc := "(I)I" } : Jvm.MethodName)) ∈ tG := tG_t (i := 327) (by decide +kernel) (by decide +kernel)
theorem tw328 : (Jvm.Cond.instanceMethod ({ cls := "TurningCoins$Land", name := "coinsIn", desc := "(I)I" } : Jvm.MethodName)) ∈ tG := tG_t (i := 328) (by decide +kernel) (by decide +kernel)
theorem tw329 : (Jvm.Cond.selects "TurningCoins$Land" ({ cls := "TurningCoins$Land", name := "coinsIn", desc := "(I)I" } : Jvm.MethodName) ({ cls := "TurningCoins$Land", name := "coinsIn", desc := "(I)I" } : Jvm.MethodName)) ∈ tG := tG_t (i := 329) (by decide +kernel) (by decide +kernel)
theorem k_RX6_127 (rm : Room) : g_kV RX6 127 yX1_coinsIn (eX1_coinsIn rm) 1 := ⟨tw327, tw328, tw329, ⟨tw2, tw330, by decide +kernel, by decide +kernel, by decide +kernel⟩⟩
theorem tw334 : (Jvm.Cond.code ({ cls := "TurningCoins$Land", name := "worthOf", desc := "(I)I" } : Jvm.MethodName) prog_3_method_9_code (4 : Nat) (Option.some Jvm.ClassFile.FieldType.int)) ∈ tG := tG_t (i := 334) (by decide +kernel) (by decide +kernel)
theorem tw331 : (Jvm.Cond.methodLink "TurningCoins" (130 : Nat) ({ cls := "TurningCoins$Land", name := "worthOf", desc := "(I)I" } : Jvm.MethodName)) ∈ tG := tG_t (i := 331) (by decide +kernel) (by decide +kernel)
theorem tw332 : (Jvm.Cond.instanceMethod ({ cls := "TurningCoins$Land", name := "worthOf", desc := "(I)I" } : Jvm.MethodName)) ∈ tG := tG_t (i := 332) (by decide +kernel) (by decide +kernel)
theorem tw333 : (Jvm.Cond.selects "TurningCoins$Land" ({ cls := "TurningCoins$Land", name := "worthOf", desc := "(I)I" } : Jvm.MethodName) ({ cls := "TurningCoins$Land", name := "worthOf", desc := "(I)I" } : Jvm.MethodName)) ∈ tG := tG_t (i := 333) (by decide +kernel) (by decide +kernel)
theorem k_RX6_130 (rm : Room) : g_kV RX6 130 yX1_worthOf (eX1_worthOf rm) 1 := ⟨tw331, tw332, tw333, ⟨tw2, tw334, by decide +kernel, by decide +kernel, by decide +kernel⟩⟩
theorem tw337 : (Jvm.Cond.code ({ cls := "TurningCoins", name := "holds", desc := "(II)Z" } : Jvm.MethodName) prog_1_method_61_code (2 : Nat) (Option.some Jvm.ClassFile.FieldType.boolean)) ∈ tG := tG_t (i := 337) (by decide +kernel) (by decide +kernel)
theorem tw336 : (Jvm.Cond.static ({ cls := "TurningCoins", name := "holds", desc := "(II)Z" } : Jvm.MethodName)) ∈ tG := tG_t (i := 336) (by decide +kernel) (by decide +kernel)
theorem k_RX1_70 (rm : Room) : g_kSN RX1 70 yX6_holds (eX6_holds rm) 2 := ⟨List.mem_of_getElem? (i := 5) rfl, tw336, ⟨tw1, tw337, by decide +kernel, by decide +kernel, by decide +kernel⟩⟩
theorem tw338 : (Jvm.Cond.methodLink "TurningCoins$Land" (74 : Nat) ({ cls := "TurningCoins$Coin", name := "worthNow", desc := "()I" } : Jvm.MethodName)) ∈ tG := tG_t (i := 338) (by decide +kernel) (by decide +kernel)
theorem k_RX1_74 (rm : Room) : g_kV RX1 74 yX0_worthNow (eX0_worthNow rm) 0 := ⟨tw338, tw283, tw284, ⟨tw3, tw285, by decide +kernel, by decide +kernel, by decide +kernel⟩⟩
theorem tw342 : (Jvm.Cond.code ({ cls := "TurningCoins$Land", name := "coinsLying", desc := "(I)I" } : Jvm.MethodName) prog_3_method_8_code (4 : Nat) (Option.some Jvm.ClassFile.FieldType.int)) ∈ tG := tG_t (i := 342) (by decide +kernel) (by decide +kernel)
theorem tw339 : (Jvm.Cond.methodLink "TurningCoins" (133 : Nat) ({ cls := "TurningCoins$Land", name := "coinsLying", desc := "(I)I" } : Jvm.MethodName)) ∈ tG := tG_t (i := 339) (by decide +kernel) (by decide +kernel)
theorem tw340 : (Jvm.Cond.instanceMethod ({ cls := "TurningCoins$Land", name := "coinsLying", desc := "(I)I" } : Jvm.MethodName)) ∈ tG := tG_t (i := 340) (by decide +kernel) (by decide +kernel)
theorem tw341 : (Jvm.Cond.selects "TurningCoins$Land" ({ cls := "TurningCoins$Land", name := "coinsLying", desc := "(I)I" } : Jvm.MethodName) ({ cls := "TurningCoins$Land", name := "coinsLying", desc := "(I)I" } : Jvm.MethodName)) ∈ tG := tG_t (i := 341) (by decide +kernel) (by decide +kernel)
theorem k_RX6_133 (rm : Room) : g_kV RX6 133 yX1_coinsLying (eX1_coinsLying rm) 1 := ⟨tw339, tw340, tw341, ⟨tw2, tw342, by decide +kernel, by decide +kernel, by decide +kernel⟩⟩
theorem tw346 : (Jvm.Cond.code ({ cls := "TurningCoins$Land", name := "worthIfTurned", desc := "(I)I" } : Jvm.MethodName) prog_3_method_10_code (4 : Nat) (Option.some Jvm.ClassFile.FieldType.int)) ∈ tG := tG_t (i := 346) (by decide +kernel) (by decide +kernel)
theorem tw343 : (Jvm.Cond.methodLink "TurningCoins" (136 : Nat) ({ cls := "TurningCoins$Land", name := "worthIfTurned", desc := "(I)I" } : Jvm.MethodName)) ∈ tG := tG_t (i := 343) (by decide +kernel) (by decide +kernel)
theorem tw344 : (Jvm.Cond.instanceMethod ({ cls := "TurningCoins$Land", name := "worthIfTurned", desc := "(I)I" } : Jvm.MethodName)) ∈ tG := tG_t (i := 344) (by decide +kernel) (by decide +kernel)
theorem tw345 : (Jvm.Cond.selects "TurningCoins$Land" ({ cls := "TurningCoins$Land", name := "worthIfTurned", desc := "(I)I" } : Jvm.MethodName) ({ cls := "TurningCoins$Land", name := "worthIfTurned", desc := "(I)I" } : Jvm.MethodName)) ∈ tG := tG_t (i := 345) (by decide +kernel) (by decide +kernel)
theorem k_RX6_136 (rm : Room) : g_kV RX6 136 yX1_worthIfTurned (eX1_worthIfTurned rm) 1 := ⟨tw343, tw344, tw345, ⟨tw2, tw346, by decide +kernel, by decide +kernel, by decide +kernel⟩⟩
theorem tw350 : (Jvm.Cond.code ({ cls := "TurningCoins$Coin", name := "worthPaidTo", desc := "(I)I" } : Jvm.MethodName) prog_2_method_7_code (2 : Nat) (Option.some Jvm.ClassFile.FieldType.int)) ∈ tG := tG_t (i := 350) (by decide +kernel) (by decide +kernel)
theorem tw347 : (Jvm.Cond.methodLink "TurningCoins$Land" (77 : Nat) ({ cls := "TurningCoins$Coin", name := "worthPaidTo", desc := "(I)I" } : Jvm.MethodName)) ∈ tG := tG_t (i := 347) (by decide +kernel) (by decide +kernel)
theorem tw348 : (Jvm.Cond.instanceMethod ({ cls := "TurningCoins$Coin", name := "worthPaidTo", desc := "(I)I" } : Jvm.MethodName)) ∈ tG := tG_t (i := 348) (by decide +kernel) (by decide +kernel)
theorem tw349 : (Jvm.Cond.selects "TurningCoins$Coin" ({ cls := "TurningCoins$Coin", name := "worthPaidTo", desc := "(I)I" } : Jvm.MethodName) ({ cls := "TurningCoins$Coin", name := "worthPaidTo", desc := "(I)I" } : Jvm.MethodName)) ∈ tG := tG_t (i := 349) (by decide +kernel) (by decide +kernel)
theorem k_RX1_77 (rm : Room) : g_kV RX1 77 yX0_worthPaidTo (eX0_worthPaidTo rm) 1 := ⟨tw347, tw348, tw349, ⟨tw3, tw350, by decide +kernel, by decide +kernel, by decide +kernel⟩⟩
theorem tw354 : (Jvm.Cond.code ({ cls := "TurningCoins", name := "sum", desc := "(I)I" } : Jvm.MethodName) prog_1_method_7_code (2 : Nat) (Option.some Jvm.ClassFile.FieldType.int)) ∈ tG := tG_t (i := 354) (by decide +kernel) (by decide +kernel)
theorem tw351 : (Jvm.Cond.methodLink "TurningCoinsLaw" (36 : Nat) ({ cls := "TurningCoins", name := "sum", desc := "(I)I" } : Jvm.MethodName)) ∈ tG := tG_t (i := 351) (by decide +kernel) (by decide +kernel)
theorem tw352 : (Jvm.Cond.instanceMethod ({ cls := "TurningCoins", name := "sum", desc := "(I)I" } : Jvm.MethodName)) ∈ tG := tG_t (i := 352) (by decide +kernel) (by decide +kernel)
theorem tw353 : (Jvm.Cond.selects "TurningCoins" ({ cls := "TurningCoins", name := "sum", desc := "(I)I" } : Jvm.MethodName) ({ cls := "TurningCoins", name := "sum", desc := "(I)I" } : Jvm.MethodName)) ∈ tG := tG_t (i := 353) (by decide +kernel) (by decide +kernel)
theorem k_RL_36 (rm : Room) : g_kV RL 36 yX6_sum (eX6_sum rm) 1 := ⟨tw351, tw352, tw353, ⟨tw1, tw354, by decide +kernel, by decide +kernel, by decide +kernel⟩⟩
theorem tw358 : (Jvm.Cond.code ({ cls := "TurningCoins$Land", name := "hasSet", desc := "(I)Z" } : Jvm.MethodName) prog_3_method_4_code (2 : Nat) (Option.some Jvm.ClassFile.FieldType.boolean)) ∈ tG := tG_t (i := 358) (by decide +kernel) (by decide +kernel)
theorem tw355 : (Jvm.Cond.methodLink "TurningCoins" (139 : Nat) ({ cls := "TurningCoins$Land", name := "hasSet", desc := "(I)Z" } : Jvm.MethodName)) ∈ tG := tG_t (i := 355) (by decide +kernel) (by decide +kernel)
theorem tw356 : (Jvm.Cond.instanceMethod ({ cls := "TurningCoins$Land", name := "hasSet", desc := "(I)Z" } : Jvm.MethodName)) ∈ tG := tG_t (i := 356) (by decide +kernel) (by decide +kernel)
theorem tw357 : (Jvm.Cond.selects "TurningCoins$Land" ({ cls := "TurningCoins$Land", name := "hasSet", desc := "(I)Z" } : Jvm.MethodName) ({ cls := "TurningCoins$Land", name := "hasSet", desc := "(I)Z" } : Jvm.MethodName)) ∈ tG := tG_t (i := 357) (by decide +kernel) (by decide +kernel)
theorem k_RX6_139 (rm : Room) : g_kV RX6 139 yX1_hasSet (eX1_hasSet rm) 1 := ⟨tw355, tw356, tw357, ⟨tw2, tw358, by decide +kernel, by decide +kernel, by decide +kernel⟩⟩
theorem tw362 : (Jvm.Cond.code ({ cls := "TurningCoins$Land", name := "allCoins", desc := "()I" } : Jvm.MethodName) prog_3_method_6_code (1 : Nat) (Option.some Jvm.ClassFile.FieldType.int)) ∈ tG := tG_t (i := 362) (by decide +kernel) (by decide +kernel)
theorem tw359 : (Jvm.Cond.methodLink "TurningCoins$Land" (48 : Nat) ({ cls := "TurningCoins$Land", name := "allCoins", desc := "()I" } : Jvm.MethodName)) ∈ tG := tG_t (i := 359) (by decide +kernel) (by decide +kernel)
theorem tw360 : (Jvm.Cond.instanceMethod ({ cls := "TurningCoins$Land", name := "allCoins", desc := "()I" } : Jvm.MethodName)) ∈ tG := tG_t (i := 360) (by decide +kernel) (by decide +kernel)
theorem tw361 : (Jvm.Cond.selects "TurningCoins$Land" ({ cls := "TurningCoins$Land", name := "allCoins", desc := "()I" } : Jvm.MethodName) ({ cls := "TurningCoins$Land", name := "allCoins", desc := "()I" } : Jvm.MethodName)) ∈ tG := tG_t (i := 361) (by decide +kernel) (by decide +kernel)
theorem k_RX1_48 (rm : Room) : g_kV RX1 48 yX1_allCoins (eX1_allCoins rm) 0 := ⟨tw359, tw360, tw361, ⟨tw2, tw362, by decide +kernel, by decide +kernel, by decide +kernel⟩⟩
theorem tw366 : (Jvm.Cond.code ({ cls := "TurningCoins", name := "pay", desc := "(III)I" } : Jvm.MethodName) prog_1_method_8_code (5 : Nat) (Option.some Jvm.ClassFile.FieldType.int)) ∈ tG := tG_t (i := 366) (by decide +kernel) (by decide +kernel)
theorem tw363 : (Jvm.Cond.methodLink "TurningCoinsLaw" (40 : Nat) ({ cls := "TurningCoins", name := "pay", desc := "(III)I" } : Jvm.MethodName)) ∈ tG := tG_t (i := 363) (by decide +kernel) (by decide +kernel)
theorem tw364 : (Jvm.Cond.instanceMethod ({ cls := "TurningCoins", name := "pay", desc := "(III)I" } : Jvm.MethodName)) ∈ tG := tG_t (i := 364) (by decide +kernel) (by decide +kernel)
theorem tw365 : (Jvm.Cond.selects "TurningCoins" ({ cls := "TurningCoins", name := "pay", desc := "(III)I" } : Jvm.MethodName) ({ cls := "TurningCoins", name := "pay", desc := "(III)I" } : Jvm.MethodName)) ∈ tG := tG_t (i := 365) (by decide +kernel) (by decide +kernel)
theorem k_RL_40 (rm : Room) : g_kV RL 40 yX6_pay (eX6_pay rm) 3 := ⟨tw363, tw364, tw365, ⟨tw1, tw366, by decide +kernel, by decide +kernel, by decide +kernel⟩⟩
theorem tw369 : (Jvm.Cond.code ({ cls := "TurningCoins", name := "areTwoPurses", desc := "(II)Z" } : Jvm.MethodName) prog_1_method_58_code (2 : Nat) (Option.some Jvm.ClassFile.FieldType.boolean)) ∈ tG := tG_t (i := 369) (by decide +kernel) (by decide +kernel)
theorem tw367 : (Jvm.Cond.methodLink "TurningCoins" (142 : Nat) ({ cls := "TurningCoins", name := "areTwoPurses", desc := "(II)Z" } : Jvm.MethodName)) ∈ tG := tG_t (i := 367) (by decide +kernel) (by decide +kernel)
theorem tw368 : (Jvm.Cond.static ({ cls := "TurningCoins", name := "areTwoPurses", desc := "(II)Z" } : Jvm.MethodName)) ∈ tG := tG_t (i := 368) (by decide +kernel) (by decide +kernel)
theorem k_RX6_142 (rm : Room) : g_kS RX6 142 yX6_areTwoPurses (eX6_areTwoPurses rm) 2 := ⟨tw367, tw368, ⟨tw1, tw369, by decide +kernel, by decide +kernel, by decide +kernel⟩⟩
theorem tw374 : (Jvm.Cond.code ({ cls := "TurningCoins$Land", name := "paySet", desc := "(II)V" } : Jvm.MethodName) prog_3_method_11_code (4 : Nat) (Option.none : Option Jvm.ClassFile.FieldType)) ∈ tG := tG_t (i := 374) (by decide +kernel) (by decide +kernel)
theorem tw371 : (Jvm.Cond.methodLink "TurningCoins" (146 : Nat) ({ cls := "TurningCoins$Land", name := "paySet", desc := "(II)V" } : Jvm.MethodName)) ∈ tG := tG_t (i := 371) (by decide +kernel) (by decide +kernel)
theorem tw372 : (Jvm.Cond.instanceMethod ({ cls := "TurningCoins$Land", name := "paySet", desc := "(II)V" } : Jvm.MethodName)) ∈ tG := tG_t (i := 372) (by decide +kernel) (by decide +kernel)
theorem tw373 : (Jvm.Cond.selects "TurningCoins$Land" ({ cls := "TurningCoins$Land", name := "paySet", desc := "(II)V" } : Jvm.MethodName) ({ cls := "TurningCoins$Land", name := "paySet", desc := "(II)V" } : Jvm.MethodName)) ∈ tG := tG_t (i := 373) (by decide +kernel) (by decide +kernel)
theorem k_RX6_146 (rm : Room) : g_kV RX6 146 yX1_paySet (eX1_paySet rm) 2 := ⟨tw371, tw372, tw373, ⟨tw2, tw374, by decide +kernel, by decide +kernel, by decide +kernel⟩⟩
theorem tw378 : (Jvm.Cond.code ({ cls := "TurningCoins$Coin", name := "payTo", desc := "(I)V" } : Jvm.MethodName) prog_2_method_12_code (2 : Nat) (Option.none : Option Jvm.ClassFile.FieldType)) ∈ tG := tG_t (i := 378) (by decide +kernel) (by decide +kernel)
theorem tw375 : (Jvm.Cond.methodLink "TurningCoins$Land" (81 : Nat) ({ cls := "TurningCoins$Coin", name := "payTo", desc := "(I)V" } : Jvm.MethodName)) ∈ tG := tG_t (i := 375) (by decide +kernel) (by decide +kernel)
theorem tw376 : (Jvm.Cond.instanceMethod ({ cls := "TurningCoins$Coin", name := "payTo", desc := "(I)V" } : Jvm.MethodName)) ∈ tG := tG_t (i := 376) (by decide +kernel) (by decide +kernel)
theorem tw377 : (Jvm.Cond.selects "TurningCoins$Coin" ({ cls := "TurningCoins$Coin", name := "payTo", desc := "(I)V" } : Jvm.MethodName) ({ cls := "TurningCoins$Coin", name := "payTo", desc := "(I)V" } : Jvm.MethodName)) ∈ tG := tG_t (i := 377) (by decide +kernel) (by decide +kernel)
theorem k_RX1_81 (rm : Room) : g_kV RX1 81 yX0_payTo (eX0_payTo rm) 1 := ⟨tw375, tw376, tw377, ⟨tw3, tw378, by decide +kernel, by decide +kernel, by decide +kernel⟩⟩
theorem tw379 : (Jvm.Cond.methodLink "TurningCoins$Coin" (47 : Nat) ({ cls := "TurningCoins$Coin", name := "turnOver", desc := "()V" } : Jvm.MethodName)) ∈ tG := tG_t (i := 379) (by decide +kernel) (by decide +kernel)
theorem k_RX0_47 (rm : Room) : g_kV RX0 47 yX0_turnOver (eX0_turnOver rm) 0 := ⟨tw379, tw309, tw310, ⟨tw3, tw311, by decide +kernel, by decide +kernel, by decide +kernel⟩⟩
theorem tw383 : (Jvm.Cond.code ({ cls := "TurningCoins", name := "there", desc := "(II)I" } : Jvm.MethodName) prog_1_method_9_code (5 : Nat) (Option.some Jvm.ClassFile.FieldType.int)) ∈ tG := tG_t (i := 383) (by decide +kernel) (by decide +kernel)
theorem tw380 : (Jvm.Cond.methodLink "TurningCoinsLaw" (44 : Nat) ({ cls := "TurningCoins", name := "there", desc := "(II)I" } : Jvm.MethodName)) ∈ tG := tG_t (i := 380) (by decide +kernel) (by decide +kernel)
theorem tw381 : (Jvm.Cond.instanceMethod ({ cls := "TurningCoins", name := "there", desc := "(II)I" } : Jvm.MethodName)) ∈ tG := tG_t (i := 381) (by decide +kernel) (by decide +kernel)
theorem tw382 : (Jvm.Cond.selects "TurningCoins" ({ cls := "TurningCoins", name := "there", desc := "(II)I" } : Jvm.MethodName) ({ cls := "TurningCoins", name := "there", desc := "(II)I" } : Jvm.MethodName)) ∈ tG := tG_t (i := 382) (by decide +kernel) (by decide +kernel)
theorem k_RL_44 (rm : Room) : g_kV RL 44 yX6_there (eX6_there rm) 2 := ⟨tw380, tw381, tw382, ⟨tw1, tw383, by decide +kernel, by decide +kernel, by decide +kernel⟩⟩
theorem tw387 : (Jvm.Cond.code ({ cls := "TurningCoins", name := "can", desc := "(II)I" } : Jvm.MethodName) prog_1_method_10_code (3 : Nat) (Option.some Jvm.ClassFile.FieldType.int)) ∈ tG := tG_t (i := 387) (by decide +kernel) (by decide +kernel)
theorem tw384 : (Jvm.Cond.methodLink "TurningCoinsLaw" (48 : Nat) ({ cls := "TurningCoins", name := "can", desc := "(II)I" } : Jvm.MethodName)) ∈ tG := tG_t (i := 384) (by decide +kernel) (by decide +kernel)
theorem tw385 : (Jvm.Cond.instanceMethod ({ cls := "TurningCoins", name := "can", desc := "(II)I" } : Jvm.MethodName)) ∈ tG := tG_t (i := 385) (by decide +kernel) (by decide +kernel)
theorem tw386 : (Jvm.Cond.selects "TurningCoins" ({ cls := "TurningCoins", name := "can", desc := "(II)I" } : Jvm.MethodName) ({ cls := "TurningCoins", name := "can", desc := "(II)I" } : Jvm.MethodName)) ∈ tG := tG_t (i := 386) (by decide +kernel) (by decide +kernel)
theorem k_RL_48 (rm : Room) : g_kV RL 48 yX6_can (eX6_can rm) 2 := ⟨tw384, tw385, tw386, ⟨tw1, tw387, by decide +kernel, by decide +kernel, by decide +kernel⟩⟩
theorem tw391 : (Jvm.Cond.code ({ cls := "TurningCoins$Reach", name := "gather", desc := "(LTurningCoins$Land;I)V" } : Jvm.MethodName) prog_4_method_2_code (4 : Nat) (Option.none : Option Jvm.ClassFile.FieldType)) ∈ tG := tG_t (i := 391) (by decide +kernel) (by decide +kernel)
theorem tw388 : (Jvm.Cond.methodLink "TurningCoins" (150 : Nat) ({ cls := "TurningCoins$Reach", name := "gather", desc := "(LTurningCoins$Land;I)V" } : Jvm.MethodName)) ∈ tG := tG_t (i := 388) (by decide +kernel) (by decide +kernel)
theorem tw389 : (Jvm.Cond.instanceMethod ({ cls := "TurningCoins$Reach", name := "gather", desc := "(LTurningCoins$Land;I)V" } : Jvm.MethodName)) ∈ tG := tG_t (i := 389) (by decide +kernel) (by decide +kernel)
theorem tw390 : (Jvm.Cond.selects "TurningCoins$Reach" ({ cls := "TurningCoins$Reach", name := "gather", desc := "(LTurningCoins$Land;I)V" } : Jvm.MethodName) ({ cls := "TurningCoins$Reach", name := "gather", desc := "(LTurningCoins$Land;I)V" } : Jvm.MethodName)) ∈ tG := tG_t (i := 390) (by decide +kernel) (by decide +kernel)
theorem k_RX6_150 (rm : Room) : g_kV RX6 150 yX2_gather (eX2_gather rm) 2 := ⟨tw388, tw389, tw390, ⟨tw6, tw391, by decide +kernel, by decide +kernel, by decide +kernel⟩⟩
theorem tw395 : (Jvm.Cond.code ({ cls := "TurningCoins$Reach", name := "startRow", desc := "()V" } : Jvm.MethodName) prog_4_method_11_code (1 : Nat) (Option.none : Option Jvm.ClassFile.FieldType)) ∈ tG := tG_t (i := 395) (by decide +kernel) (by decide +kernel)
theorem tw392 : (Jvm.Cond.methodLink "TurningCoins$Reach" (44 : Nat) ({ cls := "TurningCoins$Reach", name := "startRow", desc := "()V" } : Jvm.MethodName)) ∈ tG := tG_t (i := 392) (by decide +kernel) (by decide +kernel)
theorem tw394 : (Jvm.Cond.instanceMethod ({ cls := "TurningCoins$Reach", name := "startRow", desc := "()V" } : Jvm.MethodName)) ∈ tG := tG_t (i := 394) (by decide +kernel) (by decide +kernel)
theorem sel_X2_startRow : Cond.selects RX2 yX2_startRow yX2_startRow ∈ tG := tG_s (q := (yX2_startRow, 9)) (i := 4) (by decide +kernel) (by decide +kernel)
theorem k_RX2_44 (rm : Room) : g_kV RX2 44 yX2_startRow (eX2_startRow rm) 0 := ⟨tw392, tw394, sel_X2_startRow, ⟨tw6, tw395, by decide +kernel, by decide +kernel, by decide +kernel⟩⟩
theorem tw398 : (Jvm.Cond.code ({ cls := "java/util/Arrays", name := "fill", desc := "([JJ)V" } : Jvm.MethodName) prog_17_method_101_code (5 : Nat) (Option.none : Option Jvm.ClassFile.FieldType)) ∈ tG := tG_t (i := 398) (by decide +kernel) (by decide +kernel)
theorem tw396 : (Jvm.Cond.methodLink "TurningCoins$Reach" (83 : Nat) ({ cls := "java/util/Arrays", name := "fill", desc := "([JJ)V" } : Jvm.MethodName)) ∈ tG := tG_t (i := 396) (by decide +kernel) (by decide +kernel)
theorem tw397 : (Jvm.Cond.static ({ cls := "java/util/Arrays", name := "fill", desc := "([JJ)V" } : Jvm.MethodName)) ∈ tG := tG_t (i := 397) (by decide +kernel) (by decide +kernel)
theorem k_RX2_83 (rm : Room) : g_kS RX2 83 yJ7_fill_d0a16 (eJ7_fill_d0a16 rm) 2 := ⟨tw396, tw397, ⟨tw4, tw398, by decide +kernel, by decide +kernel, by decide +kernel⟩⟩
theorem k_RX2_52 (rm : Room) : g_kSN RX2 52 yX6_holds (eX6_holds rm) 2 := ⟨List.mem_of_getElem? (i := 6) rfl, tw336, ⟨tw1, tw337, by decide +kernel, by decide +kernel, by decide +kernel⟩⟩
theorem tw400 : (Jvm.Cond.methodLink "TurningCoins$Reach" (60 : Nat) ({ cls := "TurningCoins$Coin", name := "worthNow", desc := "()I" } : Jvm.MethodName)) ∈ tG := tG_t (i := 400) (by decide +kernel) (by decide +kernel)
theorem k_RX2_60 (rm : Room) : g_kV RX2 60 yX0_worthNow (eX0_worthNow rm) 0 := ⟨tw400, tw283, tw284, ⟨tw3, tw285, by decide +kernel, by decide +kernel, by decide +kernel⟩⟩
theorem tw404 : (Jvm.Cond.code ({ cls := "TurningCoins$Reach", name := "spread", desc := "([J[JI)V" } : Jvm.MethodName) prog_4_method_12_code (10 : Nat) (Option.none : Option Jvm.ClassFile.FieldType)) ∈ tG := tG_t (i := 404) (by decide +kernel) (by decide +kernel)
theorem tw401 : (Jvm.Cond.methodLink "TurningCoins$Reach" (66 : Nat) ({ cls := "TurningCoins$Reach", name := "spread", desc := "([J[JI)V" } : Jvm.MethodName)) ∈ tG := tG_t (i := 401) (by decide +kernel) (by decide +kernel)
theorem tw403 : (Jvm.Cond.instanceMethod ({ cls := "TurningCoins$Reach", name := "spread", desc := "([J[JI)V" } : Jvm.MethodName)) ∈ tG := tG_t (i := 403) (by decide +kernel) (by decide +kernel)
theorem sel_X2_spread : Cond.selects RX2 yX2_spread yX2_spread ∈ tG := tG_s (q := (yX2_spread, 9)) (i := 5) (by decide +kernel) (by decide +kernel)
theorem k_RX2_66 (rm : Room) : g_kV RX2 66 yX2_spread (eX2_spread rm) 3 := ⟨tw401, tw403, sel_X2_spread, ⟨tw6, tw404, by decide +kernel, by decide +kernel, by decide +kernel⟩⟩
theorem tw408 : (Jvm.Cond.code ({ cls := "TurningCoins$Reach", name := "isReached", desc := "(I)Z" } : Jvm.MethodName) prog_4_method_3_code (2 : Nat) (Option.some Jvm.ClassFile.FieldType.boolean)) ∈ tG := tG_t (i := 408) (by decide +kernel) (by decide +kernel)
theorem tw405 : (Jvm.Cond.methodLink "TurningCoins" (154 : Nat) ({ cls := "TurningCoins$Reach", name := "isReached", desc := "(I)Z" } : Jvm.MethodName)) ∈ tG := tG_t (i := 405) (by decide +kernel) (by decide +kernel)
theorem tw406 : (Jvm.Cond.instanceMethod ({ cls := "TurningCoins$Reach", name := "isReached", desc := "(I)Z" } : Jvm.MethodName)) ∈ tG := tG_t (i := 406) (by decide +kernel) (by decide +kernel)
theorem tw407 : (Jvm.Cond.selects "TurningCoins$Reach" ({ cls := "TurningCoins$Reach", name := "isReached", desc := "(I)Z" } : Jvm.MethodName) ({ cls := "TurningCoins$Reach", name := "isReached", desc := "(I)Z" } : Jvm.MethodName)) ∈ tG := tG_t (i := 407) (by decide +kernel) (by decide +kernel)
theorem k_RX6_154 (rm : Room) : g_kV RX6 154 yX2_isReached (eX2_isReached rm) 1 := ⟨tw405, tw406, tw407, ⟨tw6, tw408, by decide +kernel, by decide +kernel, by decide +kernel⟩⟩
theorem k_RX2_70 (rm : Room) : g_kSN RX2 70 yX6_isWithin (eX6_isWithin rm) 2 := ⟨List.mem_of_getElem? (i := 7) rfl, tw262, ⟨tw1, tw263, by decide +kernel, by decide +kernel, by decide +kernel⟩⟩
theorem tw413 : (Jvm.Cond.code ({ cls := "TurningCoins", name := "with", desc := "(II)I" } : Jvm.MethodName) prog_1_method_11_code (4 : Nat) (Option.some Jvm.ClassFile.FieldType.int)) ∈ tG := tG_t (i := 413) (by decide +kernel) (by decide +kernel)
theorem tw410 : (Jvm.Cond.methodLink "TurningCoinsLaw" (52 : Nat) ({ cls := "TurningCoins", name := "with", desc := "(II)I" } : Jvm.MethodName)) ∈ tG := tG_t (i := 410) (by decide +kernel) (by decide +kernel)
theorem tw411 : (Jvm.Cond.instanceMethod ({ cls := "TurningCoins", name := "with", desc := "(II)I" } : Jvm.MethodName)) ∈ tG := tG_t (i := 411) (by decide +kernel) (by decide +kernel)
theorem tw412 : (Jvm.Cond.selects "TurningCoins" ({ cls := "TurningCoins", name := "with", desc := "(II)I" } : Jvm.MethodName) ({ cls := "TurningCoins", name := "with", desc := "(II)I" } : Jvm.MethodName)) ∈ tG := tG_t (i := 412) (by decide +kernel) (by decide +kernel)
theorem k_RL_52 (rm : Room) : g_kV RL 52 yX6_with (eX6_with rm) 2 := ⟨tw410, tw411, tw412, ⟨tw1, tw413, by decide +kernel, by decide +kernel, by decide +kernel⟩⟩
theorem tw417 : (Jvm.Cond.code ({ cls := "TurningCoins$Trades", name := "leastSetWorth", desc := "(LTurningCoins$Land;II)I" } : Jvm.MethodName) prog_7_method_2_code (5 : Nat) (Option.some Jvm.ClassFile.FieldType.int)) ∈ tG := tG_t (i := 417) (by decide +kernel) (by decide +kernel)
theorem tw414 : (Jvm.Cond.methodLink "TurningCoins" (157 : Nat) ({ cls := "TurningCoins$Trades", name := "leastSetWorth", desc := "(LTurningCoins$Land;II)I" } : Jvm.MethodName)) ∈ tG := tG_t (i := 414) (by decide +kernel) (by decide +kernel)
theorem tw415 : (Jvm.Cond.instanceMethod ({ cls := "TurningCoins$Trades", name := "leastSetWorth", desc := "(LTurningCoins$Land;II)I" } : Jvm.MethodName)) ∈ tG := tG_t (i := 415) (by decide +kernel) (by decide +kernel)
theorem tw416 : (Jvm.Cond.selects "TurningCoins$Trades" ({ cls := "TurningCoins$Trades", name := "leastSetWorth", desc := "(LTurningCoins$Land;II)I" } : Jvm.MethodName) ({ cls := "TurningCoins$Trades", name := "leastSetWorth", desc := "(LTurningCoins$Land;II)I" } : Jvm.MethodName)) ∈ tG := tG_t (i := 416) (by decide +kernel) (by decide +kernel)
theorem k_RX6_157 (rm : Room) : g_kV RX6 157 yX5_leastSetWorth (eX5_leastSetWorth rm) 3 := ⟨tw414, tw415, tw416, ⟨tw7, tw417, by decide +kernel, by decide +kernel, by decide +kernel⟩⟩
theorem tw418 : (Jvm.Cond.methodLink "TurningCoins$Trades" (49 : Nat) ({ cls := "TurningCoins$Coin", name := "worthNow", desc := "()I" } : Jvm.MethodName)) ∈ tG := tG_t (i := 418) (by decide +kernel) (by decide +kernel)
theorem k_RX5_49 (rm : Room) : g_kV RX5 49 yX0_worthNow (eX0_worthNow rm) 0 := ⟨tw418, tw283, tw284, ⟨tw3, tw285, by decide +kernel, by decide +kernel, by decide +kernel⟩⟩
theorem tw422 : (Jvm.Cond.code ({ cls := "TurningCoins$Trades", name := "listSets", desc := "(I)V" } : Jvm.MethodName) prog_7_method_11_code (4 : Nat) (Option.none : Option Jvm.ClassFile.FieldType)) ∈ tG := tG_t (i := 422) (by decide +kernel) (by decide +kernel)
theorem tw419 : (Jvm.Cond.methodLink "TurningCoins$Trades" (55 : Nat) ({ cls := "TurningCoins$Trades", name := "listSets", desc := "(I)V" } : Jvm.MethodName)) ∈ tG := tG_t (i := 419) (by decide +kernel) (by decide +kernel)
theorem tw421 : (Jvm.Cond.instanceMethod ({ cls := "TurningCoins$Trades", name := "listSets", desc := "(I)V" } : Jvm.MethodName)) ∈ tG := tG_t (i := 421) (by decide +kernel) (by decide +kernel)
theorem sel_X5_listSets : Cond.selects RX5 yX5_listSets yX5_listSets ∈ tG := tG_s (q := (yX5_listSets, 9)) (i := 6) (by decide +kernel) (by decide +kernel)
theorem k_RX5_55 (rm : Room) : g_kV RX5 55 yX5_listSets (eX5_listSets rm) 1 := ⟨tw419, tw421, sel_X5_listSets, ⟨tw7, tw422, by decide +kernel, by decide +kernel, by decide +kernel⟩⟩
theorem k_RX5_114 (rm : Room) : g_kSN RX5 114 yX6_holds (eX6_holds rm) 2 := ⟨List.mem_of_getElem? (i := 8) rfl, tw336, ⟨tw1, tw337, by decide +kernel, by decide +kernel, by decide +kernel⟩⟩
theorem tw428 : (Jvm.Cond.code ({ cls := "TurningCoins", name := "sums", desc := "(I)I" } : Jvm.MethodName) prog_1_method_12_code (2 : Nat) (Option.some Jvm.ClassFile.FieldType.int)) ∈ tG := tG_t (i := 428) (by decide +kernel) (by decide +kernel)
theorem tw425 : (Jvm.Cond.methodLink "TurningCoinsLaw" (56 : Nat) ({ cls := "TurningCoins", name := "sums", desc := "(I)I" } : Jvm.MethodName)) ∈ tG := tG_t (i := 425) (by decide +kernel) (by decide +kernel)
theorem tw426 : (Jvm.Cond.instanceMethod ({ cls := "TurningCoins", name := "sums", desc := "(I)I" } : Jvm.MethodName)) ∈ tG := tG_t (i := 426) (by decide +kernel) (by decide +kernel)
theorem tw427 : (Jvm.Cond.selects "TurningCoins" ({ cls := "TurningCoins", name := "sums", desc := "(I)I" } : Jvm.MethodName) ({ cls := "TurningCoins", name := "sums", desc := "(I)I" } : Jvm.MethodName)) ∈ tG := tG_t (i := 427) (by decide +kernel) (by decide +kernel)
theorem k_RL_56 (rm : Room) : g_kV RL 56 yX6_sums (eX6_sums rm) 1 := ⟨tw425, tw426, tw427, ⟨tw1, tw428, by decide +kernel, by decide +kernel, by decide +kernel⟩⟩
theorem tw432 : (Jvm.Cond.code ({ cls := "TurningCoins$Reach", name := "reachedCount", desc := "()I" } : Jvm.MethodName) prog_4_method_4_code (3 : Nat) (Option.some Jvm.ClassFile.FieldType.int)) ∈ tG := tG_t (i := 432) (by decide +kernel) (by decide +kernel)
theorem tw429 : (Jvm.Cond.methodLink "TurningCoins" (162 : Nat) ({ cls := "TurningCoins$Reach", name := "reachedCount", desc := "()I" } : Jvm.MethodName)) ∈ tG := tG_t (i := 429) (by decide +kernel) (by decide +kernel)
theorem tw430 : (Jvm.Cond.instanceMethod ({ cls := "TurningCoins$Reach", name := "reachedCount", desc := "()I" } : Jvm.MethodName)) ∈ tG := tG_t (i := 430) (by decide +kernel) (by decide +kernel)
theorem tw431 : (Jvm.Cond.selects "TurningCoins$Reach" ({ cls := "TurningCoins$Reach", name := "reachedCount", desc := "()I" } : Jvm.MethodName) ({ cls := "TurningCoins$Reach", name := "reachedCount", desc := "()I" } : Jvm.MethodName)) ∈ tG := tG_t (i := 431) (by decide +kernel) (by decide +kernel)
theorem k_RX6_162 (rm : Room) : g_kV RX6 162 yX2_reachedCount (eX2_reachedCount rm) 0 := ⟨tw429, tw430, tw431, ⟨tw6, tw432, by decide +kernel, by decide +kernel, by decide +kernel⟩⟩
theorem tw11 : (Jvm.Cond.initialized "java/lang/Long") ∈ tG := tG_t (i := 11) (by decide +kernel) (by decide +kernel)
theorem tw435 : (Jvm.Cond.code ({ cls := "java/lang/Long", name := "bitCount", desc := "(J)I" } : Jvm.MethodName) prog_11_method_50_code (2 : Nat) (Option.some Jvm.ClassFile.FieldType.int)) ∈ tG := tG_t (i := 435) (by decide +kernel) (by decide +kernel)
theorem tw433 : (Jvm.Cond.methodLink "TurningCoins$Reach" (73 : Nat) ({ cls := "java/lang/Long", name := "bitCount", desc := "(J)I" } : Jvm.MethodName)) ∈ tG := tG_t (i := 433) (by decide +kernel) (by decide +kernel)
theorem tw434 : (Jvm.Cond.static ({ cls := "java/lang/Long", name := "bitCount", desc := "(J)I" } : Jvm.MethodName)) ∈ tG := tG_t (i := 434) (by decide +kernel) (by decide +kernel)
theorem k_RX2_73 (rm : Room) : g_kS RX2 73 yJ13_bitCount_95d88 (eJ13_bitCount_95d88 rm) 1 := ⟨tw433, tw434, ⟨tw11, tw435, by decide +kernel, by decide +kernel, by decide +kernel⟩⟩
theorem tw442 : (Jvm.Cond.code ({ cls := "TurningCoins", name := "cannot", desc := "(I)I" } : Jvm.MethodName) prog_1_method_13_code (2 : Nat) (Option.some Jvm.ClassFile.FieldType.int)) ∈ tG := tG_t (i := 442) (by decide +kernel) (by decide +kernel)
theorem tw439 : (Jvm.Cond.methodLink "TurningCoinsLaw" (60 : Nat) ({ cls := "TurningCoins", name := "cannot", desc := "(I)I" } : Jvm.MethodName)) ∈ tG := tG_t (i := 439) (by decide +kernel) (by decide +kernel)
theorem tw440 : (Jvm.Cond.instanceMethod ({ cls := "TurningCoins", name := "cannot", desc := "(I)I" } : Jvm.MethodName)) ∈ tG := tG_t (i := 440) (by decide +kernel) (by decide +kernel)
theorem tw441 : (Jvm.Cond.selects "TurningCoins" ({ cls := "TurningCoins", name := "cannot", desc := "(I)I" } : Jvm.MethodName) ({ cls := "TurningCoins", name := "cannot", desc := "(I)I" } : Jvm.MethodName)) ∈ tG := tG_t (i := 441) (by decide +kernel) (by decide +kernel)
theorem k_RL_60 (rm : Room) : g_kV RL 60 yX6_cannot (eX6_cannot rm) 1 := ⟨tw439, tw440, tw441, ⟨tw1, tw442, by decide +kernel, by decide +kernel, by decide +kernel⟩⟩
theorem tw446 : (Jvm.Cond.code ({ cls := "TurningCoins$Reach", name := "firstUnreached", desc := "(I)I" } : Jvm.MethodName) prog_4_method_5_code (3 : Nat) (Option.some Jvm.ClassFile.FieldType.int)) ∈ tG := tG_t (i := 446) (by decide +kernel) (by decide +kernel)
theorem tw443 : (Jvm.Cond.methodLink "TurningCoins" (165 : Nat) ({ cls := "TurningCoins$Reach", name := "firstUnreached", desc := "(I)I" } : Jvm.MethodName)) ∈ tG := tG_t (i := 443) (by decide +kernel) (by decide +kernel)
theorem tw444 : (Jvm.Cond.instanceMethod ({ cls := "TurningCoins$Reach", name := "firstUnreached", desc := "(I)I" } : Jvm.MethodName)) ∈ tG := tG_t (i := 444) (by decide +kernel) (by decide +kernel)
theorem tw445 : (Jvm.Cond.selects "TurningCoins$Reach" ({ cls := "TurningCoins$Reach", name := "firstUnreached", desc := "(I)I" } : Jvm.MethodName) ({ cls := "TurningCoins$Reach", name := "firstUnreached", desc := "(I)I" } : Jvm.MethodName)) ∈ tG := tG_t (i := 445) (by decide +kernel) (by decide +kernel)
theorem k_RX6_165 (rm : Room) : g_kV RX6 165 yX2_firstUnreached (eX2_firstUnreached rm) 1 := ⟨tw443, tw444, tw445, ⟨tw6, tw446, by decide +kernel, by decide +kernel, by decide +kernel⟩⟩
theorem tw447 : (Jvm.Cond.methodLink "TurningCoins$Reach" (79 : Nat) ({ cls := "TurningCoins$Reach", name := "isReached", desc := "(I)Z" } : Jvm.MethodName)) ∈ tG := tG_t (i := 447) (by decide +kernel) (by decide +kernel)
theorem k_RX2_79 (rm : Room) : g_kV RX2 79 yX2_isReached (eX2_isReached rm) 1 := ⟨tw447, tw406, tw407, ⟨tw6, tw408, by decide +kernel, by decide +kernel, by decide +kernel⟩⟩
theorem tw451 : (Jvm.Cond.code ({ cls := "TurningCoins", name := "cost", desc := "(III)I" } : Jvm.MethodName) prog_1_method_14_code (5 : Nat) (Option.some Jvm.ClassFile.FieldType.int)) ∈ tG := tG_t (i := 451) (by decide +kernel) (by decide +kernel)
theorem tw448 : (Jvm.Cond.methodLink "TurningCoinsLaw" (64 : Nat) ({ cls := "TurningCoins", name := "cost", desc := "(III)I" } : Jvm.MethodName)) ∈ tG := tG_t (i := 448) (by decide +kernel) (by decide +kernel)
theorem tw449 : (Jvm.Cond.instanceMethod ({ cls := "TurningCoins", name := "cost", desc := "(III)I" } : Jvm.MethodName)) ∈ tG := tG_t (i := 449) (by decide +kernel) (by decide +kernel)
theorem tw450 : (Jvm.Cond.selects "TurningCoins" ({ cls := "TurningCoins", name := "cost", desc := "(III)I" } : Jvm.MethodName) ({ cls := "TurningCoins", name := "cost", desc := "(III)I" } : Jvm.MethodName)) ∈ tG := tG_t (i := 450) (by decide +kernel) (by decide +kernel)
theorem k_RL_64 (rm : Room) : g_kV RL 64 yX6_cost (eX6_cost rm) 3 := ⟨tw448, tw449, tw450, ⟨tw1, tw451, by decide +kernel, by decide +kernel, by decide +kernel⟩⟩
theorem tw455 : (Jvm.Cond.code ({ cls := "TurningCoins", name := "seekPayment", desc := "(III)I" } : Jvm.MethodName) prog_1_method_53_code (4 : Nat) (Option.some Jvm.ClassFile.FieldType.int)) ∈ tG := tG_t (i := 455) (by decide +kernel) (by decide +kernel)
theorem tw452 : (Jvm.Cond.methodLink "TurningCoins" (168 : Nat) ({ cls := "TurningCoins", name := "seekPayment", desc := "(III)I" } : Jvm.MethodName)) ∈ tG := tG_t (i := 452) (by decide +kernel) (by decide +kernel)
theorem tw454 : (Jvm.Cond.instanceMethod ({ cls := "TurningCoins", name := "seekPayment", desc := "(III)I" } : Jvm.MethodName)) ∈ tG := tG_t (i := 454) (by decide +kernel) (by decide +kernel)
theorem sel_X6_seekPayment : Cond.selects RX6 yX6_seekPayment yX6_seekPayment ∈ tG := tG_s (q := (yX6_seekPayment, 11)) (i := 7) (by decide +kernel) (by decide +kernel)
theorem k_RX6_168 (rm : Room) : g_kV RX6 168 yX6_seekPayment (eX6_seekPayment rm) 3 := ⟨tw452, tw454, sel_X6_seekPayment, ⟨tw1, tw455, by decide +kernel, by decide +kernel, by decide +kernel⟩⟩
theorem tw459 : (Jvm.Cond.code ({ cls := "TurningCoins$Trades", name := "findPayment", desc := "(LTurningCoins$Land;III)Z" } : Jvm.MethodName) prog_7_method_5_code (11 : Nat) (Option.some Jvm.ClassFile.FieldType.boolean)) ∈ tG := tG_t (i := 459) (by decide +kernel) (by decide +kernel)
theorem tw456 : (Jvm.Cond.methodLink "TurningCoins" (294 : Nat) ({ cls := "TurningCoins$Trades", name := "findPayment", desc := "(LTurningCoins$Land;III)Z" } : Jvm.MethodName)) ∈ tG := tG_t (i := 456) (by decide +kernel) (by decide +kernel)
theorem tw457 : (Jvm.Cond.instanceMethod ({ cls := "TurningCoins$Trades", name := "findPayment", desc := "(LTurningCoins$Land;III)Z" } : Jvm.MethodName)) ∈ tG := tG_t (i := 457) (by decide +kernel) (by decide +kernel)
theorem tw458 : (Jvm.Cond.selects "TurningCoins$Trades" ({ cls := "TurningCoins$Trades", name := "findPayment", desc := "(LTurningCoins$Land;III)Z" } : Jvm.MethodName) ({ cls := "TurningCoins$Trades", name := "findPayment", desc := "(LTurningCoins$Land;III)Z" } : Jvm.MethodName)) ∈ tG := tG_t (i := 458) (by decide +kernel) (by decide +kernel)
theorem k_RX6_294 (rm : Room) : g_kV RX6 294 yX5_findPayment (eX5_findPayment rm) 4 := ⟨tw456, tw457, tw458, ⟨tw7, tw459, by decide +kernel, by decide +kernel, by decide +kernel⟩⟩
theorem tw463 : (Jvm.Cond.code ({ cls := "TurningCoins$Trades", name := "weigh", desc := "(LTurningCoins$Land;II)V" } : Jvm.MethodName) prog_7_method_10_code (8 : Nat) (Option.none : Option Jvm.ClassFile.FieldType)) ∈ tG := tG_t (i := 463) (by decide +kernel) (by decide +kernel)
theorem tw460 : (Jvm.Cond.methodLink "TurningCoins$Trades" (66 : Nat) ({ cls := "TurningCoins$Trades", name := "weigh", desc := "(LTurningCoins$Land;II)V" } : Jvm.MethodName)) ∈ tG := tG_t (i := 460) (by decide +kernel) (by decide +kernel)
theorem tw462 : (Jvm.Cond.instanceMethod ({ cls := "TurningCoins$Trades", name := "weigh", desc := "(LTurningCoins$Land;II)V" } : Jvm.MethodName)) ∈ tG := tG_t (i := 462) (by decide +kernel) (by decide +kernel)
theorem sel_X5_weigh : Cond.selects RX5 yX5_weigh yX5_weigh ∈ tG := tG_s (q := (yX5_weigh, 9)) (i := 8) (by decide +kernel) (by decide +kernel)
theorem k_RX5_66 (rm : Room) : g_kV RX5 66 yX5_weigh (eX5_weigh rm) 3 := ⟨tw460, tw462, sel_X5_weigh, ⟨tw7, tw463, by decide +kernel, by decide +kernel, by decide +kernel⟩⟩
theorem tw464 : (Jvm.Cond.methodLink "TurningCoins$Trades" (111 : Nat) ({ cls := "TurningCoins$Coin", name := "worthPaidTo", desc := "(I)I" } : Jvm.MethodName)) ∈ tG := tG_t (i := 464) (by decide +kernel) (by decide +kernel)
theorem k_RX5_111 (rm : Room) : g_kV RX5 111 yX0_worthPaidTo (eX0_worthPaidTo rm) 1 := ⟨tw464, tw348, tw349, ⟨tw3, tw350, by decide +kernel, by decide +kernel, by decide +kernel⟩⟩
theorem tw465 : (Jvm.Cond.methodLink "TurningCoins$Trades" (81 : Nat) ({ cls := "TurningCoins$Land", name := "coinsIn", desc := "(I)I" } : Jvm.MethodName)) ∈ tG := tG_t (i := 465) (by decide +kernel) (by decide +kernel)
theorem k_RX5_81 (rm : Room) : g_kV RX5 81 yX1_coinsIn (eX1_coinsIn rm) 1 := ⟨tw465, tw328, tw329, ⟨tw2, tw330, by decide +kernel, by decide +kernel, by decide +kernel⟩⟩
theorem tw469 : (Jvm.Cond.code ({ cls := "TurningCoins$Trades", name := "totalOf", desc := "([II)I" } : Jvm.MethodName) prog_7_method_12_code (4 : Nat) (Option.some Jvm.ClassFile.FieldType.int)) ∈ tG := tG_t (i := 469) (by decide +kernel) (by decide +kernel)
theorem tw467 : (Jvm.Cond.methodLink "TurningCoins$Trades" (86 : Nat) ({ cls := "TurningCoins$Trades", name := "totalOf", desc := "([II)I" } : Jvm.MethodName)) ∈ tG := tG_t (i := 467) (by decide +kernel) (by decide +kernel)
theorem tw468 : (Jvm.Cond.static ({ cls := "TurningCoins$Trades", name := "totalOf", desc := "([II)I" } : Jvm.MethodName)) ∈ tG := tG_t (i := 468) (by decide +kernel) (by decide +kernel)
theorem k_RX5_86 (rm : Room) : g_kS RX5 86 yX5_totalOf (eX5_totalOf rm) 2 := ⟨tw467, tw468, ⟨tw7, tw469, by decide +kernel, by decide +kernel, by decide +kernel⟩⟩
theorem tw12 : (Jvm.Cond.initialized "java/lang/Integer") ∈ tG := tG_t (i := 12) (by decide +kernel) (by decide +kernel)
theorem tw473 : (Jvm.Cond.code ({ cls := "java/lang/Integer", name := "bitCount", desc := "(I)I" } : Jvm.MethodName) prog_10_method_49_code (1 : Nat) (Option.some Jvm.ClassFile.FieldType.int)) ∈ tG := tG_t (i := 473) (by decide +kernel) (by decide +kernel)
theorem tw471 : (Jvm.Cond.methodLink "TurningCoins$Trades" (70 : Nat) ({ cls := "java/lang/Integer", name := "bitCount", desc := "(I)I" } : Jvm.MethodName)) ∈ tG := tG_t (i := 471) (by decide +kernel) (by decide +kernel)
theorem tw472 : (Jvm.Cond.static ({ cls := "java/lang/Integer", name := "bitCount", desc := "(I)I" } : Jvm.MethodName)) ∈ tG := tG_t (i := 472) (by decide +kernel) (by decide +kernel)
theorem k_RX5_70 (rm : Room) : g_kS RX5 70 yJ6_bitCount_0f7a4 (eJ6_bitCount_0f7a4 rm) 1 := ⟨tw471, tw472, ⟨tw12, tw473, by decide +kernel, by decide +kernel, by decide +kernel⟩⟩
theorem tw479 : (Jvm.Cond.code ({ cls := "TurningCoins$Trades", name := "withSets", desc := "(JII)J" } : Jvm.MethodName) prog_7_method_8_code (4 : Nat) (Option.some Jvm.ClassFile.FieldType.long)) ∈ tG := tG_t (i := 479) (by decide +kernel) (by decide +kernel)
theorem tw477 : (Jvm.Cond.methodLink "TurningCoins$Trades" (92 : Nat) ({ cls := "TurningCoins$Trades", name := "withSets", desc := "(JII)J" } : Jvm.MethodName)) ∈ tG := tG_t (i := 477) (by decide +kernel) (by decide +kernel)
theorem tw478 : (Jvm.Cond.static ({ cls := "TurningCoins$Trades", name := "withSets", desc := "(JII)J" } : Jvm.MethodName)) ∈ tG := tG_t (i := 478) (by decide +kernel) (by decide +kernel)
theorem k_RX5_92 (rm : Room) : g_kS RX5 92 yX5_withSets (eX5_withSets rm) 3 := ⟨tw477, tw478, ⟨tw7, tw479, by decide +kernel, by decide +kernel, by decide +kernel⟩⟩
theorem tw483 : (Jvm.Cond.code ({ cls := "java/lang/Math", name := "min", desc := "(JJ)J" } : Jvm.MethodName) prog_12_method_70_code (4 : Nat) (Option.some Jvm.ClassFile.FieldType.long)) ∈ tG := tG_t (i := 483) (by decide +kernel) (by decide +kernel)
theorem tw481 : (Jvm.Cond.methodLink "TurningCoins$Trades" (96 : Nat) ({ cls := "java/lang/Math", name := "min", desc := "(JJ)J" } : Jvm.MethodName)) ∈ tG := tG_t (i := 481) (by decide +kernel) (by decide +kernel)
theorem tw482 : (Jvm.Cond.static ({ cls := "java/lang/Math", name := "min", desc := "(JJ)J" } : Jvm.MethodName)) ∈ tG := tG_t (i := 482) (by decide +kernel) (by decide +kernel)
theorem k_RX5_96 (rm : Room) : g_kS RX5 96 yJ9_min_f86c9 (eJ9_min_f86c9 rm) 2 := ⟨tw481, tw482, ⟨tw10, tw483, by decide +kernel, by decide +kernel, by decide +kernel⟩⟩
theorem tw487 : (Jvm.Cond.code ({ cls := "TurningCoins$Trades", name := "takeSets", desc := "(J)V" } : Jvm.MethodName) prog_7_method_9_code (3 : Nat) (Option.none : Option Jvm.ClassFile.FieldType)) ∈ tG := tG_t (i := 487) (by decide +kernel) (by decide +kernel)
theorem tw484 : (Jvm.Cond.methodLink "TurningCoins$Trades" (99 : Nat) ({ cls := "TurningCoins$Trades", name := "takeSets", desc := "(J)V" } : Jvm.MethodName)) ∈ tG := tG_t (i := 484) (by decide +kernel) (by decide +kernel)
theorem tw486 : (Jvm.Cond.instanceMethod ({ cls := "TurningCoins$Trades", name := "takeSets", desc := "(J)V" } : Jvm.MethodName)) ∈ tG := tG_t (i := 486) (by decide +kernel) (by decide +kernel)
theorem sel_X5_takeSets : Cond.selects RX5 yX5_takeSets yX5_takeSets ∈ tG := tG_s (q := (yX5_takeSets, 9)) (i := 9) (by decide +kernel) (by decide +kernel)
theorem k_RX5_99 (rm : Room) : g_kV RX5 99 yX5_takeSets (eX5_takeSets rm) 1 := ⟨tw484, tw486, sel_X5_takeSets, ⟨tw7, tw487, by decide +kernel, by decide +kernel, by decide +kernel⟩⟩
theorem tw491 : (Jvm.Cond.code ({ cls := "TurningCoins", name := "given", desc := "(III)I" } : Jvm.MethodName) prog_1_method_15_code (5 : Nat) (Option.some Jvm.ClassFile.FieldType.int)) ∈ tG := tG_t (i := 491) (by decide +kernel) (by decide +kernel)
theorem tw488 : (Jvm.Cond.methodLink "TurningCoinsLaw" (68 : Nat) ({ cls := "TurningCoins", name := "given", desc := "(III)I" } : Jvm.MethodName)) ∈ tG := tG_t (i := 488) (by decide +kernel) (by decide +kernel)
theorem tw489 : (Jvm.Cond.instanceMethod ({ cls := "TurningCoins", name := "given", desc := "(III)I" } : Jvm.MethodName)) ∈ tG := tG_t (i := 489) (by decide +kernel) (by decide +kernel)
theorem tw490 : (Jvm.Cond.selects "TurningCoins" ({ cls := "TurningCoins", name := "given", desc := "(III)I" } : Jvm.MethodName) ({ cls := "TurningCoins", name := "given", desc := "(III)I" } : Jvm.MethodName)) ∈ tG := tG_t (i := 490) (by decide +kernel) (by decide +kernel)
theorem k_RL_68 (rm : Room) : g_kV RL 68 yX6_given (eX6_given rm) 3 := ⟨tw488, tw489, tw490, ⟨tw1, tw491, by decide +kernel, by decide +kernel, by decide +kernel⟩⟩
theorem tw495 : (Jvm.Cond.code ({ cls := "TurningCoins", name := "back", desc := "(III)I" } : Jvm.MethodName) prog_1_method_16_code (5 : Nat) (Option.some Jvm.ClassFile.FieldType.int)) ∈ tG := tG_t (i := 495) (by decide +kernel) (by decide +kernel)
theorem tw492 : (Jvm.Cond.methodLink "TurningCoinsLaw" (72 : Nat) ({ cls := "TurningCoins", name := "back", desc := "(III)I" } : Jvm.MethodName)) ∈ tG := tG_t (i := 492) (by decide +kernel) (by decide +kernel)
theorem tw493 : (Jvm.Cond.instanceMethod ({ cls := "TurningCoins", name := "back", desc := "(III)I" } : Jvm.MethodName)) ∈ tG := tG_t (i := 493) (by decide +kernel) (by decide +kernel)
theorem tw494 : (Jvm.Cond.selects "TurningCoins" ({ cls := "TurningCoins", name := "back", desc := "(III)I" } : Jvm.MethodName) ({ cls := "TurningCoins", name := "back", desc := "(III)I" } : Jvm.MethodName)) ∈ tG := tG_t (i := 494) (by decide +kernel) (by decide +kernel)
theorem k_RL_72 (rm : Room) : g_kV RL 72 yX6_back (eX6_back rm) 3 := ⟨tw492, tw493, tw494, ⟨tw1, tw495, by decide +kernel, by decide +kernel, by decide +kernel⟩⟩
theorem tw499 : (Jvm.Cond.code ({ cls := "TurningCoins", name := "buy", desc := "(III)I" } : Jvm.MethodName) prog_1_method_17_code (5 : Nat) (Option.some Jvm.ClassFile.FieldType.int)) ∈ tG := tG_t (i := 499) (by decide +kernel) (by decide +kernel)
theorem tw496 : (Jvm.Cond.methodLink "TurningCoinsLaw" (76 : Nat) ({ cls := "TurningCoins", name := "buy", desc := "(III)I" } : Jvm.MethodName)) ∈ tG := tG_t (i := 496) (by decide +kernel) (by decide +kernel)
theorem tw497 : (Jvm.Cond.instanceMethod ({ cls := "TurningCoins", name := "buy", desc := "(III)I" } : Jvm.MethodName)) ∈ tG := tG_t (i := 497) (by decide +kernel) (by decide +kernel)
theorem tw498 : (Jvm.Cond.selects "TurningCoins" ({ cls := "TurningCoins", name := "buy", desc := "(III)I" } : Jvm.MethodName) ({ cls := "TurningCoins", name := "buy", desc := "(III)I" } : Jvm.MethodName)) ∈ tG := tG_t (i := 498) (by decide +kernel) (by decide +kernel)
theorem k_RL_76 (rm : Room) : g_kV RL 76 yX6_buy (eX6_buy rm) 3 := ⟨tw496, tw497, tw498, ⟨tw1, tw499, by decide +kernel, by decide +kernel, by decide +kernel⟩⟩
theorem tw503 : (Jvm.Cond.code ({ cls := "TurningCoins$Land", name := "exchange", desc := "(IIII)V" } : Jvm.MethodName) prog_3_method_12_code (5 : Nat) (Option.none : Option Jvm.ClassFile.FieldType)) ∈ tG := tG_t (i := 503) (by decide +kernel) (by decide +kernel)
theorem tw500 : (Jvm.Cond.methodLink "TurningCoins" (180 : Nat) ({ cls := "TurningCoins$Land", name := "exchange", desc := "(IIII)V" } : Jvm.MethodName)) ∈ tG := tG_t (i := 500) (by decide +kernel) (by decide +kernel)
theorem tw501 : (Jvm.Cond.instanceMethod ({ cls := "TurningCoins$Land", name := "exchange", desc := "(IIII)V" } : Jvm.MethodName)) ∈ tG := tG_t (i := 501) (by decide +kernel) (by decide +kernel)
theorem tw502 : (Jvm.Cond.selects "TurningCoins$Land" ({ cls := "TurningCoins$Land", name := "exchange", desc := "(IIII)V" } : Jvm.MethodName) ({ cls := "TurningCoins$Land", name := "exchange", desc := "(IIII)V" } : Jvm.MethodName)) ∈ tG := tG_t (i := 502) (by decide +kernel) (by decide +kernel)
theorem k_RX6_180 (rm : Room) : g_kV RX6 180 yX1_exchange (eX1_exchange rm) 4 := ⟨tw500, tw501, tw502, ⟨tw2, tw503, by decide +kernel, by decide +kernel, by decide +kernel⟩⟩
theorem tw504 : (Jvm.Cond.methodLink "TurningCoins$Land" (85 : Nat) ({ cls := "TurningCoins$Land", name := "paySet", desc := "(II)V" } : Jvm.MethodName)) ∈ tG := tG_t (i := 504) (by decide +kernel) (by decide +kernel)
theorem k_RX1_85 (rm : Room) : g_kV RX1 85 yX1_paySet (eX1_paySet rm) 2 := ⟨tw504, tw372, tw373, ⟨tw2, tw374, by decide +kernel, by decide +kernel, by decide +kernel⟩⟩
theorem tw508 : (Jvm.Cond.code ({ cls := "TurningCoins", name := "fewest", desc := "(III)I" } : Jvm.MethodName) prog_1_method_18_code (5 : Nat) (Option.some Jvm.ClassFile.FieldType.int)) ∈ tG := tG_t (i := 508) (by decide +kernel) (by decide +kernel)
theorem tw505 : (Jvm.Cond.methodLink "TurningCoinsLaw" (80 : Nat) ({ cls := "TurningCoins", name := "fewest", desc := "(III)I" } : Jvm.MethodName)) ∈ tG := tG_t (i := 505) (by decide +kernel) (by decide +kernel)
theorem tw506 : (Jvm.Cond.instanceMethod ({ cls := "TurningCoins", name := "fewest", desc := "(III)I" } : Jvm.MethodName)) ∈ tG := tG_t (i := 506) (by decide +kernel) (by decide +kernel)
theorem tw507 : (Jvm.Cond.selects "TurningCoins" ({ cls := "TurningCoins", name := "fewest", desc := "(III)I" } : Jvm.MethodName) ({ cls := "TurningCoins", name := "fewest", desc := "(III)I" } : Jvm.MethodName)) ∈ tG := tG_t (i := 507) (by decide +kernel) (by decide +kernel)
theorem k_RL_80 (rm : Room) : g_kV RL 80 yX6_fewest (eX6_fewest rm) 3 := ⟨tw505, tw506, tw507, ⟨tw1, tw508, by decide +kernel, by decide +kernel, by decide +kernel⟩⟩
theorem tw512 : (Jvm.Cond.code ({ cls := "TurningCoins$Trades", name := "fewestCoins", desc := "(LTurningCoins$Land;III)I" } : Jvm.MethodName) prog_7_method_4_code (7 : Nat) (Option.some Jvm.ClassFile.FieldType.int)) ∈ tG := tG_t (i := 512) (by decide +kernel) (by decide +kernel)
theorem tw509 : (Jvm.Cond.methodLink "TurningCoins" (184 : Nat) ({ cls := "TurningCoins$Trades", name := "fewestCoins", desc := "(LTurningCoins$Land;III)I" } : Jvm.MethodName)) ∈ tG := tG_t (i := 509) (by decide +kernel) (by decide +kernel)
theorem tw510 : (Jvm.Cond.instanceMethod ({ cls := "TurningCoins$Trades", name := "fewestCoins", desc := "(LTurningCoins$Land;III)I" } : Jvm.MethodName)) ∈ tG := tG_t (i := 510) (by decide +kernel) (by decide +kernel)
theorem tw511 : (Jvm.Cond.selects "TurningCoins$Trades" ({ cls := "TurningCoins$Trades", name := "fewestCoins", desc := "(LTurningCoins$Land;III)I" } : Jvm.MethodName) ({ cls := "TurningCoins$Trades", name := "fewestCoins", desc := "(LTurningCoins$Land;III)I" } : Jvm.MethodName)) ∈ tG := tG_t (i := 511) (by decide +kernel) (by decide +kernel)
theorem k_RX6_184 (rm : Room) : g_kV RX6 184 yX5_fewestCoins (eX5_fewestCoins rm) 4 := ⟨tw509, tw510, tw511, ⟨tw7, tw512, by decide +kernel, by decide +kernel, by decide +kernel⟩⟩
theorem tw515 : (Jvm.Cond.code ({ cls := "java/lang/Math", name := "min", desc := "(II)I" } : Jvm.MethodName) prog_12_method_69_code (2 : Nat) (Option.some Jvm.ClassFile.FieldType.int)) ∈ tG := tG_t (i := 515) (by decide +kernel) (by decide +kernel)
theorem tw513 : (Jvm.Cond.methodLink "TurningCoins$Trades" (75 : Nat) ({ cls := "java/lang/Math", name := "min", desc := "(II)I" } : Jvm.MethodName)) ∈ tG := tG_t (i := 513) (by decide +kernel) (by decide +kernel)
theorem tw514 : (Jvm.Cond.static ({ cls := "java/lang/Math", name := "min", desc := "(II)I" } : Jvm.MethodName)) ∈ tG := tG_t (i := 514) (by decide +kernel) (by decide +kernel)
theorem k_RX5_75 (rm : Room) : g_kS RX5 75 yJ9_min_7cf53 (eJ9_min_7cf53 rm) 2 := ⟨tw513, tw514, ⟨tw10, tw515, by decide +kernel, by decide +kernel, by decide +kernel⟩⟩
theorem tw519 : (Jvm.Cond.code ({ cls := "TurningCoins", name := "dearth", desc := "(II)I" } : Jvm.MethodName) prog_1_method_19_code (6 : Nat) (Option.some Jvm.ClassFile.FieldType.int)) ∈ tG := tG_t (i := 519) (by decide +kernel) (by decide +kernel)
theorem tw516 : (Jvm.Cond.methodLink "TurningCoinsLaw" (84 : Nat) ({ cls := "TurningCoins", name := "dearth", desc := "(II)I" } : Jvm.MethodName)) ∈ tG := tG_t (i := 516) (by decide +kernel) (by decide +kernel)
theorem tw517 : (Jvm.Cond.instanceMethod ({ cls := "TurningCoins", name := "dearth", desc := "(II)I" } : Jvm.MethodName)) ∈ tG := tG_t (i := 517) (by decide +kernel) (by decide +kernel)
theorem tw518 : (Jvm.Cond.selects "TurningCoins" ({ cls := "TurningCoins", name := "dearth", desc := "(II)I" } : Jvm.MethodName) ({ cls := "TurningCoins", name := "dearth", desc := "(II)I" } : Jvm.MethodName)) ∈ tG := tG_t (i := 518) (by decide +kernel) (by decide +kernel)
theorem k_RL_84 (rm : Room) : g_kV RL 84 yX6_dearth (eX6_dearth rm) 2 := ⟨tw516, tw517, tw518, ⟨tw1, tw519, by decide +kernel, by decide +kernel, by decide +kernel⟩⟩
theorem tw523 : (Jvm.Cond.code ({ cls := "TurningCoins", name := "gain", desc := "(II)I" } : Jvm.MethodName) prog_1_method_20_code (4 : Nat) (Option.some Jvm.ClassFile.FieldType.int)) ∈ tG := tG_t (i := 523) (by decide +kernel) (by decide +kernel)
theorem tw520 : (Jvm.Cond.methodLink "TurningCoinsLaw" (88 : Nat) ({ cls := "TurningCoins", name := "gain", desc := "(II)I" } : Jvm.MethodName)) ∈ tG := tG_t (i := 520) (by decide +kernel) (by decide +kernel)
theorem tw521 : (Jvm.Cond.instanceMethod ({ cls := "TurningCoins", name := "gain", desc := "(II)I" } : Jvm.MethodName)) ∈ tG := tG_t (i := 521) (by decide +kernel) (by decide +kernel)
theorem tw522 : (Jvm.Cond.selects "TurningCoins" ({ cls := "TurningCoins", name := "gain", desc := "(II)I" } : Jvm.MethodName) ({ cls := "TurningCoins", name := "gain", desc := "(II)I" } : Jvm.MethodName)) ∈ tG := tG_t (i := 522) (by decide +kernel) (by decide +kernel)
theorem k_RL_88 (rm : Room) : g_kV RL 88 yX6_gain (eX6_gain rm) 2 := ⟨tw520, tw521, tw522, ⟨tw1, tw523, by decide +kernel, by decide +kernel, by decide +kernel⟩⟩
theorem tw527 : (Jvm.Cond.code ({ cls := "TurningCoins", name := "seekChange", desc := "(II)I" } : Jvm.MethodName) prog_1_method_54_code (3 : Nat) (Option.some Jvm.ClassFile.FieldType.int)) ∈ tG := tG_t (i := 527) (by decide +kernel) (by decide +kernel)
theorem tw524 : (Jvm.Cond.methodLink "TurningCoins" (188 : Nat) ({ cls := "TurningCoins", name := "seekChange", desc := "(II)I" } : Jvm.MethodName)) ∈ tG := tG_t (i := 524) (by decide +kernel) (by decide +kernel)
theorem tw526 : (Jvm.Cond.instanceMethod ({ cls := "TurningCoins", name := "seekChange", desc := "(II)I" } : Jvm.MethodName)) ∈ tG := tG_t (i := 526) (by decide +kernel) (by decide +kernel)
theorem sel_X6_seekChange : Cond.selects RX6 yX6_seekChange yX6_seekChange ∈ tG := tG_s (q := (yX6_seekChange, 11)) (i := 10) (by decide +kernel) (by decide +kernel)
theorem k_RX6_188 (rm : Room) : g_kV RX6 188 yX6_seekChange (eX6_seekChange rm) 2 := ⟨tw524, tw526, sel_X6_seekChange, ⟨tw1, tw527, by decide +kernel, by decide +kernel, by decide +kernel⟩⟩
theorem tw531 : (Jvm.Cond.code ({ cls := "TurningCoins$Trades", name := "findChange", desc := "(LTurningCoins$Land;II)Z" } : Jvm.MethodName) prog_7_method_6_code (9 : Nat) (Option.some Jvm.ClassFile.FieldType.boolean)) ∈ tG := tG_t (i := 531) (by decide +kernel) (by decide +kernel)
theorem tw528 : (Jvm.Cond.methodLink "TurningCoins" (195 : Nat) ({ cls := "TurningCoins$Trades", name := "findChange", desc := "(LTurningCoins$Land;II)Z" } : Jvm.MethodName)) ∈ tG := tG_t (i := 528) (by decide +kernel) (by decide +kernel)
theorem tw529 : (Jvm.Cond.instanceMethod ({ cls := "TurningCoins$Trades", name := "findChange", desc := "(LTurningCoins$Land;II)Z" } : Jvm.MethodName)) ∈ tG := tG_t (i := 529) (by decide +kernel) (by decide +kernel)
theorem tw530 : (Jvm.Cond.selects "TurningCoins$Trades" ({ cls := "TurningCoins$Trades", name := "findChange", desc := "(LTurningCoins$Land;II)Z" } : Jvm.MethodName) ({ cls := "TurningCoins$Trades", name := "findChange", desc := "(LTurningCoins$Land;II)Z" } : Jvm.MethodName)) ∈ tG := tG_t (i := 530) (by decide +kernel) (by decide +kernel)
theorem k_RX6_195 (rm : Room) : g_kV RX6 195 yX5_findChange (eX5_findChange rm) 3 := ⟨tw528, tw529, tw530, ⟨tw7, tw531, by decide +kernel, by decide +kernel, by decide +kernel⟩⟩
theorem tw535 : (Jvm.Cond.code ({ cls := "TurningCoins$Trades", name := "gainOf", desc := "(I)I" } : Jvm.MethodName) prog_7_method_7_code (4 : Nat) (Option.some Jvm.ClassFile.FieldType.int)) ∈ tG := tG_t (i := 535) (by decide +kernel) (by decide +kernel)
theorem tw532 : (Jvm.Cond.methodLink "TurningCoins$Trades" (103 : Nat) ({ cls := "TurningCoins$Trades", name := "gainOf", desc := "(I)I" } : Jvm.MethodName)) ∈ tG := tG_t (i := 532) (by decide +kernel) (by decide +kernel)
theorem tw534 : (Jvm.Cond.instanceMethod ({ cls := "TurningCoins$Trades", name := "gainOf", desc := "(I)I" } : Jvm.MethodName)) ∈ tG := tG_t (i := 534) (by decide +kernel) (by decide +kernel)
theorem sel_X5_gainOf : Cond.selects RX5 yX5_gainOf yX5_gainOf ∈ tG := tG_s (q := (yX5_gainOf, 9)) (i := 11) (by decide +kernel) (by decide +kernel)
theorem k_RX5_103 (rm : Room) : g_kV RX5 103 yX5_gainOf (eX5_gainOf rm) 1 := ⟨tw532, tw534, sel_X5_gainOf, ⟨tw7, tw535, by decide +kernel, by decide +kernel, by decide +kernel⟩⟩
theorem tw539 : (Jvm.Cond.code ({ cls := "TurningCoins", name := "lot", desc := "(II)I" } : Jvm.MethodName) prog_1_method_21_code (4 : Nat) (Option.some Jvm.ClassFile.FieldType.int)) ∈ tG := tG_t (i := 539) (by decide +kernel) (by decide +kernel)
theorem tw536 : (Jvm.Cond.methodLink "TurningCoinsLaw" (92 : Nat) ({ cls := "TurningCoins", name := "lot", desc := "(II)I" } : Jvm.MethodName)) ∈ tG := tG_t (i := 536) (by decide +kernel) (by decide +kernel)
theorem tw537 : (Jvm.Cond.instanceMethod ({ cls := "TurningCoins", name := "lot", desc := "(II)I" } : Jvm.MethodName)) ∈ tG := tG_t (i := 537) (by decide +kernel) (by decide +kernel)
theorem tw538 : (Jvm.Cond.selects "TurningCoins" ({ cls := "TurningCoins", name := "lot", desc := "(II)I" } : Jvm.MethodName) ({ cls := "TurningCoins", name := "lot", desc := "(II)I" } : Jvm.MethodName)) ∈ tG := tG_t (i := 538) (by decide +kernel) (by decide +kernel)
theorem k_RL_92 (rm : Room) : g_kV RL 92 yX6_lot (eX6_lot rm) 2 := ⟨tw536, tw537, tw538, ⟨tw1, tw539, by decide +kernel, by decide +kernel, by decide +kernel⟩⟩
theorem tw543 : (Jvm.Cond.code ({ cls := "TurningCoins", name := "deal", desc := "(II)I" } : Jvm.MethodName) prog_1_method_22_code (4 : Nat) (Option.some Jvm.ClassFile.FieldType.int)) ∈ tG := tG_t (i := 543) (by decide +kernel) (by decide +kernel)
theorem tw540 : (Jvm.Cond.methodLink "TurningCoinsLaw" (96 : Nat) ({ cls := "TurningCoins", name := "deal", desc := "(II)I" } : Jvm.MethodName)) ∈ tG := tG_t (i := 540) (by decide +kernel) (by decide +kernel)
theorem tw541 : (Jvm.Cond.instanceMethod ({ cls := "TurningCoins", name := "deal", desc := "(II)I" } : Jvm.MethodName)) ∈ tG := tG_t (i := 541) (by decide +kernel) (by decide +kernel)
theorem tw542 : (Jvm.Cond.selects "TurningCoins" ({ cls := "TurningCoins", name := "deal", desc := "(II)I" } : Jvm.MethodName) ({ cls := "TurningCoins", name := "deal", desc := "(II)I" } : Jvm.MethodName)) ∈ tG := tG_t (i := 542) (by decide +kernel) (by decide +kernel)
theorem k_RL_96 (rm : Room) : g_kV RL 96 yX6_deal (eX6_deal rm) 2 := ⟨tw540, tw541, tw542, ⟨tw1, tw543, by decide +kernel, by decide +kernel, by decide +kernel⟩⟩
theorem tw547 : (Jvm.Cond.code ({ cls := "TurningCoins", name := "deals", desc := "(II)I" } : Jvm.MethodName) prog_1_method_23_code (4 : Nat) (Option.some Jvm.ClassFile.FieldType.int)) ∈ tG := tG_t (i := 547) (by decide +kernel) (by decide +kernel)
theorem tw544 : (Jvm.Cond.methodLink "TurningCoinsLaw" (100 : Nat) ({ cls := "TurningCoins", name := "deals", desc := "(II)I" } : Jvm.MethodName)) ∈ tG := tG_t (i := 544) (by decide +kernel) (by decide +kernel)
theorem tw545 : (Jvm.Cond.instanceMethod ({ cls := "TurningCoins", name := "deals", desc := "(II)I" } : Jvm.MethodName)) ∈ tG := tG_t (i := 545) (by decide +kernel) (by decide +kernel)
theorem tw546 : (Jvm.Cond.selects "TurningCoins" ({ cls := "TurningCoins", name := "deals", desc := "(II)I" } : Jvm.MethodName) ({ cls := "TurningCoins", name := "deals", desc := "(II)I" } : Jvm.MethodName)) ∈ tG := tG_t (i := 546) (by decide +kernel) (by decide +kernel)
theorem k_RL_100 (rm : Room) : g_kV RL 100 yX6_deals (eX6_deals rm) 2 := ⟨tw544, tw545, tw546, ⟨tw1, tw547, by decide +kernel, by decide +kernel, by decide +kernel⟩⟩
theorem tw551 : (Jvm.Cond.code ({ cls := "TurningCoins$Land", name := "become", desc := "(LTurningCoins$Land;)V" } : Jvm.MethodName) prog_3_method_2_code (3 : Nat) (Option.none : Option Jvm.ClassFile.FieldType)) ∈ tG := tG_t (i := 551) (by decide +kernel) (by decide +kernel)
theorem tw548 : (Jvm.Cond.methodLink "TurningCoins" (191 : Nat) ({ cls := "TurningCoins$Land", name := "become", desc := "(LTurningCoins$Land;)V" } : Jvm.MethodName)) ∈ tG := tG_t (i := 548) (by decide +kernel) (by decide +kernel)
theorem tw549 : (Jvm.Cond.instanceMethod ({ cls := "TurningCoins$Land", name := "become", desc := "(LTurningCoins$Land;)V" } : Jvm.MethodName)) ∈ tG := tG_t (i := 549) (by decide +kernel) (by decide +kernel)
theorem tw550 : (Jvm.Cond.selects "TurningCoins$Land" ({ cls := "TurningCoins$Land", name := "become", desc := "(LTurningCoins$Land;)V" } : Jvm.MethodName) ({ cls := "TurningCoins$Land", name := "become", desc := "(LTurningCoins$Land;)V" } : Jvm.MethodName)) ∈ tG := tG_t (i := 550) (by decide +kernel) (by decide +kernel)
theorem k_RX6_191 (rm : Room) : g_kV RX6 191 yX1_become (eX1_become rm) 1 := ⟨tw548, tw549, tw550, ⟨tw2, tw551, by decide +kernel, by decide +kernel, by decide +kernel⟩⟩
theorem tw555 : (Jvm.Cond.code ({ cls := "TurningCoins$Coin", name := "become", desc := "(LTurningCoins$Coin;)V" } : Jvm.MethodName) prog_2_method_2_code (2 : Nat) (Option.none : Option Jvm.ClassFile.FieldType)) ∈ tG := tG_t (i := 555) (by decide +kernel) (by decide +kernel)
theorem tw552 : (Jvm.Cond.methodLink "TurningCoins$Land" (38 : Nat) ({ cls := "TurningCoins$Coin", name := "become", desc := "(LTurningCoins$Coin;)V" } : Jvm.MethodName)) ∈ tG := tG_t (i := 552) (by decide +kernel) (by decide +kernel)
theorem tw553 : (Jvm.Cond.instanceMethod ({ cls := "TurningCoins$Coin", name := "become", desc := "(LTurningCoins$Coin;)V" } : Jvm.MethodName)) ∈ tG := tG_t (i := 553) (by decide +kernel) (by decide +kernel)
theorem tw554 : (Jvm.Cond.selects "TurningCoins$Coin" ({ cls := "TurningCoins$Coin", name := "become", desc := "(LTurningCoins$Coin;)V" } : Jvm.MethodName) ({ cls := "TurningCoins$Coin", name := "become", desc := "(LTurningCoins$Coin;)V" } : Jvm.MethodName)) ∈ tG := tG_t (i := 554) (by decide +kernel) (by decide +kernel)
theorem k_RX1_38 (rm : Room) : g_kV RX1 38 yX0_become (eX0_become rm) 1 := ⟨tw552, tw553, tw554, ⟨tw3, tw555, by decide +kernel, by decide +kernel, by decide +kernel⟩⟩
theorem tw556 : (Jvm.Cond.methodLink "TurningCoins$Land" (42 : Nat) ({ cls := "java/lang/System", name := "arraycopy", desc := "(Ljava/lang/Object;ILjava/lang/Object;II)V" } : Jvm.MethodName)) ∈ tG := tG_t (i := 556) (by decide +kernel) (by decide +kernel)
theorem tw558 : (Jvm.Cond.native ({ cls := "java/lang/System", name := "arraycopy", desc := "(Ljava/lang/Object;ILjava/lang/Object;II)V" } : Jvm.MethodName)) ∈ tG := tG_t (i := 558) (by decide +kernel) (by decide +kernel)
theorem tw557 : (Jvm.Cond.static ({ cls := "java/lang/System", name := "arraycopy", desc := "(Ljava/lang/Object;ILjava/lang/Object;II)V" } : Jvm.MethodName)) ∈ tG := tG_t (i := 557) (by decide +kernel) (by decide +kernel)
theorem tw13 : (Jvm.Cond.initialized "java/lang/System") ∈ tG := tG_t (i := 13) (by decide +kernel) (by decide +kernel)
theorem ka_RX1_42 : Cond.methodLink RX1 42 arraycopyName ∈ tG ∧ Cond.native arraycopyName ∈ tG ∧ Cond.static arraycopyName ∈ tG ∧ Cond.initialized "java/lang/System" ∈ tG := ⟨tw556, tw558, tw557, tw13⟩
theorem tw562 : (Jvm.Cond.code ({ cls := "TurningCoins", name := "partner", desc := "(I)I" } : Jvm.MethodName) prog_1_method_24_code (5 : Nat) (Option.some Jvm.ClassFile.FieldType.int)) ∈ tG := tG_t (i := 562) (by decide +kernel) (by decide +kernel)
theorem tw559 : (Jvm.Cond.methodLink "TurningCoinsLaw" (104 : Nat) ({ cls := "TurningCoins", name := "partner", desc := "(I)I" } : Jvm.MethodName)) ∈ tG := tG_t (i := 559) (by decide +kernel) (by decide +kernel)
theorem tw560 : (Jvm.Cond.instanceMethod ({ cls := "TurningCoins", name := "partner", desc := "(I)I" } : Jvm.MethodName)) ∈ tG := tG_t (i := 560) (by decide +kernel) (by decide +kernel)
theorem tw561 : (Jvm.Cond.selects "TurningCoins" ({ cls := "TurningCoins", name := "partner", desc := "(I)I" } : Jvm.MethodName) ({ cls := "TurningCoins", name := "partner", desc := "(I)I" } : Jvm.MethodName)) ∈ tG := tG_t (i := 561) (by decide +kernel) (by decide +kernel)
theorem k_RL_104 (rm : Room) : g_kV RL 104 yX6_partner (eX6_partner rm) 1 := ⟨tw559, tw560, tw561, ⟨tw1, tw562, by decide +kernel, by decide +kernel, by decide +kernel⟩⟩
theorem tw566 : (Jvm.Cond.code ({ cls := "TurningCoins", name := "round", desc := "(II)I" } : Jvm.MethodName) prog_1_method_25_code (7 : Nat) (Option.some Jvm.ClassFile.FieldType.int)) ∈ tG := tG_t (i := 566) (by decide +kernel) (by decide +kernel)
theorem tw563 : (Jvm.Cond.methodLink "TurningCoinsLaw" (108 : Nat) ({ cls := "TurningCoins", name := "round", desc := "(II)I" } : Jvm.MethodName)) ∈ tG := tG_t (i := 563) (by decide +kernel) (by decide +kernel)
theorem tw564 : (Jvm.Cond.instanceMethod ({ cls := "TurningCoins", name := "round", desc := "(II)I" } : Jvm.MethodName)) ∈ tG := tG_t (i := 564) (by decide +kernel) (by decide +kernel)
theorem tw565 : (Jvm.Cond.selects "TurningCoins" ({ cls := "TurningCoins", name := "round", desc := "(II)I" } : Jvm.MethodName) ({ cls := "TurningCoins", name := "round", desc := "(II)I" } : Jvm.MethodName)) ∈ tG := tG_t (i := 565) (by decide +kernel) (by decide +kernel)
theorem k_RL_108 (rm : Room) : g_kV RL 108 yX6_round (eX6_round rm) 2 := ⟨tw563, tw564, tw565, ⟨tw1, tw566, by decide +kernel, by decide +kernel, by decide +kernel⟩⟩
theorem tw567 : (Jvm.Cond.methodLink "TurningCoins" (199 : Nat) ({ cls := "TurningCoins$Coin", name := "payTo", desc := "(I)V" } : Jvm.MethodName)) ∈ tG := tG_t (i := 567) (by decide +kernel) (by decide +kernel)
theorem k_RX6_199 (rm : Room) : g_kV RX6 199 yX0_payTo (eX0_payTo rm) 1 := ⟨tw567, tw376, tw377, ⟨tw3, tw378, by decide +kernel, by decide +kernel, by decide +kernel⟩⟩
theorem tw571 : (Jvm.Cond.code ({ cls := "TurningCoins", name := "flip", desc := "(II)I" } : Jvm.MethodName) prog_1_method_26_code (4 : Nat) (Option.some Jvm.ClassFile.FieldType.int)) ∈ tG := tG_t (i := 571) (by decide +kernel) (by decide +kernel)
theorem tw568 : (Jvm.Cond.methodLink "TurningCoinsLaw" (112 : Nat) ({ cls := "TurningCoins", name := "flip", desc := "(II)I" } : Jvm.MethodName)) ∈ tG := tG_t (i := 568) (by decide +kernel) (by decide +kernel)
theorem tw569 : (Jvm.Cond.instanceMethod ({ cls := "TurningCoins", name := "flip", desc := "(II)I" } : Jvm.MethodName)) ∈ tG := tG_t (i := 569) (by decide +kernel) (by decide +kernel)
theorem tw570 : (Jvm.Cond.selects "TurningCoins" ({ cls := "TurningCoins", name := "flip", desc := "(II)I" } : Jvm.MethodName) ({ cls := "TurningCoins", name := "flip", desc := "(II)I" } : Jvm.MethodName)) ∈ tG := tG_t (i := 570) (by decide +kernel) (by decide +kernel)
theorem k_RL_112 (rm : Room) : g_kV RL 112 yX6_flip (eX6_flip rm) 2 := ⟨tw568, tw569, tw570, ⟨tw1, tw571, by decide +kernel, by decide +kernel, by decide +kernel⟩⟩
theorem tw575 : (Jvm.Cond.code ({ cls := "TurningCoins$Reach", name := "wantNothing", desc := "()V" } : Jvm.MethodName) prog_4_method_6_code (1 : Nat) (Option.none : Option Jvm.ClassFile.FieldType)) ∈ tG := tG_t (i := 575) (by decide +kernel) (by decide +kernel)
theorem tw572 : (Jvm.Cond.methodLink "TurningCoins" (203 : Nat) ({ cls := "TurningCoins$Reach", name := "wantNothing", desc := "()V" } : Jvm.MethodName)) ∈ tG := tG_t (i := 572) (by decide +kernel) (by decide +kernel)
theorem tw573 : (Jvm.Cond.instanceMethod ({ cls := "TurningCoins$Reach", name := "wantNothing", desc := "()V" } : Jvm.MethodName)) ∈ tG := tG_t (i := 573) (by decide +kernel) (by decide +kernel)
theorem tw574 : (Jvm.Cond.selects "TurningCoins$Reach" ({ cls := "TurningCoins$Reach", name := "wantNothing", desc := "()V" } : Jvm.MethodName) ({ cls := "TurningCoins$Reach", name := "wantNothing", desc := "()V" } : Jvm.MethodName)) ∈ tG := tG_t (i := 574) (by decide +kernel) (by decide +kernel)
theorem k_RX6_203 (rm : Room) : g_kV RX6 203 yX2_wantNothing (eX2_wantNothing rm) 0 := ⟨tw572, tw573, tw574, ⟨tw6, tw575, by decide +kernel, by decide +kernel, by decide +kernel⟩⟩
theorem tw579 : (Jvm.Cond.code ({ cls := "TurningCoins$Reach", name := "want", desc := "(I)V" } : Jvm.MethodName) prog_4_method_7_code (2 : Nat) (Option.none : Option Jvm.ClassFile.FieldType)) ∈ tG := tG_t (i := 579) (by decide +kernel) (by decide +kernel)
theorem tw576 : (Jvm.Cond.methodLink "TurningCoins" (206 : Nat) ({ cls := "TurningCoins$Reach", name := "want", desc := "(I)V" } : Jvm.MethodName)) ∈ tG := tG_t (i := 576) (by decide +kernel) (by decide +kernel)
theorem tw577 : (Jvm.Cond.instanceMethod ({ cls := "TurningCoins$Reach", name := "want", desc := "(I)V" } : Jvm.MethodName)) ∈ tG := tG_t (i := 577) (by decide +kernel) (by decide +kernel)
theorem tw578 : (Jvm.Cond.selects "TurningCoins$Reach" ({ cls := "TurningCoins$Reach", name := "want", desc := "(I)V" } : Jvm.MethodName) ({ cls := "TurningCoins$Reach", name := "want", desc := "(I)V" } : Jvm.MethodName)) ∈ tG := tG_t (i := 578) (by decide +kernel) (by decide +kernel)
theorem k_RX6_206 (rm : Room) : g_kV RX6 206 yX2_want (eX2_want rm) 1 := ⟨tw576, tw577, tw578, ⟨tw6, tw579, by decide +kernel, by decide +kernel, by decide +kernel⟩⟩
theorem tw580 : (Jvm.Cond.methodLink "TurningCoins$Reach" (89 : Nat) ({ cls := "java/lang/Math", name := "max", desc := "(II)I" } : Jvm.MethodName)) ∈ tG := tG_t (i := 580) (by decide +kernel) (by decide +kernel)
theorem k_RX2_89 (rm : Room) : g_kS RX2 89 yJ9_max_7cf53 (eJ9_max_7cf53 rm) 2 := ⟨tw580, tw291, ⟨tw10, tw292, by decide +kernel, by decide +kernel, by decide +kernel⟩⟩
theorem tw584 : (Jvm.Cond.code ({ cls := "TurningCoins$Reach", name := "fewestFlips", desc := "(LTurningCoins$Land;I)I" } : Jvm.MethodName) prog_4_method_8_code (4 : Nat) (Option.some Jvm.ClassFile.FieldType.int)) ∈ tG := tG_t (i := 584) (by decide +kernel) (by decide +kernel)
theorem tw581 : (Jvm.Cond.methodLink "TurningCoins" (209 : Nat) ({ cls := "TurningCoins$Reach", name := "fewestFlips", desc := "(LTurningCoins$Land;I)I" } : Jvm.MethodName)) ∈ tG := tG_t (i := 581) (by decide +kernel) (by decide +kernel)
theorem tw582 : (Jvm.Cond.instanceMethod ({ cls := "TurningCoins$Reach", name := "fewestFlips", desc := "(LTurningCoins$Land;I)I" } : Jvm.MethodName)) ∈ tG := tG_t (i := 582) (by decide +kernel) (by decide +kernel)
theorem tw583 : (Jvm.Cond.selects "TurningCoins$Reach" ({ cls := "TurningCoins$Reach", name := "fewestFlips", desc := "(LTurningCoins$Land;I)I" } : Jvm.MethodName) ({ cls := "TurningCoins$Reach", name := "fewestFlips", desc := "(LTurningCoins$Land;I)I" } : Jvm.MethodName)) ∈ tG := tG_t (i := 583) (by decide +kernel) (by decide +kernel)
theorem k_RX6_209 (rm : Room) : g_kV RX6 209 yX2_fewestFlips (eX2_fewestFlips rm) 2 := ⟨tw581, tw582, tw583, ⟨tw6, tw584, by decide +kernel, by decide +kernel, by decide +kernel⟩⟩
theorem tw588 : (Jvm.Cond.code ({ cls := "TurningCoins$Coin", name := "worthOtherWay", desc := "()I" } : Jvm.MethodName) prog_2_method_5_code (1 : Nat) (Option.some Jvm.ClassFile.FieldType.int)) ∈ tG := tG_t (i := 588) (by decide +kernel) (by decide +kernel)
theorem tw585 : (Jvm.Cond.methodLink "TurningCoins$Reach" (95 : Nat) ({ cls := "TurningCoins$Coin", name := "worthOtherWay", desc := "()I" } : Jvm.MethodName)) ∈ tG := tG_t (i := 585) (by decide +kernel) (by decide +kernel)
theorem tw586 : (Jvm.Cond.instanceMethod ({ cls := "TurningCoins$Coin", name := "worthOtherWay", desc := "()I" } : Jvm.MethodName)) ∈ tG := tG_t (i := 586) (by decide +kernel) (by decide +kernel)
theorem tw587 : (Jvm.Cond.selects "TurningCoins$Coin" ({ cls := "TurningCoins$Coin", name := "worthOtherWay", desc := "()I" } : Jvm.MethodName) ({ cls := "TurningCoins$Coin", name := "worthOtherWay", desc := "()I" } : Jvm.MethodName)) ∈ tG := tG_t (i := 587) (by decide +kernel) (by decide +kernel)
theorem k_RX2_95 (rm : Room) : g_kV RX2 95 yX0_worthOtherWay (eX0_worthOtherWay rm) 0 := ⟨tw585, tw586, tw587, ⟨tw3, tw588, by decide +kernel, by decide +kernel, by decide +kernel⟩⟩
theorem tw591 : (Jvm.Cond.code ({ cls := "TurningCoins$Reach", name := "tryFlips", desc := "(LTurningCoins$Reach;II)V" } : Jvm.MethodName) prog_4_method_9_code (3 : Nat) (Option.none : Option Jvm.ClassFile.FieldType)) ∈ tG := tG_t (i := 591) (by decide +kernel) (by decide +kernel)
theorem tw589 : (Jvm.Cond.methodLink "TurningCoins$Reach" (98 : Nat) ({ cls := "TurningCoins$Reach", name := "tryFlips", desc := "(LTurningCoins$Reach;II)V" } : Jvm.MethodName)) ∈ tG := tG_t (i := 589) (by decide +kernel) (by decide +kernel)
theorem tw590 : (Jvm.Cond.static ({ cls := "TurningCoins$Reach", name := "tryFlips", desc := "(LTurningCoins$Reach;II)V" } : Jvm.MethodName)) ∈ tG := tG_t (i := 590) (by decide +kernel) (by decide +kernel)
theorem k_RX2_98 (rm : Room) : g_kS RX2 98 yX2_tryFlips (eX2_tryFlips rm) 3 := ⟨tw589, tw590, ⟨tw6, tw591, by decide +kernel, by decide +kernel, by decide +kernel⟩⟩
theorem tw595 : (Jvm.Cond.code ({ cls := "TurningCoins$Reach", name := "hasAllWanted", desc := "([J)Z" } : Jvm.MethodName) prog_4_method_10_code (3 : Nat) (Option.some Jvm.ClassFile.FieldType.boolean)) ∈ tG := tG_t (i := 595) (by decide +kernel) (by decide +kernel)
theorem tw592 : (Jvm.Cond.methodLink "TurningCoins$Reach" (102 : Nat) ({ cls := "TurningCoins$Reach", name := "hasAllWanted", desc := "([J)Z" } : Jvm.MethodName)) ∈ tG := tG_t (i := 592) (by decide +kernel) (by decide +kernel)
theorem tw594 : (Jvm.Cond.instanceMethod ({ cls := "TurningCoins$Reach", name := "hasAllWanted", desc := "([J)Z" } : Jvm.MethodName)) ∈ tG := tG_t (i := 594) (by decide +kernel) (by decide +kernel)
theorem sel_X2_hasAllWanted : Cond.selects RX2 yX2_hasAllWanted yX2_hasAllWanted ∈ tG := tG_s (q := (yX2_hasAllWanted, 9)) (i := 12) (by decide +kernel) (by decide +kernel)
theorem k_RX2_102 (rm : Room) : g_kV RX2 102 yX2_hasAllWanted (eX2_hasAllWanted rm) 1 := ⟨tw592, tw594, sel_X2_hasAllWanted, ⟨tw6, tw595, by decide +kernel, by decide +kernel, by decide +kernel⟩⟩
theorem tw600 : (Jvm.Cond.code ({ cls := "TurningCoins", name := "highest", desc := "(I)I" } : Jvm.MethodName) prog_1_method_27_code (5 : Nat) (Option.some Jvm.ClassFile.FieldType.int)) ∈ tG := tG_t (i := 600) (by decide +kernel) (by decide +kernel)
theorem tw597 : (Jvm.Cond.methodLink "TurningCoinsLaw" (116 : Nat) ({ cls := "TurningCoins", name := "highest", desc := "(I)I" } : Jvm.MethodName)) ∈ tG := tG_t (i := 597) (by decide +kernel) (by decide +kernel)
theorem tw598 : (Jvm.Cond.instanceMethod ({ cls := "TurningCoins", name := "highest", desc := "(I)I" } : Jvm.MethodName)) ∈ tG := tG_t (i := 598) (by decide +kernel) (by decide +kernel)
theorem tw599 : (Jvm.Cond.selects "TurningCoins" ({ cls := "TurningCoins", name := "highest", desc := "(I)I" } : Jvm.MethodName) ({ cls := "TurningCoins", name := "highest", desc := "(I)I" } : Jvm.MethodName)) ∈ tG := tG_t (i := 599) (by decide +kernel) (by decide +kernel)
theorem k_RL_116 (rm : Room) : g_kV RL 116 yX6_highest (eX6_highest rm) 1 := ⟨tw597, tw598, tw599, ⟨tw1, tw600, by decide +kernel, by decide +kernel, by decide +kernel⟩⟩
theorem tw601 : (Jvm.Cond.methodLink "TurningCoins" (213 : Nat) ({ cls := "TurningCoins$Coin", name := "worthOtherWay", desc := "()I" } : Jvm.MethodName)) ∈ tG := tG_t (i := 601) (by decide +kernel) (by decide +kernel)
theorem k_RX6_213 (rm : Room) : g_kV RX6 213 yX0_worthOtherWay (eX0_worthOtherWay rm) 0 := ⟨tw601, tw586, tw587, ⟨tw3, tw588, by decide +kernel, by decide +kernel, by decide +kernel⟩⟩
theorem tw602 : (Jvm.Cond.methodLink "TurningCoins" (216 : Nat) ({ cls := "java/lang/Math", name := "max", desc := "(II)I" } : Jvm.MethodName)) ∈ tG := tG_t (i := 602) (by decide +kernel) (by decide +kernel)
theorem k_RX6_216 (rm : Room) : g_kS RX6 216 yJ9_max_7cf53 (eJ9_max_7cf53 rm) 2 := ⟨tw602, tw291, ⟨tw10, tw292, by decide +kernel, by decide +kernel, by decide +kernel⟩⟩
theorem tw606 : (Jvm.Cond.code ({ cls := "TurningCoins", name := "wrong", desc := "()I" } : Jvm.MethodName) prog_1_method_28_code (3 : Nat) (Option.some Jvm.ClassFile.FieldType.int)) ∈ tG := tG_t (i := 606) (by decide +kernel) (by decide +kernel)
theorem tw603 : (Jvm.Cond.methodLink "TurningCoinsLaw" (120 : Nat) ({ cls := "TurningCoins", name := "wrong", desc := "()I" } : Jvm.MethodName)) ∈ tG := tG_t (i := 603) (by decide +kernel) (by decide +kernel)
theorem tw604 : (Jvm.Cond.instanceMethod ({ cls := "TurningCoins", name := "wrong", desc := "()I" } : Jvm.MethodName)) ∈ tG := tG_t (i := 604) (by decide +kernel) (by decide +kernel)
theorem tw605 : (Jvm.Cond.selects "TurningCoins" ({ cls := "TurningCoins", name := "wrong", desc := "()I" } : Jvm.MethodName) ({ cls := "TurningCoins", name := "wrong", desc := "()I" } : Jvm.MethodName)) ∈ tG := tG_t (i := 605) (by decide +kernel) (by decide +kernel)
theorem k_RL_120 (rm : Room) : g_kV RL 120 yX6_wrong (eX6_wrong rm) 0 := ⟨tw603, tw604, tw605, ⟨tw1, tw606, by decide +kernel, by decide +kernel, by decide +kernel⟩⟩
theorem tw610 : (Jvm.Cond.code ({ cls := "TurningCoins", name := "ways", desc := "(II)I" } : Jvm.MethodName) prog_1_method_29_code (3 : Nat) (Option.some Jvm.ClassFile.FieldType.int)) ∈ tG := tG_t (i := 610) (by decide +kernel) (by decide +kernel)
theorem tw607 : (Jvm.Cond.methodLink "TurningCoinsLaw" (125 : Nat) ({ cls := "TurningCoins", name := "ways", desc := "(II)I" } : Jvm.MethodName)) ∈ tG := tG_t (i := 607) (by decide +kernel) (by decide +kernel)
theorem tw608 : (Jvm.Cond.instanceMethod ({ cls := "TurningCoins", name := "ways", desc := "(II)I" } : Jvm.MethodName)) ∈ tG := tG_t (i := 608) (by decide +kernel) (by decide +kernel)
theorem tw609 : (Jvm.Cond.selects "TurningCoins" ({ cls := "TurningCoins", name := "ways", desc := "(II)I" } : Jvm.MethodName) ({ cls := "TurningCoins", name := "ways", desc := "(II)I" } : Jvm.MethodName)) ∈ tG := tG_t (i := 609) (by decide +kernel) (by decide +kernel)
theorem k_RL_125 (rm : Room) : g_kV RL 125 yX6_ways (eX6_ways rm) 2 := ⟨tw607, tw608, tw609, ⟨tw1, tw610, by decide +kernel, by decide +kernel, by decide +kernel⟩⟩
theorem tw614 : (Jvm.Cond.code ({ cls := "TurningCoins$Trades", name := "waysWorth", desc := "(LTurningCoins$Land;II)I" } : Jvm.MethodName) prog_7_method_3_code (7 : Nat) (Option.some Jvm.ClassFile.FieldType.int)) ∈ tG := tG_t (i := 614) (by decide +kernel) (by decide +kernel)
theorem tw611 : (Jvm.Cond.methodLink "TurningCoins" (221 : Nat) ({ cls := "TurningCoins$Trades", name := "waysWorth", desc := "(LTurningCoins$Land;II)I" } : Jvm.MethodName)) ∈ tG := tG_t (i := 611) (by decide +kernel) (by decide +kernel)
theorem tw612 : (Jvm.Cond.instanceMethod ({ cls := "TurningCoins$Trades", name := "waysWorth", desc := "(LTurningCoins$Land;II)I" } : Jvm.MethodName)) ∈ tG := tG_t (i := 612) (by decide +kernel) (by decide +kernel)
theorem tw613 : (Jvm.Cond.selects "TurningCoins$Trades" ({ cls := "TurningCoins$Trades", name := "waysWorth", desc := "(LTurningCoins$Land;II)I" } : Jvm.MethodName) ({ cls := "TurningCoins$Trades", name := "waysWorth", desc := "(LTurningCoins$Land;II)I" } : Jvm.MethodName)) ∈ tG := tG_t (i := 613) (by decide +kernel) (by decide +kernel)
theorem k_RX6_221 (rm : Room) : g_kV RX6 221 yX5_waysWorth (eX5_waysWorth rm) 3 := ⟨tw611, tw612, tw613, ⟨tw7, tw614, by decide +kernel, by decide +kernel, by decide +kernel⟩⟩
theorem tw615 : (Jvm.Cond.methodLink "TurningCoins$Trades" (59 : Nat) ({ cls := "TurningCoins$Coin", name := "worthOtherWay", desc := "()I" } : Jvm.MethodName)) ∈ tG := tG_t (i := 615) (by decide +kernel) (by decide +kernel)
theorem k_RX5_59 (rm : Room) : g_kV RX5 59 yX0_worthOtherWay (eX0_worthOtherWay rm) 0 := ⟨tw615, tw586, tw587, ⟨tw3, tw588, by decide +kernel, by decide +kernel, by decide +kernel⟩⟩
theorem tw616 : (Jvm.Cond.methodLink "TurningCoins$Trades" (62 : Nat) ({ cls := "TurningCoins$Land", name := "worthOf", desc := "(I)I" } : Jvm.MethodName)) ∈ tG := tG_t (i := 616) (by decide +kernel) (by decide +kernel)
theorem k_RX5_62 (rm : Room) : g_kV RX5 62 yX1_worthOf (eX1_worthOf rm) 1 := ⟨tw616, tw332, tw333, ⟨tw2, tw334, by decide +kernel, by decide +kernel, by decide +kernel⟩⟩
theorem tw620 : (Jvm.Cond.code ({ cls := "TurningCoins", name := "kindFor", desc := "(I)I" } : Jvm.MethodName) prog_1_method_30_code (5 : Nat) (Option.some Jvm.ClassFile.FieldType.int)) ∈ tG := tG_t (i := 620) (by decide +kernel) (by decide +kernel)
theorem tw617 : (Jvm.Cond.methodLink "TurningCoinsLaw" (129 : Nat) ({ cls := "TurningCoins", name := "kindFor", desc := "(I)I" } : Jvm.MethodName)) ∈ tG := tG_t (i := 617) (by decide +kernel) (by decide +kernel)
theorem tw618 : (Jvm.Cond.instanceMethod ({ cls := "TurningCoins", name := "kindFor", desc := "(I)I" } : Jvm.MethodName)) ∈ tG := tG_t (i := 618) (by decide +kernel) (by decide +kernel)
theorem tw619 : (Jvm.Cond.selects "TurningCoins" ({ cls := "TurningCoins", name := "kindFor", desc := "(I)I" } : Jvm.MethodName) ({ cls := "TurningCoins", name := "kindFor", desc := "(I)I" } : Jvm.MethodName)) ∈ tG := tG_t (i := 619) (by decide +kernel) (by decide +kernel)
theorem k_RL_129 (rm : Room) : g_kV RL 129 yX6_kindFor (eX6_kindFor rm) 1 := ⟨tw617, tw618, tw619, ⟨tw1, tw620, by decide +kernel, by decide +kernel, by decide +kernel⟩⟩
theorem tw624 : (Jvm.Cond.code ({ cls := "TurningCoins$Coin", name := "worthAs", desc := "(I)I" } : Jvm.MethodName) prog_2_method_6_code (2 : Nat) (Option.some Jvm.ClassFile.FieldType.int)) ∈ tG := tG_t (i := 624) (by decide +kernel) (by decide +kernel)
theorem tw621 : (Jvm.Cond.methodLink "TurningCoins" (224 : Nat) ({ cls := "TurningCoins$Coin", name := "worthAs", desc := "(I)I" } : Jvm.MethodName)) ∈ tG := tG_t (i := 621) (by decide +kernel) (by decide +kernel)
theorem tw622 : (Jvm.Cond.instanceMethod ({ cls := "TurningCoins$Coin", name := "worthAs", desc := "(I)I" } : Jvm.MethodName)) ∈ tG := tG_t (i := 622) (by decide +kernel) (by decide +kernel)
theorem tw623 : (Jvm.Cond.selects "TurningCoins$Coin" ({ cls := "TurningCoins$Coin", name := "worthAs", desc := "(I)I" } : Jvm.MethodName) ({ cls := "TurningCoins$Coin", name := "worthAs", desc := "(I)I" } : Jvm.MethodName)) ∈ tG := tG_t (i := 623) (by decide +kernel) (by decide +kernel)
theorem k_RX6_224 (rm : Room) : g_kV RX6 224 yX0_worthAs (eX0_worthAs rm) 1 := ⟨tw621, tw622, tw623, ⟨tw3, tw624, by decide +kernel, by decide +kernel, by decide +kernel⟩⟩
theorem tw628 : (Jvm.Cond.code ({ cls := "TurningCoins", name := "days", desc := "(I)I" } : Jvm.MethodName) prog_1_method_31_code (2 : Nat) (Option.some Jvm.ClassFile.FieldType.int)) ∈ tG := tG_t (i := 628) (by decide +kernel) (by decide +kernel)
theorem tw625 : (Jvm.Cond.methodLink "TurningCoinsLaw" (133 : Nat) ({ cls := "TurningCoins", name := "days", desc := "(I)I" } : Jvm.MethodName)) ∈ tG := tG_t (i := 625) (by decide +kernel) (by decide +kernel)
theorem tw626 : (Jvm.Cond.instanceMethod ({ cls := "TurningCoins", name := "days", desc := "(I)I" } : Jvm.MethodName)) ∈ tG := tG_t (i := 626) (by decide +kernel) (by decide +kernel)
theorem tw627 : (Jvm.Cond.selects "TurningCoins" ({ cls := "TurningCoins", name := "days", desc := "(I)I" } : Jvm.MethodName) ({ cls := "TurningCoins", name := "days", desc := "(I)I" } : Jvm.MethodName)) ∈ tG := tG_t (i := 627) (by decide +kernel) (by decide +kernel)
theorem k_RL_133 (rm : Room) : g_kV RL 133 yX6_days (eX6_days rm) 1 := ⟨tw625, tw626, tw627, ⟨tw1, tw628, by decide +kernel, by decide +kernel, by decide +kernel⟩⟩
theorem tw632 : (Jvm.Cond.code ({ cls := "TurningCoins$Land", name := "passDays", desc := "(I)I" } : Jvm.MethodName) prog_3_method_16_code (4 : Nat) (Option.some Jvm.ClassFile.FieldType.int)) ∈ tG := tG_t (i := 632) (by decide +kernel) (by decide +kernel)
theorem tw629 : (Jvm.Cond.methodLink "TurningCoins" (230 : Nat) ({ cls := "TurningCoins$Land", name := "passDays", desc := "(I)I" } : Jvm.MethodName)) ∈ tG := tG_t (i := 629) (by decide +kernel) (by decide +kernel)
theorem tw630 : (Jvm.Cond.instanceMethod ({ cls := "TurningCoins$Land", name := "passDays", desc := "(I)I" } : Jvm.MethodName)) ∈ tG := tG_t (i := 630) (by decide +kernel) (by decide +kernel)
theorem tw631 : (Jvm.Cond.selects "TurningCoins$Land" ({ cls := "TurningCoins$Land", name := "passDays", desc := "(I)I" } : Jvm.MethodName) ({ cls := "TurningCoins$Land", name := "passDays", desc := "(I)I" } : Jvm.MethodName)) ∈ tG := tG_t (i := 631) (by decide +kernel) (by decide +kernel)
theorem k_RX6_230 (rm : Room) : g_kV RX6 230 yX1_passDays (eX1_passDays rm) 1 := ⟨tw629, tw630, tw631, ⟨tw2, tw632, by decide +kernel, by decide +kernel, by decide +kernel⟩⟩
theorem tw636 : (Jvm.Cond.code ({ cls := "TurningCoins$Land", name := "turnShips", desc := "()I" } : Jvm.MethodName) prog_3_method_17_code (3 : Nat) (Option.some Jvm.ClassFile.FieldType.int)) ∈ tG := tG_t (i := 636) (by decide +kernel) (by decide +kernel)
theorem tw633 : (Jvm.Cond.methodLink "TurningCoins$Land" (90 : Nat) ({ cls := "TurningCoins$Land", name := "turnShips", desc := "()I" } : Jvm.MethodName)) ∈ tG := tG_t (i := 633) (by decide +kernel) (by decide +kernel)
theorem tw635 : (Jvm.Cond.instanceMethod ({ cls := "TurningCoins$Land", name := "turnShips", desc := "()I" } : Jvm.MethodName)) ∈ tG := tG_t (i := 635) (by decide +kernel) (by decide +kernel)
theorem sel_X1_turnShips : Cond.selects RX1 yX1_turnShips yX1_turnShips ∈ tG := tG_s (q := (yX1_turnShips, 5)) (i := 13) (by decide +kernel) (by decide +kernel)
theorem k_RX1_90 (rm : Room) : g_kV RX1 90 yX1_turnShips (eX1_turnShips rm) 0 := ⟨tw633, tw635, sel_X1_turnShips, ⟨tw2, tw636, by decide +kernel, by decide +kernel, by decide +kernel⟩⟩
theorem tw637 : (Jvm.Cond.methodLink "TurningCoins$Land" (93 : Nat) ({ cls := "TurningCoins$Coin", name := "turnOver", desc := "()V" } : Jvm.MethodName)) ∈ tG := tG_t (i := 637) (by decide +kernel) (by decide +kernel)
theorem k_RX1_93 (rm : Room) : g_kV RX1 93 yX0_turnOver (eX0_turnOver rm) 0 := ⟨tw637, tw309, tw310, ⟨tw3, tw311, by decide +kernel, by decide +kernel, by decide +kernel⟩⟩
theorem tw641 : (Jvm.Cond.code ({ cls := "TurningCoins", name := "ahead", desc := "(II)I" } : Jvm.MethodName) prog_1_method_32_code (3 : Nat) (Option.some Jvm.ClassFile.FieldType.int)) ∈ tG := tG_t (i := 641) (by decide +kernel) (by decide +kernel)
theorem tw638 : (Jvm.Cond.methodLink "TurningCoinsLaw" (137 : Nat) ({ cls := "TurningCoins", name := "ahead", desc := "(II)I" } : Jvm.MethodName)) ∈ tG := tG_t (i := 638) (by decide +kernel) (by decide +kernel)
theorem tw639 : (Jvm.Cond.instanceMethod ({ cls := "TurningCoins", name := "ahead", desc := "(II)I" } : Jvm.MethodName)) ∈ tG := tG_t (i := 639) (by decide +kernel) (by decide +kernel)
theorem tw640 : (Jvm.Cond.selects "TurningCoins" ({ cls := "TurningCoins", name := "ahead", desc := "(II)I" } : Jvm.MethodName) ({ cls := "TurningCoins", name := "ahead", desc := "(II)I" } : Jvm.MethodName)) ∈ tG := tG_t (i := 640) (by decide +kernel) (by decide +kernel)
theorem k_RL_137 (rm : Room) : g_kV RL 137 yX6_ahead (eX6_ahead rm) 2 := ⟨tw638, tw639, tw640, ⟨tw1, tw641, by decide +kernel, by decide +kernel, by decide +kernel⟩⟩
theorem tw645 : (Jvm.Cond.code ({ cls := "TurningCoins", name := "market", desc := "(I)I" } : Jvm.MethodName) prog_1_method_33_code (5 : Nat) (Option.some Jvm.ClassFile.FieldType.int)) ∈ tG := tG_t (i := 645) (by decide +kernel) (by decide +kernel)
theorem tw642 : (Jvm.Cond.methodLink "TurningCoinsLaw" (141 : Nat) ({ cls := "TurningCoins", name := "market", desc := "(I)I" } : Jvm.MethodName)) ∈ tG := tG_t (i := 642) (by decide +kernel) (by decide +kernel)
theorem tw643 : (Jvm.Cond.instanceMethod ({ cls := "TurningCoins", name := "market", desc := "(I)I" } : Jvm.MethodName)) ∈ tG := tG_t (i := 643) (by decide +kernel) (by decide +kernel)
theorem tw644 : (Jvm.Cond.selects "TurningCoins" ({ cls := "TurningCoins", name := "market", desc := "(I)I" } : Jvm.MethodName) ({ cls := "TurningCoins", name := "market", desc := "(I)I" } : Jvm.MethodName)) ∈ tG := tG_t (i := 644) (by decide +kernel) (by decide +kernel)
theorem k_RL_141 (rm : Room) : g_kV RL 141 yX6_market (eX6_market rm) 1 := ⟨tw642, tw643, tw644, ⟨tw1, tw645, by decide +kernel, by decide +kernel, by decide +kernel⟩⟩
theorem tw649 : (Jvm.Cond.code ({ cls := "TurningCoins$Land", name := "draw", desc := "()I" } : Jvm.MethodName) prog_3_method_15_code (1 : Nat) (Option.some Jvm.ClassFile.FieldType.int)) ∈ tG := tG_t (i := 649) (by decide +kernel) (by decide +kernel)
theorem tw646 : (Jvm.Cond.methodLink "TurningCoins" (233 : Nat) ({ cls := "TurningCoins$Land", name := "draw", desc := "()I" } : Jvm.MethodName)) ∈ tG := tG_t (i := 646) (by decide +kernel) (by decide +kernel)
theorem tw647 : (Jvm.Cond.instanceMethod ({ cls := "TurningCoins$Land", name := "draw", desc := "()I" } : Jvm.MethodName)) ∈ tG := tG_t (i := 647) (by decide +kernel) (by decide +kernel)
theorem tw648 : (Jvm.Cond.selects "TurningCoins$Land" ({ cls := "TurningCoins$Land", name := "draw", desc := "()I" } : Jvm.MethodName) ({ cls := "TurningCoins$Land", name := "draw", desc := "()I" } : Jvm.MethodName)) ∈ tG := tG_t (i := 648) (by decide +kernel) (by decide +kernel)
theorem k_RX6_233 (rm : Room) : g_kV RX6 233 yX1_draw (eX1_draw rm) 0 := ⟨tw646, tw647, tw648, ⟨tw2, tw649, by decide +kernel, by decide +kernel, by decide +kernel⟩⟩
theorem tw654 : (Jvm.Cond.code ({ cls := "TurningCoins", name := "toss", desc := "(II)I" } : Jvm.MethodName) prog_1_method_34_code (6 : Nat) (Option.some Jvm.ClassFile.FieldType.int)) ∈ tG := tG_t (i := 654) (by decide +kernel) (by decide +kernel)
theorem tw651 : (Jvm.Cond.methodLink "TurningCoinsLaw" (145 : Nat) ({ cls := "TurningCoins", name := "toss", desc := "(II)I" } : Jvm.MethodName)) ∈ tG := tG_t (i := 651) (by decide +kernel) (by decide +kernel)
theorem tw652 : (Jvm.Cond.instanceMethod ({ cls := "TurningCoins", name := "toss", desc := "(II)I" } : Jvm.MethodName)) ∈ tG := tG_t (i := 652) (by decide +kernel) (by decide +kernel)
theorem tw653 : (Jvm.Cond.selects "TurningCoins" ({ cls := "TurningCoins", name := "toss", desc := "(II)I" } : Jvm.MethodName) ({ cls := "TurningCoins", name := "toss", desc := "(II)I" } : Jvm.MethodName)) ∈ tG := tG_t (i := 653) (by decide +kernel) (by decide +kernel)
theorem k_RL_145 (rm : Room) : g_kV RL 145 yX6_toss (eX6_toss rm) 2 := ⟨tw651, tw652, tw653, ⟨tw1, tw654, by decide +kernel, by decide +kernel, by decide +kernel⟩⟩
theorem tw655 : (Jvm.Cond.methodLink "TurningCoins" (236 : Nat) ({ cls := "java/lang/Integer", name := "bitCount", desc := "(I)I" } : Jvm.MethodName)) ∈ tG := tG_t (i := 655) (by decide +kernel) (by decide +kernel)
theorem k_RX6_236 (rm : Room) : g_kS RX6 236 yJ6_bitCount_0f7a4 (eJ6_bitCount_0f7a4 rm) 1 := ⟨tw655, tw472, ⟨tw12, tw473, by decide +kernel, by decide +kernel, by decide +kernel⟩⟩
theorem tw659 : (Jvm.Cond.code ({ cls := "TurningCoins", name := "seed", desc := "(I)I" } : Jvm.MethodName) prog_1_method_35_code (3 : Nat) (Option.some Jvm.ClassFile.FieldType.int)) ∈ tG := tG_t (i := 659) (by decide +kernel) (by decide +kernel)
theorem tw656 : (Jvm.Cond.methodLink "TurningCoinsLaw" (149 : Nat) ({ cls := "TurningCoins", name := "seed", desc := "(I)I" } : Jvm.MethodName)) ∈ tG := tG_t (i := 656) (by decide +kernel) (by decide +kernel)
theorem tw657 : (Jvm.Cond.instanceMethod ({ cls := "TurningCoins", name := "seed", desc := "(I)I" } : Jvm.MethodName)) ∈ tG := tG_t (i := 657) (by decide +kernel) (by decide +kernel)
theorem tw658 : (Jvm.Cond.selects "TurningCoins" ({ cls := "TurningCoins", name := "seed", desc := "(I)I" } : Jvm.MethodName) ({ cls := "TurningCoins", name := "seed", desc := "(I)I" } : Jvm.MethodName)) ∈ tG := tG_t (i := 658) (by decide +kernel) (by decide +kernel)
theorem k_RL_149 (rm : Room) : g_kV RL 149 yX6_seed (eX6_seed rm) 1 := ⟨tw656, tw657, tw658, ⟨tw1, tw659, by decide +kernel, by decide +kernel, by decide +kernel⟩⟩
theorem tw663 : (Jvm.Cond.code ({ cls := "TurningCoins", name := "feed", desc := "(II)I" } : Jvm.MethodName) prog_1_method_36_code (4 : Nat) (Option.some Jvm.ClassFile.FieldType.int)) ∈ tG := tG_t (i := 663) (by decide +kernel) (by decide +kernel)
theorem tw660 : (Jvm.Cond.methodLink "TurningCoinsLaw" (153 : Nat) ({ cls := "TurningCoins", name := "feed", desc := "(II)I" } : Jvm.MethodName)) ∈ tG := tG_t (i := 660) (by decide +kernel) (by decide +kernel)
theorem tw661 : (Jvm.Cond.instanceMethod ({ cls := "TurningCoins", name := "feed", desc := "(II)I" } : Jvm.MethodName)) ∈ tG := tG_t (i := 661) (by decide +kernel) (by decide +kernel)
theorem tw662 : (Jvm.Cond.selects "TurningCoins" ({ cls := "TurningCoins", name := "feed", desc := "(II)I" } : Jvm.MethodName) ({ cls := "TurningCoins", name := "feed", desc := "(II)I" } : Jvm.MethodName)) ∈ tG := tG_t (i := 662) (by decide +kernel) (by decide +kernel)
theorem k_RL_153 (rm : Room) : g_kV RL 153 yX6_feed (eX6_feed rm) 2 := ⟨tw660, tw661, tw662, ⟨tw1, tw663, by decide +kernel, by decide +kernel, by decide +kernel⟩⟩
theorem tw667 : (Jvm.Cond.code ({ cls := "TurningCoins", name := "wipe", desc := "()I" } : Jvm.MethodName) prog_1_method_37_code (2 : Nat) (Option.some Jvm.ClassFile.FieldType.int)) ∈ tG := tG_t (i := 667) (by decide +kernel) (by decide +kernel)
theorem tw664 : (Jvm.Cond.methodLink "TurningCoinsLaw" (157 : Nat) ({ cls := "TurningCoins", name := "wipe", desc := "()I" } : Jvm.MethodName)) ∈ tG := tG_t (i := 664) (by decide +kernel) (by decide +kernel)
theorem tw665 : (Jvm.Cond.instanceMethod ({ cls := "TurningCoins", name := "wipe", desc := "()I" } : Jvm.MethodName)) ∈ tG := tG_t (i := 665) (by decide +kernel) (by decide +kernel)
theorem tw666 : (Jvm.Cond.selects "TurningCoins" ({ cls := "TurningCoins", name := "wipe", desc := "()I" } : Jvm.MethodName) ({ cls := "TurningCoins", name := "wipe", desc := "()I" } : Jvm.MethodName)) ∈ tG := tG_t (i := 666) (by decide +kernel) (by decide +kernel)
theorem k_RL_157 (rm : Room) : g_kV RL 157 yX6_wipe (eX6_wipe rm) 0 := ⟨tw664, tw665, tw666, ⟨tw1, tw667, by decide +kernel, by decide +kernel, by decide +kernel⟩⟩
theorem tw671 : (Jvm.Cond.code ({ cls := "TurningCoins", name := "text", desc := "()I" } : Jvm.MethodName) prog_1_method_38_code (2 : Nat) (Option.some Jvm.ClassFile.FieldType.int)) ∈ tG := tG_t (i := 671) (by decide +kernel) (by decide +kernel)
theorem tw668 : (Jvm.Cond.methodLink "TurningCoinsLaw" (161 : Nat) ({ cls := "TurningCoins", name := "text", desc := "()I" } : Jvm.MethodName)) ∈ tG := tG_t (i := 668) (by decide +kernel) (by decide +kernel)
theorem tw669 : (Jvm.Cond.instanceMethod ({ cls := "TurningCoins", name := "text", desc := "()I" } : Jvm.MethodName)) ∈ tG := tG_t (i := 669) (by decide +kernel) (by decide +kernel)
theorem tw670 : (Jvm.Cond.selects "TurningCoins" ({ cls := "TurningCoins", name := "text", desc := "()I" } : Jvm.MethodName) ({ cls := "TurningCoins", name := "text", desc := "()I" } : Jvm.MethodName)) ∈ tG := tG_t (i := 670) (by decide +kernel) (by decide +kernel)
theorem k_RL_161 (rm : Room) : g_kV RL 161 yX6_text (eX6_text rm) 0 := ⟨tw668, tw669, tw670, ⟨tw1, tw671, by decide +kernel, by decide +kernel, by decide +kernel⟩⟩
theorem tw675 : (Jvm.Cond.code ({ cls := "TurningCoins$Reader", name := "readText", desc := "([IILTurningCoins$Land;)I" } : Jvm.MethodName) prog_5_method_2_code (5 : Nat) (Option.some Jvm.ClassFile.FieldType.int)) ∈ tG := tG_t (i := 675) (by decide +kernel) (by decide +kernel)
theorem tw672 : (Jvm.Cond.methodLink "TurningCoins" (244 : Nat) ({ cls := "TurningCoins$Reader", name := "readText", desc := "([IILTurningCoins$Land;)I" } : Jvm.MethodName)) ∈ tG := tG_t (i := 672) (by decide +kernel) (by decide +kernel)
theorem tw673 : (Jvm.Cond.instanceMethod ({ cls := "TurningCoins$Reader", name := "readText", desc := "([IILTurningCoins$Land;)I" } : Jvm.MethodName)) ∈ tG := tG_t (i := 673) (by decide +kernel) (by decide +kernel)
theorem tw674 : (Jvm.Cond.selects "TurningCoins$Reader" ({ cls := "TurningCoins$Reader", name := "readText", desc := "([IILTurningCoins$Land;)I" } : Jvm.MethodName) ({ cls := "TurningCoins$Reader", name := "readText", desc := "([IILTurningCoins$Land;)I" } : Jvm.MethodName)) ∈ tG := tG_t (i := 674) (by decide +kernel) (by decide +kernel)
theorem k_RX6_244 (rm : Room) : g_kV RX6 244 yX3_readText (eX3_readText rm) 3 := ⟨tw672, tw673, tw674, ⟨tw5, tw675, by decide +kernel, by decide +kernel, by decide +kernel⟩⟩
theorem tw676 : (Jvm.Cond.methodLink "TurningCoins$Reader" (31 : Nat) ({ cls := "java/lang/Math", name := "min", desc := "(II)I" } : Jvm.MethodName)) ∈ tG := tG_t (i := 676) (by decide +kernel) (by decide +kernel)
theorem k_RX3_31 (rm : Room) : g_kS RX3 31 yJ9_min_7cf53 (eJ9_min_7cf53 rm) 2 := ⟨tw676, tw514, ⟨tw10, tw515, by decide +kernel, by decide +kernel, by decide +kernel⟩⟩
theorem tw680 : (Jvm.Cond.code ({ cls := "TurningCoins$Reader", name := "step", desc := "()V" } : Jvm.MethodName) prog_5_method_8_code (1 : Nat) (Option.none : Option Jvm.ClassFile.FieldType)) ∈ tG := tG_t (i := 680) (by decide +kernel) (by decide +kernel)
theorem tw677 : (Jvm.Cond.methodLink "TurningCoins$Reader" (37 : Nat) ({ cls := "TurningCoins$Reader", name := "step", desc := "()V" } : Jvm.MethodName)) ∈ tG := tG_t (i := 677) (by decide +kernel) (by decide +kernel)
theorem tw679 : (Jvm.Cond.instanceMethod ({ cls := "TurningCoins$Reader", name := "step", desc := "()V" } : Jvm.MethodName)) ∈ tG := tG_t (i := 679) (by decide +kernel) (by decide +kernel)
theorem sel_X3_step : Cond.selects RX3 yX3_step yX3_step ∈ tG := tG_s (q := (yX3_step, 6)) (i := 14) (by decide +kernel) (by decide +kernel)
theorem k_RX3_37 (rm : Room) : g_kV RX3 37 yX3_step (eX3_step rm) 0 := ⟨tw677, tw679, sel_X3_step, ⟨tw5, tw680, by decide +kernel, by decide +kernel, by decide +kernel⟩⟩
theorem tw683 : (Jvm.Cond.code ({ cls := "TurningCoins$Reader", name := "isLetter", desc := "(I)Z" } : Jvm.MethodName) prog_5_method_9_code (1 : Nat) (Option.some Jvm.ClassFile.FieldType.boolean)) ∈ tG := tG_t (i := 683) (by decide +kernel) (by decide +kernel)
theorem tw681 : (Jvm.Cond.methodLink "TurningCoins$Reader" (105 : Nat) ({ cls := "TurningCoins$Reader", name := "isLetter", desc := "(I)Z" } : Jvm.MethodName)) ∈ tG := tG_t (i := 681) (by decide +kernel) (by decide +kernel)
theorem tw682 : (Jvm.Cond.static ({ cls := "TurningCoins$Reader", name := "isLetter", desc := "(I)Z" } : Jvm.MethodName)) ∈ tG := tG_t (i := 682) (by decide +kernel) (by decide +kernel)
theorem k_RX3_105 (rm : Room) : g_kS RX3 105 yX3_isLetter (eX3_isLetter rm) 1 := ⟨tw681, tw682, ⟨tw5, tw683, by decide +kernel, by decide +kernel, by decide +kernel⟩⟩
theorem tw686 : (Jvm.Cond.code ({ cls := "TurningCoins$Reader", name := "isDigit", desc := "(I)Z" } : Jvm.MethodName) prog_5_method_10_code (1 : Nat) (Option.some Jvm.ClassFile.FieldType.boolean)) ∈ tG := tG_t (i := 686) (by decide +kernel) (by decide +kernel)
theorem tw684 : (Jvm.Cond.methodLink "TurningCoins$Reader" (108 : Nat) ({ cls := "TurningCoins$Reader", name := "isDigit", desc := "(I)Z" } : Jvm.MethodName)) ∈ tG := tG_t (i := 684) (by decide +kernel) (by decide +kernel)
theorem tw685 : (Jvm.Cond.static ({ cls := "TurningCoins$Reader", name := "isDigit", desc := "(I)Z" } : Jvm.MethodName)) ∈ tG := tG_t (i := 685) (by decide +kernel) (by decide +kernel)
theorem k_RX3_108 (rm : Room) : g_kS RX3 108 yX3_isDigit (eX3_isDigit rm) 1 := ⟨tw684, tw685, ⟨tw5, tw686, by decide +kernel, by decide +kernel, by decide +kernel⟩⟩
theorem tw690 : (Jvm.Cond.code ({ cls := "TurningCoins$Reader", name := "readItem", desc := "(LTurningCoins$Land;)Z" } : Jvm.MethodName) prog_5_method_3_code (3 : Nat) (Option.some Jvm.ClassFile.FieldType.boolean)) ∈ tG := tG_t (i := 690) (by decide +kernel) (by decide +kernel)
theorem tw687 : (Jvm.Cond.methodLink "TurningCoins$Reader" (40 : Nat) ({ cls := "TurningCoins$Reader", name := "readItem", desc := "(LTurningCoins$Land;)Z" } : Jvm.MethodName)) ∈ tG := tG_t (i := 687) (by decide +kernel) (by decide +kernel)
theorem tw689 : (Jvm.Cond.instanceMethod ({ cls := "TurningCoins$Reader", name := "readItem", desc := "(LTurningCoins$Land;)Z" } : Jvm.MethodName)) ∈ tG := tG_t (i := 689) (by decide +kernel) (by decide +kernel)
theorem sel_X3_readItem : Cond.selects RX3 yX3_readItem yX3_readItem ∈ tG := tG_s (q := (yX3_readItem, 6)) (i := 15) (by decide +kernel) (by decide +kernel)
theorem k_RX3_40 (rm : Room) : g_kV RX3 40 yX3_readItem (eX3_readItem rm) 1 := ⟨tw687, tw689, sel_X3_readItem, ⟨tw5, tw690, by decide +kernel, by decide +kernel, by decide +kernel⟩⟩
theorem tw693 : (Jvm.Cond.code ({ cls := "TurningCoins$Reader", name := "nameOf", desc := "(I)Ljava/lang/String;" } : Jvm.MethodName) prog_5_method_11_code (1 : Nat) (Option.some (Jvm.ClassFile.FieldType.object "java/lang/String"))) ∈ tG := tG_t (i := 693) (by decide +kernel) (by decide +kernel)
theorem tw691 : (Jvm.Cond.methodLink "TurningCoins$Reader" (44 : Nat) ({ cls := "TurningCoins$Reader", name := "nameOf", desc := "(I)Ljava/lang/String;" } : Jvm.MethodName)) ∈ tG := tG_t (i := 691) (by decide +kernel) (by decide +kernel)
theorem tw692 : (Jvm.Cond.static ({ cls := "TurningCoins$Reader", name := "nameOf", desc := "(I)Ljava/lang/String;" } : Jvm.MethodName)) ∈ tG := tG_t (i := 692) (by decide +kernel) (by decide +kernel)
theorem k_RX3_44 (rm : Room) : g_kS RX3 44 yX3_nameOf (eX3_nameOf rm) 1 := ⟨tw691, tw692, ⟨tw5, tw693, by decide +kernel, by decide +kernel, by decide +kernel⟩⟩
theorem tw704 : (Jvm.Cond.code ({ cls := "TurningCoins$Reader", name := "isWord", desc := "(Ljava/lang/String;)Z" } : Jvm.MethodName) prog_5_method_7_code (3 : Nat) (Option.some Jvm.ClassFile.FieldType.boolean)) ∈ tG := tG_t (i := 704) (by decide +kernel) (by decide +kernel)
theorem tw701 : (Jvm.Cond.methodLink "TurningCoins$Reader" (48 : Nat) ({ cls := "TurningCoins$Reader", name := "isWord", desc := "(Ljava/lang/String;)Z" } : Jvm.MethodName)) ∈ tG := tG_t (i := 701) (by decide +kernel) (by decide +kernel)
theorem tw703 : (Jvm.Cond.instanceMethod ({ cls := "TurningCoins$Reader", name := "isWord", desc := "(Ljava/lang/String;)Z" } : Jvm.MethodName)) ∈ tG := tG_t (i := 703) (by decide +kernel) (by decide +kernel)
theorem sel_X3_isWord : Cond.selects RX3 yX3_isWord yX3_isWord ∈ tG := tG_s (q := (yX3_isWord, 6)) (i := 16) (by decide +kernel) (by decide +kernel)
theorem k_RX3_48 (rm : Room) : g_kV RX3 48 yX3_isWord (eX3_isWord rm) 1 := ⟨tw701, tw703, sel_X3_isWord, ⟨tw5, tw704, by decide +kernel, by decide +kernel, by decide +kernel⟩⟩
theorem tw14 : (Jvm.Cond.initialized "java/lang/String") ∈ tG := tG_t (i := 14) (by decide +kernel) (by decide +kernel)
theorem tw708 : (Jvm.Cond.code ({ cls := "java/lang/String", name := "length", desc := "()I" } : Jvm.MethodName) prog_13_method_54_code (1 : Nat) (Option.some Jvm.ClassFile.FieldType.int)) ∈ tG := tG_t (i := 708) (by decide +kernel) (by decide +kernel)
theorem tw705 : (Jvm.Cond.methodLink "TurningCoins$Reader" (96 : Nat) ({ cls := "java/lang/String", name := "length", desc := "()I" } : Jvm.MethodName)) ∈ tG := tG_t (i := 705) (by decide +kernel) (by decide +kernel)
theorem tw706 : (Jvm.Cond.instanceMethod ({ cls := "java/lang/String", name := "length", desc := "()I" } : Jvm.MethodName)) ∈ tG := tG_t (i := 706) (by decide +kernel) (by decide +kernel)
theorem tw707 : (Jvm.Cond.selects "java/lang/String" ({ cls := "java/lang/String", name := "length", desc := "()I" } : Jvm.MethodName) ({ cls := "java/lang/String", name := "length", desc := "()I" } : Jvm.MethodName)) ∈ tG := tG_t (i := 707) (by decide +kernel) (by decide +kernel)
theorem k_RX3_96 (rm : Room) : g_kV RX3 96 yJ0_length_8abf5 (eJ0_length_8abf5 rm) 0 := ⟨tw705, tw706, tw707, ⟨tw14, tw708, by decide +kernel, by decide +kernel, by decide +kernel⟩⟩
theorem tw712 : (Jvm.Cond.code ({ cls := "java/lang/String", name := "coder", desc := "()B" } : Jvm.MethodName) prog_13_method_152_code (1 : Nat) (Option.some Jvm.ClassFile.FieldType.byte)) ∈ tG := tG_t (i := 712) (by decide +kernel) (by decide +kernel)
theorem tw709 : (Jvm.Cond.methodLink "java/lang/String" (335 : Nat) ({ cls := "java/lang/String", name := "coder", desc := "()B" } : Jvm.MethodName)) ∈ tG := tG_t (i := 709) (by decide +kernel) (by decide +kernel)
theorem tw710 : (Jvm.Cond.instanceMethod ({ cls := "java/lang/String", name := "coder", desc := "()B" } : Jvm.MethodName)) ∈ tG := tG_t (i := 710) (by decide +kernel) (by decide +kernel)
theorem tw711 : (Jvm.Cond.selects "java/lang/String" ({ cls := "java/lang/String", name := "coder", desc := "()B" } : Jvm.MethodName) ({ cls := "java/lang/String", name := "coder", desc := "()B" } : Jvm.MethodName)) ∈ tG := tG_t (i := 711) (by decide +kernel) (by decide +kernel)
theorem k_RJ0_335 (rm : Room) : g_kV RJ0 335 yJ0_coder_7d493 (eJ0_coder_7d493 rm) 0 := ⟨tw709, tw710, tw711, ⟨tw14, tw712, by decide +kernel, by decide +kernel, by decide +kernel⟩⟩
theorem tw718 : (Jvm.Cond.code ({ cls := "java/lang/String", name := "charAt", desc := "(I)C" } : Jvm.MethodName) prog_13_method_56_code (2 : Nat) (Option.some Jvm.ClassFile.FieldType.char)) ∈ tG := tG_t (i := 718) (by decide +kernel) (by decide +kernel)
theorem tw715 : (Jvm.Cond.methodLink "TurningCoins$Reader" (101 : Nat) ({ cls := "java/lang/String", name := "charAt", desc := "(I)C" } : Jvm.MethodName)) ∈ tG := tG_t (i := 715) (by decide +kernel) (by decide +kernel)
theorem tw716 : (Jvm.Cond.instanceMethod ({ cls := "java/lang/String", name := "charAt", desc := "(I)C" } : Jvm.MethodName)) ∈ tG := tG_t (i := 716) (by decide +kernel) (by decide +kernel)
theorem tw717 : (Jvm.Cond.selects "java/lang/String" ({ cls := "java/lang/String", name := "charAt", desc := "(I)C" } : Jvm.MethodName) ({ cls := "java/lang/String", name := "charAt", desc := "(I)C" } : Jvm.MethodName)) ∈ tG := tG_t (i := 717) (by decide +kernel) (by decide +kernel)
theorem k_RX3_101 (rm : Room) : g_kV RX3 101 yJ0_charAt_5068e (eJ0_charAt_5068e rm) 1 := ⟨tw715, tw716, tw717, ⟨tw14, tw718, by decide +kernel, by decide +kernel, by decide +kernel⟩⟩
theorem tw722 : (Jvm.Cond.code ({ cls := "java/lang/String", name := "isLatin1", desc := "()Z" } : Jvm.MethodName) prog_13_method_154_code (1 : Nat) (Option.some Jvm.ClassFile.FieldType.boolean)) ∈ tG := tG_t (i := 722) (by decide +kernel) (by decide +kernel)
theorem tw719 : (Jvm.Cond.methodLink "java/lang/String" (492 : Nat) ({ cls := "java/lang/String", name := "isLatin1", desc := "()Z" } : Jvm.MethodName)) ∈ tG := tG_t (i := 719) (by decide +kernel) (by decide +kernel)
theorem tw720 : (Jvm.Cond.instanceMethod ({ cls := "java/lang/String", name := "isLatin1", desc := "()Z" } : Jvm.MethodName)) ∈ tG := tG_t (i := 720) (by decide +kernel) (by decide +kernel)
theorem tw721 : (Jvm.Cond.selects "java/lang/String" ({ cls := "java/lang/String", name := "isLatin1", desc := "()Z" } : Jvm.MethodName) ({ cls := "java/lang/String", name := "isLatin1", desc := "()Z" } : Jvm.MethodName)) ∈ tG := tG_t (i := 721) (by decide +kernel) (by decide +kernel)
theorem k_RJ0_492 (rm : Room) : g_kV RJ0 492 yJ0_isLatin1_aae02 (eJ0_isLatin1_aae02 rm) 0 := ⟨tw719, tw720, tw721, ⟨tw14, tw722, by decide +kernel, by decide +kernel, by decide +kernel⟩⟩
theorem tw15 : (Jvm.Cond.initialized "java/lang/StringLatin1") ∈ tG := tG_t (i := 15) (by decide +kernel) (by decide +kernel)
theorem tw725 : (Jvm.Cond.code ({ cls := "java/lang/StringLatin1", name := "charAt", desc := "([BI)C" } : Jvm.MethodName) prog_14_method_2_code (2 : Nat) (Option.some Jvm.ClassFile.FieldType.char)) ∈ tG := tG_t (i := 725) (by decide +kernel) (by decide +kernel)
theorem tw723 : (Jvm.Cond.methodLink "java/lang/String" (495 : Nat) ({ cls := "java/lang/StringLatin1", name := "charAt", desc := "([BI)C" } : Jvm.MethodName)) ∈ tG := tG_t (i := 723) (by decide +kernel) (by decide +kernel)
theorem tw724 : (Jvm.Cond.static ({ cls := "java/lang/StringLatin1", name := "charAt", desc := "([BI)C" } : Jvm.MethodName)) ∈ tG := tG_t (i := 724) (by decide +kernel) (by decide +kernel)
theorem k_RJ0_495 (rm : Room) : g_kS RJ0 495 yJ1_charAt_3b067 (eJ1_charAt_3b067 rm) 2 := ⟨tw723, tw724, ⟨tw15, tw725, by decide +kernel, by decide +kernel, by decide +kernel⟩⟩
theorem tw728 : (Jvm.Cond.code ({ cls := "java/lang/String", name := "checkIndex", desc := "(II)V" } : Jvm.MethodName) prog_13_method_155_code (2 : Nat) (Option.none : Option Jvm.ClassFile.FieldType)) ∈ tG := tG_t (i := 728) (by decide +kernel) (by decide +kernel)
theorem tw726 : (Jvm.Cond.methodLink "java/lang/StringLatin1" (9 : Nat) ({ cls := "java/lang/String", name := "checkIndex", desc := "(II)V" } : Jvm.MethodName)) ∈ tG := tG_t (i := 726) (by decide +kernel) (by decide +kernel)
theorem tw727 : (Jvm.Cond.static ({ cls := "java/lang/String", name := "checkIndex", desc := "(II)V" } : Jvm.MethodName)) ∈ tG := tG_t (i := 727) (by decide +kernel) (by decide +kernel)
theorem k_RJ1_9 (rm : Room) : g_kS RJ1 9 yJ0_checkIndex_df160 (eJ0_checkIndex_df160 rm) 2 := ⟨tw726, tw727, ⟨tw14, tw728, by decide +kernel, by decide +kernel, by decide +kernel⟩⟩
theorem tw16 : (Jvm.Cond.initialized "jdk/internal/util/Preconditions") ∈ tG := tG_t (i := 16) (by decide +kernel) (by decide +kernel)
theorem tw733 : (Jvm.Cond.code ({ cls := "jdk/internal/util/Preconditions", name := "checkIndex", desc := "(IILjava/util/function/BiFunction;)I" } : Jvm.MethodName) prog_18_method_11_code (3 : Nat) (Option.some Jvm.ClassFile.FieldType.int)) ∈ tG := tG_t (i := 733) (by decide +kernel) (by decide +kernel)
theorem tw731 : (Jvm.Cond.methodLink "java/lang/String" (1059 : Nat) ({ cls := "jdk/internal/util/Preconditions", name := "checkIndex", desc := "(IILjava/util/function/BiFunction;)I" } : Jvm.MethodName)) ∈ tG := tG_t (i := 731) (by decide +kernel) (by decide +kernel)
theorem tw732 : (Jvm.Cond.static ({ cls := "jdk/internal/util/Preconditions", name := "checkIndex", desc := "(IILjava/util/function/BiFunction;)I" } : Jvm.MethodName)) ∈ tG := tG_t (i := 732) (by decide +kernel) (by decide +kernel)
theorem k_RJ0_1059 (rm : Room) : g_kS RJ0 1059 yJ3_checkIndex_8e157 (eJ3_checkIndex_8e157 rm) 3 := ⟨tw731, tw732, ⟨tw16, tw733, by decide +kernel, by decide +kernel, by decide +kernel⟩⟩
theorem tw17 : (Jvm.Cond.initialized "java/lang/StringUTF16") ∈ tG := tG_t (i := 17) (by decide +kernel) (by decide +kernel)
theorem tw736 : (Jvm.Cond.code ({ cls := "java/lang/StringUTF16", name := "charAt", desc := "([BI)C" } : Jvm.MethodName) prog_15_method_83_code (2 : Nat) (Option.some Jvm.ClassFile.FieldType.char)) ∈ tG := tG_t (i := 736) (by decide +kernel) (by decide +kernel)
theorem tw734 : (Jvm.Cond.methodLink "java/lang/String" (498 : Nat) ({ cls := "java/lang/StringUTF16", name := "charAt", desc := "([BI)C" } : Jvm.MethodName)) ∈ tG := tG_t (i := 734) (by decide +kernel) (by decide +kernel)
theorem tw735 : (Jvm.Cond.static ({ cls := "java/lang/StringUTF16", name := "charAt", desc := "([BI)C" } : Jvm.MethodName)) ∈ tG := tG_t (i := 735) (by decide +kernel) (by decide +kernel)
theorem k_RJ0_498 (rm : Room) : g_kS RJ0 498 yJ2_charAt_3b067 (eJ2_charAt_3b067 rm) 2 := ⟨tw734, tw735, ⟨tw17, tw736, by decide +kernel, by decide +kernel, by decide +kernel⟩⟩
theorem tw739 : (Jvm.Cond.code ({ cls := "java/lang/StringUTF16", name := "checkIndex", desc := "(I[B)V" } : Jvm.MethodName) prog_15_method_91_code (2 : Nat) (Option.none : Option Jvm.ClassFile.FieldType)) ∈ tG := tG_t (i := 739) (by decide +kernel) (by decide +kernel)
theorem tw737 : (Jvm.Cond.methodLink "java/lang/StringUTF16" (67 : Nat) ({ cls := "java/lang/StringUTF16", name := "checkIndex", desc := "(I[B)V" } : Jvm.MethodName)) ∈ tG := tG_t (i := 737) (by decide +kernel) (by decide +kernel)
theorem tw738 : (Jvm.Cond.static ({ cls := "java/lang/StringUTF16", name := "checkIndex", desc := "(I[B)V" } : Jvm.MethodName)) ∈ tG := tG_t (i := 738) (by decide +kernel) (by decide +kernel)
theorem k_RJ2_67 (rm : Room) : g_kS RJ2 67 yJ2_checkIndex_2214a (eJ2_checkIndex_2214a rm) 2 := ⟨tw737, tw738, ⟨tw17, tw739, by decide +kernel, by decide +kernel, by decide +kernel⟩⟩
theorem tw742 : (Jvm.Cond.code ({ cls := "java/lang/StringUTF16", name := "length", desc := "([B)I" } : Jvm.MethodName) prog_15_method_6_code (1 : Nat) (Option.some Jvm.ClassFile.FieldType.int)) ∈ tG := tG_t (i := 742) (by decide +kernel) (by decide +kernel)
theorem tw740 : (Jvm.Cond.methodLink "java/lang/StringUTF16" (48 : Nat) ({ cls := "java/lang/StringUTF16", name := "length", desc := "([B)I" } : Jvm.MethodName)) ∈ tG := tG_t (i := 740) (by decide +kernel) (by decide +kernel)
theorem tw741 : (Jvm.Cond.static ({ cls := "java/lang/StringUTF16", name := "length", desc := "([B)I" } : Jvm.MethodName)) ∈ tG := tG_t (i := 741) (by decide +kernel) (by decide +kernel)
theorem k_RJ2_48 (rm : Room) : g_kS RJ2 48 yJ2_length_9d52b (eJ2_length_9d52b rm) 1 := ⟨tw740, tw741, ⟨tw17, tw742, by decide +kernel, by decide +kernel, by decide +kernel⟩⟩
theorem tw743 : (Jvm.Cond.methodLink "java/lang/StringUTF16" (414 : Nat) ({ cls := "java/lang/String", name := "checkIndex", desc := "(II)V" } : Jvm.MethodName)) ∈ tG := tG_t (i := 743) (by decide +kernel) (by decide +kernel)
theorem k_RJ2_414 (rm : Room) : g_kS RJ2 414 yJ0_checkIndex_df160 (eJ0_checkIndex_df160 rm) 2 := ⟨tw743, tw727, ⟨tw14, tw728, by decide +kernel, by decide +kernel, by decide +kernel⟩⟩
theorem tw746 : (Jvm.Cond.code ({ cls := "java/lang/StringUTF16", name := "getChar", desc := "([BI)C" } : Jvm.MethodName) prog_15_method_5_code (2 : Nat) (Option.some Jvm.ClassFile.FieldType.char)) ∈ tG := tG_t (i := 746) (by decide +kernel) (by decide +kernel)
theorem tw744 : (Jvm.Cond.methodLink "java/lang/StringUTF16" (71 : Nat) ({ cls := "java/lang/StringUTF16", name := "getChar", desc := "([BI)C" } : Jvm.MethodName)) ∈ tG := tG_t (i := 744) (by decide +kernel) (by decide +kernel)
theorem tw745 : (Jvm.Cond.static ({ cls := "java/lang/StringUTF16", name := "getChar", desc := "([BI)C" } : Jvm.MethodName)) ∈ tG := tG_t (i := 745) (by decide +kernel) (by decide +kernel)
theorem k_RJ2_71 (rm : Room) : g_kS RJ2 71 yJ2_getChar_3b067 (eJ2_getChar_3b067 rm) 2 := ⟨tw744, tw745, ⟨tw17, tw746, by decide +kernel, by decide +kernel, by decide +kernel⟩⟩
theorem tw756 : (Jvm.Cond.code ({ cls := "TurningCoins$Reader", name := "readCoin", desc := "(LTurningCoins$Land;I)Z" } : Jvm.MethodName) prog_5_method_4_code (5 : Nat) (Option.some Jvm.ClassFile.FieldType.boolean)) ∈ tG := tG_t (i := 756) (by decide +kernel) (by decide +kernel)
theorem tw753 : (Jvm.Cond.methodLink "TurningCoins$Reader" (52 : Nat) ({ cls := "TurningCoins$Reader", name := "readCoin", desc := "(LTurningCoins$Land;I)Z" } : Jvm.MethodName)) ∈ tG := tG_t (i := 753) (by decide +kernel) (by decide +kernel)
theorem tw755 : (Jvm.Cond.instanceMethod ({ cls := "TurningCoins$Reader", name := "readCoin", desc := "(LTurningCoins$Land;I)Z" } : Jvm.MethodName)) ∈ tG := tG_t (i := 755) (by decide +kernel) (by decide +kernel)
theorem sel_X3_readCoin : Cond.selects RX3 yX3_readCoin yX3_readCoin ∈ tG := tG_s (q := (yX3_readCoin, 6)) (i := 17) (by decide +kernel) (by decide +kernel)
theorem k_RX3_52 (rm : Room) : g_kV RX3 52 yX3_readCoin (eX3_readCoin rm) 2 := ⟨tw753, tw755, sel_X3_readCoin, ⟨tw5, tw756, by decide +kernel, by decide +kernel, by decide +kernel⟩⟩
theorem tw760 : (Jvm.Cond.code ({ cls := "TurningCoins$Reader", name := "isNumber", desc := "(I)Z" } : Jvm.MethodName) prog_5_method_6_code (2 : Nat) (Option.some Jvm.ClassFile.FieldType.boolean)) ∈ tG := tG_t (i := 760) (by decide +kernel) (by decide +kernel)
theorem tw757 : (Jvm.Cond.methodLink "TurningCoins$Reader" (66 : Nat) ({ cls := "TurningCoins$Reader", name := "isNumber", desc := "(I)Z" } : Jvm.MethodName)) ∈ tG := tG_t (i := 757) (by decide +kernel) (by decide +kernel)
theorem tw759 : (Jvm.Cond.instanceMethod ({ cls := "TurningCoins$Reader", name := "isNumber", desc := "(I)Z" } : Jvm.MethodName)) ∈ tG := tG_t (i := 759) (by decide +kernel) (by decide +kernel)
theorem sel_X3_isNumber : Cond.selects RX3 yX3_isNumber yX3_isNumber ∈ tG := tG_s (q := (yX3_isNumber, 6)) (i := 18) (by decide +kernel) (by decide +kernel)
theorem k_RX3_66 (rm : Room) : g_kV RX3 66 yX3_isNumber (eX3_isNumber rm) 1 := ⟨tw757, tw759, sel_X3_isNumber, ⟨tw5, tw760, by decide +kernel, by decide +kernel, by decide +kernel⟩⟩
theorem tw761 : (Jvm.Cond.methodLink "TurningCoins$Reader" (74 : Nat) ({ cls := "TurningCoins$Land", name := "addCoin", desc := "(III)I" } : Jvm.MethodName)) ∈ tG := tG_t (i := 761) (by decide +kernel) (by decide +kernel)
theorem k_RX3_74 (rm : Room) : g_kV RX3 74 yX1_addCoin (eX1_addCoin rm) 3 := ⟨tw761, tw271, tw272, ⟨tw2, tw273, by decide +kernel, by decide +kernel, by decide +kernel⟩⟩
theorem tw768 : (Jvm.Cond.code ({ cls := "TurningCoins$Reader", name := "readPay", desc := "(LTurningCoins$Land;)Z" } : Jvm.MethodName) prog_5_method_5_code (3 : Nat) (Option.some Jvm.ClassFile.FieldType.boolean)) ∈ tG := tG_t (i := 768) (by decide +kernel) (by decide +kernel)
theorem tw765 : (Jvm.Cond.methodLink "TurningCoins$Reader" (58 : Nat) ({ cls := "TurningCoins$Reader", name := "readPay", desc := "(LTurningCoins$Land;)Z" } : Jvm.MethodName)) ∈ tG := tG_t (i := 765) (by decide +kernel) (by decide +kernel)
theorem tw767 : (Jvm.Cond.instanceMethod ({ cls := "TurningCoins$Reader", name := "readPay", desc := "(LTurningCoins$Land;)Z" } : Jvm.MethodName)) ∈ tG := tG_t (i := 767) (by decide +kernel) (by decide +kernel)
theorem sel_X3_readPay : Cond.selects RX3 yX3_readPay yX3_readPay ∈ tG := tG_s (q := (yX3_readPay, 6)) (i := 19) (by decide +kernel) (by decide +kernel)
theorem k_RX3_58 (rm : Room) : g_kV RX3 58 yX3_readPay (eX3_readPay rm) 1 := ⟨tw765, tw767, sel_X3_readPay, ⟨tw5, tw768, by decide +kernel, by decide +kernel, by decide +kernel⟩⟩
theorem tw770 : (Jvm.Cond.methodLink "TurningCoins$Reader" (92 : Nat) ({ cls := "TurningCoins$Coin", name := "payTo", desc := "(I)V" } : Jvm.MethodName)) ∈ tG := tG_t (i := 770) (by decide +kernel) (by decide +kernel)
theorem k_RX3_92 (rm : Room) : g_kV RX3 92 yX0_payTo (eX0_payTo rm) 1 := ⟨tw770, tw376, tw377, ⟨tw3, tw378, by decide +kernel, by decide +kernel, by decide +kernel⟩⟩
theorem tw775 : (Jvm.Cond.code ({ cls := "TurningCoins", name := "hold", desc := "(II)I" } : Jvm.MethodName) prog_1_method_39_code (3 : Nat) (Option.some Jvm.ClassFile.FieldType.int)) ∈ tG := tG_t (i := 775) (by decide +kernel) (by decide +kernel)
theorem tw772 : (Jvm.Cond.methodLink "TurningCoinsLaw" (165 : Nat) ({ cls := "TurningCoins", name := "hold", desc := "(II)I" } : Jvm.MethodName)) ∈ tG := tG_t (i := 772) (by decide +kernel) (by decide +kernel)
theorem tw773 : (Jvm.Cond.instanceMethod ({ cls := "TurningCoins", name := "hold", desc := "(II)I" } : Jvm.MethodName)) ∈ tG := tG_t (i := 773) (by decide +kernel) (by decide +kernel)
theorem tw774 : (Jvm.Cond.selects "TurningCoins" ({ cls := "TurningCoins", name := "hold", desc := "(II)I" } : Jvm.MethodName) ({ cls := "TurningCoins", name := "hold", desc := "(II)I" } : Jvm.MethodName)) ∈ tG := tG_t (i := 774) (by decide +kernel) (by decide +kernel)
theorem k_RL_165 (rm : Room) : g_kV RL 165 yX6_hold (eX6_hold rm) 2 := ⟨tw772, tw773, tw774, ⟨tw1, tw775, by decide +kernel, by decide +kernel, by decide +kernel⟩⟩
theorem tw779 : (Jvm.Cond.code ({ cls := "TurningCoins", name := "as", desc := "(II)I" } : Jvm.MethodName) prog_1_method_40_code (4 : Nat) (Option.some Jvm.ClassFile.FieldType.int)) ∈ tG := tG_t (i := 779) (by decide +kernel) (by decide +kernel)
theorem tw776 : (Jvm.Cond.methodLink "TurningCoinsLaw" (169 : Nat) ({ cls := "TurningCoins", name := "as", desc := "(II)I" } : Jvm.MethodName)) ∈ tG := tG_t (i := 776) (by decide +kernel) (by decide +kernel)
theorem tw777 : (Jvm.Cond.instanceMethod ({ cls := "TurningCoins", name := "as", desc := "(II)I" } : Jvm.MethodName)) ∈ tG := tG_t (i := 777) (by decide +kernel) (by decide +kernel)
theorem tw778 : (Jvm.Cond.selects "TurningCoins" ({ cls := "TurningCoins", name := "as", desc := "(II)I" } : Jvm.MethodName) ({ cls := "TurningCoins", name := "as", desc := "(II)I" } : Jvm.MethodName)) ∈ tG := tG_t (i := 778) (by decide +kernel) (by decide +kernel)
theorem k_RL_169 (rm : Room) : g_kV RL 169 yX6_as (eX6_as rm) 2 := ⟨tw776, tw777, tw778, ⟨tw1, tw779, by decide +kernel, by decide +kernel, by decide +kernel⟩⟩
theorem tw784 : (Jvm.Cond.code ({ cls := "TurningCoins$Coin", name := "isA", desc := "(I)Z" } : Jvm.MethodName) prog_2_method_13_code (4 : Nat) (Option.some Jvm.ClassFile.FieldType.boolean)) ∈ tG := tG_t (i := 784) (by decide +kernel) (by decide +kernel)
theorem tw781 : (Jvm.Cond.methodLink "TurningCoins" (252 : Nat) ({ cls := "TurningCoins$Coin", name := "isA", desc := "(I)Z" } : Jvm.MethodName)) ∈ tG := tG_t (i := 781) (by decide +kernel) (by decide +kernel)
theorem tw782 : (Jvm.Cond.instanceMethod ({ cls := "TurningCoins$Coin", name := "isA", desc := "(I)Z" } : Jvm.MethodName)) ∈ tG := tG_t (i := 782) (by decide +kernel) (by decide +kernel)
theorem tw783 : (Jvm.Cond.selects "TurningCoins$Coin" ({ cls := "TurningCoins$Coin", name := "isA", desc := "(I)Z" } : Jvm.MethodName) ({ cls := "TurningCoins$Coin", name := "isA", desc := "(I)Z" } : Jvm.MethodName)) ∈ tG := tG_t (i := 783) (by decide +kernel) (by decide +kernel)
theorem k_RX6_252 (rm : Room) : g_kV RX6 252 yX0_isA (eX0_isA rm) 1 := ⟨tw781, tw782, tw783, ⟨tw3, tw784, by decide +kernel, by decide +kernel, by decide +kernel⟩⟩
theorem tw791 : (Jvm.Cond.code ({ cls := "TurningCoins", name := "sheet", desc := "(III)I" } : Jvm.MethodName) prog_1_method_41_code (4 : Nat) (Option.some Jvm.ClassFile.FieldType.int)) ∈ tG := tG_t (i := 791) (by decide +kernel) (by decide +kernel)
theorem tw788 : (Jvm.Cond.methodLink "TurningCoinsLaw" (173 : Nat) ({ cls := "TurningCoins", name := "sheet", desc := "(III)I" } : Jvm.MethodName)) ∈ tG := tG_t (i := 788) (by decide +kernel) (by decide +kernel)
theorem tw789 : (Jvm.Cond.instanceMethod ({ cls := "TurningCoins", name := "sheet", desc := "(III)I" } : Jvm.MethodName)) ∈ tG := tG_t (i := 789) (by decide +kernel) (by decide +kernel)
theorem tw790 : (Jvm.Cond.selects "TurningCoins" ({ cls := "TurningCoins", name := "sheet", desc := "(III)I" } : Jvm.MethodName) ({ cls := "TurningCoins", name := "sheet", desc := "(III)I" } : Jvm.MethodName)) ∈ tG := tG_t (i := 790) (by decide +kernel) (by decide +kernel)
theorem k_RL_173 (rm : Room) : g_kV RL 173 yX6_sheet (eX6_sheet rm) 3 := ⟨tw788, tw789, tw790, ⟨tw1, tw791, by decide +kernel, by decide +kernel, by decide +kernel⟩⟩
theorem tw794 : (Jvm.Cond.code ({ cls := "TurningCoins", name := "isSheet", desc := "(I)Z" } : Jvm.MethodName) prog_1_method_59_code (1 : Nat) (Option.some Jvm.ClassFile.FieldType.boolean)) ∈ tG := tG_t (i := 794) (by decide +kernel) (by decide +kernel)
theorem tw792 : (Jvm.Cond.methodLink "TurningCoins" (256 : Nat) ({ cls := "TurningCoins", name := "isSheet", desc := "(I)Z" } : Jvm.MethodName)) ∈ tG := tG_t (i := 792) (by decide +kernel) (by decide +kernel)
theorem tw793 : (Jvm.Cond.static ({ cls := "TurningCoins", name := "isSheet", desc := "(I)Z" } : Jvm.MethodName)) ∈ tG := tG_t (i := 793) (by decide +kernel) (by decide +kernel)
theorem k_RX6_256 (rm : Room) : g_kS RX6 256 yX6_isSheet (eX6_isSheet rm) 1 := ⟨tw792, tw793, ⟨tw1, tw794, by decide +kernel, by decide +kernel, by decide +kernel⟩⟩
theorem tw799 : (Jvm.Cond.code ({ cls := "TurningCoins$Sheet", name := "clear", desc := "(II)V" } : Jvm.MethodName) prog_6_method_3_code (3 : Nat) (Option.none : Option Jvm.ClassFile.FieldType)) ∈ tG := tG_t (i := 799) (by decide +kernel) (by decide +kernel)
theorem tw796 : (Jvm.Cond.methodLink "TurningCoins" (260 : Nat) ({ cls := "TurningCoins$Sheet", name := "clear", desc := "(II)V" } : Jvm.MethodName)) ∈ tG := tG_t (i := 796) (by decide +kernel) (by decide +kernel)
theorem tw797 : (Jvm.Cond.instanceMethod ({ cls := "TurningCoins$Sheet", name := "clear", desc := "(II)V" } : Jvm.MethodName)) ∈ tG := tG_t (i := 797) (by decide +kernel) (by decide +kernel)
theorem tw798 : (Jvm.Cond.selects "TurningCoins$Sheet" ({ cls := "TurningCoins$Sheet", name := "clear", desc := "(II)V" } : Jvm.MethodName) ({ cls := "TurningCoins$Sheet", name := "clear", desc := "(II)V" } : Jvm.MethodName)) ∈ tG := tG_t (i := 798) (by decide +kernel) (by decide +kernel)
theorem k_RX6_260 (rm : Room) : g_kV RX6 260 yX4_clear (eX4_clear rm) 2 := ⟨tw796, tw797, tw798, ⟨tw8, tw799, by decide +kernel, by decide +kernel, by decide +kernel⟩⟩
theorem tw800 : (Jvm.Cond.methodLink "TurningCoins$Sheet" (22 : Nat) ({ cls := "java/util/Arrays", name := "fill", desc := "([II)V" } : Jvm.MethodName)) ∈ tG := tG_t (i := 800) (by decide +kernel) (by decide +kernel)
theorem k_RX4_22 (rm : Room) : g_kS RX4 22 yJ7_fill_53178 (eJ7_fill_53178 rm) 2 := ⟨tw800, tw75, ⟨tw4, tw76, by decide +kernel, by decide +kernel, by decide +kernel⟩⟩
theorem tw804 : (Jvm.Cond.code ({ cls := "TurningCoins", name := "write", desc := "(III)I" } : Jvm.MethodName) prog_1_method_42_code (5 : Nat) (Option.some Jvm.ClassFile.FieldType.int)) ∈ tG := tG_t (i := 804) (by decide +kernel) (by decide +kernel)
theorem tw801 : (Jvm.Cond.methodLink "TurningCoinsLaw" (177 : Nat) ({ cls := "TurningCoins", name := "write", desc := "(III)I" } : Jvm.MethodName)) ∈ tG := tG_t (i := 801) (by decide +kernel) (by decide +kernel)
theorem tw802 : (Jvm.Cond.instanceMethod ({ cls := "TurningCoins", name := "write", desc := "(III)I" } : Jvm.MethodName)) ∈ tG := tG_t (i := 802) (by decide +kernel) (by decide +kernel)
theorem tw803 : (Jvm.Cond.selects "TurningCoins" ({ cls := "TurningCoins", name := "write", desc := "(III)I" } : Jvm.MethodName) ({ cls := "TurningCoins", name := "write", desc := "(III)I" } : Jvm.MethodName)) ∈ tG := tG_t (i := 803) (by decide +kernel) (by decide +kernel)
theorem k_RL_177 (rm : Room) : g_kV RL 177 yX6_write (eX6_write rm) 3 := ⟨tw801, tw802, tw803, ⟨tw1, tw804, by decide +kernel, by decide +kernel, by decide +kernel⟩⟩
theorem tw808 : (Jvm.Cond.code ({ cls := "TurningCoins", name := "seekSheet", desc := "(I)I" } : Jvm.MethodName) prog_1_method_55_code (2 : Nat) (Option.some Jvm.ClassFile.FieldType.int)) ∈ tG := tG_t (i := 808) (by decide +kernel) (by decide +kernel)
theorem tw805 : (Jvm.Cond.methodLink "TurningCoins" (266 : Nat) ({ cls := "TurningCoins", name := "seekSheet", desc := "(I)I" } : Jvm.MethodName)) ∈ tG := tG_t (i := 805) (by decide +kernel) (by decide +kernel)
theorem tw807 : (Jvm.Cond.instanceMethod ({ cls := "TurningCoins", name := "seekSheet", desc := "(I)I" } : Jvm.MethodName)) ∈ tG := tG_t (i := 807) (by decide +kernel) (by decide +kernel)
theorem sel_X6_seekSheet : Cond.selects RX6 yX6_seekSheet yX6_seekSheet ∈ tG := tG_s (q := (yX6_seekSheet, 11)) (i := 20) (by decide +kernel) (by decide +kernel)
theorem k_RX6_266 (rm : Room) : g_kV RX6 266 yX6_seekSheet (eX6_seekSheet rm) 1 := ⟨tw805, tw807, sel_X6_seekSheet, ⟨tw1, tw808, by decide +kernel, by decide +kernel, by decide +kernel⟩⟩
theorem tw812 : (Jvm.Cond.code ({ cls := "TurningCoins$Sheet", name := "isMissing", desc := "()Z" } : Jvm.MethodName) prog_6_method_2_code (1 : Nat) (Option.some Jvm.ClassFile.FieldType.boolean)) ∈ tG := tG_t (i := 812) (by decide +kernel) (by decide +kernel)
theorem tw809 : (Jvm.Cond.methodLink "TurningCoins" (272 : Nat) ({ cls := "TurningCoins$Sheet", name := "isMissing", desc := "()Z" } : Jvm.MethodName)) ∈ tG := tG_t (i := 809) (by decide +kernel) (by decide +kernel)
theorem tw810 : (Jvm.Cond.instanceMethod ({ cls := "TurningCoins$Sheet", name := "isMissing", desc := "()Z" } : Jvm.MethodName)) ∈ tG := tG_t (i := 810) (by decide +kernel) (by decide +kernel)
theorem tw811 : (Jvm.Cond.selects "TurningCoins$Sheet" ({ cls := "TurningCoins$Sheet", name := "isMissing", desc := "()Z" } : Jvm.MethodName) ({ cls := "TurningCoins$Sheet", name := "isMissing", desc := "()Z" } : Jvm.MethodName)) ∈ tG := tG_t (i := 811) (by decide +kernel) (by decide +kernel)
theorem k_RX6_272 (rm : Room) : g_kV RX6 272 yX4_isMissing (eX4_isMissing rm) 0 := ⟨tw809, tw810, tw811, ⟨tw8, tw812, by decide +kernel, by decide +kernel, by decide +kernel⟩⟩
theorem tw816 : (Jvm.Cond.code ({ cls := "TurningCoins$Sheet", name := "put", desc := "(II)V" } : Jvm.MethodName) prog_6_method_4_code (3 : Nat) (Option.none : Option Jvm.ClassFile.FieldType)) ∈ tG := tG_t (i := 816) (by decide +kernel) (by decide +kernel)
theorem tw813 : (Jvm.Cond.methodLink "TurningCoins" (269 : Nat) ({ cls := "TurningCoins$Sheet", name := "put", desc := "(II)V" } : Jvm.MethodName)) ∈ tG := tG_t (i := 813) (by decide +kernel) (by decide +kernel)
theorem tw814 : (Jvm.Cond.instanceMethod ({ cls := "TurningCoins$Sheet", name := "put", desc := "(II)V" } : Jvm.MethodName)) ∈ tG := tG_t (i := 814) (by decide +kernel) (by decide +kernel)
theorem tw815 : (Jvm.Cond.selects "TurningCoins$Sheet" ({ cls := "TurningCoins$Sheet", name := "put", desc := "(II)V" } : Jvm.MethodName) ({ cls := "TurningCoins$Sheet", name := "put", desc := "(II)V" } : Jvm.MethodName)) ∈ tG := tG_t (i := 815) (by decide +kernel) (by decide +kernel)
theorem k_RX6_269 (rm : Room) : g_kV RX6 269 yX4_put (eX4_put rm) 2 := ⟨tw813, tw814, tw815, ⟨tw8, tw816, by decide +kernel, by decide +kernel, by decide +kernel⟩⟩
theorem tw820 : (Jvm.Cond.code ({ cls := "TurningCoins", name := "copy", desc := "(IIIII)I" } : Jvm.MethodName) prog_1_method_43_code (8 : Nat) (Option.some Jvm.ClassFile.FieldType.int)) ∈ tG := tG_t (i := 820) (by decide +kernel) (by decide +kernel)
theorem tw817 : (Jvm.Cond.methodLink "TurningCoinsLaw" (181 : Nat) ({ cls := "TurningCoins", name := "copy", desc := "(IIIII)I" } : Jvm.MethodName)) ∈ tG := tG_t (i := 817) (by decide +kernel) (by decide +kernel)
theorem tw818 : (Jvm.Cond.instanceMethod ({ cls := "TurningCoins", name := "copy", desc := "(IIIII)I" } : Jvm.MethodName)) ∈ tG := tG_t (i := 818) (by decide +kernel) (by decide +kernel)
theorem tw819 : (Jvm.Cond.selects "TurningCoins" ({ cls := "TurningCoins", name := "copy", desc := "(IIIII)I" } : Jvm.MethodName) ({ cls := "TurningCoins", name := "copy", desc := "(IIIII)I" } : Jvm.MethodName)) ∈ tG := tG_t (i := 819) (by decide +kernel) (by decide +kernel)
theorem k_RL_181 (rm : Room) : g_kV RL 181 yX6_copy (eX6_copy rm) 5 := ⟨tw817, tw818, tw819, ⟨tw1, tw820, by decide +kernel, by decide +kernel, by decide +kernel⟩⟩
theorem tw824 : (Jvm.Cond.code ({ cls := "TurningCoins$Sheet", name := "hasRow", desc := "(II)Z" } : Jvm.MethodName) prog_6_method_5_code (3 : Nat) (Option.some Jvm.ClassFile.FieldType.boolean)) ∈ tG := tG_t (i := 824) (by decide +kernel) (by decide +kernel)
theorem tw821 : (Jvm.Cond.methodLink "TurningCoins" (279 : Nat) ({ cls := "TurningCoins$Sheet", name := "hasRow", desc := "(II)Z" } : Jvm.MethodName)) ∈ tG := tG_t (i := 821) (by decide +kernel) (by decide +kernel)
theorem tw822 : (Jvm.Cond.instanceMethod ({ cls := "TurningCoins$Sheet", name := "hasRow", desc := "(II)Z" } : Jvm.MethodName)) ∈ tG := tG_t (i := 822) (by decide +kernel) (by decide +kernel)
theorem tw823 : (Jvm.Cond.selects "TurningCoins$Sheet" ({ cls := "TurningCoins$Sheet", name := "hasRow", desc := "(II)Z" } : Jvm.MethodName) ({ cls := "TurningCoins$Sheet", name := "hasRow", desc := "(II)Z" } : Jvm.MethodName)) ∈ tG := tG_t (i := 823) (by decide +kernel) (by decide +kernel)
theorem k_RX6_279 (rm : Room) : g_kV RX6 279 yX4_hasRow (eX4_hasRow rm) 2 := ⟨tw821, tw822, tw823, ⟨tw8, tw824, by decide +kernel, by decide +kernel, by decide +kernel⟩⟩
theorem tw825 : (Jvm.Cond.methodLink "TurningCoins" (285 : Nat) ({ cls := "java/lang/System", name := "arraycopy", desc := "(Ljava/lang/Object;ILjava/lang/Object;II)V" } : Jvm.MethodName)) ∈ tG := tG_t (i := 825) (by decide +kernel) (by decide +kernel)
theorem ka_RX6_285 : Cond.methodLink RX6 285 arraycopyName ∈ tG ∧ Cond.native arraycopyName ∈ tG ∧ Cond.static arraycopyName ∈ tG ∧ Cond.initialized "java/lang/System" ∈ tG := ⟨tw825, tw558, tw557, tw13⟩
theorem tw829 : (Jvm.Cond.code ({ cls := "TurningCoins", name := "load", desc := "(I)I" } : Jvm.MethodName) prog_1_method_44_code (6 : Nat) (Option.some Jvm.ClassFile.FieldType.int)) ∈ tG := tG_t (i := 829) (by decide +kernel) (by decide +kernel)
theorem tw826 : (Jvm.Cond.methodLink "TurningCoinsLaw" (186 : Nat) ({ cls := "TurningCoins", name := "load", desc := "(I)I" } : Jvm.MethodName)) ∈ tG := tG_t (i := 826) (by decide +kernel) (by decide +kernel)
theorem tw827 : (Jvm.Cond.instanceMethod ({ cls := "TurningCoins", name := "load", desc := "(I)I" } : Jvm.MethodName)) ∈ tG := tG_t (i := 827) (by decide +kernel) (by decide +kernel)
theorem tw828 : (Jvm.Cond.selects "TurningCoins" ({ cls := "TurningCoins", name := "load", desc := "(I)I" } : Jvm.MethodName) ({ cls := "TurningCoins", name := "load", desc := "(I)I" } : Jvm.MethodName)) ∈ tG := tG_t (i := 828) (by decide +kernel) (by decide +kernel)
theorem k_RL_186 (rm : Room) : g_kV RL 186 yX6_load (eX6_load rm) 1 := ⟨tw826, tw827, tw828, ⟨tw1, tw829, by decide +kernel, by decide +kernel, by decide +kernel⟩⟩
theorem tw830 : (Jvm.Cond.methodLink "TurningCoins" (291 : Nat) ({ cls := "java/lang/Math", name := "min", desc := "(II)I" } : Jvm.MethodName)) ∈ tG := tG_t (i := 830) (by decide +kernel) (by decide +kernel)
theorem k_RX6_291 (rm : Room) : g_kS RX6 291 yJ9_min_7cf53 (eJ9_min_7cf53 rm) 2 := ⟨tw830, tw514, ⟨tw10, tw515, by decide +kernel, by decide +kernel, by decide +kernel⟩⟩
theorem tw834 : (Jvm.Cond.code ({ cls := "TurningCoins", name := "strike", desc := "(II)I" } : Jvm.MethodName) prog_1_method_45_code (5 : Nat) (Option.some Jvm.ClassFile.FieldType.int)) ∈ tG := tG_t (i := 834) (by decide +kernel) (by decide +kernel)
theorem tw831 : (Jvm.Cond.methodLink "TurningCoinsLaw" (190 : Nat) ({ cls := "TurningCoins", name := "strike", desc := "(II)I" } : Jvm.MethodName)) ∈ tG := tG_t (i := 831) (by decide +kernel) (by decide +kernel)
theorem tw832 : (Jvm.Cond.instanceMethod ({ cls := "TurningCoins", name := "strike", desc := "(II)I" } : Jvm.MethodName)) ∈ tG := tG_t (i := 832) (by decide +kernel) (by decide +kernel)
theorem tw833 : (Jvm.Cond.selects "TurningCoins" ({ cls := "TurningCoins", name := "strike", desc := "(II)I" } : Jvm.MethodName) ({ cls := "TurningCoins", name := "strike", desc := "(II)I" } : Jvm.MethodName)) ∈ tG := tG_t (i := 833) (by decide +kernel) (by decide +kernel)
theorem k_RL_190 (rm : Room) : g_kV RL 190 yX6_strike (eX6_strike rm) 2 := ⟨tw831, tw832, tw833, ⟨tw1, tw834, by decide +kernel, by decide +kernel, by decide +kernel⟩⟩
theorem tw838 : (Jvm.Cond.code ({ cls := "TurningCoins", name := "judge", desc := "(III)I" } : Jvm.MethodName) prog_1_method_46_code (7 : Nat) (Option.some Jvm.ClassFile.FieldType.int)) ∈ tG := tG_t (i := 838) (by decide +kernel) (by decide +kernel)
theorem tw835 : (Jvm.Cond.methodLink "TurningCoinsLaw" (194 : Nat) ({ cls := "TurningCoins", name := "judge", desc := "(III)I" } : Jvm.MethodName)) ∈ tG := tG_t (i := 835) (by decide +kernel) (by decide +kernel)
theorem tw836 : (Jvm.Cond.instanceMethod ({ cls := "TurningCoins", name := "judge", desc := "(III)I" } : Jvm.MethodName)) ∈ tG := tG_t (i := 836) (by decide +kernel) (by decide +kernel)
theorem tw837 : (Jvm.Cond.selects "TurningCoins" ({ cls := "TurningCoins", name := "judge", desc := "(III)I" } : Jvm.MethodName) ({ cls := "TurningCoins", name := "judge", desc := "(III)I" } : Jvm.MethodName)) ∈ tG := tG_t (i := 837) (by decide +kernel) (by decide +kernel)
theorem k_RL_194 (rm : Room) : g_kV RL 194 yX6_judge (eX6_judge rm) 3 := ⟨tw835, tw836, tw837, ⟨tw1, tw838, by decide +kernel, by decide +kernel, by decide +kernel⟩⟩
theorem tw842 : (Jvm.Cond.code ({ cls := "TurningCoins", name := "image", desc := "()I" } : Jvm.MethodName) prog_1_method_47_code (1 : Nat) (Option.some Jvm.ClassFile.FieldType.int)) ∈ tG := tG_t (i := 842) (by decide +kernel) (by decide +kernel)
theorem tw839 : (Jvm.Cond.methodLink "TurningCoinsLaw" (198 : Nat) ({ cls := "TurningCoins", name := "image", desc := "()I" } : Jvm.MethodName)) ∈ tG := tG_t (i := 839) (by decide +kernel) (by decide +kernel)
theorem tw840 : (Jvm.Cond.instanceMethod ({ cls := "TurningCoins", name := "image", desc := "()I" } : Jvm.MethodName)) ∈ tG := tG_t (i := 840) (by decide +kernel) (by decide +kernel)
theorem tw841 : (Jvm.Cond.selects "TurningCoins" ({ cls := "TurningCoins", name := "image", desc := "()I" } : Jvm.MethodName) ({ cls := "TurningCoins", name := "image", desc := "()I" } : Jvm.MethodName)) ∈ tG := tG_t (i := 841) (by decide +kernel) (by decide +kernel)
theorem k_RL_198 (rm : Room) : g_kV RL 198 yX6_image (eX6_image rm) 0 := ⟨tw839, tw840, tw841, ⟨tw1, tw842, by decide +kernel, by decide +kernel, by decide +kernel⟩⟩
theorem tw846 : (Jvm.Cond.code ({ cls := "TurningCoins", name := "undo", desc := "()I" } : Jvm.MethodName) prog_1_method_48_code (1 : Nat) (Option.some Jvm.ClassFile.FieldType.int)) ∈ tG := tG_t (i := 846) (by decide +kernel) (by decide +kernel)
theorem tw843 : (Jvm.Cond.methodLink "TurningCoinsLaw" (202 : Nat) ({ cls := "TurningCoins", name := "undo", desc := "()I" } : Jvm.MethodName)) ∈ tG := tG_t (i := 843) (by decide +kernel) (by decide +kernel)
theorem tw844 : (Jvm.Cond.instanceMethod ({ cls := "TurningCoins", name := "undo", desc := "()I" } : Jvm.MethodName)) ∈ tG := tG_t (i := 844) (by decide +kernel) (by decide +kernel)
theorem tw845 : (Jvm.Cond.selects "TurningCoins" ({ cls := "TurningCoins", name := "undo", desc := "()I" } : Jvm.MethodName) ({ cls := "TurningCoins", name := "undo", desc := "()I" } : Jvm.MethodName)) ∈ tG := tG_t (i := 845) (by decide +kernel) (by decide +kernel)
theorem k_RL_202 (rm : Room) : g_kV RL 202 yX6_undo (eX6_undo rm) 0 := ⟨tw843, tw844, tw845, ⟨tw1, tw846, by decide +kernel, by decide +kernel, by decide +kernel⟩⟩
theorem tw850 : (Jvm.Cond.code ({ cls := "TurningCoins", name := "tear", desc := "()I" } : Jvm.MethodName) prog_1_method_49_code (2 : Nat) (Option.some Jvm.ClassFile.FieldType.int)) ∈ tG := tG_t (i := 850) (by decide +kernel) (by decide +kernel)
theorem tw847 : (Jvm.Cond.methodLink "TurningCoinsLaw" (206 : Nat) ({ cls := "TurningCoins", name := "tear", desc := "()I" } : Jvm.MethodName)) ∈ tG := tG_t (i := 847) (by decide +kernel) (by decide +kernel)
theorem tw848 : (Jvm.Cond.instanceMethod ({ cls := "TurningCoins", name := "tear", desc := "()I" } : Jvm.MethodName)) ∈ tG := tG_t (i := 848) (by decide +kernel) (by decide +kernel)
theorem tw849 : (Jvm.Cond.selects "TurningCoins" ({ cls := "TurningCoins", name := "tear", desc := "()I" } : Jvm.MethodName) ({ cls := "TurningCoins", name := "tear", desc := "()I" } : Jvm.MethodName)) ∈ tG := tG_t (i := 849) (by decide +kernel) (by decide +kernel)
theorem k_RL_206 (rm : Room) : g_kV RL 206 yX6_tear (eX6_tear rm) 0 := ⟨tw847, tw848, tw849, ⟨tw1, tw850, by decide +kernel, by decide +kernel, by decide +kernel⟩⟩
theorem tw854 : (Jvm.Cond.code ({ cls := "TurningCoins", name := "count", desc := "(I)I" } : Jvm.MethodName) prog_1_method_50_code (2 : Nat) (Option.some Jvm.ClassFile.FieldType.int)) ∈ tG := tG_t (i := 854) (by decide +kernel) (by decide +kernel)
theorem tw851 : (Jvm.Cond.methodLink "TurningCoinsLaw" (210 : Nat) ({ cls := "TurningCoins", name := "count", desc := "(I)I" } : Jvm.MethodName)) ∈ tG := tG_t (i := 851) (by decide +kernel) (by decide +kernel)
theorem tw852 : (Jvm.Cond.instanceMethod ({ cls := "TurningCoins", name := "count", desc := "(I)I" } : Jvm.MethodName)) ∈ tG := tG_t (i := 852) (by decide +kernel) (by decide +kernel)
theorem tw853 : (Jvm.Cond.selects "TurningCoins" ({ cls := "TurningCoins", name := "count", desc := "(I)I" } : Jvm.MethodName) ({ cls := "TurningCoins", name := "count", desc := "(I)I" } : Jvm.MethodName)) ∈ tG := tG_t (i := 853) (by decide +kernel) (by decide +kernel)
theorem k_RL_210 (rm : Room) : g_kV RL 210 yX6_count (eX6_count rm) 1 := ⟨tw851, tw852, tw853, ⟨tw1, tw854, by decide +kernel, by decide +kernel, by decide +kernel⟩⟩
theorem tw855 : (Jvm.Cond.methodLink "TurningCoins" (298 : Nat) ({ cls := "TurningCoins$Land", name := "allCoins", desc := "()I" } : Jvm.MethodName)) ∈ tG := tG_t (i := 855) (by decide +kernel) (by decide +kernel)
theorem k_RX6_298 (rm : Room) : g_kV RX6 298 yX1_allCoins (eX1_allCoins rm) 0 := ⟨tw855, tw360, tw361, ⟨tw2, tw362, by decide +kernel, by decide +kernel, by decide +kernel⟩⟩
theorem tw859 : (Jvm.Cond.code ({ cls := "TurningCoins$Land", name := "turnsOfAll", desc := "()I" } : Jvm.MethodName) prog_3_method_13_code (3 : Nat) (Option.some Jvm.ClassFile.FieldType.int)) ∈ tG := tG_t (i := 859) (by decide +kernel) (by decide +kernel)
theorem tw856 : (Jvm.Cond.methodLink "TurningCoins" (301 : Nat) ({ cls := "TurningCoins$Land", name := "turnsOfAll", desc := "()I" } : Jvm.MethodName)) ∈ tG := tG_t (i := 856) (by decide +kernel) (by decide +kernel)
theorem tw857 : (Jvm.Cond.instanceMethod ({ cls := "TurningCoins$Land", name := "turnsOfAll", desc := "()I" } : Jvm.MethodName)) ∈ tG := tG_t (i := 857) (by decide +kernel) (by decide +kernel)
theorem tw858 : (Jvm.Cond.selects "TurningCoins$Land" ({ cls := "TurningCoins$Land", name := "turnsOfAll", desc := "()I" } : Jvm.MethodName) ({ cls := "TurningCoins$Land", name := "turnsOfAll", desc := "()I" } : Jvm.MethodName)) ∈ tG := tG_t (i := 858) (by decide +kernel) (by decide +kernel)
theorem k_RX6_301 (rm : Room) : g_kV RX6 301 yX1_turnsOfAll (eX1_turnsOfAll rm) 0 := ⟨tw856, tw857, tw858, ⟨tw2, tw859, by decide +kernel, by decide +kernel, by decide +kernel⟩⟩
theorem tw863 : (Jvm.Cond.code ({ cls := "TurningCoins$Land", name := "spotsHeld", desc := "()I" } : Jvm.MethodName) prog_3_method_14_code (3 : Nat) (Option.some Jvm.ClassFile.FieldType.int)) ∈ tG := tG_t (i := 863) (by decide +kernel) (by decide +kernel)
theorem tw860 : (Jvm.Cond.methodLink "TurningCoins" (304 : Nat) ({ cls := "TurningCoins$Land", name := "spotsHeld", desc := "()I" } : Jvm.MethodName)) ∈ tG := tG_t (i := 860) (by decide +kernel) (by decide +kernel)
theorem tw861 : (Jvm.Cond.instanceMethod ({ cls := "TurningCoins$Land", name := "spotsHeld", desc := "()I" } : Jvm.MethodName)) ∈ tG := tG_t (i := 861) (by decide +kernel) (by decide +kernel)
theorem tw862 : (Jvm.Cond.selects "TurningCoins$Land" ({ cls := "TurningCoins$Land", name := "spotsHeld", desc := "()I" } : Jvm.MethodName) ({ cls := "TurningCoins$Land", name := "spotsHeld", desc := "()I" } : Jvm.MethodName)) ∈ tG := tG_t (i := 862) (by decide +kernel) (by decide +kernel)
theorem k_RX6_304 (rm : Room) : g_kV RX6 304 yX1_spotsHeld (eX1_spotsHeld rm) 0 := ⟨tw860, tw861, tw862, ⟨tw2, tw863, by decide +kernel, by decide +kernel, by decide +kernel⟩⟩
theorem tw867 : (Jvm.Cond.code ({ cls := "TurningCoins", name := "status", desc := "(I)I" } : Jvm.MethodName) prog_1_method_51_code (4 : Nat) (Option.some Jvm.ClassFile.FieldType.int)) ∈ tG := tG_t (i := 867) (by decide +kernel) (by decide +kernel)
theorem tw864 : (Jvm.Cond.methodLink "TurningCoinsLaw" (214 : Nat) ({ cls := "TurningCoins", name := "status", desc := "(I)I" } : Jvm.MethodName)) ∈ tG := tG_t (i := 864) (by decide +kernel) (by decide +kernel)
theorem tw865 : (Jvm.Cond.instanceMethod ({ cls := "TurningCoins", name := "status", desc := "(I)I" } : Jvm.MethodName)) ∈ tG := tG_t (i := 865) (by decide +kernel) (by decide +kernel)
theorem tw866 : (Jvm.Cond.selects "TurningCoins" ({ cls := "TurningCoins", name := "status", desc := "(I)I" } : Jvm.MethodName) ({ cls := "TurningCoins", name := "status", desc := "(I)I" } : Jvm.MethodName)) ∈ tG := tG_t (i := 866) (by decide +kernel) (by decide +kernel)
theorem k_RL_214 (rm : Room) : g_kV RL 214 yX6_status (eX6_status rm) 1 := ⟨tw864, tw865, tw866, ⟨tw1, tw867, by decide +kernel, by decide +kernel, by decide +kernel⟩⟩
theorem tw9 : (Jvm.Cond.initialized "TurningCoinsModel") ∈ tG := tG_t (i := 9) (by decide +kernel) (by decide +kernel)
theorem tw872 : (Jvm.Cond.code ({ cls := "TurningCoinsModel", name := "<init>", desc := "()V" } : Jvm.MethodName) prog_9_method_1_code (2 : Nat) (Option.none : Option Jvm.ClassFile.FieldType)) ∈ tG := tG_t (i := 872) (by decide +kernel) (by decide +kernel)
theorem tw870 : (Jvm.Cond.methodLink "TurningCoinsLaw" (12 : Nat) ({ cls := "TurningCoinsModel", name := "<init>", desc := "()V" } : Jvm.MethodName)) ∈ tG := tG_t (i := 870) (by decide +kernel) (by decide +kernel)
theorem tw871 : (Jvm.Cond.instanceMethod ({ cls := "TurningCoinsModel", name := "<init>", desc := "()V" } : Jvm.MethodName)) ∈ tG := tG_t (i := 871) (by decide +kernel) (by decide +kernel)
theorem k_RL_12 (rm : Room) : g_kI RL 12 yX7_init (eX7_init rm) 0 := ⟨tw870, tw871, rfl, rfl, ⟨tw9, tw872, by decide +kernel, by decide +kernel, by decide +kernel⟩⟩
theorem tw873 : (Jvm.Cond.methodLink "TurningCoinsModel" (1 : Nat) ({ cls := "java/lang/Object", name := "<init>", desc := "()V" } : Jvm.MethodName)) ∈ tG := tG_t (i := 873) (by decide +kernel) (by decide +kernel)
theorem ko_RX7_1 : Cond.methodLink RX7 1 objectInit ∈ tG ∧ Cond.instanceMethod objectInit ∈ tG ∧ Cond.code objectInit ⟨#[0xb1]⟩ 1 none ∈ tG := ⟨tw873, tw24, tw25⟩
theorem tw963 : (Jvm.Cond.code ({ cls := "TurningCoinsModel", name := "coin", desc := "(III)I" } : Jvm.MethodName) prog_9_method_15_code (4 : Nat) (Option.some Jvm.ClassFile.FieldType.int)) ∈ tG := tG_t (i := 963) (by decide +kernel) (by decide +kernel)
theorem tw960 : (Jvm.Cond.methodLink "TurningCoinsLaw" (17 : Nat) ({ cls := "TurningCoinsModel", name := "coin", desc := "(III)I" } : Jvm.MethodName)) ∈ tG := tG_t (i := 960) (by decide +kernel) (by decide +kernel)
theorem tw961 : (Jvm.Cond.instanceMethod ({ cls := "TurningCoinsModel", name := "coin", desc := "(III)I" } : Jvm.MethodName)) ∈ tG := tG_t (i := 961) (by decide +kernel) (by decide +kernel)
theorem tw962 : (Jvm.Cond.selects "TurningCoinsModel" ({ cls := "TurningCoinsModel", name := "coin", desc := "(III)I" } : Jvm.MethodName) ({ cls := "TurningCoinsModel", name := "coin", desc := "(III)I" } : Jvm.MethodName)) ∈ tG := tG_t (i := 962) (by decide +kernel) (by decide +kernel)
theorem k_RL_17 (rm : Room) : g_kV RL 17 yX7_coin (eX7_coin rm) 3 := ⟨tw960, tw961, tw962, ⟨tw9, tw963, by decide +kernel, by decide +kernel, by decide +kernel⟩⟩
theorem tw966 : (Jvm.Cond.code ({ cls := "TurningCoinsModel", name := "isKind", desc := "(I)Z" } : Jvm.MethodName) prog_9_method_13_code (1 : Nat) (Option.some Jvm.ClassFile.FieldType.boolean)) ∈ tG := tG_t (i := 966) (by decide +kernel) (by decide +kernel)
theorem tw964 : (Jvm.Cond.methodLink "TurningCoinsModel" (84 : Nat) ({ cls := "TurningCoinsModel", name := "isKind", desc := "(I)Z" } : Jvm.MethodName)) ∈ tG := tG_t (i := 964) (by decide +kernel) (by decide +kernel)
theorem tw965 : (Jvm.Cond.static ({ cls := "TurningCoinsModel", name := "isKind", desc := "(I)Z" } : Jvm.MethodName)) ∈ tG := tG_t (i := 965) (by decide +kernel) (by decide +kernel)
theorem k_RX7_84 (rm : Room) : g_kS RX7 84 yX7_isKind (eX7_isKind rm) 1 := ⟨tw964, tw965, ⟨tw9, tw966, by decide +kernel, by decide +kernel, by decide +kernel⟩⟩
theorem tw969 : (Jvm.Cond.code ({ cls := "TurningCoinsModel", name := "within", desc := "(III)Z" } : Jvm.MethodName) prog_9_method_3_code (3 : Nat) (Option.some Jvm.ClassFile.FieldType.boolean)) ∈ tG := tG_t (i := 969) (by decide +kernel) (by decide +kernel)
theorem tw967 : (Jvm.Cond.methodLink "TurningCoinsModel" (72 : Nat) ({ cls := "TurningCoinsModel", name := "within", desc := "(III)Z" } : Jvm.MethodName)) ∈ tG := tG_t (i := 967) (by decide +kernel) (by decide +kernel)
theorem tw968 : (Jvm.Cond.static ({ cls := "TurningCoinsModel", name := "within", desc := "(III)Z" } : Jvm.MethodName)) ∈ tG := tG_t (i := 968) (by decide +kernel) (by decide +kernel)
theorem k_RX7_72 (rm : Room) : g_kS RX7 72 yX7_within (eX7_within rm) 3 := ⟨tw967, tw968, ⟨tw9, tw969, by decide +kernel, by decide +kernel, by decide +kernel⟩⟩
theorem tw974 : (Jvm.Cond.code ({ cls := "TurningCoinsModel", name := "finding", desc := "(I)I" } : Jvm.MethodName) prog_9_method_2_code (2 : Nat) (Option.some Jvm.ClassFile.FieldType.int)) ∈ tG := tG_t (i := 974) (by decide +kernel) (by decide +kernel)
theorem tw971 : (Jvm.Cond.methodLink "TurningCoinsModel" (87 : Nat) ({ cls := "TurningCoinsModel", name := "finding", desc := "(I)I" } : Jvm.MethodName)) ∈ tG := tG_t (i := 971) (by decide +kernel) (by decide +kernel)
theorem tw973 : (Jvm.Cond.instanceMethod ({ cls := "TurningCoinsModel", name := "finding", desc := "(I)I" } : Jvm.MethodName)) ∈ tG := tG_t (i := 973) (by decide +kernel) (by decide +kernel)
theorem sel_X7_finding : Cond.selects RX7 yX7_finding yX7_finding ∈ tG := tG_s (q := (yX7_finding, 25)) (i := 21) (by decide +kernel) (by decide +kernel)
theorem k_RX7_87 (rm : Room) : g_kV RX7 87 yX7_finding (eX7_finding rm) 1 := ⟨tw971, tw973, sel_X7_finding, ⟨tw9, tw974, by decide +kernel, by decide +kernel, by decide +kernel⟩⟩
theorem tw979 : (Jvm.Cond.code ({ cls := "TurningCoinsModel", name := "struck", desc := "(IIIII)I" } : Jvm.MethodName) prog_9_method_14_code (7 : Nat) (Option.some Jvm.ClassFile.FieldType.int)) ∈ tG := tG_t (i := 979) (by decide +kernel) (by decide +kernel)
theorem tw976 : (Jvm.Cond.methodLink "TurningCoinsModel" (92 : Nat) ({ cls := "TurningCoinsModel", name := "struck", desc := "(IIIII)I" } : Jvm.MethodName)) ∈ tG := tG_t (i := 976) (by decide +kernel) (by decide +kernel)
theorem tw978 : (Jvm.Cond.instanceMethod ({ cls := "TurningCoinsModel", name := "struck", desc := "(IIIII)I" } : Jvm.MethodName)) ∈ tG := tG_t (i := 978) (by decide +kernel) (by decide +kernel)
theorem sel_X7_struck : Cond.selects RX7 yX7_struck yX7_struck ∈ tG := tG_s (q := (yX7_struck, 25)) (i := 22) (by decide +kernel) (by decide +kernel)
theorem k_RX7_92 (rm : Room) : g_kV RX7 92 yX7_struck (eX7_struck rm) 5 := ⟨tw976, tw978, sel_X7_struck, ⟨tw9, tw979, by decide +kernel, by decide +kernel, by decide +kernel⟩⟩
theorem tw982 : (Jvm.Cond.code ({ cls := "TurningCoinsModel", name := "at", desc := "(II)I" } : Jvm.MethodName) prog_9_method_11_code (2 : Nat) (Option.some Jvm.ClassFile.FieldType.int)) ∈ tG := tG_t (i := 982) (by decide +kernel) (by decide +kernel)
theorem tw980 : (Jvm.Cond.methodLink "TurningCoinsModel" (80 : Nat) ({ cls := "TurningCoinsModel", name := "at", desc := "(II)I" } : Jvm.MethodName)) ∈ tG := tG_t (i := 980) (by decide +kernel) (by decide +kernel)
theorem tw981 : (Jvm.Cond.static ({ cls := "TurningCoinsModel", name := "at", desc := "(II)I" } : Jvm.MethodName)) ∈ tG := tG_t (i := 981) (by decide +kernel) (by decide +kernel)
theorem k_RX7_80 (rm : Room) : g_kS RX7 80 yX7_at (eX7_at rm) 2 := ⟨tw980, tw981, ⟨tw9, tw982, by decide +kernel, by decide +kernel, by decide +kernel⟩⟩
theorem tw986 : (Jvm.Cond.code ({ cls := "TurningCoinsModel", name := "of", desc := "(II)I" } : Jvm.MethodName) prog_9_method_25_code (3 : Nat) (Option.some Jvm.ClassFile.FieldType.int)) ∈ tG := tG_t (i := 986) (by decide +kernel) (by decide +kernel)
theorem tw983 : (Jvm.Cond.methodLink "TurningCoinsLaw" (22 : Nat) ({ cls := "TurningCoinsModel", name := "of", desc := "(II)I" } : Jvm.MethodName)) ∈ tG := tG_t (i := 983) (by decide +kernel) (by decide +kernel)
theorem tw984 : (Jvm.Cond.instanceMethod ({ cls := "TurningCoinsModel", name := "of", desc := "(II)I" } : Jvm.MethodName)) ∈ tG := tG_t (i := 984) (by decide +kernel) (by decide +kernel)
theorem tw985 : (Jvm.Cond.selects "TurningCoinsModel" ({ cls := "TurningCoinsModel", name := "of", desc := "(II)I" } : Jvm.MethodName) ({ cls := "TurningCoinsModel", name := "of", desc := "(II)I" } : Jvm.MethodName)) ∈ tG := tG_t (i := 985) (by decide +kernel) (by decide +kernel)
theorem k_RL_22 (rm : Room) : g_kV RL 22 yX7_of (eX7_of rm) 2 := ⟨tw983, tw984, tw985, ⟨tw9, tw986, by decide +kernel, by decide +kernel, by decide +kernel⟩⟩
theorem tw990 : (Jvm.Cond.code ({ cls := "TurningCoinsModel", name := "isCoin", desc := "(I)Z" } : Jvm.MethodName) prog_9_method_7_code (2 : Nat) (Option.some Jvm.ClassFile.FieldType.boolean)) ∈ tG := tG_t (i := 990) (by decide +kernel) (by decide +kernel)
theorem tw987 : (Jvm.Cond.methodLink "TurningCoinsModel" (124 : Nat) ({ cls := "TurningCoinsModel", name := "isCoin", desc := "(I)Z" } : Jvm.MethodName)) ∈ tG := tG_t (i := 987) (by decide +kernel) (by decide +kernel)
theorem tw989 : (Jvm.Cond.instanceMethod ({ cls := "TurningCoinsModel", name := "isCoin", desc := "(I)Z" } : Jvm.MethodName)) ∈ tG := tG_t (i := 989) (by decide +kernel) (by decide +kernel)
theorem sel_X7_isCoin : Cond.selects RX7 yX7_isCoin yX7_isCoin ∈ tG := tG_s (q := (yX7_isCoin, 25)) (i := 23) (by decide +kernel) (by decide +kernel)
theorem k_RX7_124 (rm : Room) : g_kV RX7 124 yX7_isCoin (eX7_isCoin rm) 1 := ⟨tw987, tw989, sel_X7_isCoin, ⟨tw9, tw990, by decide +kernel, by decide +kernel, by decide +kernel⟩⟩
theorem tw994 : (Jvm.Cond.code ({ cls := "TurningCoinsModel", name := "worth", desc := "(I)I" } : Jvm.MethodName) prog_9_method_19_code (2 : Nat) (Option.some Jvm.ClassFile.FieldType.int)) ∈ tG := tG_t (i := 994) (by decide +kernel) (by decide +kernel)
theorem tw991 : (Jvm.Cond.methodLink "TurningCoinsModel" (127 : Nat) ({ cls := "TurningCoinsModel", name := "worth", desc := "(I)I" } : Jvm.MethodName)) ∈ tG := tG_t (i := 991) (by decide +kernel) (by decide +kernel)
theorem tw993 : (Jvm.Cond.instanceMethod ({ cls := "TurningCoinsModel", name := "worth", desc := "(I)I" } : Jvm.MethodName)) ∈ tG := tG_t (i := 993) (by decide +kernel) (by decide +kernel)
theorem sel_X7_worth : Cond.selects RX7 yX7_worth yX7_worth ∈ tG := tG_s (q := (yX7_worth, 25)) (i := 24) (by decide +kernel) (by decide +kernel)
theorem k_RX7_127 (rm : Room) : g_kV RX7 127 yX7_worth (eX7_worth rm) 1 := ⟨tw991, tw993, sel_X7_worth, ⟨tw9, tw994, by decide +kernel, by decide +kernel, by decide +kernel⟩⟩
theorem tw998 : (Jvm.Cond.code ({ cls := "TurningCoinsModel", name := "coinIs", desc := "(II)I" } : Jvm.MethodName) prog_9_method_12_code (3 : Nat) (Option.some Jvm.ClassFile.FieldType.int)) ∈ tG := tG_t (i := 998) (by decide +kernel) (by decide +kernel)
theorem tw995 : (Jvm.Cond.methodLink "TurningCoinsModel" (99 : Nat) ({ cls := "TurningCoinsModel", name := "coinIs", desc := "(II)I" } : Jvm.MethodName)) ∈ tG := tG_t (i := 995) (by decide +kernel) (by decide +kernel)
theorem tw997 : (Jvm.Cond.instanceMethod ({ cls := "TurningCoinsModel", name := "coinIs", desc := "(II)I" } : Jvm.MethodName)) ∈ tG := tG_t (i := 997) (by decide +kernel) (by decide +kernel)
theorem sel_X7_coinIs : Cond.selects RX7 yX7_coinIs yX7_coinIs ∈ tG := tG_s (q := (yX7_coinIs, 25)) (i := 25) (by decide +kernel) (by decide +kernel)
theorem k_RX7_99 (rm : Room) : g_kV RX7 99 yX7_coinIs (eX7_coinIs rm) 2 := ⟨tw995, tw997, sel_X7_coinIs, ⟨tw9, tw998, by decide +kernel, by decide +kernel, by decide +kernel⟩⟩
theorem tw1002 : (Jvm.Cond.code ({ cls := "TurningCoinsModel", name := "worthSo", desc := "(IIIII)I" } : Jvm.MethodName) prog_9_method_18_code (7 : Nat) (Option.some Jvm.ClassFile.FieldType.int)) ∈ tG := tG_t (i := 1002) (by decide +kernel) (by decide +kernel)
theorem tw999 : (Jvm.Cond.methodLink "TurningCoinsModel" (107 : Nat) ({ cls := "TurningCoinsModel", name := "worthSo", desc := "(IIIII)I" } : Jvm.MethodName)) ∈ tG := tG_t (i := 999) (by decide +kernel) (by decide +kernel)
theorem tw1001 : (Jvm.Cond.instanceMethod ({ cls := "TurningCoinsModel", name := "worthSo", desc := "(IIIII)I" } : Jvm.MethodName)) ∈ tG := tG_t (i := 1001) (by decide +kernel) (by decide +kernel)
theorem sel_X7_worthSo : Cond.selects RX7 yX7_worthSo yX7_worthSo ∈ tG := tG_s (q := (yX7_worthSo, 25)) (i := 26) (by decide +kernel) (by decide +kernel)
theorem k_RX7_107 (rm : Room) : g_kV RX7 107 yX7_worthSo (eX7_worthSo rm) 5 := ⟨tw999, tw1001, sel_X7_worthSo, ⟨tw9, tw1002, by decide +kernel, by decide +kernel, by decide +kernel⟩⟩
theorem tw1003 : (Jvm.Cond.methodLink "TurningCoinsModel" (102 : Nat) ({ cls := "java/lang/Math", name := "max", desc := "(II)I" } : Jvm.MethodName)) ∈ tG := tG_t (i := 1003) (by decide +kernel) (by decide +kernel)
theorem k_RX7_102 (rm : Room) : g_kS RX7 102 yJ9_max_7cf53 (eJ9_max_7cf53 rm) 2 := ⟨tw1003, tw291, ⟨tw10, tw292, by decide +kernel, by decide +kernel, by decide +kernel⟩⟩
theorem tw1007 : (Jvm.Cond.code ({ cls := "TurningCoinsModel", name := "change", desc := "(III)I" } : Jvm.MethodName) prog_9_method_26_code (6 : Nat) (Option.some Jvm.ClassFile.FieldType.int)) ∈ tG := tG_t (i := 1007) (by decide +kernel) (by decide +kernel)
theorem tw1004 : (Jvm.Cond.methodLink "TurningCoinsLaw" (26 : Nat) ({ cls := "TurningCoinsModel", name := "change", desc := "(III)I" } : Jvm.MethodName)) ∈ tG := tG_t (i := 1004) (by decide +kernel) (by decide +kernel)
theorem tw1005 : (Jvm.Cond.instanceMethod ({ cls := "TurningCoinsModel", name := "change", desc := "(III)I" } : Jvm.MethodName)) ∈ tG := tG_t (i := 1005) (by decide +kernel) (by decide +kernel)
theorem tw1006 : (Jvm.Cond.selects "TurningCoinsModel" ({ cls := "TurningCoinsModel", name := "change", desc := "(III)I" } : Jvm.MethodName) ({ cls := "TurningCoinsModel", name := "change", desc := "(III)I" } : Jvm.MethodName)) ∈ tG := tG_t (i := 1006) (by decide +kernel) (by decide +kernel)
theorem k_RL_26 (rm : Room) : g_kV RL 26 yX7_change (eX7_change rm) 3 := ⟨tw1004, tw1005, tw1006, ⟨tw9, tw1007, by decide +kernel, by decide +kernel, by decide +kernel⟩⟩
theorem tw1011 : (Jvm.Cond.code ({ cls := "TurningCoinsModel", name := "become", desc := "(II)I" } : Jvm.MethodName) prog_9_method_4_code (4 : Nat) (Option.some Jvm.ClassFile.FieldType.int)) ∈ tG := tG_t (i := 1011) (by decide +kernel) (by decide +kernel)
theorem tw1008 : (Jvm.Cond.methodLink "TurningCoinsModel" (130 : Nat) ({ cls := "TurningCoinsModel", name := "become", desc := "(II)I" } : Jvm.MethodName)) ∈ tG := tG_t (i := 1008) (by decide +kernel) (by decide +kernel)
theorem tw1010 : (Jvm.Cond.instanceMethod ({ cls := "TurningCoinsModel", name := "become", desc := "(II)I" } : Jvm.MethodName)) ∈ tG := tG_t (i := 1010) (by decide +kernel) (by decide +kernel)
theorem sel_X7_become : Cond.selects RX7 yX7_become yX7_become ∈ tG := tG_s (q := (yX7_become, 25)) (i := 27) (by decide +kernel) (by decide +kernel)
theorem k_RX7_130 (rm : Room) : g_kV RX7 130 yX7_become (eX7_become rm) 2 := ⟨tw1008, tw1010, sel_X7_become, ⟨tw9, tw1011, by decide +kernel, by decide +kernel, by decide +kernel⟩⟩
theorem tw1015 : (Jvm.Cond.code ({ cls := "TurningCoinsModel", name := "turn", desc := "(I)I" } : Jvm.MethodName) prog_9_method_27_code (2 : Nat) (Option.some Jvm.ClassFile.FieldType.int)) ∈ tG := tG_t (i := 1015) (by decide +kernel) (by decide +kernel)
theorem tw1012 : (Jvm.Cond.methodLink "TurningCoinsLaw" (31 : Nat) ({ cls := "TurningCoinsModel", name := "turn", desc := "(I)I" } : Jvm.MethodName)) ∈ tG := tG_t (i := 1012) (by decide +kernel) (by decide +kernel)
theorem tw1013 : (Jvm.Cond.instanceMethod ({ cls := "TurningCoinsModel", name := "turn", desc := "(I)I" } : Jvm.MethodName)) ∈ tG := tG_t (i := 1013) (by decide +kernel) (by decide +kernel)
theorem tw1014 : (Jvm.Cond.selects "TurningCoinsModel" ({ cls := "TurningCoinsModel", name := "turn", desc := "(I)I" } : Jvm.MethodName) ({ cls := "TurningCoinsModel", name := "turn", desc := "(I)I" } : Jvm.MethodName)) ∈ tG := tG_t (i := 1014) (by decide +kernel) (by decide +kernel)
theorem k_RL_31 (rm : Room) : g_kV RL 31 yX7_turn (eX7_turn rm) 1 := ⟨tw1012, tw1013, tw1014, ⟨tw9, tw1015, by decide +kernel, by decide +kernel, by decide +kernel⟩⟩
theorem tw1019 : (Jvm.Cond.code ({ cls := "TurningCoinsModel", name := "turnsOver", desc := "(I)V" } : Jvm.MethodName) prog_9_method_23_code (3 : Nat) (Option.none : Option Jvm.ClassFile.FieldType)) ∈ tG := tG_t (i := 1019) (by decide +kernel) (by decide +kernel)
theorem tw1016 : (Jvm.Cond.methodLink "TurningCoinsModel" (120 : Nat) ({ cls := "TurningCoinsModel", name := "turnsOver", desc := "(I)V" } : Jvm.MethodName)) ∈ tG := tG_t (i := 1016) (by decide +kernel) (by decide +kernel)
theorem tw1018 : (Jvm.Cond.instanceMethod ({ cls := "TurningCoinsModel", name := "turnsOver", desc := "(I)V" } : Jvm.MethodName)) ∈ tG := tG_t (i := 1018) (by decide +kernel) (by decide +kernel)
theorem sel_X7_turnsOver : Cond.selects RX7 yX7_turnsOver yX7_turnsOver ∈ tG := tG_s (q := (yX7_turnsOver, 25)) (i := 28) (by decide +kernel) (by decide +kernel)
theorem k_RX7_120 (rm : Room) : g_kV RX7 120 yX7_turnsOver (eX7_turnsOver rm) 1 := ⟨tw1016, tw1018, sel_X7_turnsOver, ⟨tw9, tw1019, by decide +kernel, by decide +kernel, by decide +kernel⟩⟩
theorem tw1023 : (Jvm.Cond.code ({ cls := "TurningCoinsModel", name := "turnsThen", desc := "(I)I" } : Jvm.MethodName) prog_9_method_21_code (3 : Nat) (Option.some Jvm.ClassFile.FieldType.int)) ∈ tG := tG_t (i := 1023) (by decide +kernel) (by decide +kernel)
theorem tw1020 : (Jvm.Cond.methodLink "TurningCoinsModel" (117 : Nat) ({ cls := "TurningCoinsModel", name := "turnsThen", desc := "(I)I" } : Jvm.MethodName)) ∈ tG := tG_t (i := 1020) (by decide +kernel) (by decide +kernel)
theorem tw1022 : (Jvm.Cond.instanceMethod ({ cls := "TurningCoinsModel", name := "turnsThen", desc := "(I)I" } : Jvm.MethodName)) ∈ tG := tG_t (i := 1022) (by decide +kernel) (by decide +kernel)
theorem sel_X7_turnsThen : Cond.selects RX7 yX7_turnsThen yX7_turnsThen ∈ tG := tG_s (q := (yX7_turnsThen, 25)) (i := 29) (by decide +kernel) (by decide +kernel)
theorem k_RX7_117 (rm : Room) : g_kV RX7 117 yX7_turnsThen (eX7_turnsThen rm) 1 := ⟨tw1020, tw1022, sel_X7_turnsThen, ⟨tw9, tw1023, by decide +kernel, by decide +kernel, by decide +kernel⟩⟩
theorem tw1026 : (Jvm.Cond.code ({ cls := "TurningCoinsModel", name := "isUnder", desc := "(II)Z" } : Jvm.MethodName) prog_9_method_17_code (3 : Nat) (Option.some Jvm.ClassFile.FieldType.boolean)) ∈ tG := tG_t (i := 1026) (by decide +kernel) (by decide +kernel)
theorem tw1024 : (Jvm.Cond.methodLink "TurningCoinsModel" (110 : Nat) ({ cls := "TurningCoinsModel", name := "isUnder", desc := "(II)Z" } : Jvm.MethodName)) ∈ tG := tG_t (i := 1024) (by decide +kernel) (by decide +kernel)
theorem tw1025 : (Jvm.Cond.static ({ cls := "TurningCoinsModel", name := "isUnder", desc := "(II)Z" } : Jvm.MethodName)) ∈ tG := tG_t (i := 1025) (by decide +kernel) (by decide +kernel)
theorem k_RX7_110 (rm : Room) : g_kS RX7 110 yX7_isUnder (eX7_isUnder rm) 2 := ⟨tw1024, tw1025, ⟨tw9, tw1026, by decide +kernel, by decide +kernel, by decide +kernel⟩⟩
theorem tw1029 : (Jvm.Cond.code ({ cls := "TurningCoinsModel", name := "above", desc := "(I)I" } : Jvm.MethodName) prog_9_method_16_code (1 : Nat) (Option.some Jvm.ClassFile.FieldType.int)) ∈ tG := tG_t (i := 1029) (by decide +kernel) (by decide +kernel)
theorem tw1027 : (Jvm.Cond.methodLink "TurningCoinsModel" (96 : Nat) ({ cls := "TurningCoinsModel", name := "above", desc := "(I)I" } : Jvm.MethodName)) ∈ tG := tG_t (i := 1027) (by decide +kernel) (by decide +kernel)
theorem tw1028 : (Jvm.Cond.static ({ cls := "TurningCoinsModel", name := "above", desc := "(I)I" } : Jvm.MethodName)) ∈ tG := tG_t (i := 1028) (by decide +kernel) (by decide +kernel)
theorem k_RX7_96 (rm : Room) : g_kS RX7 96 yX7_above (eX7_above rm) 1 := ⟨tw1027, tw1028, ⟨tw9, tw1029, by decide +kernel, by decide +kernel, by decide +kernel⟩⟩
theorem tw1033 : (Jvm.Cond.code ({ cls := "TurningCoinsModel", name := "liesThen", desc := "(I)I" } : Jvm.MethodName) prog_9_method_20_code (3 : Nat) (Option.some Jvm.ClassFile.FieldType.int)) ∈ tG := tG_t (i := 1033) (by decide +kernel) (by decide +kernel)
theorem tw1030 : (Jvm.Cond.methodLink "TurningCoinsModel" (114 : Nat) ({ cls := "TurningCoinsModel", name := "liesThen", desc := "(I)I" } : Jvm.MethodName)) ∈ tG := tG_t (i := 1030) (by decide +kernel) (by decide +kernel)
theorem tw1032 : (Jvm.Cond.instanceMethod ({ cls := "TurningCoinsModel", name := "liesThen", desc := "(I)I" } : Jvm.MethodName)) ∈ tG := tG_t (i := 1032) (by decide +kernel) (by decide +kernel)
theorem sel_X7_liesThen : Cond.selects RX7 yX7_liesThen yX7_liesThen ∈ tG := tG_s (q := (yX7_liesThen, 25)) (i := 30) (by decide +kernel) (by decide +kernel)
theorem k_RX7_114 (rm : Room) : g_kV RX7 114 yX7_liesThen (eX7_liesThen rm) 1 := ⟨tw1030, tw1032, sel_X7_liesThen, ⟨tw9, tw1033, by decide +kernel, by decide +kernel, by decide +kernel⟩⟩
theorem tw1037 : (Jvm.Cond.code ({ cls := "TurningCoinsModel", name := "purse", desc := "(II)I" } : Jvm.MethodName) prog_9_method_33_code (4 : Nat) (Option.some Jvm.ClassFile.FieldType.int)) ∈ tG := tG_t (i := 1037) (by decide +kernel) (by decide +kernel)
theorem tw1034 : (Jvm.Cond.methodLink "TurningCoinsLaw" (35 : Nat) ({ cls := "TurningCoinsModel", name := "purse", desc := "(II)I" } : Jvm.MethodName)) ∈ tG := tG_t (i := 1034) (by decide +kernel) (by decide +kernel)
theorem tw1035 : (Jvm.Cond.instanceMethod ({ cls := "TurningCoinsModel", name := "purse", desc := "(II)I" } : Jvm.MethodName)) ∈ tG := tG_t (i := 1035) (by decide +kernel) (by decide +kernel)
theorem tw1036 : (Jvm.Cond.selects "TurningCoinsModel" ({ cls := "TurningCoinsModel", name := "purse", desc := "(II)I" } : Jvm.MethodName) ({ cls := "TurningCoinsModel", name := "purse", desc := "(II)I" } : Jvm.MethodName)) ∈ tG := tG_t (i := 1036) (by decide +kernel) (by decide +kernel)
theorem k_RL_35 (rm : Room) : g_kV RL 35 yX7_purse (eX7_purse rm) 2 := ⟨tw1034, tw1035, tw1036, ⟨tw9, tw1037, by decide +kernel, by decide +kernel, by decide +kernel⟩⟩
theorem tw1040 : (Jvm.Cond.code ({ cls := "TurningCoinsModel", name := "isPurse", desc := "(I)Z" } : Jvm.MethodName) prog_9_method_8_code (1 : Nat) (Option.some Jvm.ClassFile.FieldType.boolean)) ∈ tG := tG_t (i := 1040) (by decide +kernel) (by decide +kernel)
theorem tw1038 : (Jvm.Cond.methodLink "TurningCoinsModel" (76 : Nat) ({ cls := "TurningCoinsModel", name := "isPurse", desc := "(I)Z" } : Jvm.MethodName)) ∈ tG := tG_t (i := 1038) (by decide +kernel) (by decide +kernel)
theorem tw1039 : (Jvm.Cond.static ({ cls := "TurningCoinsModel", name := "isPurse", desc := "(I)Z" } : Jvm.MethodName)) ∈ tG := tG_t (i := 1039) (by decide +kernel) (by decide +kernel)
theorem k_RX7_76 (rm : Room) : g_kS RX7 76 yX7_isPurse (eX7_isPurse rm) 1 := ⟨tw1038, tw1039, ⟨tw9, tw1040, by decide +kernel, by decide +kernel, by decide +kernel⟩⟩
theorem tw1044 : (Jvm.Cond.code ({ cls := "TurningCoinsModel", name := "setOf", desc := "(I)I" } : Jvm.MethodName) prog_9_method_28_code (4 : Nat) (Option.some Jvm.ClassFile.FieldType.int)) ∈ tG := tG_t (i := 1044) (by decide +kernel) (by decide +kernel)
theorem tw1041 : (Jvm.Cond.methodLink "TurningCoinsModel" (139 : Nat) ({ cls := "TurningCoinsModel", name := "setOf", desc := "(I)I" } : Jvm.MethodName)) ∈ tG := tG_t (i := 1041) (by decide +kernel) (by decide +kernel)
theorem tw1043 : (Jvm.Cond.instanceMethod ({ cls := "TurningCoinsModel", name := "setOf", desc := "(I)I" } : Jvm.MethodName)) ∈ tG := tG_t (i := 1043) (by decide +kernel) (by decide +kernel)
theorem sel_X7_setOf : Cond.selects RX7 yX7_setOf yX7_setOf ∈ tG := tG_s (q := (yX7_setOf, 25)) (i := 31) (by decide +kernel) (by decide +kernel)
theorem k_RX7_139 (rm : Room) : g_kV RX7 139 yX7_setOf (eX7_setOf rm) 1 := ⟨tw1041, tw1043, sel_X7_setOf, ⟨tw9, tw1044, by decide +kernel, by decide +kernel, by decide +kernel⟩⟩
theorem tw1048 : (Jvm.Cond.code ({ cls := "TurningCoinsModel", name := "sumOf", desc := "(I)I" } : Jvm.MethodName) prog_9_method_31_code (4 : Nat) (Option.some Jvm.ClassFile.FieldType.int)) ∈ tG := tG_t (i := 1048) (by decide +kernel) (by decide +kernel)
theorem tw1045 : (Jvm.Cond.methodLink "TurningCoinsModel" (142 : Nat) ({ cls := "TurningCoinsModel", name := "sumOf", desc := "(I)I" } : Jvm.MethodName)) ∈ tG := tG_t (i := 1045) (by decide +kernel) (by decide +kernel)
theorem tw1047 : (Jvm.Cond.instanceMethod ({ cls := "TurningCoinsModel", name := "sumOf", desc := "(I)I" } : Jvm.MethodName)) ∈ tG := tG_t (i := 1047) (by decide +kernel) (by decide +kernel)
theorem sel_X7_sumOf : Cond.selects RX7 yX7_sumOf yX7_sumOf ∈ tG := tG_s (q := (yX7_sumOf, 25)) (i := 32) (by decide +kernel) (by decide +kernel)
theorem k_RX7_142 (rm : Room) : g_kV RX7 142 yX7_sumOf (eX7_sumOf rm) 1 := ⟨tw1045, tw1047, sel_X7_sumOf, ⟨tw9, tw1048, by decide +kernel, by decide +kernel, by decide +kernel⟩⟩
theorem tw1051 : (Jvm.Cond.code ({ cls := "TurningCoinsModel", name := "has", desc := "(II)Z" } : Jvm.MethodName) prog_9_method_30_code (2 : Nat) (Option.some Jvm.ClassFile.FieldType.boolean)) ∈ tG := tG_t (i := 1051) (by decide +kernel) (by decide +kernel)
theorem tw1049 : (Jvm.Cond.methodLink "TurningCoinsModel" (133 : Nat) ({ cls := "TurningCoinsModel", name := "has", desc := "(II)Z" } : Jvm.MethodName)) ∈ tG := tG_t (i := 1049) (by decide +kernel) (by decide +kernel)
theorem tw1050 : (Jvm.Cond.static ({ cls := "TurningCoinsModel", name := "has", desc := "(II)Z" } : Jvm.MethodName)) ∈ tG := tG_t (i := 1050) (by decide +kernel) (by decide +kernel)
theorem k_RX7_133 (rm : Room) : g_kS RX7 133 yX7_has (eX7_has rm) 2 := ⟨tw1049, tw1050, ⟨tw9, tw1051, by decide +kernel, by decide +kernel, by decide +kernel⟩⟩
theorem tw1055 : (Jvm.Cond.code ({ cls := "TurningCoinsModel", name := "shipUp", desc := "()I" } : Jvm.MethodName) prog_9_method_29_code (3 : Nat) (Option.some Jvm.ClassFile.FieldType.int)) ∈ tG := tG_t (i := 1055) (by decide +kernel) (by decide +kernel)
theorem tw1052 : (Jvm.Cond.methodLink "TurningCoinsModel" (145 : Nat) ({ cls := "TurningCoinsModel", name := "shipUp", desc := "()I" } : Jvm.MethodName)) ∈ tG := tG_t (i := 1052) (by decide +kernel) (by decide +kernel)
theorem tw1054 : (Jvm.Cond.instanceMethod ({ cls := "TurningCoinsModel", name := "shipUp", desc := "()I" } : Jvm.MethodName)) ∈ tG := tG_t (i := 1054) (by decide +kernel) (by decide +kernel)
theorem sel_X7_shipUp : Cond.selects RX7 yX7_shipUp yX7_shipUp ∈ tG := tG_s (q := (yX7_shipUp, 25)) (i := 33) (by decide +kernel) (by decide +kernel)
theorem k_RX7_145 (rm : Room) : g_kV RX7 145 yX7_shipUp (eX7_shipUp rm) 0 := ⟨tw1052, tw1054, sel_X7_shipUp, ⟨tw9, tw1055, by decide +kernel, by decide +kernel, by decide +kernel⟩⟩
theorem tw1059 : (Jvm.Cond.code ({ cls := "TurningCoinsModel", name := "sumPaid", desc := "(II)I" } : Jvm.MethodName) prog_9_method_32_code (5 : Nat) (Option.some Jvm.ClassFile.FieldType.int)) ∈ tG := tG_t (i := 1059) (by decide +kernel) (by decide +kernel)
theorem tw1056 : (Jvm.Cond.methodLink "TurningCoinsModel" (149 : Nat) ({ cls := "TurningCoinsModel", name := "sumPaid", desc := "(II)I" } : Jvm.MethodName)) ∈ tG := tG_t (i := 1056) (by decide +kernel) (by decide +kernel)
theorem tw1058 : (Jvm.Cond.instanceMethod ({ cls := "TurningCoinsModel", name := "sumPaid", desc := "(II)I" } : Jvm.MethodName)) ∈ tG := tG_t (i := 1058) (by decide +kernel) (by decide +kernel)
theorem sel_X7_sumPaid : Cond.selects RX7 yX7_sumPaid yX7_sumPaid ∈ tG := tG_s (q := (yX7_sumPaid, 25)) (i := 34) (by decide +kernel) (by decide +kernel)
theorem k_RX7_149 (rm : Room) : g_kV RX7 149 yX7_sumPaid (eX7_sumPaid rm) 2 := ⟨tw1056, tw1058, sel_X7_sumPaid, ⟨tw9, tw1059, by decide +kernel, by decide +kernel, by decide +kernel⟩⟩
theorem tw1063 : (Jvm.Cond.code ({ cls := "TurningCoinsModel", name := "worthPaid", desc := "(II)I" } : Jvm.MethodName) prog_9_method_22_code (3 : Nat) (Option.some Jvm.ClassFile.FieldType.int)) ∈ tG := tG_t (i := 1063) (by decide +kernel) (by decide +kernel)
theorem tw1060 : (Jvm.Cond.methodLink "TurningCoinsModel" (136 : Nat) ({ cls := "TurningCoinsModel", name := "worthPaid", desc := "(II)I" } : Jvm.MethodName)) ∈ tG := tG_t (i := 1060) (by decide +kernel) (by decide +kernel)
theorem tw1062 : (Jvm.Cond.instanceMethod ({ cls := "TurningCoinsModel", name := "worthPaid", desc := "(II)I" } : Jvm.MethodName)) ∈ tG := tG_t (i := 1062) (by decide +kernel) (by decide +kernel)
theorem sel_X7_worthPaid : Cond.selects RX7 yX7_worthPaid yX7_worthPaid ∈ tG := tG_s (q := (yX7_worthPaid, 25)) (i := 35) (by decide +kernel) (by decide +kernel)
theorem k_RX7_136 (rm : Room) : g_kV RX7 136 yX7_worthPaid (eX7_worthPaid rm) 2 := ⟨tw1060, tw1062, sel_X7_worthPaid, ⟨tw9, tw1063, by decide +kernel, by decide +kernel, by decide +kernel⟩⟩
theorem tw1067 : (Jvm.Cond.code ({ cls := "TurningCoinsModel", name := "sum", desc := "(I)I" } : Jvm.MethodName) prog_9_method_34_code (2 : Nat) (Option.some Jvm.ClassFile.FieldType.int)) ∈ tG := tG_t (i := 1067) (by decide +kernel) (by decide +kernel)
theorem tw1064 : (Jvm.Cond.methodLink "TurningCoinsLaw" (39 : Nat) ({ cls := "TurningCoinsModel", name := "sum", desc := "(I)I" } : Jvm.MethodName)) ∈ tG := tG_t (i := 1064) (by decide +kernel) (by decide +kernel)
theorem tw1065 : (Jvm.Cond.instanceMethod ({ cls := "TurningCoinsModel", name := "sum", desc := "(I)I" } : Jvm.MethodName)) ∈ tG := tG_t (i := 1065) (by decide +kernel) (by decide +kernel)
theorem tw1066 : (Jvm.Cond.selects "TurningCoinsModel" ({ cls := "TurningCoinsModel", name := "sum", desc := "(I)I" } : Jvm.MethodName) ({ cls := "TurningCoinsModel", name := "sum", desc := "(I)I" } : Jvm.MethodName)) ∈ tG := tG_t (i := 1066) (by decide +kernel) (by decide +kernel)
theorem k_RL_39 (rm : Room) : g_kV RL 39 yX7_sum (eX7_sum rm) 1 := ⟨tw1064, tw1065, tw1066, ⟨tw9, tw1067, by decide +kernel, by decide +kernel, by decide +kernel⟩⟩
theorem tw1071 : (Jvm.Cond.code ({ cls := "TurningCoinsModel", name := "isSet", desc := "(I)Z" } : Jvm.MethodName) prog_9_method_10_code (2 : Nat) (Option.some Jvm.ClassFile.FieldType.boolean)) ∈ tG := tG_t (i := 1071) (by decide +kernel) (by decide +kernel)
theorem tw1068 : (Jvm.Cond.methodLink "TurningCoinsModel" (152 : Nat) ({ cls := "TurningCoinsModel", name := "isSet", desc := "(I)Z" } : Jvm.MethodName)) ∈ tG := tG_t (i := 1068) (by decide +kernel) (by decide +kernel)
theorem tw1070 : (Jvm.Cond.instanceMethod ({ cls := "TurningCoinsModel", name := "isSet", desc := "(I)Z" } : Jvm.MethodName)) ∈ tG := tG_t (i := 1070) (by decide +kernel) (by decide +kernel)
theorem sel_X7_isSet : Cond.selects RX7 yX7_isSet yX7_isSet ∈ tG := tG_s (q := (yX7_isSet, 25)) (i := 36) (by decide +kernel) (by decide +kernel)
theorem k_RX7_152 (rm : Room) : g_kV RX7 152 yX7_isSet (eX7_isSet rm) 1 := ⟨tw1068, tw1070, sel_X7_isSet, ⟨tw9, tw1071, by decide +kernel, by decide +kernel, by decide +kernel⟩⟩
theorem tw1075 : (Jvm.Cond.code ({ cls := "TurningCoinsModel", name := "pay", desc := "(III)I" } : Jvm.MethodName) prog_9_method_36_code (4 : Nat) (Option.some Jvm.ClassFile.FieldType.int)) ∈ tG := tG_t (i := 1075) (by decide +kernel) (by decide +kernel)
theorem tw1072 : (Jvm.Cond.methodLink "TurningCoinsLaw" (43 : Nat) ({ cls := "TurningCoinsModel", name := "pay", desc := "(III)I" } : Jvm.MethodName)) ∈ tG := tG_t (i := 1072) (by decide +kernel) (by decide +kernel)
theorem tw1073 : (Jvm.Cond.instanceMethod ({ cls := "TurningCoinsModel", name := "pay", desc := "(III)I" } : Jvm.MethodName)) ∈ tG := tG_t (i := 1073) (by decide +kernel) (by decide +kernel)
theorem tw1074 : (Jvm.Cond.selects "TurningCoinsModel" ({ cls := "TurningCoinsModel", name := "pay", desc := "(III)I" } : Jvm.MethodName) ({ cls := "TurningCoinsModel", name := "pay", desc := "(III)I" } : Jvm.MethodName)) ∈ tG := tG_t (i := 1074) (by decide +kernel) (by decide +kernel)
theorem k_RL_43 (rm : Room) : g_kV RL 43 yX7_pay (eX7_pay rm) 3 := ⟨tw1072, tw1073, tw1074, ⟨tw9, tw1075, by decide +kernel, by decide +kernel, by decide +kernel⟩⟩
theorem tw1078 : (Jvm.Cond.code ({ cls := "TurningCoinsModel", name := "areTwo", desc := "(II)Z" } : Jvm.MethodName) prog_9_method_9_code (2 : Nat) (Option.some Jvm.ClassFile.FieldType.boolean)) ∈ tG := tG_t (i := 1078) (by decide +kernel) (by decide +kernel)
theorem tw1076 : (Jvm.Cond.methodLink "TurningCoinsModel" (159 : Nat) ({ cls := "TurningCoinsModel", name := "areTwo", desc := "(II)Z" } : Jvm.MethodName)) ∈ tG := tG_t (i := 1076) (by decide +kernel) (by decide +kernel)
theorem tw1077 : (Jvm.Cond.static ({ cls := "TurningCoinsModel", name := "areTwo", desc := "(II)Z" } : Jvm.MethodName)) ∈ tG := tG_t (i := 1077) (by decide +kernel) (by decide +kernel)
theorem k_RX7_159 (rm : Room) : g_kS RX7 159 yX7_areTwo (eX7_areTwo rm) 2 := ⟨tw1076, tw1077, ⟨tw9, tw1078, by decide +kernel, by decide +kernel, by decide +kernel⟩⟩
theorem tw1083 : (Jvm.Cond.code ({ cls := "TurningCoinsModel", name := "paidAll", desc := "(II)I" } : Jvm.MethodName) prog_9_method_35_code (5 : Nat) (Option.some Jvm.ClassFile.FieldType.int)) ∈ tG := tG_t (i := 1083) (by decide +kernel) (by decide +kernel)
theorem tw1080 : (Jvm.Cond.methodLink "TurningCoinsModel" (163 : Nat) ({ cls := "TurningCoinsModel", name := "paidAll", desc := "(II)I" } : Jvm.MethodName)) ∈ tG := tG_t (i := 1080) (by decide +kernel) (by decide +kernel)
theorem tw1082 : (Jvm.Cond.instanceMethod ({ cls := "TurningCoinsModel", name := "paidAll", desc := "(II)I" } : Jvm.MethodName)) ∈ tG := tG_t (i := 1082) (by decide +kernel) (by decide +kernel)
theorem sel_X7_paidAll : Cond.selects RX7 yX7_paidAll yX7_paidAll ∈ tG := tG_s (q := (yX7_paidAll, 25)) (i := 37) (by decide +kernel) (by decide +kernel)
theorem k_RX7_163 (rm : Room) : g_kV RX7 163 yX7_paidAll (eX7_paidAll rm) 2 := ⟨tw1080, tw1082, sel_X7_paidAll, ⟨tw9, tw1083, by decide +kernel, by decide +kernel, by decide +kernel⟩⟩
theorem tw1087 : (Jvm.Cond.code ({ cls := "TurningCoinsModel", name := "paid", desc := "(II)V" } : Jvm.MethodName) prog_9_method_24_code (3 : Nat) (Option.none : Option Jvm.ClassFile.FieldType)) ∈ tG := tG_t (i := 1087) (by decide +kernel) (by decide +kernel)
theorem tw1084 : (Jvm.Cond.methodLink "TurningCoinsModel" (155 : Nat) ({ cls := "TurningCoinsModel", name := "paid", desc := "(II)V" } : Jvm.MethodName)) ∈ tG := tG_t (i := 1084) (by decide +kernel) (by decide +kernel)
theorem tw1086 : (Jvm.Cond.instanceMethod ({ cls := "TurningCoinsModel", name := "paid", desc := "(II)V" } : Jvm.MethodName)) ∈ tG := tG_t (i := 1086) (by decide +kernel) (by decide +kernel)
theorem sel_X7_paid : Cond.selects RX7 yX7_paid yX7_paid ∈ tG := tG_s (q := (yX7_paid, 25)) (i := 38) (by decide +kernel) (by decide +kernel)
theorem k_RX7_155 (rm : Room) : g_kV RX7 155 yX7_paid (eX7_paid rm) 2 := ⟨tw1084, tw1086, sel_X7_paid, ⟨tw9, tw1087, by decide +kernel, by decide +kernel, by decide +kernel⟩⟩
theorem tw1091 : (Jvm.Cond.code ({ cls := "TurningCoinsModel", name := "there", desc := "(II)I" } : Jvm.MethodName) prog_9_method_37_code (6 : Nat) (Option.some Jvm.ClassFile.FieldType.int)) ∈ tG := tG_t (i := 1091) (by decide +kernel) (by decide +kernel)
theorem tw1088 : (Jvm.Cond.methodLink "TurningCoinsLaw" (47 : Nat) ({ cls := "TurningCoinsModel", name := "there", desc := "(II)I" } : Jvm.MethodName)) ∈ tG := tG_t (i := 1088) (by decide +kernel) (by decide +kernel)
theorem tw1089 : (Jvm.Cond.instanceMethod ({ cls := "TurningCoinsModel", name := "there", desc := "(II)I" } : Jvm.MethodName)) ∈ tG := tG_t (i := 1089) (by decide +kernel) (by decide +kernel)
theorem tw1090 : (Jvm.Cond.selects "TurningCoinsModel" ({ cls := "TurningCoinsModel", name := "there", desc := "(II)I" } : Jvm.MethodName) ({ cls := "TurningCoinsModel", name := "there", desc := "(II)I" } : Jvm.MethodName)) ∈ tG := tG_t (i := 1090) (by decide +kernel) (by decide +kernel)
theorem k_RL_47 (rm : Room) : g_kV RL 47 yX7_there (eX7_there rm) 2 := ⟨tw1088, tw1089, tw1090, ⟨tw9, tw1091, by decide +kernel, by decide +kernel, by decide +kernel⟩⟩
theorem tw1095 : (Jvm.Cond.code ({ cls := "TurningCoinsModel", name := "can", desc := "(II)I" } : Jvm.MethodName) prog_9_method_40_code (3 : Nat) (Option.some Jvm.ClassFile.FieldType.int)) ∈ tG := tG_t (i := 1095) (by decide +kernel) (by decide +kernel)
theorem tw1092 : (Jvm.Cond.methodLink "TurningCoinsLaw" (51 : Nat) ({ cls := "TurningCoinsModel", name := "can", desc := "(II)I" } : Jvm.MethodName)) ∈ tG := tG_t (i := 1092) (by decide +kernel) (by decide +kernel)
theorem tw1093 : (Jvm.Cond.instanceMethod ({ cls := "TurningCoinsModel", name := "can", desc := "(II)I" } : Jvm.MethodName)) ∈ tG := tG_t (i := 1093) (by decide +kernel) (by decide +kernel)
theorem tw1094 : (Jvm.Cond.selects "TurningCoinsModel" ({ cls := "TurningCoinsModel", name := "can", desc := "(II)I" } : Jvm.MethodName) ({ cls := "TurningCoinsModel", name := "can", desc := "(II)I" } : Jvm.MethodName)) ∈ tG := tG_t (i := 1094) (by decide +kernel) (by decide +kernel)
theorem k_RL_51 (rm : Room) : g_kV RL 51 yX7_can (eX7_can rm) 2 := ⟨tw1092, tw1093, tw1094, ⟨tw9, tw1095, by decide +kernel, by decide +kernel, by decide +kernel⟩⟩
theorem tw1098 : (Jvm.Cond.code ({ cls := "TurningCoinsModel", name := "isSum", desc := "(I)Z" } : Jvm.MethodName) prog_9_method_39_code (1 : Nat) (Option.some Jvm.ClassFile.FieldType.boolean)) ∈ tG := tG_t (i := 1098) (by decide +kernel) (by decide +kernel)
theorem tw1096 : (Jvm.Cond.methodLink "TurningCoinsModel" (166 : Nat) ({ cls := "TurningCoinsModel", name := "isSum", desc := "(I)Z" } : Jvm.MethodName)) ∈ tG := tG_t (i := 1096) (by decide +kernel) (by decide +kernel)
theorem tw1097 : (Jvm.Cond.static ({ cls := "TurningCoinsModel", name := "isSum", desc := "(I)Z" } : Jvm.MethodName)) ∈ tG := tG_t (i := 1097) (by decide +kernel) (by decide +kernel)
theorem k_RX7_166 (rm : Room) : g_kS RX7 166 yX7_isSum (eX7_isSum rm) 1 := ⟨tw1096, tw1097, ⟨tw9, tw1098, by decide +kernel, by decide +kernel, by decide +kernel⟩⟩
theorem tw1102 : (Jvm.Cond.code ({ cls := "TurningCoinsModel", name := "setWith", desc := "(II)I" } : Jvm.MethodName) prog_9_method_38_code (5 : Nat) (Option.some Jvm.ClassFile.FieldType.int)) ∈ tG := tG_t (i := 1102) (by decide +kernel) (by decide +kernel)
theorem tw1099 : (Jvm.Cond.methodLink "TurningCoinsModel" (169 : Nat) ({ cls := "TurningCoinsModel", name := "setWith", desc := "(II)I" } : Jvm.MethodName)) ∈ tG := tG_t (i := 1099) (by decide +kernel) (by decide +kernel)
theorem tw1101 : (Jvm.Cond.instanceMethod ({ cls := "TurningCoinsModel", name := "setWith", desc := "(II)I" } : Jvm.MethodName)) ∈ tG := tG_t (i := 1101) (by decide +kernel) (by decide +kernel)
theorem sel_X7_setWith : Cond.selects RX7 yX7_setWith yX7_setWith ∈ tG := tG_s (q := (yX7_setWith, 25)) (i := 39) (by decide +kernel) (by decide +kernel)
theorem k_RX7_169 (rm : Room) : g_kV RX7 169 yX7_setWith (eX7_setWith rm) 2 := ⟨tw1099, tw1101, sel_X7_setWith, ⟨tw9, tw1102, by decide +kernel, by decide +kernel, by decide +kernel⟩⟩
theorem tw1106 : (Jvm.Cond.code ({ cls := "TurningCoinsModel", name := "with", desc := "(II)I" } : Jvm.MethodName) prog_9_method_41_code (4 : Nat) (Option.some Jvm.ClassFile.FieldType.int)) ∈ tG := tG_t (i := 1106) (by decide +kernel) (by decide +kernel)
theorem tw1103 : (Jvm.Cond.methodLink "TurningCoinsLaw" (55 : Nat) ({ cls := "TurningCoinsModel", name := "with", desc := "(II)I" } : Jvm.MethodName)) ∈ tG := tG_t (i := 1103) (by decide +kernel) (by decide +kernel)
theorem tw1104 : (Jvm.Cond.instanceMethod ({ cls := "TurningCoinsModel", name := "with", desc := "(II)I" } : Jvm.MethodName)) ∈ tG := tG_t (i := 1104) (by decide +kernel) (by decide +kernel)
theorem tw1105 : (Jvm.Cond.selects "TurningCoinsModel" ({ cls := "TurningCoinsModel", name := "with", desc := "(II)I" } : Jvm.MethodName) ({ cls := "TurningCoinsModel", name := "with", desc := "(II)I" } : Jvm.MethodName)) ∈ tG := tG_t (i := 1105) (by decide +kernel) (by decide +kernel)
theorem k_RL_55 (rm : Room) : g_kV RL 55 yX7_with (eX7_with rm) 2 := ⟨tw1103, tw1104, tw1105, ⟨tw9, tw1106, by decide +kernel, by decide +kernel, by decide +kernel⟩⟩
theorem tw1111 : (Jvm.Cond.code ({ cls := "TurningCoinsModel", name := "sums", desc := "(I)I" } : Jvm.MethodName) prog_9_method_44_code (4 : Nat) (Option.some Jvm.ClassFile.FieldType.int)) ∈ tG := tG_t (i := 1111) (by decide +kernel) (by decide +kernel)
theorem tw1108 : (Jvm.Cond.methodLink "TurningCoinsLaw" (59 : Nat) ({ cls := "TurningCoinsModel", name := "sums", desc := "(I)I" } : Jvm.MethodName)) ∈ tG := tG_t (i := 1108) (by decide +kernel) (by decide +kernel)
theorem tw1109 : (Jvm.Cond.instanceMethod ({ cls := "TurningCoinsModel", name := "sums", desc := "(I)I" } : Jvm.MethodName)) ∈ tG := tG_t (i := 1109) (by decide +kernel) (by decide +kernel)
theorem tw1110 : (Jvm.Cond.selects "TurningCoinsModel" ({ cls := "TurningCoinsModel", name := "sums", desc := "(I)I" } : Jvm.MethodName) ({ cls := "TurningCoinsModel", name := "sums", desc := "(I)I" } : Jvm.MethodName)) ∈ tG := tG_t (i := 1110) (by decide +kernel) (by decide +kernel)
theorem k_RL_59 (rm : Room) : g_kV RL 59 yX7_sums (eX7_sums rm) 1 := ⟨tw1108, tw1109, tw1110, ⟨tw9, tw1111, by decide +kernel, by decide +kernel, by decide +kernel⟩⟩
theorem tw1115 : (Jvm.Cond.code ({ cls := "TurningCoinsModel", name := "findSums", desc := "(I)V" } : Jvm.MethodName) prog_9_method_43_code (4 : Nat) (Option.none : Option Jvm.ClassFile.FieldType)) ∈ tG := tG_t (i := 1115) (by decide +kernel) (by decide +kernel)
theorem tw1112 : (Jvm.Cond.methodLink "TurningCoinsModel" (176 : Nat) ({ cls := "TurningCoinsModel", name := "findSums", desc := "(I)V" } : Jvm.MethodName)) ∈ tG := tG_t (i := 1112) (by decide +kernel) (by decide +kernel)
theorem tw1114 : (Jvm.Cond.instanceMethod ({ cls := "TurningCoinsModel", name := "findSums", desc := "(I)V" } : Jvm.MethodName)) ∈ tG := tG_t (i := 1114) (by decide +kernel) (by decide +kernel)
theorem sel_X7_findSums : Cond.selects RX7 yX7_findSums yX7_findSums ∈ tG := tG_s (q := (yX7_findSums, 25)) (i := 40) (by decide +kernel) (by decide +kernel)
theorem k_RX7_176 (rm : Room) : g_kV RX7 176 yX7_findSums (eX7_findSums rm) 1 := ⟨tw1112, tw1114, sel_X7_findSums, ⟨tw9, tw1115, by decide +kernel, by decide +kernel, by decide +kernel⟩⟩
theorem tw1119 : (Jvm.Cond.code ({ cls := "TurningCoinsModel", name := "clear", desc := "()V" } : Jvm.MethodName) prog_9_method_42_code (2 : Nat) (Option.none : Option Jvm.ClassFile.FieldType)) ∈ tG := tG_t (i := 1119) (by decide +kernel) (by decide +kernel)
theorem tw1116 : (Jvm.Cond.methodLink "TurningCoinsModel" (173 : Nat) ({ cls := "TurningCoinsModel", name := "clear", desc := "()V" } : Jvm.MethodName)) ∈ tG := tG_t (i := 1116) (by decide +kernel) (by decide +kernel)
theorem tw1118 : (Jvm.Cond.instanceMethod ({ cls := "TurningCoinsModel", name := "clear", desc := "()V" } : Jvm.MethodName)) ∈ tG := tG_t (i := 1118) (by decide +kernel) (by decide +kernel)
theorem sel_X7_clear : Cond.selects RX7 yX7_clear yX7_clear ∈ tG := tG_s (q := (yX7_clear, 25)) (i := 41) (by decide +kernel) (by decide +kernel)
theorem k_RX7_173 (rm : Room) : g_kV RX7 173 yX7_clear (eX7_clear rm) 0 := ⟨tw1116, tw1118, sel_X7_clear, ⟨tw9, tw1119, by decide +kernel, by decide +kernel, by decide +kernel⟩⟩
theorem tw1123 : (Jvm.Cond.code ({ cls := "TurningCoinsModel", name := "cannot", desc := "(I)I" } : Jvm.MethodName) prog_9_method_45_code (3 : Nat) (Option.some Jvm.ClassFile.FieldType.int)) ∈ tG := tG_t (i := 1123) (by decide +kernel) (by decide +kernel)
theorem tw1120 : (Jvm.Cond.methodLink "TurningCoinsLaw" (63 : Nat) ({ cls := "TurningCoinsModel", name := "cannot", desc := "(I)I" } : Jvm.MethodName)) ∈ tG := tG_t (i := 1120) (by decide +kernel) (by decide +kernel)
theorem tw1121 : (Jvm.Cond.instanceMethod ({ cls := "TurningCoinsModel", name := "cannot", desc := "(I)I" } : Jvm.MethodName)) ∈ tG := tG_t (i := 1121) (by decide +kernel) (by decide +kernel)
theorem tw1122 : (Jvm.Cond.selects "TurningCoinsModel" ({ cls := "TurningCoinsModel", name := "cannot", desc := "(I)I" } : Jvm.MethodName) ({ cls := "TurningCoinsModel", name := "cannot", desc := "(I)I" } : Jvm.MethodName)) ∈ tG := tG_t (i := 1122) (by decide +kernel) (by decide +kernel)
theorem k_RL_63 (rm : Room) : g_kV RL 63 yX7_cannot (eX7_cannot rm) 1 := ⟨tw1120, tw1121, tw1122, ⟨tw9, tw1123, by decide +kernel, by decide +kernel, by decide +kernel⟩⟩
theorem tw1127 : (Jvm.Cond.code ({ cls := "TurningCoinsModel", name := "cost", desc := "(III)I" } : Jvm.MethodName) prog_9_method_50_code (5 : Nat) (Option.some Jvm.ClassFile.FieldType.int)) ∈ tG := tG_t (i := 1127) (by decide +kernel) (by decide +kernel)
theorem tw1124 : (Jvm.Cond.methodLink "TurningCoinsLaw" (67 : Nat) ({ cls := "TurningCoinsModel", name := "cost", desc := "(III)I" } : Jvm.MethodName)) ∈ tG := tG_t (i := 1124) (by decide +kernel) (by decide +kernel)
theorem tw1125 : (Jvm.Cond.instanceMethod ({ cls := "TurningCoinsModel", name := "cost", desc := "(III)I" } : Jvm.MethodName)) ∈ tG := tG_t (i := 1125) (by decide +kernel) (by decide +kernel)
theorem tw1126 : (Jvm.Cond.selects "TurningCoinsModel" ({ cls := "TurningCoinsModel", name := "cost", desc := "(III)I" } : Jvm.MethodName) ({ cls := "TurningCoinsModel", name := "cost", desc := "(III)I" } : Jvm.MethodName)) ∈ tG := tG_t (i := 1126) (by decide +kernel) (by decide +kernel)
theorem k_RL_67 (rm : Room) : g_kV RL 67 yX7_cost (eX7_cost rm) 3 := ⟨tw1124, tw1125, tw1126, ⟨tw9, tw1127, by decide +kernel, by decide +kernel, by decide +kernel⟩⟩
theorem tw1131 : (Jvm.Cond.code ({ cls := "TurningCoinsModel", name := "refuses", desc := "(III)I" } : Jvm.MethodName) prog_9_method_49_code (4 : Nat) (Option.some Jvm.ClassFile.FieldType.int)) ∈ tG := tG_t (i := 1131) (by decide +kernel) (by decide +kernel)
theorem tw1128 : (Jvm.Cond.methodLink "TurningCoinsModel" (198 : Nat) ({ cls := "TurningCoinsModel", name := "refuses", desc := "(III)I" } : Jvm.MethodName)) ∈ tG := tG_t (i := 1128) (by decide +kernel) (by decide +kernel)
theorem tw1130 : (Jvm.Cond.instanceMethod ({ cls := "TurningCoinsModel", name := "refuses", desc := "(III)I" } : Jvm.MethodName)) ∈ tG := tG_t (i := 1130) (by decide +kernel) (by decide +kernel)
theorem sel_X7_refuses : Cond.selects RX7 yX7_refuses yX7_refuses ∈ tG := tG_s (q := (yX7_refuses, 25)) (i := 42) (by decide +kernel) (by decide +kernel)
theorem k_RX7_198 (rm : Room) : g_kV RX7 198 yX7_refuses (eX7_refuses rm) 3 := ⟨tw1128, tw1130, sel_X7_refuses, ⟨tw9, tw1131, by decide +kernel, by decide +kernel, by decide +kernel⟩⟩
theorem tw1135 : (Jvm.Cond.code ({ cls := "TurningCoinsModel", name := "findBest", desc := "(III)Z" } : Jvm.MethodName) prog_9_method_48_code (10 : Nat) (Option.some Jvm.ClassFile.FieldType.boolean)) ∈ tG := tG_t (i := 1135) (by decide +kernel) (by decide +kernel)
theorem tw1132 : (Jvm.Cond.methodLink "TurningCoinsModel" (195 : Nat) ({ cls := "TurningCoinsModel", name := "findBest", desc := "(III)Z" } : Jvm.MethodName)) ∈ tG := tG_t (i := 1132) (by decide +kernel) (by decide +kernel)
theorem tw1134 : (Jvm.Cond.instanceMethod ({ cls := "TurningCoinsModel", name := "findBest", desc := "(III)Z" } : Jvm.MethodName)) ∈ tG := tG_t (i := 1134) (by decide +kernel) (by decide +kernel)
theorem sel_X7_findBest : Cond.selects RX7 yX7_findBest yX7_findBest ∈ tG := tG_s (q := (yX7_findBest, 25)) (i := 43) (by decide +kernel) (by decide +kernel)
theorem k_RX7_195 (rm : Room) : g_kV RX7 195 yX7_findBest (eX7_findBest rm) 3 := ⟨tw1132, tw1134, sel_X7_findBest, ⟨tw9, tw1135, by decide +kernel, by decide +kernel, by decide +kernel⟩⟩
theorem tw1139 : (Jvm.Cond.code ({ cls := "TurningCoinsModel", name := "isAhead", desc := "(III)Z" } : Jvm.MethodName) prog_9_method_47_code (5 : Nat) (Option.some Jvm.ClassFile.FieldType.boolean)) ∈ tG := tG_t (i := 1139) (by decide +kernel) (by decide +kernel)
theorem tw1136 : (Jvm.Cond.methodLink "TurningCoinsModel" (192 : Nat) ({ cls := "TurningCoinsModel", name := "isAhead", desc := "(III)Z" } : Jvm.MethodName)) ∈ tG := tG_t (i := 1136) (by decide +kernel) (by decide +kernel)
theorem tw1138 : (Jvm.Cond.instanceMethod ({ cls := "TurningCoinsModel", name := "isAhead", desc := "(III)Z" } : Jvm.MethodName)) ∈ tG := tG_t (i := 1138) (by decide +kernel) (by decide +kernel)
theorem sel_X7_isAhead : Cond.selects RX7 yX7_isAhead yX7_isAhead ∈ tG := tG_s (q := (yX7_isAhead, 25)) (i := 44) (by decide +kernel) (by decide +kernel)
theorem k_RX7_192 (rm : Room) : g_kV RX7 192 yX7_isAhead (eX7_isAhead rm) 3 := ⟨tw1136, tw1138, sel_X7_isAhead, ⟨tw9, tw1139, by decide +kernel, by decide +kernel, by decide +kernel⟩⟩
theorem tw1142 : (Jvm.Cond.code ({ cls := "TurningCoinsModel", name := "bits", desc := "(I)I" } : Jvm.MethodName) prog_9_method_46_code (3 : Nat) (Option.some Jvm.ClassFile.FieldType.int)) ∈ tG := tG_t (i := 1142) (by decide +kernel) (by decide +kernel)
theorem tw1140 : (Jvm.Cond.methodLink "TurningCoinsModel" (186 : Nat) ({ cls := "TurningCoinsModel", name := "bits", desc := "(I)I" } : Jvm.MethodName)) ∈ tG := tG_t (i := 1140) (by decide +kernel) (by decide +kernel)
theorem tw1141 : (Jvm.Cond.static ({ cls := "TurningCoinsModel", name := "bits", desc := "(I)I" } : Jvm.MethodName)) ∈ tG := tG_t (i := 1141) (by decide +kernel) (by decide +kernel)
theorem k_RX7_186 (rm : Room) : g_kS RX7 186 yX7_bits (eX7_bits rm) 1 := ⟨tw1140, tw1141, ⟨tw9, tw1142, by decide +kernel, by decide +kernel, by decide +kernel⟩⟩
theorem tw1146 : (Jvm.Cond.code ({ cls := "TurningCoinsModel", name := "given", desc := "(III)I" } : Jvm.MethodName) prog_9_method_51_code (5 : Nat) (Option.some Jvm.ClassFile.FieldType.int)) ∈ tG := tG_t (i := 1146) (by decide +kernel) (by decide +kernel)
theorem tw1143 : (Jvm.Cond.methodLink "TurningCoinsLaw" (71 : Nat) ({ cls := "TurningCoinsModel", name := "given", desc := "(III)I" } : Jvm.MethodName)) ∈ tG := tG_t (i := 1143) (by decide +kernel) (by decide +kernel)
theorem tw1144 : (Jvm.Cond.instanceMethod ({ cls := "TurningCoinsModel", name := "given", desc := "(III)I" } : Jvm.MethodName)) ∈ tG := tG_t (i := 1144) (by decide +kernel) (by decide +kernel)
theorem tw1145 : (Jvm.Cond.selects "TurningCoinsModel" ({ cls := "TurningCoinsModel", name := "given", desc := "(III)I" } : Jvm.MethodName) ({ cls := "TurningCoinsModel", name := "given", desc := "(III)I" } : Jvm.MethodName)) ∈ tG := tG_t (i := 1145) (by decide +kernel) (by decide +kernel)
theorem k_RL_71 (rm : Room) : g_kV RL 71 yX7_given (eX7_given rm) 3 := ⟨tw1143, tw1144, tw1145, ⟨tw9, tw1146, by decide +kernel, by decide +kernel, by decide +kernel⟩⟩
theorem tw1150 : (Jvm.Cond.code ({ cls := "TurningCoinsModel", name := "back", desc := "(III)I" } : Jvm.MethodName) prog_9_method_52_code (5 : Nat) (Option.some Jvm.ClassFile.FieldType.int)) ∈ tG := tG_t (i := 1150) (by decide +kernel) (by decide +kernel)
theorem tw1147 : (Jvm.Cond.methodLink "TurningCoinsLaw" (75 : Nat) ({ cls := "TurningCoinsModel", name := "back", desc := "(III)I" } : Jvm.MethodName)) ∈ tG := tG_t (i := 1147) (by decide +kernel) (by decide +kernel)
theorem tw1148 : (Jvm.Cond.instanceMethod ({ cls := "TurningCoinsModel", name := "back", desc := "(III)I" } : Jvm.MethodName)) ∈ tG := tG_t (i := 1148) (by decide +kernel) (by decide +kernel)
theorem tw1149 : (Jvm.Cond.selects "TurningCoinsModel" ({ cls := "TurningCoinsModel", name := "back", desc := "(III)I" } : Jvm.MethodName) ({ cls := "TurningCoinsModel", name := "back", desc := "(III)I" } : Jvm.MethodName)) ∈ tG := tG_t (i := 1149) (by decide +kernel) (by decide +kernel)
theorem k_RL_75 (rm : Room) : g_kV RL 75 yX7_back (eX7_back rm) 3 := ⟨tw1147, tw1148, tw1149, ⟨tw9, tw1150, by decide +kernel, by decide +kernel, by decide +kernel⟩⟩
theorem tw1154 : (Jvm.Cond.code ({ cls := "TurningCoinsModel", name := "buy", desc := "(III)I" } : Jvm.MethodName) prog_9_method_54_code (5 : Nat) (Option.some Jvm.ClassFile.FieldType.int)) ∈ tG := tG_t (i := 1154) (by decide +kernel) (by decide +kernel)
theorem tw1151 : (Jvm.Cond.methodLink "TurningCoinsLaw" (79 : Nat) ({ cls := "TurningCoinsModel", name := "buy", desc := "(III)I" } : Jvm.MethodName)) ∈ tG := tG_t (i := 1151) (by decide +kernel) (by decide +kernel)
theorem tw1152 : (Jvm.Cond.instanceMethod ({ cls := "TurningCoinsModel", name := "buy", desc := "(III)I" } : Jvm.MethodName)) ∈ tG := tG_t (i := 1152) (by decide +kernel) (by decide +kernel)
theorem tw1153 : (Jvm.Cond.selects "TurningCoinsModel" ({ cls := "TurningCoinsModel", name := "buy", desc := "(III)I" } : Jvm.MethodName) ({ cls := "TurningCoinsModel", name := "buy", desc := "(III)I" } : Jvm.MethodName)) ∈ tG := tG_t (i := 1153) (by decide +kernel) (by decide +kernel)
theorem k_RL_79 (rm : Room) : g_kV RL 79 yX7_buy (eX7_buy rm) 3 := ⟨tw1151, tw1152, tw1153, ⟨tw9, tw1154, by decide +kernel, by decide +kernel, by decide +kernel⟩⟩
theorem tw1158 : (Jvm.Cond.code ({ cls := "TurningCoinsModel", name := "bothPaid", desc := "(II)V" } : Jvm.MethodName) prog_9_method_53_code (6 : Nat) (Option.none : Option Jvm.ClassFile.FieldType)) ∈ tG := tG_t (i := 1158) (by decide +kernel) (by decide +kernel)
theorem tw1155 : (Jvm.Cond.methodLink "TurningCoinsModel" (202 : Nat) ({ cls := "TurningCoinsModel", name := "bothPaid", desc := "(II)V" } : Jvm.MethodName)) ∈ tG := tG_t (i := 1155) (by decide +kernel) (by decide +kernel)
theorem tw1157 : (Jvm.Cond.instanceMethod ({ cls := "TurningCoinsModel", name := "bothPaid", desc := "(II)V" } : Jvm.MethodName)) ∈ tG := tG_t (i := 1157) (by decide +kernel) (by decide +kernel)
theorem sel_X7_bothPaid : Cond.selects RX7 yX7_bothPaid yX7_bothPaid ∈ tG := tG_s (q := (yX7_bothPaid, 25)) (i := 45) (by decide +kernel) (by decide +kernel)
theorem k_RX7_202 (rm : Room) : g_kV RX7 202 yX7_bothPaid (eX7_bothPaid rm) 2 := ⟨tw1155, tw1157, sel_X7_bothPaid, ⟨tw9, tw1158, by decide +kernel, by decide +kernel, by decide +kernel⟩⟩
theorem tw1162 : (Jvm.Cond.code ({ cls := "TurningCoinsModel", name := "fewest", desc := "(III)I" } : Jvm.MethodName) prog_9_method_55_code (9 : Nat) (Option.some Jvm.ClassFile.FieldType.int)) ∈ tG := tG_t (i := 1162) (by decide +kernel) (by decide +kernel)
theorem tw1159 : (Jvm.Cond.methodLink "TurningCoinsLaw" (83 : Nat) ({ cls := "TurningCoinsModel", name := "fewest", desc := "(III)I" } : Jvm.MethodName)) ∈ tG := tG_t (i := 1159) (by decide +kernel) (by decide +kernel)
theorem tw1160 : (Jvm.Cond.instanceMethod ({ cls := "TurningCoinsModel", name := "fewest", desc := "(III)I" } : Jvm.MethodName)) ∈ tG := tG_t (i := 1160) (by decide +kernel) (by decide +kernel)
theorem tw1161 : (Jvm.Cond.selects "TurningCoinsModel" ({ cls := "TurningCoinsModel", name := "fewest", desc := "(III)I" } : Jvm.MethodName) ({ cls := "TurningCoinsModel", name := "fewest", desc := "(III)I" } : Jvm.MethodName)) ∈ tG := tG_t (i := 1161) (by decide +kernel) (by decide +kernel)
theorem k_RL_83 (rm : Room) : g_kV RL 83 yX7_fewest (eX7_fewest rm) 3 := ⟨tw1159, tw1160, tw1161, ⟨tw9, tw1162, by decide +kernel, by decide +kernel, by decide +kernel⟩⟩
theorem tw1163 : (Jvm.Cond.methodLink "TurningCoinsModel" (205 : Nat) ({ cls := "java/lang/Math", name := "min", desc := "(II)I" } : Jvm.MethodName)) ∈ tG := tG_t (i := 1163) (by decide +kernel) (by decide +kernel)
theorem k_RX7_205 (rm : Room) : g_kS RX7 205 yJ9_min_7cf53 (eJ9_min_7cf53 rm) 2 := ⟨tw1163, tw514, ⟨tw10, tw515, by decide +kernel, by decide +kernel, by decide +kernel⟩⟩
theorem tw1167 : (Jvm.Cond.code ({ cls := "TurningCoinsModel", name := "dearth", desc := "(II)I" } : Jvm.MethodName) prog_9_method_56_code (7 : Nat) (Option.some Jvm.ClassFile.FieldType.int)) ∈ tG := tG_t (i := 1167) (by decide +kernel) (by decide +kernel)
theorem tw1164 : (Jvm.Cond.methodLink "TurningCoinsLaw" (87 : Nat) ({ cls := "TurningCoinsModel", name := "dearth", desc := "(II)I" } : Jvm.MethodName)) ∈ tG := tG_t (i := 1164) (by decide +kernel) (by decide +kernel)
theorem tw1165 : (Jvm.Cond.instanceMethod ({ cls := "TurningCoinsModel", name := "dearth", desc := "(II)I" } : Jvm.MethodName)) ∈ tG := tG_t (i := 1165) (by decide +kernel) (by decide +kernel)
theorem tw1166 : (Jvm.Cond.selects "TurningCoinsModel" ({ cls := "TurningCoinsModel", name := "dearth", desc := "(II)I" } : Jvm.MethodName) ({ cls := "TurningCoinsModel", name := "dearth", desc := "(II)I" } : Jvm.MethodName)) ∈ tG := tG_t (i := 1166) (by decide +kernel) (by decide +kernel)
theorem k_RL_87 (rm : Room) : g_kV RL 87 yX7_dearth (eX7_dearth rm) 2 := ⟨tw1164, tw1165, tw1166, ⟨tw9, tw1167, by decide +kernel, by decide +kernel, by decide +kernel⟩⟩
theorem tw1171 : (Jvm.Cond.code ({ cls := "TurningCoinsModel", name := "gain", desc := "(II)I" } : Jvm.MethodName) prog_9_method_58_code (4 : Nat) (Option.some Jvm.ClassFile.FieldType.int)) ∈ tG := tG_t (i := 1171) (by decide +kernel) (by decide +kernel)
theorem tw1168 : (Jvm.Cond.methodLink "TurningCoinsLaw" (91 : Nat) ({ cls := "TurningCoinsModel", name := "gain", desc := "(II)I" } : Jvm.MethodName)) ∈ tG := tG_t (i := 1168) (by decide +kernel) (by decide +kernel)
theorem tw1169 : (Jvm.Cond.instanceMethod ({ cls := "TurningCoinsModel", name := "gain", desc := "(II)I" } : Jvm.MethodName)) ∈ tG := tG_t (i := 1169) (by decide +kernel) (by decide +kernel)
theorem tw1170 : (Jvm.Cond.selects "TurningCoinsModel" ({ cls := "TurningCoinsModel", name := "gain", desc := "(II)I" } : Jvm.MethodName) ({ cls := "TurningCoinsModel", name := "gain", desc := "(II)I" } : Jvm.MethodName)) ∈ tG := tG_t (i := 1170) (by decide +kernel) (by decide +kernel)
theorem k_RL_91 (rm : Room) : g_kV RL 91 yX7_gain (eX7_gain rm) 2 := ⟨tw1168, tw1169, tw1170, ⟨tw9, tw1171, by decide +kernel, by decide +kernel, by decide +kernel⟩⟩
theorem tw1175 : (Jvm.Cond.code ({ cls := "TurningCoinsModel", name := "findChange", desc := "(II)I" } : Jvm.MethodName) prog_9_method_57_code (13 : Nat) (Option.some Jvm.ClassFile.FieldType.int)) ∈ tG := tG_t (i := 1175) (by decide +kernel) (by decide +kernel)
theorem tw1172 : (Jvm.Cond.methodLink "TurningCoinsModel" (208 : Nat) ({ cls := "TurningCoinsModel", name := "findChange", desc := "(II)I" } : Jvm.MethodName)) ∈ tG := tG_t (i := 1172) (by decide +kernel) (by decide +kernel)
theorem tw1174 : (Jvm.Cond.instanceMethod ({ cls := "TurningCoinsModel", name := "findChange", desc := "(II)I" } : Jvm.MethodName)) ∈ tG := tG_t (i := 1174) (by decide +kernel) (by decide +kernel)
theorem sel_X7_findChange : Cond.selects RX7 yX7_findChange yX7_findChange ∈ tG := tG_s (q := (yX7_findChange, 25)) (i := 46) (by decide +kernel) (by decide +kernel)
theorem k_RX7_208 (rm : Room) : g_kV RX7 208 yX7_findChange (eX7_findChange rm) 2 := ⟨tw1172, tw1174, sel_X7_findChange, ⟨tw9, tw1175, by decide +kernel, by decide +kernel, by decide +kernel⟩⟩
theorem tw1179 : (Jvm.Cond.code ({ cls := "TurningCoinsModel", name := "lot", desc := "(II)I" } : Jvm.MethodName) prog_9_method_59_code (3 : Nat) (Option.some Jvm.ClassFile.FieldType.int)) ∈ tG := tG_t (i := 1179) (by decide +kernel) (by decide +kernel)
theorem tw1176 : (Jvm.Cond.methodLink "TurningCoinsLaw" (95 : Nat) ({ cls := "TurningCoinsModel", name := "lot", desc := "(II)I" } : Jvm.MethodName)) ∈ tG := tG_t (i := 1176) (by decide +kernel) (by decide +kernel)
theorem tw1177 : (Jvm.Cond.instanceMethod ({ cls := "TurningCoinsModel", name := "lot", desc := "(II)I" } : Jvm.MethodName)) ∈ tG := tG_t (i := 1177) (by decide +kernel) (by decide +kernel)
theorem tw1178 : (Jvm.Cond.selects "TurningCoinsModel" ({ cls := "TurningCoinsModel", name := "lot", desc := "(II)I" } : Jvm.MethodName) ({ cls := "TurningCoinsModel", name := "lot", desc := "(II)I" } : Jvm.MethodName)) ∈ tG := tG_t (i := 1178) (by decide +kernel) (by decide +kernel)
theorem k_RL_95 (rm : Room) : g_kV RL 95 yX7_lot (eX7_lot rm) 2 := ⟨tw1176, tw1177, tw1178, ⟨tw9, tw1179, by decide +kernel, by decide +kernel, by decide +kernel⟩⟩
theorem tw1183 : (Jvm.Cond.code ({ cls := "TurningCoinsModel", name := "deal", desc := "(II)I" } : Jvm.MethodName) prog_9_method_60_code (4 : Nat) (Option.some Jvm.ClassFile.FieldType.int)) ∈ tG := tG_t (i := 1183) (by decide +kernel) (by decide +kernel)
theorem tw1180 : (Jvm.Cond.methodLink "TurningCoinsLaw" (99 : Nat) ({ cls := "TurningCoinsModel", name := "deal", desc := "(II)I" } : Jvm.MethodName)) ∈ tG := tG_t (i := 1180) (by decide +kernel) (by decide +kernel)
theorem tw1181 : (Jvm.Cond.instanceMethod ({ cls := "TurningCoinsModel", name := "deal", desc := "(II)I" } : Jvm.MethodName)) ∈ tG := tG_t (i := 1181) (by decide +kernel) (by decide +kernel)
theorem tw1182 : (Jvm.Cond.selects "TurningCoinsModel" ({ cls := "TurningCoinsModel", name := "deal", desc := "(II)I" } : Jvm.MethodName) ({ cls := "TurningCoinsModel", name := "deal", desc := "(II)I" } : Jvm.MethodName)) ∈ tG := tG_t (i := 1182) (by decide +kernel) (by decide +kernel)
theorem k_RL_99 (rm : Room) : g_kV RL 99 yX7_deal (eX7_deal rm) 2 := ⟨tw1180, tw1181, tw1182, ⟨tw9, tw1183, by decide +kernel, by decide +kernel, by decide +kernel⟩⟩
theorem tw1187 : (Jvm.Cond.code ({ cls := "TurningCoinsModel", name := "deals", desc := "(II)I" } : Jvm.MethodName) prog_9_method_61_code (4 : Nat) (Option.some Jvm.ClassFile.FieldType.int)) ∈ tG := tG_t (i := 1187) (by decide +kernel) (by decide +kernel)
theorem tw1184 : (Jvm.Cond.methodLink "TurningCoinsLaw" (103 : Nat) ({ cls := "TurningCoinsModel", name := "deals", desc := "(II)I" } : Jvm.MethodName)) ∈ tG := tG_t (i := 1184) (by decide +kernel) (by decide +kernel)
theorem tw1185 : (Jvm.Cond.instanceMethod ({ cls := "TurningCoinsModel", name := "deals", desc := "(II)I" } : Jvm.MethodName)) ∈ tG := tG_t (i := 1185) (by decide +kernel) (by decide +kernel)
theorem tw1186 : (Jvm.Cond.selects "TurningCoinsModel" ({ cls := "TurningCoinsModel", name := "deals", desc := "(II)I" } : Jvm.MethodName) ({ cls := "TurningCoinsModel", name := "deals", desc := "(II)I" } : Jvm.MethodName)) ∈ tG := tG_t (i := 1186) (by decide +kernel) (by decide +kernel)
theorem k_RL_103 (rm : Room) : g_kV RL 103 yX7_deals (eX7_deals rm) 2 := ⟨tw1184, tw1185, tw1186, ⟨tw9, tw1187, by decide +kernel, by decide +kernel, by decide +kernel⟩⟩
theorem tw1190 : (Jvm.Cond.code ({ cls := "TurningCoinsModel", name := "copyRow", desc := "([I[I)V" } : Jvm.MethodName) prog_9_method_5_code (3 : Nat) (Option.none : Option Jvm.ClassFile.FieldType)) ∈ tG := tG_t (i := 1190) (by decide +kernel) (by decide +kernel)
theorem tw1188 : (Jvm.Cond.methodLink "TurningCoinsModel" (68 : Nat) ({ cls := "TurningCoinsModel", name := "copyRow", desc := "([I[I)V" } : Jvm.MethodName)) ∈ tG := tG_t (i := 1188) (by decide +kernel) (by decide +kernel)
theorem tw1189 : (Jvm.Cond.static ({ cls := "TurningCoinsModel", name := "copyRow", desc := "([I[I)V" } : Jvm.MethodName)) ∈ tG := tG_t (i := 1189) (by decide +kernel) (by decide +kernel)
theorem k_RX7_68 (rm : Room) : g_kS RX7 68 yX7_copyRow (eX7_copyRow rm) 2 := ⟨tw1188, tw1189, ⟨tw9, tw1190, by decide +kernel, by decide +kernel, by decide +kernel⟩⟩
theorem tw1194 : (Jvm.Cond.code ({ cls := "TurningCoinsModel", name := "putBack", desc := "(I)I" } : Jvm.MethodName) prog_9_method_6_code (2 : Nat) (Option.some Jvm.ClassFile.FieldType.int)) ∈ tG := tG_t (i := 1194) (by decide +kernel) (by decide +kernel)
theorem tw1191 : (Jvm.Cond.methodLink "TurningCoinsModel" (211 : Nat) ({ cls := "TurningCoinsModel", name := "putBack", desc := "(I)I" } : Jvm.MethodName)) ∈ tG := tG_t (i := 1191) (by decide +kernel) (by decide +kernel)
theorem tw1193 : (Jvm.Cond.instanceMethod ({ cls := "TurningCoinsModel", name := "putBack", desc := "(I)I" } : Jvm.MethodName)) ∈ tG := tG_t (i := 1193) (by decide +kernel) (by decide +kernel)
theorem sel_X7_putBack : Cond.selects RX7 yX7_putBack yX7_putBack ∈ tG := tG_s (q := (yX7_putBack, 25)) (i := 47) (by decide +kernel) (by decide +kernel)
theorem k_RX7_211 (rm : Room) : g_kV RX7 211 yX7_putBack (eX7_putBack rm) 1 := ⟨tw1191, tw1193, sel_X7_putBack, ⟨tw9, tw1194, by decide +kernel, by decide +kernel, by decide +kernel⟩⟩
theorem tw1198 : (Jvm.Cond.code ({ cls := "TurningCoinsModel", name := "partner", desc := "(I)I" } : Jvm.MethodName) prog_9_method_62_code (6 : Nat) (Option.some Jvm.ClassFile.FieldType.int)) ∈ tG := tG_t (i := 1198) (by decide +kernel) (by decide +kernel)
theorem tw1195 : (Jvm.Cond.methodLink "TurningCoinsLaw" (107 : Nat) ({ cls := "TurningCoinsModel", name := "partner", desc := "(I)I" } : Jvm.MethodName)) ∈ tG := tG_t (i := 1195) (by decide +kernel) (by decide +kernel)
theorem tw1196 : (Jvm.Cond.instanceMethod ({ cls := "TurningCoinsModel", name := "partner", desc := "(I)I" } : Jvm.MethodName)) ∈ tG := tG_t (i := 1196) (by decide +kernel) (by decide +kernel)
theorem tw1197 : (Jvm.Cond.selects "TurningCoinsModel" ({ cls := "TurningCoinsModel", name := "partner", desc := "(I)I" } : Jvm.MethodName) ({ cls := "TurningCoinsModel", name := "partner", desc := "(I)I" } : Jvm.MethodName)) ∈ tG := tG_t (i := 1197) (by decide +kernel) (by decide +kernel)
theorem k_RL_107 (rm : Room) : g_kV RL 107 yX7_partner (eX7_partner rm) 1 := ⟨tw1195, tw1196, tw1197, ⟨tw9, tw1198, by decide +kernel, by decide +kernel, by decide +kernel⟩⟩
theorem tw1202 : (Jvm.Cond.code ({ cls := "TurningCoinsModel", name := "round", desc := "(II)I" } : Jvm.MethodName) prog_9_method_63_code (7 : Nat) (Option.some Jvm.ClassFile.FieldType.int)) ∈ tG := tG_t (i := 1202) (by decide +kernel) (by decide +kernel)
theorem tw1199 : (Jvm.Cond.methodLink "TurningCoinsLaw" (111 : Nat) ({ cls := "TurningCoinsModel", name := "round", desc := "(II)I" } : Jvm.MethodName)) ∈ tG := tG_t (i := 1199) (by decide +kernel) (by decide +kernel)
theorem tw1200 : (Jvm.Cond.instanceMethod ({ cls := "TurningCoinsModel", name := "round", desc := "(II)I" } : Jvm.MethodName)) ∈ tG := tG_t (i := 1200) (by decide +kernel) (by decide +kernel)
theorem tw1201 : (Jvm.Cond.selects "TurningCoinsModel" ({ cls := "TurningCoinsModel", name := "round", desc := "(II)I" } : Jvm.MethodName) ({ cls := "TurningCoinsModel", name := "round", desc := "(II)I" } : Jvm.MethodName)) ∈ tG := tG_t (i := 1201) (by decide +kernel) (by decide +kernel)
theorem k_RL_111 (rm : Room) : g_kV RL 111 yX7_round (eX7_round rm) 2 := ⟨tw1199, tw1200, tw1201, ⟨tw9, tw1202, by decide +kernel, by decide +kernel, by decide +kernel⟩⟩
theorem tw1206 : (Jvm.Cond.code ({ cls := "TurningCoinsModel", name := "flip", desc := "(II)I" } : Jvm.MethodName) prog_9_method_65_code (6 : Nat) (Option.some Jvm.ClassFile.FieldType.int)) ∈ tG := tG_t (i := 1206) (by decide +kernel) (by decide +kernel)
theorem tw1203 : (Jvm.Cond.methodLink "TurningCoinsLaw" (115 : Nat) ({ cls := "TurningCoinsModel", name := "flip", desc := "(II)I" } : Jvm.MethodName)) ∈ tG := tG_t (i := 1203) (by decide +kernel) (by decide +kernel)
theorem tw1204 : (Jvm.Cond.instanceMethod ({ cls := "TurningCoinsModel", name := "flip", desc := "(II)I" } : Jvm.MethodName)) ∈ tG := tG_t (i := 1204) (by decide +kernel) (by decide +kernel)
theorem tw1205 : (Jvm.Cond.selects "TurningCoinsModel" ({ cls := "TurningCoinsModel", name := "flip", desc := "(II)I" } : Jvm.MethodName) ({ cls := "TurningCoinsModel", name := "flip", desc := "(II)I" } : Jvm.MethodName)) ∈ tG := tG_t (i := 1205) (by decide +kernel) (by decide +kernel)
theorem k_RL_115 (rm : Room) : g_kV RL 115 yX7_flip (eX7_flip rm) 2 := ⟨tw1203, tw1204, tw1205, ⟨tw9, tw1206, by decide +kernel, by decide +kernel, by decide +kernel⟩⟩
theorem tw1210 : (Jvm.Cond.code ({ cls := "TurningCoinsModel", name := "liesOtherwise", desc := "(I)V" } : Jvm.MethodName) prog_9_method_64_code (3 : Nat) (Option.none : Option Jvm.ClassFile.FieldType)) ∈ tG := tG_t (i := 1210) (by decide +kernel) (by decide +kernel)
theorem tw1207 : (Jvm.Cond.methodLink "TurningCoinsModel" (214 : Nat) ({ cls := "TurningCoinsModel", name := "liesOtherwise", desc := "(I)V" } : Jvm.MethodName)) ∈ tG := tG_t (i := 1207) (by decide +kernel) (by decide +kernel)
theorem tw1209 : (Jvm.Cond.instanceMethod ({ cls := "TurningCoinsModel", name := "liesOtherwise", desc := "(I)V" } : Jvm.MethodName)) ∈ tG := tG_t (i := 1209) (by decide +kernel) (by decide +kernel)
theorem sel_X7_liesOtherwise : Cond.selects RX7 yX7_liesOtherwise yX7_liesOtherwise ∈ tG := tG_s (q := (yX7_liesOtherwise, 25)) (i := 48) (by decide +kernel) (by decide +kernel)
theorem k_RX7_214 (rm : Room) : g_kV RX7 214 yX7_liesOtherwise (eX7_liesOtherwise rm) 1 := ⟨tw1207, tw1209, sel_X7_liesOtherwise, ⟨tw9, tw1210, by decide +kernel, by decide +kernel, by decide +kernel⟩⟩
theorem tw1214 : (Jvm.Cond.code ({ cls := "TurningCoinsModel", name := "highest", desc := "(I)I" } : Jvm.MethodName) prog_9_method_67_code (4 : Nat) (Option.some Jvm.ClassFile.FieldType.int)) ∈ tG := tG_t (i := 1214) (by decide +kernel) (by decide +kernel)
theorem tw1211 : (Jvm.Cond.methodLink "TurningCoinsLaw" (119 : Nat) ({ cls := "TurningCoinsModel", name := "highest", desc := "(I)I" } : Jvm.MethodName)) ∈ tG := tG_t (i := 1211) (by decide +kernel) (by decide +kernel)
theorem tw1212 : (Jvm.Cond.instanceMethod ({ cls := "TurningCoinsModel", name := "highest", desc := "(I)I" } : Jvm.MethodName)) ∈ tG := tG_t (i := 1212) (by decide +kernel) (by decide +kernel)
theorem tw1213 : (Jvm.Cond.selects "TurningCoinsModel" ({ cls := "TurningCoinsModel", name := "highest", desc := "(I)I" } : Jvm.MethodName) ({ cls := "TurningCoinsModel", name := "highest", desc := "(I)I" } : Jvm.MethodName)) ∈ tG := tG_t (i := 1213) (by decide +kernel) (by decide +kernel)
theorem k_RL_119 (rm : Room) : g_kV RL 119 yX7_highest (eX7_highest rm) 1 := ⟨tw1211, tw1212, tw1213, ⟨tw9, tw1214, by decide +kernel, by decide +kernel, by decide +kernel⟩⟩
theorem tw1218 : (Jvm.Cond.code ({ cls := "TurningCoinsModel", name := "worthOtherwise", desc := "(I)I" } : Jvm.MethodName) prog_9_method_66_code (2 : Nat) (Option.some Jvm.ClassFile.FieldType.int)) ∈ tG := tG_t (i := 1218) (by decide +kernel) (by decide +kernel)
theorem tw1215 : (Jvm.Cond.methodLink "TurningCoinsModel" (217 : Nat) ({ cls := "TurningCoinsModel", name := "worthOtherwise", desc := "(I)I" } : Jvm.MethodName)) ∈ tG := tG_t (i := 1215) (by decide +kernel) (by decide +kernel)
theorem tw1217 : (Jvm.Cond.instanceMethod ({ cls := "TurningCoinsModel", name := "worthOtherwise", desc := "(I)I" } : Jvm.MethodName)) ∈ tG := tG_t (i := 1217) (by decide +kernel) (by decide +kernel)
theorem sel_X7_worthOtherwise : Cond.selects RX7 yX7_worthOtherwise yX7_worthOtherwise ∈ tG := tG_s (q := (yX7_worthOtherwise, 25)) (i := 49) (by decide +kernel) (by decide +kernel)
theorem k_RX7_217 (rm : Room) : g_kV RX7 217 yX7_worthOtherwise (eX7_worthOtherwise rm) 1 := ⟨tw1215, tw1217, sel_X7_worthOtherwise, ⟨tw9, tw1218, by decide +kernel, by decide +kernel, by decide +kernel⟩⟩
theorem tw1222 : (Jvm.Cond.code ({ cls := "TurningCoinsModel", name := "wrong", desc := "()I" } : Jvm.MethodName) prog_9_method_68_code (3 : Nat) (Option.some Jvm.ClassFile.FieldType.int)) ∈ tG := tG_t (i := 1222) (by decide +kernel) (by decide +kernel)
theorem tw1219 : (Jvm.Cond.methodLink "TurningCoinsLaw" (124 : Nat) ({ cls := "TurningCoinsModel", name := "wrong", desc := "()I" } : Jvm.MethodName)) ∈ tG := tG_t (i := 1219) (by decide +kernel) (by decide +kernel)
theorem tw1220 : (Jvm.Cond.instanceMethod ({ cls := "TurningCoinsModel", name := "wrong", desc := "()I" } : Jvm.MethodName)) ∈ tG := tG_t (i := 1220) (by decide +kernel) (by decide +kernel)
theorem tw1221 : (Jvm.Cond.selects "TurningCoinsModel" ({ cls := "TurningCoinsModel", name := "wrong", desc := "()I" } : Jvm.MethodName) ({ cls := "TurningCoinsModel", name := "wrong", desc := "()I" } : Jvm.MethodName)) ∈ tG := tG_t (i := 1221) (by decide +kernel) (by decide +kernel)
theorem k_RL_124 (rm : Room) : g_kV RL 124 yX7_wrong (eX7_wrong rm) 0 := ⟨tw1219, tw1220, tw1221, ⟨tw9, tw1222, by decide +kernel, by decide +kernel, by decide +kernel⟩⟩
theorem tw1226 : (Jvm.Cond.code ({ cls := "TurningCoinsModel", name := "ways", desc := "(II)I" } : Jvm.MethodName) prog_9_method_69_code (6 : Nat) (Option.some Jvm.ClassFile.FieldType.int)) ∈ tG := tG_t (i := 1226) (by decide +kernel) (by decide +kernel)
theorem tw1223 : (Jvm.Cond.methodLink "TurningCoinsLaw" (128 : Nat) ({ cls := "TurningCoinsModel", name := "ways", desc := "(II)I" } : Jvm.MethodName)) ∈ tG := tG_t (i := 1223) (by decide +kernel) (by decide +kernel)
theorem tw1224 : (Jvm.Cond.instanceMethod ({ cls := "TurningCoinsModel", name := "ways", desc := "(II)I" } : Jvm.MethodName)) ∈ tG := tG_t (i := 1224) (by decide +kernel) (by decide +kernel)
theorem tw1225 : (Jvm.Cond.selects "TurningCoinsModel" ({ cls := "TurningCoinsModel", name := "ways", desc := "(II)I" } : Jvm.MethodName) ({ cls := "TurningCoinsModel", name := "ways", desc := "(II)I" } : Jvm.MethodName)) ∈ tG := tG_t (i := 1225) (by decide +kernel) (by decide +kernel)
theorem k_RL_128 (rm : Room) : g_kV RL 128 yX7_ways (eX7_ways rm) 2 := ⟨tw1223, tw1224, tw1225, ⟨tw9, tw1226, by decide +kernel, by decide +kernel, by decide +kernel⟩⟩
theorem tw1230 : (Jvm.Cond.code ({ cls := "TurningCoinsModel", name := "kindFor", desc := "(I)I" } : Jvm.MethodName) prog_9_method_70_code (6 : Nat) (Option.some Jvm.ClassFile.FieldType.int)) ∈ tG := tG_t (i := 1230) (by decide +kernel) (by decide +kernel)
theorem tw1227 : (Jvm.Cond.methodLink "TurningCoinsLaw" (132 : Nat) ({ cls := "TurningCoinsModel", name := "kindFor", desc := "(I)I" } : Jvm.MethodName)) ∈ tG := tG_t (i := 1227) (by decide +kernel) (by decide +kernel)
theorem tw1228 : (Jvm.Cond.instanceMethod ({ cls := "TurningCoinsModel", name := "kindFor", desc := "(I)I" } : Jvm.MethodName)) ∈ tG := tG_t (i := 1228) (by decide +kernel) (by decide +kernel)
theorem tw1229 : (Jvm.Cond.selects "TurningCoinsModel" ({ cls := "TurningCoinsModel", name := "kindFor", desc := "(I)I" } : Jvm.MethodName) ({ cls := "TurningCoinsModel", name := "kindFor", desc := "(I)I" } : Jvm.MethodName)) ∈ tG := tG_t (i := 1229) (by decide +kernel) (by decide +kernel)
theorem k_RL_132 (rm : Room) : g_kV RL 132 yX7_kindFor (eX7_kindFor rm) 1 := ⟨tw1227, tw1228, tw1229, ⟨tw9, tw1230, by decide +kernel, by decide +kernel, by decide +kernel⟩⟩
theorem tw1234 : (Jvm.Cond.code ({ cls := "TurningCoinsModel", name := "days", desc := "(I)I" } : Jvm.MethodName) prog_9_method_72_code (2 : Nat) (Option.some Jvm.ClassFile.FieldType.int)) ∈ tG := tG_t (i := 1234) (by decide +kernel) (by decide +kernel)
theorem tw1231 : (Jvm.Cond.methodLink "TurningCoinsLaw" (136 : Nat) ({ cls := "TurningCoinsModel", name := "days", desc := "(I)I" } : Jvm.MethodName)) ∈ tG := tG_t (i := 1231) (by decide +kernel) (by decide +kernel)
theorem tw1232 : (Jvm.Cond.instanceMethod ({ cls := "TurningCoinsModel", name := "days", desc := "(I)I" } : Jvm.MethodName)) ∈ tG := tG_t (i := 1232) (by decide +kernel) (by decide +kernel)
theorem tw1233 : (Jvm.Cond.selects "TurningCoinsModel" ({ cls := "TurningCoinsModel", name := "days", desc := "(I)I" } : Jvm.MethodName) ({ cls := "TurningCoinsModel", name := "days", desc := "(I)I" } : Jvm.MethodName)) ∈ tG := tG_t (i := 1233) (by decide +kernel) (by decide +kernel)
theorem k_RL_136 (rm : Room) : g_kV RL 136 yX7_days (eX7_days rm) 1 := ⟨tw1231, tw1232, tw1233, ⟨tw9, tw1234, by decide +kernel, by decide +kernel, by decide +kernel⟩⟩
theorem tw1238 : (Jvm.Cond.code ({ cls := "TurningCoinsModel", name := "daysGo", desc := "(I)I" } : Jvm.MethodName) prog_9_method_71_code (5 : Nat) (Option.some Jvm.ClassFile.FieldType.int)) ∈ tG := tG_t (i := 1238) (by decide +kernel) (by decide +kernel)
theorem tw1235 : (Jvm.Cond.methodLink "TurningCoinsModel" (220 : Nat) ({ cls := "TurningCoinsModel", name := "daysGo", desc := "(I)I" } : Jvm.MethodName)) ∈ tG := tG_t (i := 1235) (by decide +kernel) (by decide +kernel)
theorem tw1237 : (Jvm.Cond.instanceMethod ({ cls := "TurningCoinsModel", name := "daysGo", desc := "(I)I" } : Jvm.MethodName)) ∈ tG := tG_t (i := 1237) (by decide +kernel) (by decide +kernel)
theorem sel_X7_daysGo : Cond.selects RX7 yX7_daysGo yX7_daysGo ∈ tG := tG_s (q := (yX7_daysGo, 25)) (i := 50) (by decide +kernel) (by decide +kernel)
theorem k_RX7_220 (rm : Room) : g_kV RX7 220 yX7_daysGo (eX7_daysGo rm) 1 := ⟨tw1235, tw1237, sel_X7_daysGo, ⟨tw9, tw1238, by decide +kernel, by decide +kernel, by decide +kernel⟩⟩
theorem tw1242 : (Jvm.Cond.code ({ cls := "TurningCoinsModel", name := "ahead", desc := "(II)I" } : Jvm.MethodName) prog_9_method_73_code (4 : Nat) (Option.some Jvm.ClassFile.FieldType.int)) ∈ tG := tG_t (i := 1242) (by decide +kernel) (by decide +kernel)
theorem tw1239 : (Jvm.Cond.methodLink "TurningCoinsLaw" (140 : Nat) ({ cls := "TurningCoinsModel", name := "ahead", desc := "(II)I" } : Jvm.MethodName)) ∈ tG := tG_t (i := 1239) (by decide +kernel) (by decide +kernel)
theorem tw1240 : (Jvm.Cond.instanceMethod ({ cls := "TurningCoinsModel", name := "ahead", desc := "(II)I" } : Jvm.MethodName)) ∈ tG := tG_t (i := 1240) (by decide +kernel) (by decide +kernel)
theorem tw1241 : (Jvm.Cond.selects "TurningCoinsModel" ({ cls := "TurningCoinsModel", name := "ahead", desc := "(II)I" } : Jvm.MethodName) ({ cls := "TurningCoinsModel", name := "ahead", desc := "(II)I" } : Jvm.MethodName)) ∈ tG := tG_t (i := 1241) (by decide +kernel) (by decide +kernel)
theorem k_RL_140 (rm : Room) : g_kV RL 140 yX7_ahead (eX7_ahead rm) 2 := ⟨tw1239, tw1240, tw1241, ⟨tw9, tw1242, by decide +kernel, by decide +kernel, by decide +kernel⟩⟩
theorem tw1246 : (Jvm.Cond.code ({ cls := "TurningCoinsModel", name := "market", desc := "(I)I" } : Jvm.MethodName) prog_9_method_75_code (5 : Nat) (Option.some Jvm.ClassFile.FieldType.int)) ∈ tG := tG_t (i := 1246) (by decide +kernel) (by decide +kernel)
theorem tw1243 : (Jvm.Cond.methodLink "TurningCoinsLaw" (144 : Nat) ({ cls := "TurningCoinsModel", name := "market", desc := "(I)I" } : Jvm.MethodName)) ∈ tG := tG_t (i := 1243) (by decide +kernel) (by decide +kernel)
theorem tw1244 : (Jvm.Cond.instanceMethod ({ cls := "TurningCoinsModel", name := "market", desc := "(I)I" } : Jvm.MethodName)) ∈ tG := tG_t (i := 1244) (by decide +kernel) (by decide +kernel)
theorem tw1245 : (Jvm.Cond.selects "TurningCoinsModel" ({ cls := "TurningCoinsModel", name := "market", desc := "(I)I" } : Jvm.MethodName) ({ cls := "TurningCoinsModel", name := "market", desc := "(I)I" } : Jvm.MethodName)) ∈ tG := tG_t (i := 1245) (by decide +kernel) (by decide +kernel)
theorem k_RL_144 (rm : Room) : g_kV RL 144 yX7_market (eX7_market rm) 1 := ⟨tw1243, tw1244, tw1245, ⟨tw9, tw1246, by decide +kernel, by decide +kernel, by decide +kernel⟩⟩
theorem tw1250 : (Jvm.Cond.code ({ cls := "TurningCoinsModel", name := "drawn", desc := "()I" } : Jvm.MethodName) prog_9_method_74_code (1 : Nat) (Option.some Jvm.ClassFile.FieldType.int)) ∈ tG := tG_t (i := 1250) (by decide +kernel) (by decide +kernel)
theorem tw1247 : (Jvm.Cond.methodLink "TurningCoinsModel" (224 : Nat) ({ cls := "TurningCoinsModel", name := "drawn", desc := "()I" } : Jvm.MethodName)) ∈ tG := tG_t (i := 1247) (by decide +kernel) (by decide +kernel)
theorem tw1249 : (Jvm.Cond.instanceMethod ({ cls := "TurningCoinsModel", name := "drawn", desc := "()I" } : Jvm.MethodName)) ∈ tG := tG_t (i := 1249) (by decide +kernel) (by decide +kernel)
theorem sel_X7_drawn : Cond.selects RX7 yX7_drawn yX7_drawn ∈ tG := tG_s (q := (yX7_drawn, 25)) (i := 51) (by decide +kernel) (by decide +kernel)
theorem k_RX7_224 (rm : Room) : g_kV RX7 224 yX7_drawn (eX7_drawn rm) 0 := ⟨tw1247, tw1249, sel_X7_drawn, ⟨tw9, tw1250, by decide +kernel, by decide +kernel, by decide +kernel⟩⟩
theorem tw1255 : (Jvm.Cond.code ({ cls := "TurningCoinsModel", name := "toss", desc := "(II)I" } : Jvm.MethodName) prog_9_method_76_code (5 : Nat) (Option.some Jvm.ClassFile.FieldType.int)) ∈ tG := tG_t (i := 1255) (by decide +kernel) (by decide +kernel)
theorem tw1252 : (Jvm.Cond.methodLink "TurningCoinsLaw" (148 : Nat) ({ cls := "TurningCoinsModel", name := "toss", desc := "(II)I" } : Jvm.MethodName)) ∈ tG := tG_t (i := 1252) (by decide +kernel) (by decide +kernel)
theorem tw1253 : (Jvm.Cond.instanceMethod ({ cls := "TurningCoinsModel", name := "toss", desc := "(II)I" } : Jvm.MethodName)) ∈ tG := tG_t (i := 1253) (by decide +kernel) (by decide +kernel)
theorem tw1254 : (Jvm.Cond.selects "TurningCoinsModel" ({ cls := "TurningCoinsModel", name := "toss", desc := "(II)I" } : Jvm.MethodName) ({ cls := "TurningCoinsModel", name := "toss", desc := "(II)I" } : Jvm.MethodName)) ∈ tG := tG_t (i := 1254) (by decide +kernel) (by decide +kernel)
theorem k_RL_148 (rm : Room) : g_kV RL 148 yX7_toss (eX7_toss rm) 2 := ⟨tw1252, tw1253, tw1254, ⟨tw9, tw1255, by decide +kernel, by decide +kernel, by decide +kernel⟩⟩
theorem tw1259 : (Jvm.Cond.code ({ cls := "TurningCoinsModel", name := "seed", desc := "(I)I" } : Jvm.MethodName) prog_9_method_77_code (2 : Nat) (Option.some Jvm.ClassFile.FieldType.int)) ∈ tG := tG_t (i := 1259) (by decide +kernel) (by decide +kernel)
theorem tw1256 : (Jvm.Cond.methodLink "TurningCoinsLaw" (152 : Nat) ({ cls := "TurningCoinsModel", name := "seed", desc := "(I)I" } : Jvm.MethodName)) ∈ tG := tG_t (i := 1256) (by decide +kernel) (by decide +kernel)
theorem tw1257 : (Jvm.Cond.instanceMethod ({ cls := "TurningCoinsModel", name := "seed", desc := "(I)I" } : Jvm.MethodName)) ∈ tG := tG_t (i := 1257) (by decide +kernel) (by decide +kernel)
theorem tw1258 : (Jvm.Cond.selects "TurningCoinsModel" ({ cls := "TurningCoinsModel", name := "seed", desc := "(I)I" } : Jvm.MethodName) ({ cls := "TurningCoinsModel", name := "seed", desc := "(I)I" } : Jvm.MethodName)) ∈ tG := tG_t (i := 1258) (by decide +kernel) (by decide +kernel)
theorem k_RL_152 (rm : Room) : g_kV RL 152 yX7_seed (eX7_seed rm) 1 := ⟨tw1256, tw1257, tw1258, ⟨tw9, tw1259, by decide +kernel, by decide +kernel, by decide +kernel⟩⟩
theorem tw1263 : (Jvm.Cond.code ({ cls := "TurningCoinsModel", name := "feed", desc := "(II)I" } : Jvm.MethodName) prog_9_method_78_code (4 : Nat) (Option.some Jvm.ClassFile.FieldType.int)) ∈ tG := tG_t (i := 1263) (by decide +kernel) (by decide +kernel)
theorem tw1260 : (Jvm.Cond.methodLink "TurningCoinsLaw" (156 : Nat) ({ cls := "TurningCoinsModel", name := "feed", desc := "(II)I" } : Jvm.MethodName)) ∈ tG := tG_t (i := 1260) (by decide +kernel) (by decide +kernel)
theorem tw1261 : (Jvm.Cond.instanceMethod ({ cls := "TurningCoinsModel", name := "feed", desc := "(II)I" } : Jvm.MethodName)) ∈ tG := tG_t (i := 1261) (by decide +kernel) (by decide +kernel)
theorem tw1262 : (Jvm.Cond.selects "TurningCoinsModel" ({ cls := "TurningCoinsModel", name := "feed", desc := "(II)I" } : Jvm.MethodName) ({ cls := "TurningCoinsModel", name := "feed", desc := "(II)I" } : Jvm.MethodName)) ∈ tG := tG_t (i := 1262) (by decide +kernel) (by decide +kernel)
theorem k_RL_156 (rm : Room) : g_kV RL 156 yX7_feed (eX7_feed rm) 2 := ⟨tw1260, tw1261, tw1262, ⟨tw9, tw1263, by decide +kernel, by decide +kernel, by decide +kernel⟩⟩
theorem tw1267 : (Jvm.Cond.code ({ cls := "TurningCoinsModel", name := "wipe", desc := "()I" } : Jvm.MethodName) prog_9_method_79_code (2 : Nat) (Option.some Jvm.ClassFile.FieldType.int)) ∈ tG := tG_t (i := 1267) (by decide +kernel) (by decide +kernel)
theorem tw1264 : (Jvm.Cond.methodLink "TurningCoinsLaw" (160 : Nat) ({ cls := "TurningCoinsModel", name := "wipe", desc := "()I" } : Jvm.MethodName)) ∈ tG := tG_t (i := 1264) (by decide +kernel) (by decide +kernel)
theorem tw1265 : (Jvm.Cond.instanceMethod ({ cls := "TurningCoinsModel", name := "wipe", desc := "()I" } : Jvm.MethodName)) ∈ tG := tG_t (i := 1265) (by decide +kernel) (by decide +kernel)
theorem tw1266 : (Jvm.Cond.selects "TurningCoinsModel" ({ cls := "TurningCoinsModel", name := "wipe", desc := "()I" } : Jvm.MethodName) ({ cls := "TurningCoinsModel", name := "wipe", desc := "()I" } : Jvm.MethodName)) ∈ tG := tG_t (i := 1266) (by decide +kernel) (by decide +kernel)
theorem k_RL_160 (rm : Room) : g_kV RL 160 yX7_wipe (eX7_wipe rm) 0 := ⟨tw1264, tw1265, tw1266, ⟨tw9, tw1267, by decide +kernel, by decide +kernel, by decide +kernel⟩⟩
theorem tw1271 : (Jvm.Cond.code ({ cls := "TurningCoinsModel", name := "text", desc := "()I" } : Jvm.MethodName) prog_9_method_90_code (2 : Nat) (Option.some Jvm.ClassFile.FieldType.int)) ∈ tG := tG_t (i := 1271) (by decide +kernel) (by decide +kernel)
theorem tw1268 : (Jvm.Cond.methodLink "TurningCoinsLaw" (164 : Nat) ({ cls := "TurningCoinsModel", name := "text", desc := "()I" } : Jvm.MethodName)) ∈ tG := tG_t (i := 1268) (by decide +kernel) (by decide +kernel)
theorem tw1269 : (Jvm.Cond.instanceMethod ({ cls := "TurningCoinsModel", name := "text", desc := "()I" } : Jvm.MethodName)) ∈ tG := tG_t (i := 1269) (by decide +kernel) (by decide +kernel)
theorem tw1270 : (Jvm.Cond.selects "TurningCoinsModel" ({ cls := "TurningCoinsModel", name := "text", desc := "()I" } : Jvm.MethodName) ({ cls := "TurningCoinsModel", name := "text", desc := "()I" } : Jvm.MethodName)) ∈ tG := tG_t (i := 1270) (by decide +kernel) (by decide +kernel)
theorem k_RL_164 (rm : Room) : g_kV RL 164 yX7_text (eX7_text rm) 0 := ⟨tw1268, tw1269, tw1270, ⟨tw9, tw1271, by decide +kernel, by decide +kernel, by decide +kernel⟩⟩
theorem tw1275 : (Jvm.Cond.code ({ cls := "TurningCoinsModel", name := "next", desc := "()V" } : Jvm.MethodName) prog_9_method_81_code (2 : Nat) (Option.none : Option Jvm.ClassFile.FieldType)) ∈ tG := tG_t (i := 1275) (by decide +kernel) (by decide +kernel)
theorem tw1272 : (Jvm.Cond.methodLink "TurningCoinsModel" (256 : Nat) ({ cls := "TurningCoinsModel", name := "next", desc := "()V" } : Jvm.MethodName)) ∈ tG := tG_t (i := 1272) (by decide +kernel) (by decide +kernel)
theorem tw1274 : (Jvm.Cond.instanceMethod ({ cls := "TurningCoinsModel", name := "next", desc := "()V" } : Jvm.MethodName)) ∈ tG := tG_t (i := 1274) (by decide +kernel) (by decide +kernel)
theorem sel_X7_next : Cond.selects RX7 yX7_next yX7_next ∈ tG := tG_s (q := (yX7_next, 25)) (i := 52) (by decide +kernel) (by decide +kernel)
theorem k_RX7_256 (rm : Room) : g_kV RX7 256 yX7_next (eX7_next rm) 0 := ⟨tw1272, tw1274, sel_X7_next, ⟨tw9, tw1275, by decide +kernel, by decide +kernel, by decide +kernel⟩⟩
theorem tw1279 : (Jvm.Cond.code ({ cls := "TurningCoinsModel", name := "byteAt", desc := "(I)I" } : Jvm.MethodName) prog_9_method_80_code (2 : Nat) (Option.some Jvm.ClassFile.FieldType.int)) ∈ tG := tG_t (i := 1279) (by decide +kernel) (by decide +kernel)
theorem tw1276 : (Jvm.Cond.methodLink "TurningCoinsModel" (236 : Nat) ({ cls := "TurningCoinsModel", name := "byteAt", desc := "(I)I" } : Jvm.MethodName)) ∈ tG := tG_t (i := 1276) (by decide +kernel) (by decide +kernel)
theorem tw1278 : (Jvm.Cond.instanceMethod ({ cls := "TurningCoinsModel", name := "byteAt", desc := "(I)I" } : Jvm.MethodName)) ∈ tG := tG_t (i := 1278) (by decide +kernel) (by decide +kernel)
theorem sel_X7_byteAt : Cond.selects RX7 yX7_byteAt yX7_byteAt ∈ tG := tG_s (q := (yX7_byteAt, 25)) (i := 53) (by decide +kernel) (by decide +kernel)
theorem k_RX7_236 (rm : Room) : g_kV RX7 236 yX7_byteAt (eX7_byteAt rm) 1 := ⟨tw1276, tw1278, sel_X7_byteAt, ⟨tw9, tw1279, by decide +kernel, by decide +kernel, by decide +kernel⟩⟩
theorem tw1283 : (Jvm.Cond.code ({ cls := "TurningCoinsModel", name := "readItem", desc := "()V" } : Jvm.MethodName) prog_9_method_87_code (4 : Nat) (Option.none : Option Jvm.ClassFile.FieldType)) ∈ tG := tG_t (i := 1283) (by decide +kernel) (by decide +kernel)
theorem tw1280 : (Jvm.Cond.methodLink "TurningCoinsModel" (294 : Nat) ({ cls := "TurningCoinsModel", name := "readItem", desc := "()V" } : Jvm.MethodName)) ∈ tG := tG_t (i := 1280) (by decide +kernel) (by decide +kernel)
theorem tw1282 : (Jvm.Cond.instanceMethod ({ cls := "TurningCoinsModel", name := "readItem", desc := "()V" } : Jvm.MethodName)) ∈ tG := tG_t (i := 1282) (by decide +kernel) (by decide +kernel)
theorem sel_X7_readItem : Cond.selects RX7 yX7_readItem yX7_readItem ∈ tG := tG_s (q := (yX7_readItem, 25)) (i := 54) (by decide +kernel) (by decide +kernel)
theorem k_RX7_294 (rm : Room) : g_kV RX7 294 yX7_readItem (eX7_readItem rm) 0 := ⟨tw1280, tw1282, sel_X7_readItem, ⟨tw9, tw1283, by decide +kernel, by decide +kernel, by decide +kernel⟩⟩
theorem tw1287 : (Jvm.Cond.code ({ cls := "TurningCoinsModel", name := "kindTold", desc := "()I" } : Jvm.MethodName) prog_9_method_86_code (3 : Nat) (Option.some Jvm.ClassFile.FieldType.int)) ∈ tG := tG_t (i := 1287) (by decide +kernel) (by decide +kernel)
theorem tw1284 : (Jvm.Cond.methodLink "TurningCoinsModel" (270 : Nat) ({ cls := "TurningCoinsModel", name := "kindTold", desc := "()I" } : Jvm.MethodName)) ∈ tG := tG_t (i := 1284) (by decide +kernel) (by decide +kernel)
theorem tw1286 : (Jvm.Cond.instanceMethod ({ cls := "TurningCoinsModel", name := "kindTold", desc := "()I" } : Jvm.MethodName)) ∈ tG := tG_t (i := 1286) (by decide +kernel) (by decide +kernel)
theorem sel_X7_kindTold : Cond.selects RX7 yX7_kindTold yX7_kindTold ∈ tG := tG_s (q := (yX7_kindTold, 25)) (i := 55) (by decide +kernel) (by decide +kernel)
theorem k_RX7_270 (rm : Room) : g_kV RX7 270 yX7_kindTold (eX7_kindTold rm) 0 := ⟨tw1284, tw1286, sel_X7_kindTold, ⟨tw9, tw1287, by decide +kernel, by decide +kernel, by decide +kernel⟩⟩
theorem tw1291 : (Jvm.Cond.code ({ cls := "TurningCoinsModel", name := "isWord", desc := "(Ljava/lang/String;)Z" } : Jvm.MethodName) prog_9_method_82_code (4 : Nat) (Option.some Jvm.ClassFile.FieldType.boolean)) ∈ tG := tG_t (i := 1291) (by decide +kernel) (by decide +kernel)
theorem tw1288 : (Jvm.Cond.methodLink "TurningCoinsModel" (266 : Nat) ({ cls := "TurningCoinsModel", name := "isWord", desc := "(Ljava/lang/String;)Z" } : Jvm.MethodName)) ∈ tG := tG_t (i := 1288) (by decide +kernel) (by decide +kernel)
theorem tw1290 : (Jvm.Cond.instanceMethod ({ cls := "TurningCoinsModel", name := "isWord", desc := "(Ljava/lang/String;)Z" } : Jvm.MethodName)) ∈ tG := tG_t (i := 1290) (by decide +kernel) (by decide +kernel)
theorem sel_X7_isWord : Cond.selects RX7 yX7_isWord yX7_isWord ∈ tG := tG_s (q := (yX7_isWord, 25)) (i := 56) (by decide +kernel) (by decide +kernel)
theorem k_RX7_266 (rm : Room) : g_kV RX7 266 yX7_isWord (eX7_isWord rm) 1 := ⟨tw1288, tw1290, sel_X7_isWord, ⟨tw9, tw1291, by decide +kernel, by decide +kernel, by decide +kernel⟩⟩
theorem tw1292 : (Jvm.Cond.methodLink "TurningCoinsModel" (245 : Nat) ({ cls := "java/lang/String", name := "length", desc := "()I" } : Jvm.MethodName)) ∈ tG := tG_t (i := 1292) (by decide +kernel) (by decide +kernel)
theorem k_RX7_245 (rm : Room) : g_kV RX7 245 yJ0_length_8abf5 (eJ0_length_8abf5 rm) 0 := ⟨tw1292, tw706, tw707, ⟨tw14, tw708, by decide +kernel, by decide +kernel, by decide +kernel⟩⟩
theorem tw1293 : (Jvm.Cond.methodLink "TurningCoinsModel" (248 : Nat) ({ cls := "java/lang/String", name := "charAt", desc := "(I)C" } : Jvm.MethodName)) ∈ tG := tG_t (i := 1293) (by decide +kernel) (by decide +kernel)
theorem k_RX7_248 (rm : Room) : g_kV RX7 248 yJ0_charAt_5068e (eJ0_charAt_5068e rm) 1 := ⟨tw1293, tw716, tw717, ⟨tw14, tw718, by decide +kernel, by decide +kernel, by decide +kernel⟩⟩
theorem tw1297 : (Jvm.Cond.code ({ cls := "TurningCoinsModel", name := "readCoin", desc := "(I)V" } : Jvm.MethodName) prog_9_method_88_code (6 : Nat) (Option.none : Option Jvm.ClassFile.FieldType)) ∈ tG := tG_t (i := 1297) (by decide +kernel) (by decide +kernel)
theorem tw1294 : (Jvm.Cond.methodLink "TurningCoinsModel" (273 : Nat) ({ cls := "TurningCoinsModel", name := "readCoin", desc := "(I)V" } : Jvm.MethodName)) ∈ tG := tG_t (i := 1294) (by decide +kernel) (by decide +kernel)
theorem tw1296 : (Jvm.Cond.instanceMethod ({ cls := "TurningCoinsModel", name := "readCoin", desc := "(I)V" } : Jvm.MethodName)) ∈ tG := tG_t (i := 1296) (by decide +kernel) (by decide +kernel)
theorem sel_X7_readCoin : Cond.selects RX7 yX7_readCoin yX7_readCoin ∈ tG := tG_s (q := (yX7_readCoin, 25)) (i := 57) (by decide +kernel) (by decide +kernel)
theorem k_RX7_273 (rm : Room) : g_kV RX7 273 yX7_readCoin (eX7_readCoin rm) 1 := ⟨tw1294, tw1296, sel_X7_readCoin, ⟨tw9, tw1297, by decide +kernel, by decide +kernel, by decide +kernel⟩⟩
theorem tw1301 : (Jvm.Cond.code ({ cls := "TurningCoinsModel", name := "must", desc := "(Z)V" } : Jvm.MethodName) prog_9_method_83_code (2 : Nat) (Option.none : Option Jvm.ClassFile.FieldType)) ∈ tG := tG_t (i := 1301) (by decide +kernel) (by decide +kernel)
theorem tw1298 : (Jvm.Cond.methodLink "TurningCoinsModel" (259 : Nat) ({ cls := "TurningCoinsModel", name := "must", desc := "(Z)V" } : Jvm.MethodName)) ∈ tG := tG_t (i := 1298) (by decide +kernel) (by decide +kernel)
theorem tw1300 : (Jvm.Cond.instanceMethod ({ cls := "TurningCoinsModel", name := "must", desc := "(Z)V" } : Jvm.MethodName)) ∈ tG := tG_t (i := 1300) (by decide +kernel) (by decide +kernel)
theorem sel_X7_must : Cond.selects RX7 yX7_must yX7_must ∈ tG := tG_s (q := (yX7_must, 25)) (i := 58) (by decide +kernel) (by decide +kernel)
theorem k_RX7_259 (rm : Room) : g_kV RX7 259 yX7_must (eX7_must rm) 1 := ⟨tw1298, tw1300, sel_X7_must, ⟨tw9, tw1301, by decide +kernel, by decide +kernel, by decide +kernel⟩⟩
theorem tw1305 : (Jvm.Cond.code ({ cls := "TurningCoinsModel", name := "number", desc := "(II)I" } : Jvm.MethodName) prog_9_method_84_code (4 : Nat) (Option.some Jvm.ClassFile.FieldType.int)) ∈ tG := tG_t (i := 1305) (by decide +kernel) (by decide +kernel)
theorem tw1302 : (Jvm.Cond.methodLink "TurningCoinsModel" (281 : Nat) ({ cls := "TurningCoinsModel", name := "number", desc := "(II)I" } : Jvm.MethodName)) ∈ tG := tG_t (i := 1302) (by decide +kernel) (by decide +kernel)
theorem tw1304 : (Jvm.Cond.instanceMethod ({ cls := "TurningCoinsModel", name := "number", desc := "(II)I" } : Jvm.MethodName)) ∈ tG := tG_t (i := 1304) (by decide +kernel) (by decide +kernel)
theorem sel_X7_number : Cond.selects RX7 yX7_number yX7_number ∈ tG := tG_s (q := (yX7_number, 25)) (i := 59) (by decide +kernel) (by decide +kernel)
theorem k_RX7_281 (rm : Room) : g_kV RX7 281 yX7_number (eX7_number rm) 2 := ⟨tw1302, tw1304, sel_X7_number, ⟨tw9, tw1305, by decide +kernel, by decide +kernel, by decide +kernel⟩⟩
theorem tw1311 : (Jvm.Cond.code ({ cls := "TurningCoinsModel", name := "item", desc := "(IIIII)V" } : Jvm.MethodName) prog_9_method_85_code (7 : Nat) (Option.none : Option Jvm.ClassFile.FieldType)) ∈ tG := tG_t (i := 1311) (by decide +kernel) (by decide +kernel)
theorem tw1308 : (Jvm.Cond.methodLink "TurningCoinsModel" (286 : Nat) ({ cls := "TurningCoinsModel", name := "item", desc := "(IIIII)V" } : Jvm.MethodName)) ∈ tG := tG_t (i := 1308) (by decide +kernel) (by decide +kernel)
theorem tw1310 : (Jvm.Cond.instanceMethod ({ cls := "TurningCoinsModel", name := "item", desc := "(IIIII)V" } : Jvm.MethodName)) ∈ tG := tG_t (i := 1310) (by decide +kernel) (by decide +kernel)
theorem sel_X7_item : Cond.selects RX7 yX7_item yX7_item ∈ tG := tG_s (q := (yX7_item, 25)) (i := 60) (by decide +kernel) (by decide +kernel)
theorem k_RX7_286 (rm : Room) : g_kV RX7 286 yX7_item (eX7_item rm) 5 := ⟨tw1308, tw1310, sel_X7_item, ⟨tw9, tw1311, by decide +kernel, by decide +kernel, by decide +kernel⟩⟩
theorem tw1317 : (Jvm.Cond.code ({ cls := "TurningCoinsModel", name := "isSo", desc := "(I)V" } : Jvm.MethodName) prog_9_method_89_code (3 : Nat) (Option.none : Option Jvm.ClassFile.FieldType)) ∈ tG := tG_t (i := 1317) (by decide +kernel) (by decide +kernel)
theorem tw1314 : (Jvm.Cond.methodLink "TurningCoinsModel" (297 : Nat) ({ cls := "TurningCoinsModel", name := "isSo", desc := "(I)V" } : Jvm.MethodName)) ∈ tG := tG_t (i := 1314) (by decide +kernel) (by decide +kernel)
theorem tw1316 : (Jvm.Cond.instanceMethod ({ cls := "TurningCoinsModel", name := "isSo", desc := "(I)V" } : Jvm.MethodName)) ∈ tG := tG_t (i := 1316) (by decide +kernel) (by decide +kernel)
theorem sel_X7_isSo : Cond.selects RX7 yX7_isSo yX7_isSo ∈ tG := tG_s (q := (yX7_isSo, 25)) (i := 61) (by decide +kernel) (by decide +kernel)
theorem k_RX7_297 (rm : Room) : g_kV RX7 297 yX7_isSo (eX7_isSo rm) 1 := ⟨tw1314, tw1316, sel_X7_isSo, ⟨tw9, tw1317, by decide +kernel, by decide +kernel, by decide +kernel⟩⟩
theorem tw1321 : (Jvm.Cond.code ({ cls := "TurningCoinsModel", name := "hold", desc := "(II)I" } : Jvm.MethodName) prog_9_method_92_code (3 : Nat) (Option.some Jvm.ClassFile.FieldType.int)) ∈ tG := tG_t (i := 1321) (by decide +kernel) (by decide +kernel)
theorem tw1318 : (Jvm.Cond.methodLink "TurningCoinsLaw" (168 : Nat) ({ cls := "TurningCoinsModel", name := "hold", desc := "(II)I" } : Jvm.MethodName)) ∈ tG := tG_t (i := 1318) (by decide +kernel) (by decide +kernel)
theorem tw1319 : (Jvm.Cond.instanceMethod ({ cls := "TurningCoinsModel", name := "hold", desc := "(II)I" } : Jvm.MethodName)) ∈ tG := tG_t (i := 1319) (by decide +kernel) (by decide +kernel)
theorem tw1320 : (Jvm.Cond.selects "TurningCoinsModel" ({ cls := "TurningCoinsModel", name := "hold", desc := "(II)I" } : Jvm.MethodName) ({ cls := "TurningCoinsModel", name := "hold", desc := "(II)I" } : Jvm.MethodName)) ∈ tG := tG_t (i := 1320) (by decide +kernel) (by decide +kernel)
theorem k_RL_168 (rm : Room) : g_kV RL 168 yX7_hold (eX7_hold rm) 2 := ⟨tw1318, tw1319, tw1320, ⟨tw9, tw1321, by decide +kernel, by decide +kernel, by decide +kernel⟩⟩
theorem tw1324 : (Jvm.Cond.code ({ cls := "TurningCoinsModel", name := "isSpot", desc := "(I)Z" } : Jvm.MethodName) prog_9_method_91_code (1 : Nat) (Option.some Jvm.ClassFile.FieldType.boolean)) ∈ tG := tG_t (i := 1324) (by decide +kernel) (by decide +kernel)
theorem tw1322 : (Jvm.Cond.methodLink "TurningCoinsModel" (300 : Nat) ({ cls := "TurningCoinsModel", name := "isSpot", desc := "(I)Z" } : Jvm.MethodName)) ∈ tG := tG_t (i := 1322) (by decide +kernel) (by decide +kernel)
theorem tw1323 : (Jvm.Cond.static ({ cls := "TurningCoinsModel", name := "isSpot", desc := "(I)Z" } : Jvm.MethodName)) ∈ tG := tG_t (i := 1323) (by decide +kernel) (by decide +kernel)
theorem k_RX7_300 (rm : Room) : g_kS RX7 300 yX7_isSpot (eX7_isSpot rm) 1 := ⟨tw1322, tw1323, ⟨tw9, tw1324, by decide +kernel, by decide +kernel, by decide +kernel⟩⟩
theorem tw1328 : (Jvm.Cond.code ({ cls := "TurningCoinsModel", name := "as", desc := "(II)I" } : Jvm.MethodName) prog_9_method_93_code (4 : Nat) (Option.some Jvm.ClassFile.FieldType.int)) ∈ tG := tG_t (i := 1328) (by decide +kernel) (by decide +kernel)
theorem tw1325 : (Jvm.Cond.methodLink "TurningCoinsLaw" (172 : Nat) ({ cls := "TurningCoinsModel", name := "as", desc := "(II)I" } : Jvm.MethodName)) ∈ tG := tG_t (i := 1325) (by decide +kernel) (by decide +kernel)
theorem tw1326 : (Jvm.Cond.instanceMethod ({ cls := "TurningCoinsModel", name := "as", desc := "(II)I" } : Jvm.MethodName)) ∈ tG := tG_t (i := 1326) (by decide +kernel) (by decide +kernel)
theorem tw1327 : (Jvm.Cond.selects "TurningCoinsModel" ({ cls := "TurningCoinsModel", name := "as", desc := "(II)I" } : Jvm.MethodName) ({ cls := "TurningCoinsModel", name := "as", desc := "(II)I" } : Jvm.MethodName)) ∈ tG := tG_t (i := 1327) (by decide +kernel) (by decide +kernel)
theorem k_RL_172 (rm : Room) : g_kV RL 172 yX7_as (eX7_as rm) 2 := ⟨tw1325, tw1326, tw1327, ⟨tw9, tw1328, by decide +kernel, by decide +kernel, by decide +kernel⟩⟩
theorem tw1334 : (Jvm.Cond.code ({ cls := "TurningCoinsModel", name := "sheet", desc := "(III)I" } : Jvm.MethodName) prog_9_method_96_code (5 : Nat) (Option.some Jvm.ClassFile.FieldType.int)) ∈ tG := tG_t (i := 1334) (by decide +kernel) (by decide +kernel)
theorem tw1331 : (Jvm.Cond.methodLink "TurningCoinsLaw" (176 : Nat) ({ cls := "TurningCoinsModel", name := "sheet", desc := "(III)I" } : Jvm.MethodName)) ∈ tG := tG_t (i := 1331) (by decide +kernel) (by decide +kernel)
theorem tw1332 : (Jvm.Cond.instanceMethod ({ cls := "TurningCoinsModel", name := "sheet", desc := "(III)I" } : Jvm.MethodName)) ∈ tG := tG_t (i := 1332) (by decide +kernel) (by decide +kernel)
theorem tw1333 : (Jvm.Cond.selects "TurningCoinsModel" ({ cls := "TurningCoinsModel", name := "sheet", desc := "(III)I" } : Jvm.MethodName) ({ cls := "TurningCoinsModel", name := "sheet", desc := "(III)I" } : Jvm.MethodName)) ∈ tG := tG_t (i := 1333) (by decide +kernel) (by decide +kernel)
theorem k_RL_176 (rm : Room) : g_kV RL 176 yX7_sheet (eX7_sheet rm) 3 := ⟨tw1331, tw1332, tw1333, ⟨tw9, tw1334, by decide +kernel, by decide +kernel, by decide +kernel⟩⟩
theorem tw1337 : (Jvm.Cond.code ({ cls := "TurningCoinsModel", name := "isSheet", desc := "(I)Z" } : Jvm.MethodName) prog_9_method_94_code (1 : Nat) (Option.some Jvm.ClassFile.FieldType.boolean)) ∈ tG := tG_t (i := 1337) (by decide +kernel) (by decide +kernel)
theorem tw1335 : (Jvm.Cond.methodLink "TurningCoinsModel" (305 : Nat) ({ cls := "TurningCoinsModel", name := "isSheet", desc := "(I)Z" } : Jvm.MethodName)) ∈ tG := tG_t (i := 1335) (by decide +kernel) (by decide +kernel)
theorem tw1336 : (Jvm.Cond.static ({ cls := "TurningCoinsModel", name := "isSheet", desc := "(I)Z" } : Jvm.MethodName)) ∈ tG := tG_t (i := 1336) (by decide +kernel) (by decide +kernel)
theorem k_RX7_305 (rm : Room) : g_kS RX7 305 yX7_isSheet (eX7_isSheet rm) 1 := ⟨tw1335, tw1336, ⟨tw9, tw1337, by decide +kernel, by decide +kernel, by decide +kernel⟩⟩
theorem tw1342 : (Jvm.Cond.code ({ cls := "TurningCoinsModel", name := "write", desc := "(III)I" } : Jvm.MethodName) prog_9_method_97_code (4 : Nat) (Option.some Jvm.ClassFile.FieldType.int)) ∈ tG := tG_t (i := 1342) (by decide +kernel) (by decide +kernel)
theorem tw1339 : (Jvm.Cond.methodLink "TurningCoinsLaw" (180 : Nat) ({ cls := "TurningCoinsModel", name := "write", desc := "(III)I" } : Jvm.MethodName)) ∈ tG := tG_t (i := 1339) (by decide +kernel) (by decide +kernel)
theorem tw1340 : (Jvm.Cond.instanceMethod ({ cls := "TurningCoinsModel", name := "write", desc := "(III)I" } : Jvm.MethodName)) ∈ tG := tG_t (i := 1340) (by decide +kernel) (by decide +kernel)
theorem tw1341 : (Jvm.Cond.selects "TurningCoinsModel" ({ cls := "TurningCoinsModel", name := "write", desc := "(III)I" } : Jvm.MethodName) ({ cls := "TurningCoinsModel", name := "write", desc := "(III)I" } : Jvm.MethodName)) ∈ tG := tG_t (i := 1341) (by decide +kernel) (by decide +kernel)
theorem k_RL_180 (rm : Room) : g_kV RL 180 yX7_write (eX7_write rm) 3 := ⟨tw1339, tw1340, tw1341, ⟨tw9, tw1342, by decide +kernel, by decide +kernel, by decide +kernel⟩⟩
theorem tw1345 : (Jvm.Cond.code ({ cls := "TurningCoinsModel", name := "cutTo", desc := "(II)I" } : Jvm.MethodName) prog_9_method_95_code (2 : Nat) (Option.some Jvm.ClassFile.FieldType.int)) ∈ tG := tG_t (i := 1345) (by decide +kernel) (by decide +kernel)
theorem tw1343 : (Jvm.Cond.methodLink "TurningCoinsModel" (309 : Nat) ({ cls := "TurningCoinsModel", name := "cutTo", desc := "(II)I" } : Jvm.MethodName)) ∈ tG := tG_t (i := 1343) (by decide +kernel) (by decide +kernel)
theorem tw1344 : (Jvm.Cond.static ({ cls := "TurningCoinsModel", name := "cutTo", desc := "(II)I" } : Jvm.MethodName)) ∈ tG := tG_t (i := 1344) (by decide +kernel) (by decide +kernel)
theorem k_RX7_309 (rm : Room) : g_kS RX7 309 yX7_cutTo (eX7_cutTo rm) 2 := ⟨tw1343, tw1344, ⟨tw9, tw1345, by decide +kernel, by decide +kernel, by decide +kernel⟩⟩
theorem tw1349 : (Jvm.Cond.code ({ cls := "TurningCoinsModel", name := "copy", desc := "(IIIII)I" } : Jvm.MethodName) prog_9_method_98_code (7 : Nat) (Option.some Jvm.ClassFile.FieldType.int)) ∈ tG := tG_t (i := 1349) (by decide +kernel) (by decide +kernel)
theorem tw1346 : (Jvm.Cond.methodLink "TurningCoinsLaw" (185 : Nat) ({ cls := "TurningCoinsModel", name := "copy", desc := "(IIIII)I" } : Jvm.MethodName)) ∈ tG := tG_t (i := 1346) (by decide +kernel) (by decide +kernel)
theorem tw1347 : (Jvm.Cond.instanceMethod ({ cls := "TurningCoinsModel", name := "copy", desc := "(IIIII)I" } : Jvm.MethodName)) ∈ tG := tG_t (i := 1347) (by decide +kernel) (by decide +kernel)
theorem tw1348 : (Jvm.Cond.selects "TurningCoinsModel" ({ cls := "TurningCoinsModel", name := "copy", desc := "(IIIII)I" } : Jvm.MethodName) ({ cls := "TurningCoinsModel", name := "copy", desc := "(IIIII)I" } : Jvm.MethodName)) ∈ tG := tG_t (i := 1348) (by decide +kernel) (by decide +kernel)
theorem k_RL_185 (rm : Room) : g_kV RL 185 yX7_copy (eX7_copy rm) 5 := ⟨tw1346, tw1347, tw1348, ⟨tw9, tw1349, by decide +kernel, by decide +kernel, by decide +kernel⟩⟩
theorem tw1353 : (Jvm.Cond.code ({ cls := "TurningCoinsModel", name := "load", desc := "(I)I" } : Jvm.MethodName) prog_9_method_99_code (3 : Nat) (Option.some Jvm.ClassFile.FieldType.int)) ∈ tG := tG_t (i := 1353) (by decide +kernel) (by decide +kernel)
theorem tw1350 : (Jvm.Cond.methodLink "TurningCoinsLaw" (189 : Nat) ({ cls := "TurningCoinsModel", name := "load", desc := "(I)I" } : Jvm.MethodName)) ∈ tG := tG_t (i := 1350) (by decide +kernel) (by decide +kernel)
theorem tw1351 : (Jvm.Cond.instanceMethod ({ cls := "TurningCoinsModel", name := "load", desc := "(I)I" } : Jvm.MethodName)) ∈ tG := tG_t (i := 1351) (by decide +kernel) (by decide +kernel)
theorem tw1352 : (Jvm.Cond.selects "TurningCoinsModel" ({ cls := "TurningCoinsModel", name := "load", desc := "(I)I" } : Jvm.MethodName) ({ cls := "TurningCoinsModel", name := "load", desc := "(I)I" } : Jvm.MethodName)) ∈ tG := tG_t (i := 1352) (by decide +kernel) (by decide +kernel)
theorem k_RL_189 (rm : Room) : g_kV RL 189 yX7_load (eX7_load rm) 1 := ⟨tw1350, tw1351, tw1352, ⟨tw9, tw1353, by decide +kernel, by decide +kernel, by decide +kernel⟩⟩
theorem tw1357 : (Jvm.Cond.code ({ cls := "TurningCoinsModel", name := "strike", desc := "(II)I" } : Jvm.MethodName) prog_9_method_101_code (6 : Nat) (Option.some Jvm.ClassFile.FieldType.int)) ∈ tG := tG_t (i := 1357) (by decide +kernel) (by decide +kernel)
theorem tw1354 : (Jvm.Cond.methodLink "TurningCoinsLaw" (193 : Nat) ({ cls := "TurningCoinsModel", name := "strike", desc := "(II)I" } : Jvm.MethodName)) ∈ tG := tG_t (i := 1354) (by decide +kernel) (by decide +kernel)
theorem tw1355 : (Jvm.Cond.instanceMethod ({ cls := "TurningCoinsModel", name := "strike", desc := "(II)I" } : Jvm.MethodName)) ∈ tG := tG_t (i := 1355) (by decide +kernel) (by decide +kernel)
theorem tw1356 : (Jvm.Cond.selects "TurningCoinsModel" ({ cls := "TurningCoinsModel", name := "strike", desc := "(II)I" } : Jvm.MethodName) ({ cls := "TurningCoinsModel", name := "strike", desc := "(II)I" } : Jvm.MethodName)) ∈ tG := tG_t (i := 1356) (by decide +kernel) (by decide +kernel)
theorem k_RL_193 (rm : Room) : g_kV RL 193 yX7_strike (eX7_strike rm) 2 := ⟨tw1354, tw1355, tw1356, ⟨tw9, tw1357, by decide +kernel, by decide +kernel, by decide +kernel⟩⟩
theorem tw1361 : (Jvm.Cond.code ({ cls := "TurningCoinsModel", name := "areAllSums", desc := "(I)Z" } : Jvm.MethodName) prog_9_method_100_code (5 : Nat) (Option.some Jvm.ClassFile.FieldType.boolean)) ∈ tG := tG_t (i := 1361) (by decide +kernel) (by decide +kernel)
theorem tw1358 : (Jvm.Cond.methodLink "TurningCoinsModel" (312 : Nat) ({ cls := "TurningCoinsModel", name := "areAllSums", desc := "(I)Z" } : Jvm.MethodName)) ∈ tG := tG_t (i := 1358) (by decide +kernel) (by decide +kernel)
theorem tw1360 : (Jvm.Cond.instanceMethod ({ cls := "TurningCoinsModel", name := "areAllSums", desc := "(I)Z" } : Jvm.MethodName)) ∈ tG := tG_t (i := 1360) (by decide +kernel) (by decide +kernel)
theorem sel_X7_areAllSums : Cond.selects RX7 yX7_areAllSums yX7_areAllSums ∈ tG := tG_s (q := (yX7_areAllSums, 25)) (i := 62) (by decide +kernel) (by decide +kernel)
theorem k_RX7_312 (rm : Room) : g_kV RX7 312 yX7_areAllSums (eX7_areAllSums rm) 1 := ⟨tw1358, tw1360, sel_X7_areAllSums, ⟨tw9, tw1361, by decide +kernel, by decide +kernel, by decide +kernel⟩⟩
theorem tw1365 : (Jvm.Cond.code ({ cls := "TurningCoinsModel", name := "judge", desc := "(III)I" } : Jvm.MethodName) prog_9_method_102_code (5 : Nat) (Option.some Jvm.ClassFile.FieldType.int)) ∈ tG := tG_t (i := 1365) (by decide +kernel) (by decide +kernel)
theorem tw1362 : (Jvm.Cond.methodLink "TurningCoinsLaw" (197 : Nat) ({ cls := "TurningCoinsModel", name := "judge", desc := "(III)I" } : Jvm.MethodName)) ∈ tG := tG_t (i := 1362) (by decide +kernel) (by decide +kernel)
theorem tw1363 : (Jvm.Cond.instanceMethod ({ cls := "TurningCoinsModel", name := "judge", desc := "(III)I" } : Jvm.MethodName)) ∈ tG := tG_t (i := 1363) (by decide +kernel) (by decide +kernel)
theorem tw1364 : (Jvm.Cond.selects "TurningCoinsModel" ({ cls := "TurningCoinsModel", name := "judge", desc := "(III)I" } : Jvm.MethodName) ({ cls := "TurningCoinsModel", name := "judge", desc := "(III)I" } : Jvm.MethodName)) ∈ tG := tG_t (i := 1364) (by decide +kernel) (by decide +kernel)
theorem k_RL_197 (rm : Room) : g_kV RL 197 yX7_judge (eX7_judge rm) 3 := ⟨tw1362, tw1363, tw1364, ⟨tw9, tw1365, by decide +kernel, by decide +kernel, by decide +kernel⟩⟩
theorem tw1369 : (Jvm.Cond.code ({ cls := "TurningCoinsModel", name := "image", desc := "()I" } : Jvm.MethodName) prog_9_method_103_code (1 : Nat) (Option.some Jvm.ClassFile.FieldType.int)) ∈ tG := tG_t (i := 1369) (by decide +kernel) (by decide +kernel)
theorem tw1366 : (Jvm.Cond.methodLink "TurningCoinsLaw" (201 : Nat) ({ cls := "TurningCoinsModel", name := "image", desc := "()I" } : Jvm.MethodName)) ∈ tG := tG_t (i := 1366) (by decide +kernel) (by decide +kernel)
theorem tw1367 : (Jvm.Cond.instanceMethod ({ cls := "TurningCoinsModel", name := "image", desc := "()I" } : Jvm.MethodName)) ∈ tG := tG_t (i := 1367) (by decide +kernel) (by decide +kernel)
theorem tw1368 : (Jvm.Cond.selects "TurningCoinsModel" ({ cls := "TurningCoinsModel", name := "image", desc := "()I" } : Jvm.MethodName) ({ cls := "TurningCoinsModel", name := "image", desc := "()I" } : Jvm.MethodName)) ∈ tG := tG_t (i := 1368) (by decide +kernel) (by decide +kernel)
theorem k_RL_201 (rm : Room) : g_kV RL 201 yX7_image (eX7_image rm) 0 := ⟨tw1366, tw1367, tw1368, ⟨tw9, tw1369, by decide +kernel, by decide +kernel, by decide +kernel⟩⟩
theorem tw1373 : (Jvm.Cond.code ({ cls := "TurningCoinsModel", name := "undo", desc := "()I" } : Jvm.MethodName) prog_9_method_104_code (1 : Nat) (Option.some Jvm.ClassFile.FieldType.int)) ∈ tG := tG_t (i := 1373) (by decide +kernel) (by decide +kernel)
theorem tw1370 : (Jvm.Cond.methodLink "TurningCoinsLaw" (205 : Nat) ({ cls := "TurningCoinsModel", name := "undo", desc := "()I" } : Jvm.MethodName)) ∈ tG := tG_t (i := 1370) (by decide +kernel) (by decide +kernel)
theorem tw1371 : (Jvm.Cond.instanceMethod ({ cls := "TurningCoinsModel", name := "undo", desc := "()I" } : Jvm.MethodName)) ∈ tG := tG_t (i := 1371) (by decide +kernel) (by decide +kernel)
theorem tw1372 : (Jvm.Cond.selects "TurningCoinsModel" ({ cls := "TurningCoinsModel", name := "undo", desc := "()I" } : Jvm.MethodName) ({ cls := "TurningCoinsModel", name := "undo", desc := "()I" } : Jvm.MethodName)) ∈ tG := tG_t (i := 1372) (by decide +kernel) (by decide +kernel)
theorem k_RL_205 (rm : Room) : g_kV RL 205 yX7_undo (eX7_undo rm) 0 := ⟨tw1370, tw1371, tw1372, ⟨tw9, tw1373, by decide +kernel, by decide +kernel, by decide +kernel⟩⟩
theorem tw1377 : (Jvm.Cond.code ({ cls := "TurningCoinsModel", name := "tear", desc := "()I" } : Jvm.MethodName) prog_9_method_105_code (2 : Nat) (Option.some Jvm.ClassFile.FieldType.int)) ∈ tG := tG_t (i := 1377) (by decide +kernel) (by decide +kernel)
theorem tw1374 : (Jvm.Cond.methodLink "TurningCoinsLaw" (209 : Nat) ({ cls := "TurningCoinsModel", name := "tear", desc := "()I" } : Jvm.MethodName)) ∈ tG := tG_t (i := 1374) (by decide +kernel) (by decide +kernel)
theorem tw1375 : (Jvm.Cond.instanceMethod ({ cls := "TurningCoinsModel", name := "tear", desc := "()I" } : Jvm.MethodName)) ∈ tG := tG_t (i := 1375) (by decide +kernel) (by decide +kernel)
theorem tw1376 : (Jvm.Cond.selects "TurningCoinsModel" ({ cls := "TurningCoinsModel", name := "tear", desc := "()I" } : Jvm.MethodName) ({ cls := "TurningCoinsModel", name := "tear", desc := "()I" } : Jvm.MethodName)) ∈ tG := tG_t (i := 1376) (by decide +kernel) (by decide +kernel)
theorem k_RL_209 (rm : Room) : g_kV RL 209 yX7_tear (eX7_tear rm) 0 := ⟨tw1374, tw1375, tw1376, ⟨tw9, tw1377, by decide +kernel, by decide +kernel, by decide +kernel⟩⟩
theorem tw1381 : (Jvm.Cond.code ({ cls := "TurningCoinsModel", name := "count", desc := "(I)I" } : Jvm.MethodName) prog_9_method_106_code (4 : Nat) (Option.some Jvm.ClassFile.FieldType.int)) ∈ tG := tG_t (i := 1381) (by decide +kernel) (by decide +kernel)
theorem tw1378 : (Jvm.Cond.methodLink "TurningCoinsLaw" (213 : Nat) ({ cls := "TurningCoinsModel", name := "count", desc := "(I)I" } : Jvm.MethodName)) ∈ tG := tG_t (i := 1378) (by decide +kernel) (by decide +kernel)
theorem tw1379 : (Jvm.Cond.instanceMethod ({ cls := "TurningCoinsModel", name := "count", desc := "(I)I" } : Jvm.MethodName)) ∈ tG := tG_t (i := 1379) (by decide +kernel) (by decide +kernel)
theorem tw1380 : (Jvm.Cond.selects "TurningCoinsModel" ({ cls := "TurningCoinsModel", name := "count", desc := "(I)I" } : Jvm.MethodName) ({ cls := "TurningCoinsModel", name := "count", desc := "(I)I" } : Jvm.MethodName)) ∈ tG := tG_t (i := 1380) (by decide +kernel) (by decide +kernel)
theorem k_RL_213 (rm : Room) : g_kV RL 213 yX7_count (eX7_count rm) 1 := ⟨tw1378, tw1379, tw1380, ⟨tw9, tw1381, by decide +kernel, by decide +kernel, by decide +kernel⟩⟩
theorem tw1385 : (Jvm.Cond.code ({ cls := "TurningCoinsModel", name := "status", desc := "(I)I" } : Jvm.MethodName) prog_9_method_107_code (2 : Nat) (Option.some Jvm.ClassFile.FieldType.int)) ∈ tG := tG_t (i := 1385) (by decide +kernel) (by decide +kernel)
theorem tw1382 : (Jvm.Cond.methodLink "TurningCoinsLaw" (217 : Nat) ({ cls := "TurningCoinsModel", name := "status", desc := "(I)I" } : Jvm.MethodName)) ∈ tG := tG_t (i := 1382) (by decide +kernel) (by decide +kernel)
theorem tw1383 : (Jvm.Cond.instanceMethod ({ cls := "TurningCoinsModel", name := "status", desc := "(I)I" } : Jvm.MethodName)) ∈ tG := tG_t (i := 1383) (by decide +kernel) (by decide +kernel)
theorem tw1384 : (Jvm.Cond.selects "TurningCoinsModel" ({ cls := "TurningCoinsModel", name := "status", desc := "(I)I" } : Jvm.MethodName) ({ cls := "TurningCoinsModel", name := "status", desc := "(I)I" } : Jvm.MethodName)) ∈ tG := tG_t (i := 1384) (by decide +kernel) (by decide +kernel)
theorem k_RL_217 (rm : Room) : g_kV RL 217 yX7_status (eX7_status rm) 1 := ⟨tw1382, tw1383, tw1384, ⟨tw9, tw1385, by decide +kernel, by decide +kernel, by decide +kernel⟩⟩
theorem tw18 : (Jvm.Cond.classLink "TurningCoinsLaw" (7 : Nat) "TurningCoins") ∈ tG := tG_t (i := 18) (by decide +kernel) (by decide +kernel)
theorem tw19 : (Jvm.Cond.instantiable "TurningCoins" (11 : Nat)) ∈ tG := tG_t (i := 19) (by decide +kernel) (by decide +kernel)
theorem tw26 : (Jvm.Cond.classLink "TurningCoins" (9 : Nat) "TurningCoins$Land") ∈ tG := tG_t (i := 26) (by decide +kernel) (by decide +kernel)
theorem tw27 : (Jvm.Cond.instantiable "TurningCoins$Land" (5 : Nat)) ∈ tG := tG_t (i := 27) (by decide +kernel) (by decide +kernel)
theorem tw32 : (Jvm.Cond.classLink "TurningCoins$Land" (9 : Nat) "TurningCoins$Coin") ∈ tG := tG_t (i := 32) (by decide +kernel) (by decide +kernel)
theorem tw34 : (Jvm.Cond.instantiable "TurningCoins$Coin" (6 : Nat)) ∈ tG := tG_t (i := 34) (by decide +kernel) (by decide +kernel)
theorem tw73 : (Jvm.Cond.arrayClass Jvm.ClassFile.FieldType.int) ∈ tG := tG_t (i := 73) (by decide +kernel) (by decide +kernel)
theorem tw104 : (Jvm.Cond.classLink "TurningCoins" (34 : Nat) "TurningCoins$Reader") ∈ tG := tG_t (i := 104) (by decide +kernel) (by decide +kernel)
theorem tw105 : (Jvm.Cond.instantiable "TurningCoins$Reader" (6 : Nat)) ∈ tG := tG_t (i := 105) (by decide +kernel) (by decide +kernel)
theorem tw129 : (Jvm.Cond.classLink "TurningCoins" (41 : Nat) "TurningCoins$Sheet") ∈ tG := tG_t (i := 129) (by decide +kernel) (by decide +kernel)
theorem tw205 : (Jvm.Cond.instantiable "TurningCoins$Sheet" (3 : Nat)) ∈ tG := tG_t (i := 205) (by decide +kernel) (by decide +kernel)
theorem tw131 : (Jvm.Cond.classLink "TurningCoins" (47 : Nat) "TurningCoins$Reach") ∈ tG := tG_t (i := 131) (by decide +kernel) (by decide +kernel)
theorem tw132 : (Jvm.Cond.instantiable "TurningCoins$Reach" (9 : Nat)) ∈ tG := tG_t (i := 132) (by decide +kernel) (by decide +kernel)
theorem tw137 : (Jvm.Cond.classLink "TurningCoins$Reach" (11 : Nat) "[[J") ∈ tG := tG_t (i := 137) (by decide +kernel) (by decide +kernel)
theorem tw167 : (Jvm.Cond.arrayClass Jvm.ClassFile.FieldType.long) ∈ tG := tG_t (i := 167) (by decide +kernel) (by decide +kernel)
theorem tw168 : (Jvm.Cond.classLink "TurningCoins" (54 : Nat) "TurningCoins$Trades") ∈ tG := tG_t (i := 168) (by decide +kernel) (by decide +kernel)
theorem tw169 : (Jvm.Cond.instantiable "TurningCoins$Trades" (9 : Nat)) ∈ tG := tG_t (i := 169) (by decide +kernel) (by decide +kernel)
theorem tw264 : (Jvm.Cond.constant "TurningCoins" (69 : Nat) (-1000001 : Int32)) ∈ tG := tG_t (i := 264) (by decide +kernel) (by decide +kernel)
theorem tw269 : (Jvm.Cond.constant "TurningCoins" (77 : Nat) (-1000002 : Int32)) ∈ tG := tG_t (i := 269) (by decide +kernel) (by decide +kernel)
theorem tw370 : (Jvm.Cond.constant "TurningCoins" (145 : Nat) (-1000005 : Int32)) ∈ tG := tG_t (i := 370) (by decide +kernel) (by decide +kernel)
theorem tw424 : (Jvm.Cond.constant "TurningCoins" (161 : Nat) (-1000004 : Int32)) ∈ tG := tG_t (i := 424) (by decide +kernel) (by decide +kernel)
theorem tw436 : (Jvm.Cond.constantLong "java/lang/Long" (314 : Nat) (6148914691236517205 : Int64)) ∈ tG := tG_t (i := 436) (by decide +kernel) (by decide +kernel)
theorem tw437 : (Jvm.Cond.constantLong "java/lang/Long" (316 : Nat) (3689348814741910323 : Int64)) ∈ tG := tG_t (i := 437) (by decide +kernel) (by decide +kernel)
theorem tw438 : (Jvm.Cond.constantLong "java/lang/Long" (318 : Nat) (1085102592571150095 : Int64)) ∈ tG := tG_t (i := 438) (by decide +kernel) (by decide +kernel)
theorem tw466 : (Jvm.Cond.constantLong "TurningCoins$Trades" (84 : Nat) (1152921504606846976 : Int64)) ∈ tG := tG_t (i := 466) (by decide +kernel) (by decide +kernel)
theorem tw470 : (Jvm.Cond.constantLong "TurningCoins$Trades" (90 : Nat) (16 : Int64)) ∈ tG := tG_t (i := 470) (by decide +kernel) (by decide +kernel)
theorem tw474 : (Jvm.Cond.constant "java/lang/Integer" (265 : Nat) (1431655765 : Int32)) ∈ tG := tG_t (i := 474) (by decide +kernel) (by decide +kernel)
theorem tw475 : (Jvm.Cond.constant "java/lang/Integer" (266 : Nat) (858993459 : Int32)) ∈ tG := tG_t (i := 475) (by decide +kernel) (by decide +kernel)
theorem tw476 : (Jvm.Cond.constant "java/lang/Integer" (267 : Nat) (252645135 : Int32)) ∈ tG := tG_t (i := 476) (by decide +kernel) (by decide +kernel)
theorem tw480 : (Jvm.Cond.constantLong "TurningCoins$Trades" (106 : Nat) (1024 : Int64)) ∈ tG := tG_t (i := 480) (by decide +kernel) (by decide +kernel)
theorem tw596 : (Jvm.Cond.constantLong "TurningCoins$Reach" (106 : Nat) (-1 : Int64)) ∈ tG := tG_t (i := 596) (by decide +kernel) (by decide +kernel)
theorem tw650 : (Jvm.Cond.constant "TurningCoins$Land" (89 : Nat) (1103515245 : Int32)) ∈ tG := tG_t (i := 650) (by decide +kernel) (by decide +kernel)
theorem tw771 : (Jvm.Cond.arrayClass Jvm.ClassFile.FieldType.byte) ∈ tG := tG_t (i := 771) (by decide +kernel) (by decide +kernel)
theorem tw780 : (Jvm.Cond.constant "TurningCoins" (251 : Nat) (-1000006 : Int32)) ∈ tG := tG_t (i := 780) (by decide +kernel) (by decide +kernel)
theorem tw787 : (Jvm.Cond.constant "TurningCoins" (255 : Nat) (-1000003 : Int32)) ∈ tG := tG_t (i := 787) (by decide +kernel) (by decide +kernel)
theorem tw795 : (Jvm.Cond.constant "TurningCoins" (259 : Nat) (-1000007 : Int32)) ∈ tG := tG_t (i := 795) (by decide +kernel) (by decide +kernel)
theorem tw868 : (Jvm.Cond.classLink "TurningCoinsLaw" (10 : Nat) "TurningCoinsModel") ∈ tG := tG_t (i := 868) (by decide +kernel) (by decide +kernel)
theorem tw869 : (Jvm.Cond.instantiable "TurningCoinsModel" (25 : Nat)) ∈ tG := tG_t (i := 869) (by decide +kernel) (by decide +kernel)
theorem tw874 : (Jvm.Cond.classLink "TurningCoinsModel" (29 : Nat) "java/lang/String") ∈ tG := tG_t (i := 874) (by decide +kernel) (by decide +kernel)
theorem tw959 : (Jvm.Cond.arrayClass Jvm.ClassFile.FieldType.boolean) ∈ tG := tG_t (i := 959) (by decide +kernel) (by decide +kernel)
theorem tw970 : (Jvm.Cond.constant "TurningCoinsModel" (67 : Nat) (-1000001 : Int32)) ∈ tG := tG_t (i := 970) (by decide +kernel) (by decide +kernel)
theorem tw975 : (Jvm.Cond.constant "TurningCoinsModel" (91 : Nat) (-1000002 : Int32)) ∈ tG := tG_t (i := 975) (by decide +kernel) (by decide +kernel)
theorem tw1079 : (Jvm.Cond.constant "TurningCoinsModel" (162 : Nat) (-1000005 : Int32)) ∈ tG := tG_t (i := 1079) (by decide +kernel) (by decide +kernel)
theorem tw1107 : (Jvm.Cond.constant "TurningCoinsModel" (172 : Nat) (-1000004 : Int32)) ∈ tG := tG_t (i := 1107) (by decide +kernel) (by decide +kernel)
theorem tw1251 : (Jvm.Cond.constant "TurningCoinsModel" (223 : Nat) (1103515245 : Int32)) ∈ tG := tG_t (i := 1251) (by decide +kernel) (by decide +kernel)
theorem tw1329 : (Jvm.Cond.constant "TurningCoinsModel" (303 : Nat) (-1000006 : Int32)) ∈ tG := tG_t (i := 1329) (by decide +kernel) (by decide +kernel)
theorem tw1330 : (Jvm.Cond.constant "TurningCoinsModel" (304 : Nat) (-1000003 : Int32)) ∈ tG := tG_t (i := 1330) (by decide +kernel) (by decide +kernel)
theorem tw1338 : (Jvm.Cond.constant "TurningCoinsModel" (308 : Nat) (-1000007 : Int32)) ∈ tG := tG_t (i := 1338) (by decide +kernel) (by decide +kernel)
