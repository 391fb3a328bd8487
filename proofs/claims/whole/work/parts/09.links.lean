/-! METHODS, LINKS: each method with what it may make; what the tables say of fields and calls. -/
def mX0_init : Mt := (yX0_init, cX0_init, 1, none, RX0, 24, 338)
def mX0_copyFrom : Mt := (yX0_copyFrom, cX0_copyFrom, 3, none, RX0, 0, 0)
def mX0_copyThing : Mt := (yX0_copyThing, cX0_copyThing, 3, none, RX0, 0, 0)
def mX0_hasThing : Mt := (yX0_hasThing, cX0_hasThing, 2, (some .boolean), RX0, 0, 0)
def mX0_planAt : Mt := (yX0_planAt, cX0_planAt, 2, (some (.object "GateWatch$Plan")), RX0, 0, 0)
def mX0_sortAt : Mt := (yX0_sortAt, cX0_sortAt, 2, (some (.object "GateWatch$Sort")), RX0, 0, 0)
def mX0_looksOrAll : Mt := (yX0_looksOrAll, cX0_looksOrAll, 1, (some .int), RX0, 0, 0)
def mX0_addThing : Mt := (yX0_addThing, cX0_addThing, 4, (some .int), RX0, 0, 0)
def mX0_addPlan : Mt := (yX0_addPlan, cX0_addPlan, 3, (some .int), RX0, 0, 0)
def mX0_goOver : Mt := (yX0_goOver, cX0_goOver, 2, none, RX0, 0, 0)
def mX0_lookAndPay : Mt := (yX0_lookAndPay, cX0_lookAndPay, 6, (some .long), RX0, 0, 0)
def mX0_lookAt : Mt := (yX0_lookAt, cX0_lookAt, 3, (some .long), RX0, 0, 0)
def mX0_turnAll : Mt := (yX0_turnAll, cX0_turnAll, 5, none, RX0, 0, 0)
def mX0_wayOf : Mt := (yX0_wayOf, cX0_wayOf, 4, (some .int), RX0, 0, 0)
def mX1_init : Mt := (yX1_init, cX1_init, 3, none, RX1, 0, 0)
def mX1_beginning : Mt := (yX1_beginning, cX1_beginning, 3, (some .int), RX1, 0, 0)
def mX1_ends : Mt := (yX1_ends, cX1_ends, 3, (some .int), RX1, 0, 0)
def mX2_init : Mt := (yX2_init, cX2_init, 3, none, RX2, 0, 0)
def mX2_worthOf : Mt := (yX2_worthOf, cX2_worthOf, 4, (some .int), RX2, 0, 0)
def mX2_rows : Mt := (yX2_rows, cX2_rows, 3, (some .int), RX2, 0, 0)
def mX3_init : Mt := (yX3_init, cX3_init, 3, none, RX3, 0, 0)
def mX3_worthOf : Mt := (yX3_worthOf, cX3_worthOf, 4, (some .int), RX3, 0, 0)
def mX3_ends : Mt := (yX3_ends, cX3_ends, 3, (some .int), RX3, 0, 0)
def mX4_init : Mt := (yX4_init, cX4_init, 3, none, RX4, 0, 0)
def mX4_daysAhead : Mt := (yX4_daysAhead, cX4_daysAhead, 1, (some .int), RX4, 0, 0)
def mX4_worthOf : Mt := (yX4_worthOf, cX4_worthOf, 4, (some .int), RX4, 0, 0)
def mX4_means : Mt := (yX4_means, cX4_means, 3, (some .int), RX4, 0, 0)
def mX5_init : Mt := (yX5_init, cX5_init, 2, none, RX5, 38, 1129)
def mX5_layAll : Mt := (yX5_layAll, cX5_layAll, 3, none, RX5, 0, 0)
def mX5_lay : Mt := (yX5_lay, cX5_lay, 4, none, RX5, 0, 0)
def mX5_layPath : Mt := (yX5_layPath, cX5_layPath, 10, none, RX5, 0, 0)
def mX5_spotSeenIll : Mt := (yX5_spotSeenIll, cX5_spotSeenIll, 2, (some .int), RX5, 0, 0)
def mX5_weigh : Mt := (yX5_weigh, cX5_weigh, 23, none, RX5, 0, 0)
def mX5_sumAlone : Mt := (yX5_sumAlone, cX5_sumAlone, 6, (some .long), RX5, 0, 0)
def mX5_leastWage : Mt := (yX5_leastWage, cX5_leastWage, 6, (some .int), RX5, 0, 0)
def mX5_weighAll : Mt := (yX5_weighAll, cX5_weighAll, 3, none, RX5, 0, 0)
def mX5_worthOf : Mt := (yX5_worthOf, cX5_worthOf, 4, (some .int), RX5, 0, 0)
def mX5_worthiest : Mt := (yX5_worthiest, cX5_worthiest, 3, (some .int), RX5, 0, 0)
def mX5_worthiestWith : Mt := (yX5_worthiestWith, cX5_worthiestWith, 4, (some .int), RX5, 0, 0)
def mX5_worthiestSet : Mt := (yX5_worthiestSet, cX5_worthiestSet, 5, (some .int), RX5, 0, 0)
def mX6_init : Mt := (yX6_init, cX6_init, 3, none, RX6, 0, 0)
def mX6_daysAhead : Mt := (yX6_daysAhead, cX6_daysAhead, 1, (some .int), RX6, 0, 0)
def mX6_chosen : Mt := (yX6_chosen, cX6_chosen, 5, (some .int), RX6, 0, 0)
def mX6_worthOf : Mt := (yX6_worthOf, cX6_worthOf, 4, (some .int), RX6, 0, 0)
def mX6_began : Mt := (yX6_began, cX6_began, 2, none, RX6, 0, 0)
def mX6_means : Mt := (yX6_means, cX6_means, 3, (some .int), RX6, 0, 0)
def mX6_rows : Mt := (yX6_rows, cX6_rows, 3, (some .int), RX6, 0, 0)
def mX6_ends : Mt := (yX6_ends, cX6_ends, 3, (some .int), RX6, 0, 0)
def mX7_init : Mt := (yX7_init, cX7_init, 3, none, RX7, 7, 396)
def mX7_readText : Mt := (yX7_readText, cX7_readText, 2, (some .int), RX7, 0, 0)
def mX7_readClause : Mt := (yX7_readClause, cX7_readClause, 3, (some .boolean), RX7, 0, 0)
def mX7_addClause : Mt := (yX7_addClause, cX7_addClause, 3, (some .boolean), RX7, 0, 0)
def mX7_wordFor : Mt := (yX7_wordFor, cX7_wordFor, 1, (some (.object "java/lang/String")), RX7, 0, 0)
def mX7_readWord : Mt := (yX7_readWord, cX7_readWord, 5, (some .int), RX7, 0, 0)
def mX7_alikeWith : Mt := (yX7_alikeWith, cX7_alikeWith, 3, (some .int), RX7, 0, 0)
def mX7_take : Mt := (yX7_take, cX7_take, 2, (some .boolean), RX7, 0, 0)
def mX7_readNumber : Mt := (yX7_readNumber, cX7_readNumber, 3, (some .boolean), RX7, 0, 0)
def mX7_readEither : Mt := (yX7_readEither, cX7_readEither, 3, (some .boolean), RX7, 0, 0)
def mX7_readBoth : Mt := (yX7_readBoth, cX7_readBoth, 3, (some .boolean), RX7, 0, 0)
def mX7_readPart : Mt := (yX7_readPart, cX7_readPart, 2, (some .boolean), RX7, 0, 0)
def mX7_readTest : Mt := (yX7_readTest, cX7_readTest, 3, (some .boolean), RX7, 0, 0)
def mX7_put : Mt := (yX7_put, cX7_put, 2, (some .boolean), RX7, 0, 0)
def mX7_chance : Mt := (yX7_chance, cX7_chance, 7, (some .int), RX7, 0, 0)
def mX7_holds : Mt := (yX7_holds, cX7_holds, 13, (some .boolean), RX7, 0, 0)
def mX7_knownOver : Mt := (yX7_knownOver, cX7_knownOver, 6, (some .int), RX7, 0, 0)
def mX7_bringsBy : Mt := (yX7_bringsBy, cX7_bringsBy, 2, (some .int), RX7, 0, 0)
def mX7_lookCost : Mt := (yX7_lookCost, cX7_lookCost, 1, (some .long), RX7, 0, 0)
def mX7_mendCost : Mt := (yX7_mendCost, cX7_mendCost, 1, (some .long), RX7, 0, 0)
def mX7_mends : Mt := (yX7_mends, cX7_mends, 1, (some .boolean), RX7, 0, 0)
def mX8_init : Mt := (yX8_init, cX8_init, 3, none, RX8, 0, 0)
def mX8_chosen : Mt := (yX8_chosen, cX8_chosen, 8, (some .int), RX8, 0, 0)
def mX8_means : Mt := (yX8_means, cX8_means, 3, (some .int), RX8, 0, 0)
def mX9_init : Mt := (yX9_init, cX9_init, 2, none, RX9, 15, 161)
def mX9_begin : Mt := (yX9_begin, cX9_begin, 2, none, RX9, 0, 0)
def mX9_meanOf : Mt := (yX9_meanOf, cX9_meanOf, 3, (some .long), RX9, 0, 0)
def mX9_greatestMean : Mt := (yX9_greatestMean, cX9_greatestMean, 2, (some .long), RX9, 0, 0)
def mX9_gatherSets : Mt := (yX9_gatherSets, cX9_gatherSets, 3, none, RX9, 0, 0)
def mX9_greatestRound : Mt := (yX9_greatestRound, cX9_greatestRound, 8, (some .long), RX9, 0, 0)
def mX9_spellRow : Mt := (yX9_spellRow, cX9_spellRow, 4, none, RX9, 0, 0)
def mX9_fromDay : Mt := (yX9_fromDay, cX9_fromDay, 5, (some .long), RX9, 0, 0)
def mX9_behindBestLooks : Mt := (yX9_behindBestLooks, cX9_behindBestLooks, 7, (some .long), RX9, 0, 0)
def mX9_behindLooks : Mt := (yX9_behindLooks, cX9_behindLooks, 12, (some .long), RX9, 0, 0)
def mX9_behindDay : Mt := (yX9_behindDay, cX9_behindDay, 2, (some .long), RX9, 0, 0)
def mX9_goOver : Mt := (yX9_goOver, cX9_goOver, 3, none, RX9, 0, 0)
def mX9_firstOutdone : Mt := (yX9_firstOutdone, cX9_firstOutdone, 6, (some .int), RX9, 0, 0)
def mX9_showLikely : Mt := (yX9_showLikely, cX9_showLikely, 5, none, RX9, 0, 0)
def mX10_init : Mt := (yX10_init, cX10_init, 3, none, RX10, 0, 0)
def mX10_chosen : Mt := (yX10_chosen, cX10_chosen, 7, (some .int), RX10, 0, 0)
def mX10_beginning : Mt := (yX10_beginning, cX10_beginning, 3, (some .int), RX10, 0, 0)
def mX10_rows : Mt := (yX10_rows, cX10_rows, 3, (some .int), RX10, 0, 0)
def mX11_init : Mt := (yX11_init, cX11_init, 1, none, RX11, 107, 2051)
def mX11_feed : Mt := (yX11_feed, cX11_feed, 5, (some .int), RX11, 0, 0)
def mX11_sort : Mt := (yX11_sort, cX11_sort, 3, (some .int), RX11, 8, 406)
def mX11_told : Mt := (yX11_told, cX11_told, 6, (some .int), RX11, 0, 0)
def mX11_thing : Mt := (yX11_thing, cX11_thing, 3, (some .int), RX11, 0, 0)
def mX11_of : Mt := (yX11_of, cX11_of, 3, (some .int), RX11, 0, 0)
def mX11_days : Mt := (yX11_days, cX11_days, 3, (some .int), RX11, 0, 0)
def mX11_seen : Mt := (yX11_seen, cX11_seen, 4, (some .int), RX11, 0, 0)
def mX11_best : Mt := (yX11_best, cX11_best, 5, (some .long), RX11, 0, 0)
def mX11_number : Mt := (yX11_number, cX11_number, 4, (some .int), RX11, 0, 0)
def mX11_such : Mt := (yX11_such, cX11_such, 5, (some .int), RX11, 0, 0)
def mX11_looks : Mt := (yX11_looks, cX11_looks, 3, (some .int), RX11, 0, 0)
def mX11_plan : Mt := (yX11_plan, cX11_plan, 3, (some .int), RX11, 7, 14)
def mX11_row : Mt := (yX11_row, cX11_row, 5, (some .int), RX11, 0, 0)
def mX11_whom : Mt := (yX11_whom, cX11_whom, 3, (some .int), RX11, 0, 0)
def mX11_mean : Mt := (yX11_mean, cX11_mean, 4, (some .long), RX11, 0, 0)
def mX11_all : Mt := (yX11_all, cX11_all, 5, (some .long), RX11, 0, 0)
def mX11_loses : Mt := (yX11_loses, cX11_loses, 4, (some .long), RX11, 0, 0)
def mX11_bound : Mt := (yX11_bound, cX11_bound, 7, (some .long), RX11, 0, 0)
def mX11_judged : Mt := (yX11_judged, cX11_judged, 4, (some .int), RX11, 0, 0)
def mX11_run : Mt := (yX11_run, cX11_run, 8, (some .long), RX11, 0, 0)
def mX11_round : Mt := (yX11_round, cX11_round, 5, (some .long), RX11, 0, 0)
def mX11_tour : Mt := (yX11_tour, cX11_tour, 7, (some .int), RX11, 0, 0)
def mX11_edge : Mt := (yX11_edge, cX11_edge, 5, (some .int), RX11, 0, 0)
def mX11_act : Mt := (yX11_act, cX11_act, 5, (some .int), RX11, 0, 0)
def mX11_trace : Mt := (yX11_trace, cX11_trace, 2, (some .int), RX11, 0, 0)
def mX11_as : Mt := (yX11_as, cX11_as, 4, (some .int), RX11, 0, 0)
def mX11_image : Mt := (yX11_image, cX11_image, 1, (some .int), RX11, 0, 0)
def mX11_undo : Mt := (yX11_undo, cX11_undo, 1, (some .int), RX11, 0, 0)
def mX11_count : Mt := (yX11_count, cX11_count, 2, (some .int), RX11, 0, 0)
def mX11_within : Mt := (yX11_within, cX11_within, 3, (some .boolean), RX11, 0, 0)
def mX11_bothWays : Mt := (yX11_bothWays, cX11_bothWays, 5, (some .long), RX11, 0, 0)
def mX11_planOf : Mt := (yX11_planOf, cX11_planOf, 3, (some (.object "GateWatch$Plan")), RX11, 7, 14)
def mX11_isOfKind : Mt := (yX11_isOfKind, cX11_isOfKind, 2, (some .boolean), RX11, 0, 0)
def mX11_whomNow : Mt := (yX11_whomNow, cX11_whomNow, 2, (some .int), RX11, 0, 0)
def mX12_init : Mt := (yX12_init, cX12_init, 1, none, RX12, 16, 3869)
def mX12_in : Mt := (yX12_in, cX12_in, 3, (some .boolean), RX12, 0, 0)
def mX12_isSort : Mt := (yX12_isSort, cX12_isSort, 2, (some .boolean), RX12, 0, 0)
def mX12_isThing : Mt := (yX12_isThing, cX12_isThing, 2, (some .boolean), RX12, 0, 0)
def mX12_isPlan : Mt := (yX12_isPlan, cX12_isPlan, 2, (some .boolean), RX12, 0, 0)
def mX12_count1 : Mt := (yX12_count1, cX12_count1, 3, (some .int), RX12, 0, 0)
def mX12_feed : Mt := (yX12_feed, cX12_feed, 5, (some .int), RX12, 0, 0)
def mX12_here : Mt := (yX12_here, cX12_here, 1, (some .int), RX12, 0, 0)
def mX12_must : Mt := (yX12_must, cX12_must, 2, none, RX12, 0, 0)
def mX12_spells : Mt := (yX12_spells, cX12_spells, 3, none, RX12, 0, 0)
def mX12_figures : Mt := (yX12_figures, cX12_figures, 3, (some .int), RX12, 0, 0)
def mX12_emits : Mt := (yX12_emits, cX12_emits, 2, none, RX12, 0, 0)
def mX12_factor : Mt := (yX12_factor, cX12_factor, 4, none, RX12, 0, 0)
def mX12_every : Mt := (yX12_every, cX12_every, 1, none, RX12, 0, 0)
def mX12_some : Mt := (yX12_some, cX12_some, 1, none, RX12, 0, 0)
def mX12_changes : Mt := (yX12_changes, cX12_changes, 3, none, RX12, 0, 0)
def mX12_tells : Mt := (yX12_tells, cX12_tells, 4, none, RX12, 0, 0)
def mX12_clause : Mt := (yX12_clause, cX12_clause, 1, none, RX12, 0, 0)
def mX12_sort : Mt := (yX12_sort, cX12_sort, 2, (some .int), RX12, 0, 0)
def mX12_summed : Mt := (yX12_summed, cX12_summed, 12, (some .int), RX12, 0, 0)
def mX12_told : Mt := (yX12_told, cX12_told, 5, (some .int), RX12, 0, 0)
def mX12_thing : Mt := (yX12_thing, cX12_thing, 4, (some .int), RX12, 0, 0)
def mX12_of : Mt := (yX12_of, cX12_of, 3, (some .int), RX12, 0, 0)
def mX12_illOf : Mt := (yX12_illOf, cX12_illOf, 4, (some .int), RX12, 0, 0)
def mX12_healOf : Mt := (yX12_healOf, cX12_healOf, 3, (some .int), RX12, 0, 0)
def mX12_value : Mt := (yX12_value, cX12_value, 3, (some .int), RX12, 0, 0)
def mX12_overOf : Mt := (yX12_overOf, cX12_overOf, 8, (some .int), RX12, 0, 0)
def mX12_later : Mt := (yX12_later, cX12_later, 1, (some .int), RX12, 0, 0)
def mX12_over : Mt := (yX12_over, cX12_over, 2, none, RX12, 0, 0)
def mX12_days : Mt := (yX12_days, cX12_days, 3, (some .int), RX12, 0, 0)
def mX12_seen : Mt := (yX12_seen, cX12_seen, 4, (some .int), RX12, 0, 0)
def mX12_brings : Mt := (yX12_brings, cX12_brings, 3, (some .long), RX12, 0, 0)
def mX12_rowsOf : Mt := (yX12_rowsOf, cX12_rowsOf, 6, none, RX12, 0, 0)
def mX12_bestOf : Mt := (yX12_bestOf, cX12_bestOf, 15, (some .long), RX12, 0, 0)
def mX12_bestBy : Mt := (yX12_bestBy, cX12_bestBy, 3, (some .long), RX12, 0, 0)
def mX12_best : Mt := (yX12_best, cX12_best, 7, (some .long), RX12, 0, 0)
def mX12_isNoWorse : Mt := (yX12_isNoWorse, cX12_isNoWorse, 5, (some .boolean), RX12, 0, 0)
def mX12_numberOf : Mt := (yX12_numberOf, cX12_numberOf, 4, (some .int), RX12, 0, 0)
def mX12_number : Mt := (yX12_number, cX12_number, 3, (some .int), RX12, 0, 0)
def mX12_such : Mt := (yX12_such, cX12_such, 5, (some .int), RX12, 0, 0)
def mX12_looks : Mt := (yX12_looks, cX12_looks, 3, (some .int), RX12, 0, 0)
def mX12_looking : Mt := (yX12_looking, cX12_looking, 1, (some .int), RX12, 0, 0)
def mX12_plan : Mt := (yX12_plan, cX12_plan, 4, (some .int), RX12, 0, 0)
def mX12_row : Mt := (yX12_row, cX12_row, 3, (some .int), RX12, 0, 0)
def mX12_worth : Mt := (yX12_worth, cX12_worth, 4, (some .int), RX12, 0, 0)
def mX12_greatest : Mt := (yX12_greatest, cX12_greatest, 7, (some .int), RX12, 0, 0)
def mX12_turned : Mt := (yX12_turned, cX12_turned, 4, (some .int), RX12, 0, 0)
def mX12_toldOn : Mt := (yX12_toldOn, cX12_toldOn, 7, (some .int), RX12, 0, 0)
def mX12_whomOn : Mt := (yX12_whomOn, cX12_whomOn, 3, (some .int), RX12, 0, 0)
def mX12_whom : Mt := (yX12_whom, cX12_whom, 2, (some .int), RX12, 0, 0)
def mX12_lookedAt : Mt := (yX12_lookedAt, cX12_lookedAt, 3, (some .int), RX12, 0, 0)
def mX12_bringsAll : Mt := (yX12_bringsAll, cX12_bringsAll, 4, (some .long), RX12, 0, 0)
def mX12_meanFrom : Mt := (yX12_meanFrom, cX12_meanFrom, 11, (some .long), RX12, 0, 0)
def mX12_looksFrom : Mt := (yX12_looksFrom, cX12_looksFrom, 14, (some .long), RX12, 0, 0)
def mX12_mean : Mt := (yX12_mean, cX12_mean, 3, (some .long), RX12, 0, 0)
def mX12_allOf : Mt := (yX12_allOf, cX12_allOf, 2, (some .long), RX12, 0, 0)
def mX12_all : Mt := (yX12_all, cX12_all, 5, (some .long), RX12, 0, 0)
def mX12_loses : Mt := (yX12_loses, cX12_loses, 3, (some .long), RX12, 0, 0)
def mX12_bound : Mt := (yX12_bound, cX12_bound, 5, (some .long), RX12, 0, 0)
def mX12_shows : Mt := (yX12_shows, cX12_shows, 3, none, RX12, 0, 0)
def mX12_doubt : Mt := (yX12_doubt, cX12_doubt, 5, (some .long), RX12, 0, 0)
def mX12_judged : Mt := (yX12_judged, cX12_judged, 7, (some .int), RX12, 0, 0)
def mX12_lookNow : Mt := (yX12_lookNow, cX12_lookNow, 4, (some .long), RX12, 0, 0)
def mX12_turns : Mt := (yX12_turns, cX12_turns, 6, none, RX12, 0, 0)
def mX12_run : Mt := (yX12_run, cX12_run, 9, (some .long), RX12, 0, 0)
def mX12_round : Mt := (yX12_round, cX12_round, 11, (some .long), RX12, 0, 0)
def mX12_weight : Mt := (yX12_weight, cX12_weight, 4, (some .int), RX12, 0, 0)
def mX12_tour : Mt := (yX12_tour, cX12_tour, 10, (some .int), RX12, 0, 0)
def mX12_firstOf : Mt := (yX12_firstOf, cX12_firstOf, 7, (some .int), RX12, 0, 0)
def mX12_edge : Mt := (yX12_edge, cX12_edge, 7, (some .int), RX12, 0, 0)
def mX12_runs : Mt := (yX12_runs, cX12_runs, 2, none, RX12, 0, 0)
def mX12_isUnder : Mt := (yX12_isUnder, cX12_isUnder, 2, (some .boolean), RX12, 0, 0)
def mX12_plainMeans : Mt := (yX12_plainMeans, cX12_plainMeans, 2, (some .int), RX12, 0, 0)
def mX12_meansActs : Mt := (yX12_meansActs, cX12_meansActs, 2, (some .int), RX12, 0, 0)
def mX12_plainRows : Mt := (yX12_plainRows, cX12_plainRows, 2, (some .int), RX12, 0, 0)
def mX12_rowsActs : Mt := (yX12_rowsActs, cX12_rowsActs, 2, (some .int), RX12, 0, 0)
def mX12_plainEnds : Mt := (yX12_plainEnds, cX12_plainEnds, 2, (some .int), RX12, 0, 0)
def mX12_endsActs : Mt := (yX12_endsActs, cX12_endsActs, 3, (some .int), RX12, 0, 0)
def mX12_act : Mt := (yX12_act, cX12_act, 4, (some .int), RX12, 0, 0)
def mX12_trace : Mt := (yX12_trace, cX12_trace, 2, (some .int), RX12, 0, 0)
def mX12_as : Mt := (yX12_as, cX12_as, 3, (some .int), RX12, 0, 0)
def mX12_image : Mt := (yX12_image, cX12_image, 2, (some .int), RX12, 0, 0)
def mX12_undo : Mt := (yX12_undo, cX12_undo, 2, (some .int), RX12, 0, 0)
def mX12_count : Mt := (yX12_count, cX12_count, 2, (some .int), RX12, 0, 0)
def mJ6_highestOneBit_0f7a4 : Mt := (yJ6_highestOneBit_0f7a4, cJ6_highestOneBit_0f7a4, 1, (some .int), RJ6, 0, 0)
def mJ6_numberOfLeadingZeros_0f7a4 : Mt := (yJ6_numberOfLeadingZeros_0f7a4, cJ6_numberOfLeadingZeros_0f7a4, 2, (some .int), RJ6, 0, 0)
def mJ6_numberOfTrailingZeros_0f7a4 : Mt := (yJ6_numberOfTrailingZeros_0f7a4, cJ6_numberOfTrailingZeros_0f7a4, 2, (some .int), RJ6, 0, 0)
def mJ6_bitCount_0f7a4 : Mt := (yJ6_bitCount_0f7a4, cJ6_bitCount_0f7a4, 1, (some .int), RJ6, 0, 0)
def mJ7_fill_d0a16 : Mt := (yJ7_fill_d0a16, cJ7_fill_d0a16, 5, none, RJ7, 0, 0)
def mJ7_fill_53178 : Mt := (yJ7_fill_53178, cJ7_fill_53178, 4, none, RJ7, 0, 0)
def mJ7_copyOf_9075b : Mt := (yJ7_copyOf_9075b, cJ7_copyOf_9075b, 3, (some (.array .byte)), RJ7, 2, 240)
def mL_law : Mt := (yL_law, cL_law, 4, (some .boolean), RL, 600000, 7302250)
def mJ0_checkIndex_df160 : Mt := (yJ0_checkIndex_df160, cJ0_checkIndex_df160, 2, none, RJ0, 0, 0)
def mJ9_min_7cf53 : Mt := (yJ9_min_7cf53, cJ9_min_7cf53, 2, (some .int), RJ9, 0, 0)
def mJ9_max_7cf53 : Mt := (yJ9_max_7cf53, cJ9_max_7cf53, 2, (some .int), RJ9, 0, 0)
def mJ2_checkIndex_2214a : Mt := (yJ2_checkIndex_2214a, cJ2_checkIndex_2214a, 2, none, RJ2, 0, 0)
def mJ3_checkIndex_8e157 : Mt := (yJ3_checkIndex_8e157, cJ3_checkIndex_8e157, 3, (some .int), RJ3, 0, 0)
def mJ0_charAt_5068e : Mt := (yJ0_charAt_5068e, cJ0_charAt_5068e, 2, (some .char), RJ0, 0, 0)
def mJ2_charAt_3b067 : Mt := (yJ2_charAt_3b067, cJ2_charAt_3b067, 2, (some .char), RJ2, 0, 0)
def mJ2_length_9d52b : Mt := (yJ2_length_9d52b, cJ2_length_9d52b, 1, (some .int), RJ2, 0, 0)
def mJ1_charAt_3b067 : Mt := (yJ1_charAt_3b067, cJ1_charAt_3b067, 2, (some .char), RJ1, 0, 0)
def mJ0_coder_7d493 : Mt := (yJ0_coder_7d493, cJ0_coder_7d493, 1, (some .byte), RJ0, 0, 0)
def mJ0_isLatin1_aae02 : Mt := (yJ0_isLatin1_aae02, cJ0_isLatin1_aae02, 1, (some .boolean), RJ0, 0, 0)
def mJ0_length_8abf5 : Mt := (yJ0_length_8abf5, cJ0_length_8abf5, 1, (some .int), RJ0, 0, 0)
def mJ9_max_f86c9 : Mt := (yJ9_max_f86c9, cJ9_max_f86c9, 4, (some .long), RJ9, 0, 0)
def mJ9_min_f86c9 : Mt := (yJ9_min_f86c9, cJ9_min_f86c9, 4, (some .long), RJ9, 0, 0)
def mJ2_getChar_3b067 : Mt := (yJ2_getChar_3b067, cJ2_getChar_3b067, 2, (some .char), RJ2, 0, 0)
theorem wa_st : Cond.static arraycopyName ∈ tbG := tbG_of _ 346 (by decide +kernel) (by decide +kernel)
theorem wa_na : Cond.native arraycopyName ∈ tbG := tbG_of _ 347 (by decide +kernel) (by decide +kernel)
theorem wc_1 : Cond.methodLink RJ7 310 ⟨"[B", "clone", "()Ljava/lang/Object;"⟩ ∈ tbG := tbG_of _ 335 (by decide +kernel) (by decide +kernel)
theorem wc_2 : Cond.sameMethod "[B" "java/lang/Object" "clone" "()Ljava/lang/Object;" ∈ tbG := tbG_of _ 336 (by decide +kernel) (by decide +kernel)
theorem wc_3 : Cond.native ⟨"java/lang/Object", "clone", "()Ljava/lang/Object;"⟩ ∈ tbG := tbG_of _ 337 (by decide +kernel) (by decide +kernel)
theorem wc_4 : Cond.instanceMethod ⟨"java/lang/Object", "clone", "()Ljava/lang/Object;"⟩ ∈ tbG := tbG_of _ 338 (by decide +kernel) (by decide +kernel)
theorem wc_5 : Cond.selects "[B" ⟨"[B", "clone", "()Ljava/lang/Object;"⟩ ⟨"java/lang/Object", "clone", "()Ljava/lang/Object;"⟩ ∈ tbG := tbG_of _ 339 (by decide +kernel) (by decide +kernel)
theorem wo_1 : Cond.instanceMethod Lib.objectInit ∈ tbG := tbG_of _ 104 (by decide +kernel) (by decide +kernel)
theorem wo_2 : Cond.code Lib.objectInit ⟨#[0xb1]⟩ 1 none ∈ tbG := tbG_of _ 105 (by decide +kernel) (by decide +kernel)
theorem fp_RX0_9 : FP RX0 9 [0] 0 (.array .byte) true := by
  intro c hc
  simp only [List.mem_cons, List.not_mem_nil, or_false] at hc
  rcases hc with rfl
  · exact ⟨RX0, TX0, 18, RX0, tyX0, rfl, inX0, tyX0_ok, nmX0, by decide, wd118, Or.inl rfl, rfl, by decide +kernel, fun _ => rfl⟩
theorem fp_RX0_15 : FP RX0 15 [0] 1 .int false := by
  intro c hc
  simp only [List.mem_cons, List.not_mem_nil, or_false] at hc
  rcases hc with rfl
  · exact ⟨RX0, TX0, 18, RX0, tyX0, rfl, inX0, tyX0_ok, nmX0, by decide, wd120, Or.inl rfl, rfl, by decide +kernel, fun q => by cases q⟩
theorem fp_RX0_21 : FP RX0 21 [0] 2 (.array (.object "GateWatch$Sort")) true := by
  intro c hc
  simp only [List.mem_cons, List.not_mem_nil, or_false] at hc
  rcases hc with rfl
  · exact ⟨RX0, TX0, 18, RX0, tyX0, rfl, inX0, tyX0_ok, nmX0, by decide, wd122, Or.inl rfl, rfl, by decide +kernel, fun _ => rfl⟩
theorem fp_RX0_25 : FP RX0 25 [0] 3 .int false := by
  intro c hc
  simp only [List.mem_cons, List.not_mem_nil, or_false] at hc
  rcases hc with rfl
  · exact ⟨RX0, TX0, 18, RX0, tyX0, rfl, inX0, tyX0_ok, nmX0, by decide, wd124, Or.inl rfl, rfl, by decide +kernel, fun q => by cases q⟩
theorem fp_RX0_28 : FP RX0 28 [0] 4 (.array .int) true := by
  intro c hc
  simp only [List.mem_cons, List.not_mem_nil, or_false] at hc
  rcases hc with rfl
  · exact ⟨RX0, TX0, 18, RX0, tyX0, rfl, inX0, tyX0_ok, nmX0, by decide, wd126, Or.inl rfl, rfl, by decide +kernel, fun _ => rfl⟩
theorem fp_RX0_32 : FP RX0 32 [0] 5 (.array .int) true := by
  intro c hc
  simp only [List.mem_cons, List.not_mem_nil, or_false] at hc
  rcases hc with rfl
  · exact ⟨RX0, TX0, 18, RX0, tyX0, rfl, inX0, tyX0_ok, nmX0, by decide, wd128, Or.inl rfl, rfl, by decide +kernel, fun _ => rfl⟩
theorem fp_RX0_35 : FP RX0 35 [0] 6 (.array .int) true := by
  intro c hc
  simp only [List.mem_cons, List.not_mem_nil, or_false] at hc
  rcases hc with rfl
  · exact ⟨RX0, TX0, 18, RX0, tyX0, rfl, inX0, tyX0_ok, nmX0, by decide, wd131, Or.inl rfl, rfl, by decide +kernel, fun _ => rfl⟩
theorem fp_RX0_38 : FP RX0 38 [0] 7 (.array .int) true := by
  intro c hc
  simp only [List.mem_cons, List.not_mem_nil, or_false] at hc
  rcases hc with rfl
  · exact ⟨RX0, TX0, 18, RX0, tyX0, rfl, inX0, tyX0_ok, nmX0, by decide, wd134, Or.inl rfl, rfl, by decide +kernel, fun _ => rfl⟩
theorem fp_RX0_41 : FP RX0 41 [0] 8 (.array .int) true := by
  intro c hc
  simp only [List.mem_cons, List.not_mem_nil, or_false] at hc
  rcases hc with rfl
  · exact ⟨RX0, TX0, 18, RX0, tyX0, rfl, inX0, tyX0_ok, nmX0, by decide, wd137, Or.inl rfl, rfl, by decide +kernel, fun _ => rfl⟩
theorem fp_RX0_44 : FP RX0 44 [0] 9 (.array .int) true := by
  intro c hc
  simp only [List.mem_cons, List.not_mem_nil, or_false] at hc
  rcases hc with rfl
  · exact ⟨RX0, TX0, 18, RX0, tyX0, rfl, inX0, tyX0_ok, nmX0, by decide, wd139, Or.inl rfl, rfl, by decide +kernel, fun _ => rfl⟩
theorem fp_RX0_47 : FP RX0 47 [0] 10 (.array .boolean) true := by
  intro c hc
  simp only [List.mem_cons, List.not_mem_nil, or_false] at hc
  rcases hc with rfl
  · exact ⟨RX0, TX0, 18, RX0, tyX0, rfl, inX0, tyX0_ok, nmX0, by decide, wd141, Or.inl rfl, rfl, by decide +kernel, fun _ => rfl⟩
theorem fp_RX0_51 : FP RX0 51 [0] 11 .int false := by
  intro c hc
  simp only [List.mem_cons, List.not_mem_nil, or_false] at hc
  rcases hc with rfl
  · exact ⟨RX0, TX0, 18, RX0, tyX0, rfl, inX0, tyX0_ok, nmX0, by decide, wd143, Or.inl rfl, rfl, by decide +kernel, fun q => by cases q⟩
theorem fp_RX0_56 : FP RX0 56 [0] 12 (.array (.object "GateWatch$Plan")) true := by
  intro c hc
  simp only [List.mem_cons, List.not_mem_nil, or_false] at hc
  rcases hc with rfl
  · exact ⟨RX0, TX0, 18, RX0, tyX0, rfl, inX0, tyX0_ok, nmX0, by decide, wd149, Or.inl rfl, rfl, by decide +kernel, fun _ => rfl⟩
theorem fp_RX0_60 : FP RX0 60 [0] 13 (.array .int) true := by
  intro c hc
  simp only [List.mem_cons, List.not_mem_nil, or_false] at hc
  rcases hc with rfl
  · exact ⟨RX0, TX0, 18, RX0, tyX0, rfl, inX0, tyX0_ok, nmX0, by decide, wd150, Or.inl rfl, rfl, by decide +kernel, fun _ => rfl⟩
theorem fp_RX0_65 : FP RX0 65 [0] 14 (.array (.array .int)) true := by
  intro c hc
  simp only [List.mem_cons, List.not_mem_nil, or_false] at hc
  rcases hc with rfl
  · exact ⟨RX0, TX0, 18, RX0, tyX0, rfl, inX0, tyX0_ok, nmX0, by decide, wd153, Or.inl rfl, rfl, by decide +kernel, fun _ => rfl⟩
theorem fp_RX0_68 : FP RX0 68 [0] 15 .int false := by
  intro c hc
  simp only [List.mem_cons, List.not_mem_nil, or_false] at hc
  rcases hc with rfl
  · exact ⟨RX0, TX0, 18, RX0, tyX0, rfl, inX0, tyX0_ok, nmX0, by decide, wd156, Or.inl rfl, rfl, by decide +kernel, fun q => by cases q⟩
theorem fp_RX0_71 : FP RX0 71 [0] 16 .int false := by
  intro c hc
  simp only [List.mem_cons, List.not_mem_nil, or_false] at hc
  rcases hc with rfl
  · exact ⟨RX0, TX0, 18, RX0, tyX0, rfl, inX0, tyX0_ok, nmX0, by decide, wd158, Or.inl rfl, rfl, by decide +kernel, fun q => by cases q⟩
theorem fp_RX0_74 : FP RX0 74 [0] 17 .int false := by
  intro c hc
  simp only [List.mem_cons, List.not_mem_nil, or_false] at hc
  rcases hc with rfl
  · exact ⟨RX0, TX0, 18, RX0, tyX0, rfl, inX0, tyX0_ok, nmX0, by decide, wd161, Or.inl rfl, rfl, by decide +kernel, fun q => by cases q⟩
theorem fl_RX0_28 : FL RX0 28 [0] 4 := by
  intro c hc
  simp only [List.mem_cons, List.not_mem_nil, or_false] at hc
  rcases hc with rfl
  · exact ⟨RX0, TX0, 18, RX0, rfl, inX0, by decide, wd126, Or.inl rfl⟩
theorem fl_RX0_32 : FL RX0 32 [0] 5 := by
  intro c hc
  simp only [List.mem_cons, List.not_mem_nil, or_false] at hc
  rcases hc with rfl
  · exact ⟨RX0, TX0, 18, RX0, rfl, inX0, by decide, wd128, Or.inl rfl⟩
theorem fl_RX0_35 : FL RX0 35 [0] 6 := by
  intro c hc
  simp only [List.mem_cons, List.not_mem_nil, or_false] at hc
  rcases hc with rfl
  · exact ⟨RX0, TX0, 18, RX0, rfl, inX0, by decide, wd131, Or.inl rfl⟩
theorem fl_RX0_38 : FL RX0 38 [0] 7 := by
  intro c hc
  simp only [List.mem_cons, List.not_mem_nil, or_false] at hc
  rcases hc with rfl
  · exact ⟨RX0, TX0, 18, RX0, rfl, inX0, by decide, wd134, Or.inl rfl⟩
theorem fl_RX0_41 : FL RX0 41 [0] 8 := by
  intro c hc
  simp only [List.mem_cons, List.not_mem_nil, or_false] at hc
  rcases hc with rfl
  · exact ⟨RX0, TX0, 18, RX0, rfl, inX0, by decide, wd137, Or.inl rfl⟩
theorem fl_RX0_44 : FL RX0 44 [0] 9 := by
  intro c hc
  simp only [List.mem_cons, List.not_mem_nil, or_false] at hc
  rcases hc with rfl
  · exact ⟨RX0, TX0, 18, RX0, rfl, inX0, by decide, wd139, Or.inl rfl⟩
theorem fl_RX0_47 : FL RX0 47 [0] 10 := by
  intro c hc
  simp only [List.mem_cons, List.not_mem_nil, or_false] at hc
  rcases hc with rfl
  · exact ⟨RX0, TX0, 18, RX0, rfl, inX0, by decide, wd141, Or.inl rfl⟩
theorem fl_RX0_68 : FL RX0 68 [0] 15 := by
  intro c hc
  simp only [List.mem_cons, List.not_mem_nil, or_false] at hc
  rcases hc with rfl
  · exact ⟨RX0, TX0, 18, RX0, rfl, inX0, by decide, wd156, Or.inl rfl⟩
theorem fl_RX0_71 : FL RX0 71 [0] 16 := by
  intro c hc
  simp only [List.mem_cons, List.not_mem_nil, or_false] at hc
  rcases hc with rfl
  · exact ⟨RX0, TX0, 18, RX0, rfl, inX0, by decide, wd158, Or.inl rfl⟩
theorem fl_RX0_74 : FL RX0 74 [0] 17 := by
  intro c hc
  simp only [List.mem_cons, List.not_mem_nil, or_false] at hc
  rcases hc with rfl
  · exact ⟨RX0, TX0, 18, RX0, rfl, inX0, by decide, wd161, Or.inl rfl⟩
theorem fl_RX0_56 : FL RX0 56 [0] 12 := by
  intro c hc
  simp only [List.mem_cons, List.not_mem_nil, or_false] at hc
  rcases hc with rfl
  · exact ⟨RX0, TX0, 18, RX0, rfl, inX0, by decide, wd149, Or.inl rfl⟩
theorem fl_RX0_60 : FL RX0 60 [0] 13 := by
  intro c hc
  simp only [List.mem_cons, List.not_mem_nil, or_false] at hc
  rcases hc with rfl
  · exact ⟨RX0, TX0, 18, RX0, rfl, inX0, by decide, wd150, Or.inl rfl⟩
theorem fl_RX0_65 : FL RX0 65 [0] 14 := by
  intro c hc
  simp only [List.mem_cons, List.not_mem_nil, or_false] at hc
  rcases hc with rfl
  · exact ⟨RX0, TX0, 18, RX0, rfl, inX0, by decide, wd153, Or.inl rfl⟩
theorem fl_RX0_51 : FL RX0 51 [0] 11 := by
  intro c hc
  simp only [List.mem_cons, List.not_mem_nil, or_false] at hc
  rcases hc with rfl
  · exact ⟨RX0, TX0, 18, RX0, rfl, inX0, by decide, wd143, Or.inl rfl⟩
theorem fl_RX0_25 : FL RX0 25 [0] 3 := by
  intro c hc
  simp only [List.mem_cons, List.not_mem_nil, or_false] at hc
  rcases hc with rfl
  · exact ⟨RX0, TX0, 18, RX0, rfl, inX0, by decide, wd124, Or.inl rfl⟩
theorem fl_RX0_21 : FL RX0 21 [0] 2 := by
  intro c hc
  simp only [List.mem_cons, List.not_mem_nil, or_false] at hc
  rcases hc with rfl
  · exact ⟨RX0, TX0, 18, RX0, rfl, inX0, by decide, wd122, Or.inl rfl⟩
theorem fl_RX0_9 : FL RX0 9 [0] 0 := by
  intro c hc
  simp only [List.mem_cons, List.not_mem_nil, or_false] at hc
  rcases hc with rfl
  · exact ⟨RX0, TX0, 18, RX0, rfl, inX0, by decide, wd118, Or.inl rfl⟩
theorem fl_RX0_15 : FL RX0 15 [0] 1 := by
  intro c hc
  simp only [List.mem_cons, List.not_mem_nil, or_false] at hc
  rcases hc with rfl
  · exact ⟨RX0, TX0, 18, RX0, rfl, inX0, by decide, wd120, Or.inl rfl⟩
theorem fl_RX7_22 : FL RX7 22 [7] 4 := by
  intro c hc
  simp only [List.mem_cons, List.not_mem_nil, or_false] at hc
  rcases hc with rfl
  · exact ⟨RX7, TX7, 10, RX7, rfl, inX7, by decide, wd354, Or.inl rfl⟩
theorem fl_RX7_34 : FL RX7 34 [7] 8 := by
  intro c hc
  simp only [List.mem_cons, List.not_mem_nil, or_false] at hc
  rcases hc with rfl
  · exact ⟨RX7, TX7, 10, RX7, rfl, inX7, by decide, wd358, Or.inl rfl⟩
theorem fl_RX7_37 : FL RX7 37 [7] 9 := by
  intro c hc
  simp only [List.mem_cons, List.not_mem_nil, or_false] at hc
  rcases hc with rfl
  · exact ⟨RX7, TX7, 10, RX7, rfl, inX7, by decide, wd359, Or.inl rfl⟩
theorem fl_RX7_28 : FL RX7 28 [7] 6 := by
  intro c hc
  simp only [List.mem_cons, List.not_mem_nil, or_false] at hc
  rcases hc with rfl
  · exact ⟨RX7, TX7, 10, RX7, rfl, inX7, by decide, wd356, Or.inl rfl⟩
theorem fl_RX7_31 : FL RX7 31 [7] 7 := by
  intro c hc
  simp only [List.mem_cons, List.not_mem_nil, or_false] at hc
  rcases hc with rfl
  · exact ⟨RX7, TX7, 10, RX7, rfl, inX7, by decide, wd357, Or.inl rfl⟩
theorem fl_RX7_9 : FL RX7 9 [7] 0 := by
  intro c hc
  simp only [List.mem_cons, List.not_mem_nil, or_false] at hc
  rcases hc with rfl
  · exact ⟨RX7, TX7, 10, RX7, rfl, inX7, by decide, wd348, Or.inl rfl⟩
theorem fl_RX0_104 : FL RX0 104 [7] 0 := by
  intro c hc
  simp only [List.mem_cons, List.not_mem_nil, or_false] at hc
  rcases hc with rfl
  · exact ⟨RX7, TX7, 10, RX7, rfl, inX7, by decide, wd350, Or.inl rfl⟩
theorem fp_RX6_9 : FP RX6 9 [1, 2, 3, 4, 6, 8, 10] 0 .int true := by
  intro c hc
  simp only [List.mem_cons, List.not_mem_nil, or_false] at hc
  rcases hc with rfl | rfl | rfl | rfl | rfl | rfl | rfl
  · exact ⟨RX1, TX1, 2, RX6, tyX1, rfl, inX1, tyX1_ok, nmX1, by decide, wd633, Or.inl rfl, rfl, by decide +kernel, fun _ => rfl⟩
  · exact ⟨RX2, TX2, 2, RX6, tyX2, rfl, inX2, tyX2_ok, nmX2, by decide, wd633, Or.inl rfl, rfl, by decide +kernel, fun _ => rfl⟩
  · exact ⟨RX3, TX3, 2, RX6, tyX3, rfl, inX3, tyX3_ok, nmX3, by decide, wd633, Or.inl rfl, rfl, by decide +kernel, fun _ => rfl⟩
  · exact ⟨RX4, TX4, 2, RX6, tyX4, rfl, inX4, tyX4_ok, nmX4, by decide, wd633, Or.inl rfl, rfl, by decide +kernel, fun _ => rfl⟩
  · exact ⟨RX6, TX6, 2, RX6, tyX6, rfl, inX6, tyX6_ok, nmX6, by decide, wd633, Or.inl rfl, rfl, by decide +kernel, fun _ => rfl⟩
  · exact ⟨RX8, TX8, 2, RX6, tyX8, rfl, inX8, tyX8_ok, nmX8, by decide, wd633, Or.inl rfl, rfl, by decide +kernel, fun _ => rfl⟩
  · exact ⟨RX10, TX10, 2, RX6, tyX10, rfl, inX10, tyX10_ok, nmX10, by decide, wd633, Or.inl rfl, rfl, by decide +kernel, fun _ => rfl⟩
theorem fp_RX6_15 : FP RX6 15 [1, 2, 3, 4, 6, 8, 10] 1 .int true := by
  intro c hc
  simp only [List.mem_cons, List.not_mem_nil, or_false] at hc
  rcases hc with rfl | rfl | rfl | rfl | rfl | rfl | rfl
  · exact ⟨RX1, TX1, 2, RX6, tyX1, rfl, inX1, tyX1_ok, nmX1, by decide, wd638, Or.inl rfl, rfl, by decide +kernel, fun _ => rfl⟩
  · exact ⟨RX2, TX2, 2, RX6, tyX2, rfl, inX2, tyX2_ok, nmX2, by decide, wd638, Or.inl rfl, rfl, by decide +kernel, fun _ => rfl⟩
  · exact ⟨RX3, TX3, 2, RX6, tyX3, rfl, inX3, tyX3_ok, nmX3, by decide, wd638, Or.inl rfl, rfl, by decide +kernel, fun _ => rfl⟩
  · exact ⟨RX4, TX4, 2, RX6, tyX4, rfl, inX4, tyX4_ok, nmX4, by decide, wd638, Or.inl rfl, rfl, by decide +kernel, fun _ => rfl⟩
  · exact ⟨RX6, TX6, 2, RX6, tyX6, rfl, inX6, tyX6_ok, nmX6, by decide, wd638, Or.inl rfl, rfl, by decide +kernel, fun _ => rfl⟩
  · exact ⟨RX8, TX8, 2, RX6, tyX8, rfl, inX8, tyX8_ok, nmX8, by decide, wd638, Or.inl rfl, rfl, by decide +kernel, fun _ => rfl⟩
  · exact ⟨RX10, TX10, 2, RX6, tyX10, rfl, inX10, tyX10_ok, nmX10, by decide, wd638, Or.inl rfl, rfl, by decide +kernel, fun _ => rfl⟩
theorem fl_RX1_7 : FL RX1 7 [1] 1 := by
  intro c hc
  simp only [List.mem_cons, List.not_mem_nil, or_false] at hc
  rcases hc with rfl
  · exact ⟨RX1, TX1, 2, RX1, rfl, inX1, by decide, wd641, Or.inr wd642⟩
theorem fl_RX6_9 : FL RX6 9 [1, 2, 3, 4, 6, 8, 10] 0 := by
  intro c hc
  simp only [List.mem_cons, List.not_mem_nil, or_false] at hc
  rcases hc with rfl | rfl | rfl | rfl | rfl | rfl | rfl
  · exact ⟨RX1, TX1, 2, RX6, rfl, inX1, by decide, wd633, Or.inl rfl⟩
  · exact ⟨RX2, TX2, 2, RX6, rfl, inX2, by decide, wd633, Or.inl rfl⟩
  · exact ⟨RX3, TX3, 2, RX6, rfl, inX3, by decide, wd633, Or.inl rfl⟩
  · exact ⟨RX4, TX4, 2, RX6, rfl, inX4, by decide, wd633, Or.inl rfl⟩
  · exact ⟨RX6, TX6, 2, RX6, rfl, inX6, by decide, wd633, Or.inl rfl⟩
  · exact ⟨RX8, TX8, 2, RX6, rfl, inX8, by decide, wd633, Or.inl rfl⟩
  · exact ⟨RX10, TX10, 2, RX6, rfl, inX10, by decide, wd633, Or.inl rfl⟩
theorem fl_RX8_49 : FL RX8 49 [8] 1 := by
  intro c hc
  simp only [List.mem_cons, List.not_mem_nil, or_false] at hc
  rcases hc with rfl
  · exact ⟨RX8, TX8, 2, RX8, rfl, inX8, by decide, wd645, Or.inr wd646⟩
theorem vu_RX6_45_1 : VU RX6 45 2 1 mX6_means := ⟨_, rfl, yX6_means, RX6, ⟨_, _, _, wd995⟩, wd995, wd89, wd974, wd977, wd1020, ⟨wd976, wd974⟩, by decide +kernel, rfl, by decide, rfl, rfl⟩
theorem vu_RX6_45_2 : VU RX6 45 2 2 mX6_means := ⟨_, rfl, yX6_means, RX6, ⟨_, _, _, wd995⟩, wd995, wd89, wd974, wd978, wd1020, ⟨wd976, wd974⟩, by decide +kernel, rfl, by decide, rfl, rfl⟩
theorem vu_RX6_45_3 : VU RX6 45 2 3 mX6_means := ⟨_, rfl, yX6_means, RX6, ⟨_, _, _, wd995⟩, wd995, wd89, wd974, wd979, wd1020, ⟨wd976, wd974⟩, by decide +kernel, rfl, by decide, rfl, rfl⟩
theorem vu_RX6_45_4 : VU RX6 45 2 4 mX4_means := ⟨_, rfl, yX6_means, RX6, ⟨_, _, _, wd995⟩, wd982, wd90, wd981, wd980, wd1020, ⟨wd976, wd974⟩, by decide +kernel, rfl, by decide, rfl, rfl⟩
theorem vu_RX6_45_6 : VU RX6 45 2 6 mX6_means := ⟨_, rfl, yX6_means, RX6, ⟨_, _, _, wd995⟩, wd995, wd89, wd974, wd975, wd1020, ⟨wd976, wd974⟩, by decide +kernel, rfl, by decide, rfl, rfl⟩
theorem vu_RX6_45_8 : VU RX6 45 2 8 mX8_means := ⟨_, rfl, yX6_means, RX6, ⟨_, _, _, wd995⟩, wd990, wd95, wd989, wd988, wd1020, ⟨wd976, wd974⟩, by decide +kernel, rfl, by decide, rfl, rfl⟩
theorem vu_RX6_45_10 : VU RX6 45 2 10 mX6_means := ⟨_, rfl, yX6_means, RX6, ⟨_, _, _, wd995⟩, wd995, wd89, wd974, wd994, wd1020, ⟨wd976, wd974⟩, by decide +kernel, rfl, by decide, rfl, rfl⟩
theorem fl_RX6_15 : FL RX6 15 [1, 2, 3, 4, 6, 8, 10] 1 := by
  intro c hc
  simp only [List.mem_cons, List.not_mem_nil, or_false] at hc
  rcases hc with rfl | rfl | rfl | rfl | rfl | rfl | rfl
  · exact ⟨RX1, TX1, 2, RX6, rfl, inX1, by decide, wd638, Or.inl rfl⟩
  · exact ⟨RX2, TX2, 2, RX6, rfl, inX2, by decide, wd638, Or.inl rfl⟩
  · exact ⟨RX3, TX3, 2, RX6, rfl, inX3, by decide, wd638, Or.inl rfl⟩
  · exact ⟨RX4, TX4, 2, RX6, rfl, inX4, by decide, wd638, Or.inl rfl⟩
  · exact ⟨RX6, TX6, 2, RX6, rfl, inX6, by decide, wd638, Or.inl rfl⟩
  · exact ⟨RX8, TX8, 2, RX6, rfl, inX8, by decide, wd638, Or.inl rfl⟩
  · exact ⟨RX10, TX10, 2, RX6, rfl, inX10, by decide, wd638, Or.inl rfl⟩
theorem fl_RX2_23 : FL RX2 23 [2] 0 := by
  intro c hc
  simp only [List.mem_cons, List.not_mem_nil, or_false] at hc
  rcases hc with rfl
  · exact ⟨RX2, TX2, 2, RX2, rfl, inX2, by decide, wd636, Or.inr wd637⟩
theorem vu_RX6_49_1 : VU RX6 49 2 1 mX10_rows := ⟨_, rfl, yX6_rows, RX6, ⟨_, _, _, wd1019⟩, wd1003, wd91, wd1002, wd1001, wd1048, ⟨wd1000, wd998⟩, by decide +kernel, rfl, by decide, rfl, rfl⟩
theorem vu_RX6_49_2 : VU RX6 49 2 2 mX2_rows := ⟨_, rfl, yX6_rows, RX6, ⟨_, _, _, wd1019⟩, wd1009, wd94, wd1008, wd1007, wd1048, ⟨wd1000, wd998⟩, by decide +kernel, rfl, by decide, rfl, rfl⟩
theorem vu_RX6_49_3 : VU RX6 49 2 3 mX6_rows := ⟨_, rfl, yX6_rows, RX6, ⟨_, _, _, wd1019⟩, wd1019, wd89, wd998, wd1015, wd1048, ⟨wd1000, wd998⟩, by decide +kernel, rfl, by decide, rfl, rfl⟩
theorem vu_RX6_49_4 : VU RX6 49 2 4 mX6_rows := ⟨_, rfl, yX6_rows, RX6, ⟨_, _, _, wd1019⟩, wd1019, wd89, wd998, wd1016, wd1048, ⟨wd1000, wd998⟩, by decide +kernel, rfl, by decide, rfl, rfl⟩
theorem vu_RX6_49_6 : VU RX6 49 2 6 mX6_rows := ⟨_, rfl, yX6_rows, RX6, ⟨_, _, _, wd1019⟩, wd1019, wd89, wd998, wd999, wd1048, ⟨wd1000, wd998⟩, by decide +kernel, rfl, by decide, rfl, rfl⟩
theorem vu_RX6_49_8 : VU RX6 49 2 8 mX6_rows := ⟨_, rfl, yX6_rows, RX6, ⟨_, _, _, wd1019⟩, wd1019, wd89, wd998, wd1017, wd1048, ⟨wd1000, wd998⟩, by decide +kernel, rfl, by decide, rfl, rfl⟩
theorem vu_RX6_49_10 : VU RX6 49 2 10 mX10_rows := ⟨_, rfl, yX6_rows, RX6, ⟨_, _, _, wd1019⟩, wd1003, wd91, wd1002, wd1018, wd1048, ⟨wd1000, wd998⟩, by decide +kernel, rfl, by decide, rfl, rfl⟩
theorem fl_RX2_7 : FL RX2 7 [5] 2 := by
  intro c hc
  simp only [List.mem_cons, List.not_mem_nil, or_false] at hc
  rcases hc with rfl
  · exact ⟨RX5, TX5, 9, RX5, rfl, inX5, by decide, wd221, Or.inl rfl⟩
theorem fl_RX3_10 : FL RX3 10 [5] 1 := by
  intro c hc
  simp only [List.mem_cons, List.not_mem_nil, or_false] at hc
  rcases hc with rfl
  · exact ⟨RX5, TX5, 9, RX5, rfl, inX5, by decide, wd218, Or.inl rfl⟩
theorem fl_RX4_7 : FL RX4 7 [4] 1 := by
  intro c hc
  simp only [List.mem_cons, List.not_mem_nil, or_false] at hc
  rcases hc with rfl
  · exact ⟨RX4, TX4, 2, RX4, rfl, inX4, by decide, wd639, Or.inr wd640⟩
theorem fl_RX5_29 : FL RX5 29 [5] 6 := by
  intro c hc
  simp only [List.mem_cons, List.not_mem_nil, or_false] at hc
  rcases hc with rfl
  · exact ⟨RX5, TX5, 9, RX5, rfl, inX5, by decide, wd228, Or.inl rfl⟩
theorem fl_RX5_11 : FL RX5 11 [5] 1 := by
  intro c hc
  simp only [List.mem_cons, List.not_mem_nil, or_false] at hc
  rcases hc with rfl
  · exact ⟨RX5, TX5, 9, RX5, rfl, inX5, by decide, wd217, Or.inl rfl⟩
theorem fl_RX5_19 : FL RX5 19 [5] 3 := by
  intro c hc
  simp only [List.mem_cons, List.not_mem_nil, or_false] at hc
  rcases hc with rfl
  · exact ⟨RX5, TX5, 9, RX5, rfl, inX5, by decide, wd222, Or.inl rfl⟩
theorem fp_RX5_33 : FP RX5 33 [5] 7 .long false := by
  intro c hc
  simp only [List.mem_cons, List.not_mem_nil, or_false] at hc
  rcases hc with rfl
  · exact ⟨RX5, TX5, 9, RX5, tyX5, rfl, inX5, tyX5_ok, nmX5, by decide, wd229, Or.inl rfl, rfl, by decide +kernel, fun q => by cases q⟩
theorem fp_RX5_37 : FP RX5 37 [5] 8 .long false := by
  intro c hc
  simp only [List.mem_cons, List.not_mem_nil, or_false] at hc
  rcases hc with rfl
  · exact ⟨RX5, TX5, 9, RX5, tyX5, rfl, inX5, tyX5_ok, nmX5, by decide, wd231, Or.inl rfl, rfl, by decide +kernel, fun q => by cases q⟩
theorem fl_RX5_33 : FL RX5 33 [5] 7 := by
  intro c hc
  simp only [List.mem_cons, List.not_mem_nil, or_false] at hc
  rcases hc with rfl
  · exact ⟨RX5, TX5, 9, RX5, rfl, inX5, by decide, wd229, Or.inl rfl⟩
theorem fl_RX5_37 : FL RX5 37 [5] 8 := by
  intro c hc
  simp only [List.mem_cons, List.not_mem_nil, or_false] at hc
  rcases hc with rfl
  · exact ⟨RX5, TX5, 9, RX5, rfl, inX5, by decide, wd231, Or.inl rfl⟩
theorem fl_RX5_40 : FL RX5 40 [5] 0 := by
  intro c hc
  simp only [List.mem_cons, List.not_mem_nil, or_false] at hc
  rcases hc with rfl
  · exact ⟨RX5, TX5, 9, RX5, rfl, inX5, by decide, wd213, Or.inl rfl⟩
theorem fl_RX5_22 : FL RX5 22 [5] 4 := by
  intro c hc
  simp only [List.mem_cons, List.not_mem_nil, or_false] at hc
  rcases hc with rfl
  · exact ⟨RX5, TX5, 9, RX5, rfl, inX5, by decide, wd224, Or.inl rfl⟩
theorem fp_RX5_11 : FP RX5 11 [5] 1 (.array (.array .int)) true := by
  intro c hc
  simp only [List.mem_cons, List.not_mem_nil, or_false] at hc
  rcases hc with rfl
  · exact ⟨RX5, TX5, 9, RX5, tyX5, rfl, inX5, tyX5_ok, nmX5, by decide, wd217, Or.inl rfl, rfl, by decide +kernel, fun _ => rfl⟩
theorem fp_RX5_16 : FP RX5 16 [5] 2 (.array (.array .int)) true := by
  intro c hc
  simp only [List.mem_cons, List.not_mem_nil, or_false] at hc
  rcases hc with rfl
  · exact ⟨RX5, TX5, 9, RX5, tyX5, rfl, inX5, tyX5_ok, nmX5, by decide, wd220, Or.inl rfl, rfl, by decide +kernel, fun _ => rfl⟩
theorem fp_RX5_19 : FP RX5 19 [5] 3 (.array (.array .int)) true := by
  intro c hc
  simp only [List.mem_cons, List.not_mem_nil, or_false] at hc
  rcases hc with rfl
  · exact ⟨RX5, TX5, 9, RX5, tyX5, rfl, inX5, tyX5_ok, nmX5, by decide, wd222, Or.inl rfl, rfl, by decide +kernel, fun _ => rfl⟩
theorem fp_RX5_22 : FP RX5 22 [5] 4 (.array (.array .int)) true := by
  intro c hc
  simp only [List.mem_cons, List.not_mem_nil, or_false] at hc
  rcases hc with rfl
  · exact ⟨RX5, TX5, 9, RX5, tyX5, rfl, inX5, tyX5_ok, nmX5, by decide, wd224, Or.inl rfl, rfl, by decide +kernel, fun _ => rfl⟩
theorem fp_RX5_25 : FP RX5 25 [5] 5 (.array .int) true := by
  intro c hc
  simp only [List.mem_cons, List.not_mem_nil, or_false] at hc
  rcases hc with rfl
  · exact ⟨RX5, TX5, 9, RX5, tyX5, rfl, inX5, tyX5_ok, nmX5, by decide, wd225, Or.inl rfl, rfl, by decide +kernel, fun _ => rfl⟩
theorem fp_RX5_29 : FP RX5 29 [5] 6 (.array .long) true := by
  intro c hc
  simp only [List.mem_cons, List.not_mem_nil, or_false] at hc
  rcases hc with rfl
  · exact ⟨RX5, TX5, 9, RX5, tyX5, rfl, inX5, tyX5_ok, nmX5, by decide, wd228, Or.inl rfl, rfl, by decide +kernel, fun _ => rfl⟩
theorem fp_RX5_40 : FP RX5 40 [5] 0 (.object "GateWatch$Book") true := by
  intro c hc
  simp only [List.mem_cons, List.not_mem_nil, or_false] at hc
  rcases hc with rfl
  · exact ⟨RX5, TX5, 9, RX5, tyX5, rfl, inX5, tyX5_ok, nmX5, by decide, wd213, Or.inl rfl, rfl, by decide +kernel, fun _ => rfl⟩
theorem fl_RX5_16 : FL RX5 16 [5] 2 := by
  intro c hc
  simp only [List.mem_cons, List.not_mem_nil, or_false] at hc
  rcases hc with rfl
  · exact ⟨RX5, TX5, 9, RX5, rfl, inX5, by decide, wd220, Or.inl rfl⟩
theorem fl_RX5_85 : FL RX5 85 [0] 5 := by
  intro c hc
  simp only [List.mem_cons, List.not_mem_nil, or_false] at hc
  rcases hc with rfl
  · exact ⟨RX0, TX0, 18, RX0, rfl, inX0, by decide, wd129, Or.inl rfl⟩
theorem fl_RX5_60 : FL RX5 60 [0] 6 := by
  intro c hc
  simp only [List.mem_cons, List.not_mem_nil, or_false] at hc
  rcases hc with rfl
  · exact ⟨RX0, TX0, 18, RX0, rfl, inX0, by decide, wd132, Or.inl rfl⟩
theorem fl_RX5_62 : FL RX5 62 [0] 7 := by
  intro c hc
  simp only [List.mem_cons, List.not_mem_nil, or_false] at hc
  rcases hc with rfl
  · exact ⟨RX0, TX0, 18, RX0, rfl, inX0, by decide, wd135, Or.inl rfl⟩
theorem fl_RX5_44 : FL RX5 44 [0] 11 := by
  intro c hc
  simp only [List.mem_cons, List.not_mem_nil, or_false] at hc
  rcases hc with rfl
  · exact ⟨RX0, TX0, 18, RX0, rfl, inX0, by decide, wd145, Or.inl rfl⟩
theorem fl_RX5_25 : FL RX5 25 [5] 5 := by
  intro c hc
  simp only [List.mem_cons, List.not_mem_nil, or_false] at hc
  rcases hc with rfl
  · exact ⟨RX5, TX5, 9, RX5, rfl, inX5, by decide, wd225, Or.inl rfl⟩
theorem fl_RX6_18 : FL RX6 18 [5] 0 := by
  intro c hc
  simp only [List.mem_cons, List.not_mem_nil, or_false] at hc
  rcases hc with rfl
  · exact ⟨RX5, TX5, 9, RX5, rfl, inX5, by decide, wd216, Or.inl rfl⟩
theorem fl_RX6_24 : FL RX6 24 [0] 11 := by
  intro c hc
  simp only [List.mem_cons, List.not_mem_nil, or_false] at hc
  rcases hc with rfl
  · exact ⟨RX0, TX0, 18, RX0, rfl, inX0, by decide, wd146, Or.inl rfl⟩
theorem fl_RX6_29 : FL RX6 29 [5] 5 := by
  intro c hc
  simp only [List.mem_cons, List.not_mem_nil, or_false] at hc
  rcases hc with rfl
  · exact ⟨RX5, TX5, 9, RX5, rfl, inX5, by decide, wd226, Or.inl rfl⟩
theorem vu_RX6_33_1 : VU RX6 33 3 1 mX6_worthOf := ⟨_, rfl, yX6_worthOf, RX6, ⟨_, _, _, wd802⟩, wd802, wd89, wd784, wd787, wd783, ⟨wd786, wd784⟩, by decide +kernel, rfl, by decide, rfl, rfl⟩
theorem vu_RX6_33_2 : VU RX6 33 3 2 mX2_worthOf := ⟨_, rfl, yX6_worthOf, RX6, ⟨_, _, _, wd802⟩, wd790, wd94, wd789, wd788, wd783, ⟨wd786, wd784⟩, by decide +kernel, rfl, by decide, rfl, rfl⟩
theorem vu_RX6_33_3 : VU RX6 33 3 3 mX3_worthOf := ⟨_, rfl, yX6_worthOf, RX6, ⟨_, _, _, wd802⟩, wd793, wd92, wd792, wd791, wd783, ⟨wd786, wd784⟩, by decide +kernel, rfl, by decide, rfl, rfl⟩
theorem vu_RX6_33_4 : VU RX6 33 3 4 mX4_worthOf := ⟨_, rfl, yX6_worthOf, RX6, ⟨_, _, _, wd802⟩, wd797, wd90, wd796, wd795, wd783, ⟨wd786, wd784⟩, by decide +kernel, rfl, by decide, rfl, rfl⟩
theorem vu_RX6_33_6 : VU RX6 33 3 6 mX6_worthOf := ⟨_, rfl, yX6_worthOf, RX6, ⟨_, _, _, wd802⟩, wd802, wd89, wd784, wd785, wd783, ⟨wd786, wd784⟩, by decide +kernel, rfl, by decide, rfl, rfl⟩
theorem vu_RX6_33_8 : VU RX6 33 3 8 mX6_worthOf := ⟨_, rfl, yX6_worthOf, RX6, ⟨_, _, _, wd802⟩, wd802, wd89, wd784, wd800, wd783, ⟨wd786, wd784⟩, by decide +kernel, rfl, by decide, rfl, rfl⟩
theorem vu_RX6_33_10 : VU RX6 33 3 10 mX6_worthOf := ⟨_, rfl, yX6_worthOf, RX6, ⟨_, _, _, wd802⟩, wd802, wd89, wd784, wd801, wd783, ⟨wd786, wd784⟩, by decide +kernel, rfl, by decide, rfl, rfl⟩
theorem fp_RX7_9 : FP RX7 9 [7] 0 (.array .int) true := by
  intro c hc
  simp only [List.mem_cons, List.not_mem_nil, or_false] at hc
  rcases hc with rfl
  · exact ⟨RX7, TX7, 10, RX7, tyX7, rfl, inX7, tyX7_ok, nmX7, by decide, wd348, Or.inl rfl, rfl, by decide +kernel, fun _ => rfl⟩
theorem fp_RX7_15 : FP RX7 15 [7] 2 .int false := by
  intro c hc
  simp only [List.mem_cons, List.not_mem_nil, or_false] at hc
  rcases hc with rfl
  · exact ⟨RX7, TX7, 10, RX7, tyX7, rfl, inX7, tyX7_ok, nmX7, by decide, wd352, Or.inl rfl, rfl, by decide +kernel, fun q => by cases q⟩
theorem fp_RX7_19 : FP RX7 19 [7] 3 .int false := by
  intro c hc
  simp only [List.mem_cons, List.not_mem_nil, or_false] at hc
  rcases hc with rfl
  · exact ⟨RX7, TX7, 10, RX7, tyX7, rfl, inX7, tyX7_ok, nmX7, by decide, wd353, Or.inl rfl, rfl, by decide +kernel, fun q => by cases q⟩
theorem fp_RX7_22 : FP RX7 22 [7] 4 (.array .int) true := by
  intro c hc
  simp only [List.mem_cons, List.not_mem_nil, or_false] at hc
  rcases hc with rfl
  · exact ⟨RX7, TX7, 10, RX7, tyX7, rfl, inX7, tyX7_ok, nmX7, by decide, wd354, Or.inl rfl, rfl, by decide +kernel, fun _ => rfl⟩
theorem fp_RX7_25 : FP RX7 25 [7] 5 .int false := by
  intro c hc
  simp only [List.mem_cons, List.not_mem_nil, or_false] at hc
  rcases hc with rfl
  · exact ⟨RX7, TX7, 10, RX7, tyX7, rfl, inX7, tyX7_ok, nmX7, by decide, wd355, Or.inl rfl, rfl, by decide +kernel, fun q => by cases q⟩
theorem fp_RX7_28 : FP RX7 28 [7] 6 (.array .int) true := by
  intro c hc
  simp only [List.mem_cons, List.not_mem_nil, or_false] at hc
  rcases hc with rfl
  · exact ⟨RX7, TX7, 10, RX7, tyX7, rfl, inX7, tyX7_ok, nmX7, by decide, wd356, Or.inl rfl, rfl, by decide +kernel, fun _ => rfl⟩
theorem fp_RX7_31 : FP RX7 31 [7] 7 (.array .int) true := by
  intro c hc
  simp only [List.mem_cons, List.not_mem_nil, or_false] at hc
  rcases hc with rfl
  · exact ⟨RX7, TX7, 10, RX7, tyX7, rfl, inX7, tyX7_ok, nmX7, by decide, wd357, Or.inl rfl, rfl, by decide +kernel, fun _ => rfl⟩
theorem fp_RX7_34 : FP RX7 34 [7] 8 (.array .int) true := by
  intro c hc
  simp only [List.mem_cons, List.not_mem_nil, or_false] at hc
  rcases hc with rfl
  · exact ⟨RX7, TX7, 10, RX7, tyX7, rfl, inX7, tyX7_ok, nmX7, by decide, wd358, Or.inl rfl, rfl, by decide +kernel, fun _ => rfl⟩
theorem fp_RX7_37 : FP RX7 37 [7] 9 .int false := by
  intro c hc
  simp only [List.mem_cons, List.not_mem_nil, or_false] at hc
  rcases hc with rfl
  · exact ⟨RX7, TX7, 10, RX7, tyX7, rfl, inX7, tyX7_ok, nmX7, by decide, wd359, Or.inl rfl, rfl, by decide +kernel, fun q => by cases q⟩
theorem fp_RX7_46 : FP RX7 46 [7] 1 (.array .byte) true := by
  intro c hc
  simp only [List.mem_cons, List.not_mem_nil, or_false] at hc
  rcases hc with rfl
  · exact ⟨RX7, TX7, 10, RX7, tyX7, rfl, inX7, tyX7_ok, nmX7, by decide, wd351, Or.inl rfl, rfl, by decide +kernel, fun _ => rfl⟩
theorem fl_RX7_25 : FL RX7 25 [7] 5 := by
  intro c hc
  simp only [List.mem_cons, List.not_mem_nil, or_false] at hc
  rcases hc with rfl
  · exact ⟨RX7, TX7, 10, RX7, rfl, inX7, by decide, wd355, Or.inl rfl⟩
theorem fl_RX7_15 : FL RX7 15 [7] 2 := by
  intro c hc
  simp only [List.mem_cons, List.not_mem_nil, or_false] at hc
  rcases hc with rfl
  · exact ⟨RX7, TX7, 10, RX7, rfl, inX7, by decide, wd352, Or.inl rfl⟩
theorem fl_RX7_46 : FL RX7 46 [7] 1 := by
  intro c hc
  simp only [List.mem_cons, List.not_mem_nil, or_false] at hc
  rcases hc with rfl
  · exact ⟨RX7, TX7, 10, RX7, rfl, inX7, by decide, wd351, Or.inl rfl⟩
theorem fl_RX7_19 : FL RX7 19 [7] 3 := by
  intro c hc
  simp only [List.mem_cons, List.not_mem_nil, or_false] at hc
  rcases hc with rfl
  · exact ⟨RX7, TX7, 10, RX7, rfl, inX7, by decide, wd353, Or.inl rfl⟩
theorem fl_RX8_7 : FL RX8 7 [5] 0 := by
  intro c hc
  simp only [List.mem_cons, List.not_mem_nil, or_false] at hc
  rcases hc with rfl
  · exact ⟨RX5, TX5, 9, RX5, rfl, inX5, by decide, wd215, Or.inl rfl⟩
theorem fl_RX8_13 : FL RX8 13 [0] 13 := by
  intro c hc
  simp only [List.mem_cons, List.not_mem_nil, or_false] at hc
  rcases hc with rfl
  · exact ⟨RX0, TX0, 18, RX0, rfl, inX0, by decide, wd151, Or.inl rfl⟩
theorem fl_RX8_19 : FL RX8 19 [8] 0 := by
  intro c hc
  simp only [List.mem_cons, List.not_mem_nil, or_false] at hc
  rcases hc with rfl
  · exact ⟨RX8, TX8, 2, RX8, rfl, inX8, by decide, wd634, Or.inr wd635⟩
theorem fl_RX8_25 : FL RX8 25 [0] 14 := by
  intro c hc
  simp only [List.mem_cons, List.not_mem_nil, or_false] at hc
  rcases hc with rfl
  · exact ⟨RX0, TX0, 18, RX0, rfl, inX0, by decide, wd154, Or.inl rfl⟩
theorem fl_RX8_35 : FL RX8 35 [0] 17 := by
  intro c hc
  simp only [List.mem_cons, List.not_mem_nil, or_false] at hc
  rcases hc with rfl
  · exact ⟨RX0, TX0, 18, RX0, rfl, inX0, by decide, wd163, Or.inl rfl⟩
theorem fp_RX9_11 : FP RX9 11 [9] 2 (.array (.array .int)) true := by
  intro c hc
  simp only [List.mem_cons, List.not_mem_nil, or_false] at hc
  rcases hc with rfl
  · exact ⟨RX9, TX9, 11, RX9, tyX9, rfl, inX9, tyX9_ok, nmX9, by decide, wd262, Or.inl rfl, rfl, by decide +kernel, fun _ => rfl⟩
theorem fp_RX9_16 : FP RX9 16 [9] 3 (.object "GateWatch$Plan") false := by
  intro c hc
  simp only [List.mem_cons, List.not_mem_nil, or_false] at hc
  rcases hc with rfl
  · exact ⟨RX9, TX9, 11, RX9, tyX9, rfl, inX9, tyX9_ok, nmX9, by decide, wd263, Or.inl rfl, rfl, by decide +kernel, fun q => by cases q⟩
theorem fp_RX9_20 : FP RX9 20 [9] 4 (.array .int) true := by
  intro c hc
  simp only [List.mem_cons, List.not_mem_nil, or_false] at hc
  rcases hc with rfl
  · exact ⟨RX9, TX9, 11, RX9, tyX9, rfl, inX9, tyX9_ok, nmX9, by decide, wd264, Or.inl rfl, rfl, by decide +kernel, fun _ => rfl⟩
theorem fp_RX9_24 : FP RX9 24 [9] 5 .int false := by
  intro c hc
  simp only [List.mem_cons, List.not_mem_nil, or_false] at hc
  rcases hc with rfl
  · exact ⟨RX9, TX9, 11, RX9, tyX9, rfl, inX9, tyX9_ok, nmX9, by decide, wd265, Or.inl rfl, rfl, by decide +kernel, fun q => by cases q⟩
theorem fp_RX9_28 : FP RX9 28 [9] 6 (.array .int) true := by
  intro c hc
  simp only [List.mem_cons, List.not_mem_nil, or_false] at hc
  rcases hc with rfl
  · exact ⟨RX9, TX9, 11, RX9, tyX9, rfl, inX9, tyX9_ok, nmX9, by decide, wd266, Or.inl rfl, rfl, by decide +kernel, fun _ => rfl⟩
theorem fp_RX9_31 : FP RX9 31 [9] 7 .int false := by
  intro c hc
  simp only [List.mem_cons, List.not_mem_nil, or_false] at hc
  rcases hc with rfl
  · exact ⟨RX9, TX9, 11, RX9, tyX9, rfl, inX9, tyX9_ok, nmX9, by decide, wd267, Or.inl rfl, rfl, by decide +kernel, fun q => by cases q⟩
theorem fp_RX9_34 : FP RX9 34 [9] 8 .int false := by
  intro c hc
  simp only [List.mem_cons, List.not_mem_nil, or_false] at hc
  rcases hc with rfl
  · exact ⟨RX9, TX9, 11, RX9, tyX9, rfl, inX9, tyX9_ok, nmX9, by decide, wd268, Or.inl rfl, rfl, by decide +kernel, fun q => by cases q⟩
theorem fp_RX9_37 : FP RX9 37 [9] 9 .int false := by
  intro c hc
  simp only [List.mem_cons, List.not_mem_nil, or_false] at hc
  rcases hc with rfl
  · exact ⟨RX9, TX9, 11, RX9, tyX9, rfl, inX9, tyX9_ok, nmX9, by decide, wd269, Or.inl rfl, rfl, by decide +kernel, fun q => by cases q⟩
theorem fp_RX9_40 : FP RX9 40 [9] 10 (.array .int) true := by
  intro c hc
  simp only [List.mem_cons, List.not_mem_nil, or_false] at hc
  rcases hc with rfl
  · exact ⟨RX9, TX9, 11, RX9, tyX9, rfl, inX9, tyX9_ok, nmX9, by decide, wd271, Or.inl rfl, rfl, by decide +kernel, fun _ => rfl⟩
theorem fp_RX9_43 : FP RX9 43 [9] 0 (.object "GateWatch$Outlook") true := by
  intro c hc
  simp only [List.mem_cons, List.not_mem_nil, or_false] at hc
  rcases hc with rfl
  · exact ⟨RX9, TX9, 11, RX9, tyX9, rfl, inX9, tyX9_ok, nmX9, by decide, wd260, Or.inl rfl, rfl, by decide +kernel, fun _ => rfl⟩
theorem fl_RX9_47 : FL RX9 47 [5] 0 := by
  intro c hc
  simp only [List.mem_cons, List.not_mem_nil, or_false] at hc
  rcases hc with rfl
  · exact ⟨RX5, TX5, 9, RX5, rfl, inX5, by decide, wd212, Or.inl rfl⟩
theorem fp_RX9_53 : FP RX9 53 [9] 1 (.object "GateWatch$Book") true := by
  intro c hc
  simp only [List.mem_cons, List.not_mem_nil, or_false] at hc
  rcases hc with rfl
  · exact ⟨RX9, TX9, 11, RX9, tyX9, rfl, inX9, tyX9_ok, nmX9, by decide, wd261, Or.inl rfl, rfl, by decide +kernel, fun _ => rfl⟩
theorem fl_RX9_11 : FL RX9 11 [9] 2 := by
  intro c hc
  simp only [List.mem_cons, List.not_mem_nil, or_false] at hc
  rcases hc with rfl
  · exact ⟨RX9, TX9, 11, RX9, rfl, inX9, by decide, wd262, Or.inl rfl⟩
theorem fl_RX10_32 : FL RX10 32 [1, 10] 1 := by
  intro c hc
  simp only [List.mem_cons, List.not_mem_nil, or_false] at hc
  rcases hc with rfl | rfl
  · exact ⟨RX1, TX1, 2, RX10, rfl, inX1, by decide, wd643, Or.inr wd644⟩
  · exact ⟨RX10, TX10, 2, RX10, rfl, inX10, by decide, wd643, Or.inr wd644⟩
theorem fl_RX10_7 : FL RX10 7 [5] 0 := by
  intro c hc
  simp only [List.mem_cons, List.not_mem_nil, or_false] at hc
  rcases hc with rfl
  · exact ⟨RX5, TX5, 9, RX5, rfl, inX5, by decide, wd214, Or.inl rfl⟩
theorem fl_RX10_23 : FL RX10 23 [0] 17 := by
  intro c hc
  simp only [List.mem_cons, List.not_mem_nil, or_false] at hc
  rcases hc with rfl
  · exact ⟨RX0, TX0, 18, RX0, rfl, inX0, by decide, wd162, Or.inl rfl⟩
theorem vu_RX10_26_1 : VU RX10 26 2 1 mX1_beginning := ⟨_, rfl, yX10_beginning, RX10, ⟨_, _, _, wd760⟩, wd759, wd93, wd758, wd757, wd753, ⟨wd756, wd754⟩, by decide +kernel, rfl, by decide, rfl, rfl⟩
theorem vu_RX10_26_10 : VU RX10 26 2 10 mX10_beginning := ⟨_, rfl, yX10_beginning, RX10, ⟨_, _, _, wd760⟩, wd760, wd91, wd754, wd755, wd753, ⟨wd756, wd754⟩, by decide +kernel, rfl, by decide, rfl, rfl⟩
theorem fl_RX10_13 : FL RX10 13 [0] 11 := by
  intro c hc
  simp only [List.mem_cons, List.not_mem_nil, or_false] at hc
  rcases hc with rfl
  · exact ⟨RX0, TX0, 18, RX0, rfl, inX0, by decide, wd144, Or.inl rfl⟩
theorem fl_RX9_53 : FL RX9 53 [9] 1 := by
  intro c hc
  simp only [List.mem_cons, List.not_mem_nil, or_false] at hc
  rcases hc with rfl
  · exact ⟨RX9, TX9, 11, RX9, rfl, inX9, by decide, wd261, Or.inl rfl⟩
theorem fl_RX9_83 : FL RX9 83 [0] 11 := by
  intro c hc
  simp only [List.mem_cons, List.not_mem_nil, or_false] at hc
  rcases hc with rfl
  · exact ⟨RX0, TX0, 18, RX0, rfl, inX0, by decide, wd147, Or.inl rfl⟩
theorem fl_RX9_31 : FL RX9 31 [9] 7 := by
  intro c hc
  simp only [List.mem_cons, List.not_mem_nil, or_false] at hc
  rcases hc with rfl
  · exact ⟨RX9, TX9, 11, RX9, rfl, inX9, by decide, wd267, Or.inl rfl⟩
theorem fl_RX9_28 : FL RX9 28 [9] 6 := by
  intro c hc
  simp only [List.mem_cons, List.not_mem_nil, or_false] at hc
  rcases hc with rfl
  · exact ⟨RX9, TX9, 11, RX9, rfl, inX9, by decide, wd266, Or.inl rfl⟩
theorem fl_RX9_37 : FL RX9 37 [9] 9 := by
  intro c hc
  simp only [List.mem_cons, List.not_mem_nil, or_false] at hc
  rcases hc with rfl
  · exact ⟨RX9, TX9, 11, RX9, rfl, inX9, by decide, wd269, Or.inl rfl⟩
theorem fl_RX9_34 : FL RX9 34 [9] 8 := by
  intro c hc
  simp only [List.mem_cons, List.not_mem_nil, or_false] at hc
  rcases hc with rfl
  · exact ⟨RX9, TX9, 11, RX9, rfl, inX9, by decide, wd268, Or.inl rfl⟩
theorem fl_RX9_43 : FL RX9 43 [9] 0 := by
  intro c hc
  simp only [List.mem_cons, List.not_mem_nil, or_false] at hc
  rcases hc with rfl
  · exact ⟨RX9, TX9, 11, RX9, rfl, inX9, by decide, wd260, Or.inl rfl⟩
theorem fl_RX9_135 : FL RX9 135 [5] 1 := by
  intro c hc
  simp only [List.mem_cons, List.not_mem_nil, or_false] at hc
  rcases hc with rfl
  · exact ⟨RX5, TX5, 9, RX5, rfl, inX5, by decide, wd219, Or.inl rfl⟩
theorem fl_RX9_16 : FL RX9 16 [9] 3 := by
  intro c hc
  simp only [List.mem_cons, List.not_mem_nil, or_false] at hc
  rcases hc with rfl
  · exact ⟨RX9, TX9, 11, RX9, rfl, inX9, by decide, wd263, Or.inl rfl⟩
theorem fl_RX9_24 : FL RX9 24 [9] 5 := by
  intro c hc
  simp only [List.mem_cons, List.not_mem_nil, or_false] at hc
  rcases hc with rfl
  · exact ⟨RX9, TX9, 11, RX9, rfl, inX9, by decide, wd265, Or.inl rfl⟩
theorem fl_RX9_20 : FL RX9 20 [9] 4 := by
  intro c hc
  simp only [List.mem_cons, List.not_mem_nil, or_false] at hc
  rcases hc with rfl
  · exact ⟨RX9, TX9, 11, RX9, rfl, inX9, by decide, wd264, Or.inl rfl⟩
theorem fl_RX9_109 : FL RX9 109 [0] 16 := by
  intro c hc
  simp only [List.mem_cons, List.not_mem_nil, or_false] at hc
  rcases hc with rfl
  · exact ⟨RX0, TX0, 18, RX0, rfl, inX0, by decide, wd160, Or.inl rfl⟩
theorem vu_RX9_112_1 : VU RX9 112 3 1 mX10_chosen := ⟨_, rfl, yX6_chosen, RX6, ⟨_, _, _, wd782⟩, wd748, wd91, wd747, wd746, wd826, ⟨wd745, wd743⟩, by decide +kernel, rfl, by decide, rfl, rfl⟩
theorem vu_RX9_112_2 : VU RX9 112 3 2 mX6_chosen := ⟨_, rfl, yX6_chosen, RX6, ⟨_, _, _, wd782⟩, wd782, wd89, wd743, wd761, wd826, ⟨wd745, wd743⟩, by decide +kernel, rfl, by decide, rfl, rfl⟩
theorem vu_RX9_112_3 : VU RX9 112 3 3 mX6_chosen := ⟨_, rfl, yX6_chosen, RX6, ⟨_, _, _, wd782⟩, wd782, wd89, wd743, wd762, wd826, ⟨wd745, wd743⟩, by decide +kernel, rfl, by decide, rfl, rfl⟩
theorem vu_RX9_112_4 : VU RX9 112 3 4 mX6_chosen := ⟨_, rfl, yX6_chosen, RX6, ⟨_, _, _, wd782⟩, wd782, wd89, wd743, wd763, wd826, ⟨wd745, wd743⟩, by decide +kernel, rfl, by decide, rfl, rfl⟩
theorem vu_RX9_112_6 : VU RX9 112 3 6 mX6_chosen := ⟨_, rfl, yX6_chosen, RX6, ⟨_, _, _, wd782⟩, wd782, wd89, wd743, wd744, wd826, ⟨wd745, wd743⟩, by decide +kernel, rfl, by decide, rfl, rfl⟩
theorem vu_RX9_112_8 : VU RX9 112 3 8 mX8_chosen := ⟨_, rfl, yX6_chosen, RX6, ⟨_, _, _, wd782⟩, wd766, wd95, wd765, wd764, wd826, ⟨wd745, wd743⟩, by decide +kernel, rfl, by decide, rfl, rfl⟩
theorem vu_RX9_112_10 : VU RX9 112 3 10 mX10_chosen := ⟨_, rfl, yX6_chosen, RX6, ⟨_, _, _, wd782⟩, wd748, wd91, wd747, wd781, wd826, ⟨wd745, wd743⟩, by decide +kernel, rfl, by decide, rfl, rfl⟩
theorem fl_RX9_106 : FL RX9 106 [5] 3 := by
  intro c hc
  simp only [List.mem_cons, List.not_mem_nil, or_false] at hc
  rcases hc with rfl
  · exact ⟨RX5, TX5, 9, RX5, rfl, inX5, by decide, wd223, Or.inl rfl⟩
theorem fl_RX9_40 : FL RX9 40 [9] 10 := by
  intro c hc
  simp only [List.mem_cons, List.not_mem_nil, or_false] at hc
  rcases hc with rfl
  · exact ⟨RX9, TX9, 11, RX9, rfl, inX9, by decide, wd271, Or.inl rfl⟩
theorem fl_RX9_158 : FL RX9 158 [5] 5 := by
  intro c hc
  simp only [List.mem_cons, List.not_mem_nil, or_false] at hc
  rcases hc with rfl
  · exact ⟨RX5, TX5, 9, RX5, rfl, inX5, by decide, wd227, Or.inl rfl⟩
theorem fp_RX11_14 : FP RX11 14 [11] 0 (.object "GateWatch$Book") true := by
  intro c hc
  simp only [List.mem_cons, List.not_mem_nil, or_false] at hc
  rcases hc with rfl
  · exact ⟨RX11, TX11, 7, RX11, tyX11, rfl, inX11, tyX11_ok, nmX11, by decide, wd296, Or.inl rfl, rfl, by decide +kernel, fun _ => rfl⟩
theorem fp_RX11_18 : FP RX11 18 [11] 1 (.object "GateWatch$Book") true := by
  intro c hc
  simp only [List.mem_cons, List.not_mem_nil, or_false] at hc
  rcases hc with rfl
  · exact ⟨RX11, TX11, 7, RX11, tyX11, rfl, inX11, tyX11_ok, nmX11, by decide, wd297, Or.inl rfl, rfl, by decide +kernel, fun _ => rfl⟩
theorem fp_RX11_21 : FP RX11 21 [11] 2 .boolean false := by
  intro c hc
  simp only [List.mem_cons, List.not_mem_nil, or_false] at hc
  rcases hc with rfl
  · exact ⟨RX11, TX11, 7, RX11, tyX11, rfl, inX11, tyX11_ok, nmX11, by decide, wd298, Or.inl rfl, rfl, by decide +kernel, fun q => by cases q⟩
theorem fl_RX11_14 : FL RX11 14 [11] 0 := by
  intro c hc
  simp only [List.mem_cons, List.not_mem_nil, or_false] at hc
  rcases hc with rfl
  · exact ⟨RX11, TX11, 7, RX11, rfl, inX11, by decide, wd296, Or.inl rfl⟩
theorem fp_RX11_30 : FP RX11 30 [11] 3 (.object "GateWatch$Outlook") true := by
  intro c hc
  simp only [List.mem_cons, List.not_mem_nil, or_false] at hc
  rcases hc with rfl
  · exact ⟨RX11, TX11, 7, RX11, tyX11, rfl, inX11, tyX11_ok, nmX11, by decide, wd299, Or.inl rfl, rfl, by decide +kernel, fun _ => rfl⟩
theorem fl_RX11_30 : FL RX11 30 [11] 3 := by
  intro c hc
  simp only [List.mem_cons, List.not_mem_nil, or_false] at hc
  rcases hc with rfl
  · exact ⟨RX11, TX11, 7, RX11, rfl, inX11, by decide, wd299, Or.inl rfl⟩
theorem fp_RX11_39 : FP RX11 39 [11] 4 (.object "GateWatch$Tree") true := by
  intro c hc
  simp only [List.mem_cons, List.not_mem_nil, or_false] at hc
  rcases hc with rfl
  · exact ⟨RX11, TX11, 7, RX11, tyX11, rfl, inX11, tyX11_ok, nmX11, by decide, wd300, Or.inl rfl, rfl, by decide +kernel, fun _ => rfl⟩
theorem fp_RX11_43 : FP RX11 43 [11] 5 (.array .int) true := by
  intro c hc
  simp only [List.mem_cons, List.not_mem_nil, or_false] at hc
  rcases hc with rfl
  · exact ⟨RX11, TX11, 7, RX11, tyX11, rfl, inX11, tyX11_ok, nmX11, by decide, wd301, Or.inl rfl, rfl, by decide +kernel, fun _ => rfl⟩
theorem fp_RX11_47 : FP RX11 47 [11] 6 (.array .int) true := by
  intro c hc
  simp only [List.mem_cons, List.not_mem_nil, or_false] at hc
  rcases hc with rfl
  · exact ⟨RX11, TX11, 7, RX11, tyX11, rfl, inX11, tyX11_ok, nmX11, by decide, wd302, Or.inl rfl, rfl, by decide +kernel, fun _ => rfl⟩
theorem fl_RX11_50 : FL RX11 50 [0] 1 := by
  intro c hc
  simp only [List.mem_cons, List.not_mem_nil, or_false] at hc
  rcases hc with rfl
  · exact ⟨RX0, TX0, 18, RX0, rfl, inX0, by decide, wd121, Or.inl rfl⟩
theorem fl_RX11_54 : FL RX11 54 [0] 0 := by
  intro c hc
  simp only [List.mem_cons, List.not_mem_nil, or_false] at hc
  rcases hc with rfl
  · exact ⟨RX0, TX0, 18, RX0, rfl, inX0, by decide, wd119, Or.inl rfl⟩
theorem fp_RX11_50 : FP RX11 50 [0] 1 .int false := by
  intro c hc
  simp only [List.mem_cons, List.not_mem_nil, or_false] at hc
  rcases hc with rfl
  · exact ⟨RX0, TX0, 18, RX0, tyX0, rfl, inX0, tyX0_ok, nmX0, by decide, wd121, Or.inl rfl, rfl, by decide +kernel, fun q => by cases q⟩
theorem fl_RX11_58 : FL RX11 58 [0] 3 := by
  intro c hc
  simp only [List.mem_cons, List.not_mem_nil, or_false] at hc
  rcases hc with rfl
  · exact ⟨RX0, TX0, 18, RX0, rfl, inX0, by decide, wd125, Or.inl rfl⟩
theorem fl_RX11_70 : FL RX11 70 [0] 2 := by
  intro c hc
  simp only [List.mem_cons, List.not_mem_nil, or_false] at hc
  rcases hc with rfl
  · exact ⟨RX0, TX0, 18, RX0, rfl, inX0, by decide, wd123, Or.inl rfl⟩
theorem fp_RX11_58 : FP RX11 58 [0] 3 .int false := by
  intro c hc
  simp only [List.mem_cons, List.not_mem_nil, or_false] at hc
  rcases hc with rfl
  · exact ⟨RX0, TX0, 18, RX0, tyX0, rfl, inX0, tyX0_ok, nmX0, by decide, wd125, Or.inl rfl, rfl, by decide +kernel, fun q => by cases q⟩
theorem fl_RX11_82 : FL RX11 82 [7] 0 := by
  intro c hc
  simp only [List.mem_cons, List.not_mem_nil, or_false] at hc
  rcases hc with rfl
  · exact ⟨RX7, TX7, 10, RX7, rfl, inX7, by decide, wd349, Or.inl rfl⟩
theorem fl_RX11_85 : FL RX11 85 [0] 11 := by
  intro c hc
  simp only [List.mem_cons, List.not_mem_nil, or_false] at hc
  rcases hc with rfl
  · exact ⟨RX0, TX0, 18, RX0, rfl, inX0, by decide, wd148, Or.inl rfl⟩
theorem fl_RX11_96 : FL RX11 96 [0] 4 := by
  intro c hc
  simp only [List.mem_cons, List.not_mem_nil, or_false] at hc
  rcases hc with rfl
  · exact ⟨RX0, TX0, 18, RX0, rfl, inX0, by decide, wd127, Or.inl rfl⟩
theorem fl_RX11_99 : FL RX11 99 [0] 5 := by
  intro c hc
  simp only [List.mem_cons, List.not_mem_nil, or_false] at hc
  rcases hc with rfl
  · exact ⟨RX0, TX0, 18, RX0, rfl, inX0, by decide, wd130, Or.inl rfl⟩
theorem fl_RX11_102 : FL RX11 102 [0] 6 := by
  intro c hc
  simp only [List.mem_cons, List.not_mem_nil, or_false] at hc
  rcases hc with rfl
  · exact ⟨RX0, TX0, 18, RX0, rfl, inX0, by decide, wd133, Or.inl rfl⟩
theorem fl_RX11_105 : FL RX11 105 [0] 7 := by
  intro c hc
  simp only [List.mem_cons, List.not_mem_nil, or_false] at hc
  rcases hc with rfl
  · exact ⟨RX0, TX0, 18, RX0, rfl, inX0, by decide, wd136, Or.inl rfl⟩
theorem fl_RX11_108 : FL RX11 108 [0] 8 := by
  intro c hc
  simp only [List.mem_cons, List.not_mem_nil, or_false] at hc
  rcases hc with rfl
  · exact ⟨RX0, TX0, 18, RX0, rfl, inX0, by decide, wd138, Or.inl rfl⟩
theorem fl_RX11_111 : FL RX11 111 [0] 9 := by
  intro c hc
  simp only [List.mem_cons, List.not_mem_nil, or_false] at hc
  rcases hc with rfl
  · exact ⟨RX0, TX0, 18, RX0, rfl, inX0, by decide, wd140, Or.inl rfl⟩
theorem fl_RX11_114 : FL RX11 114 [0] 16 := by
  intro c hc
  simp only [List.mem_cons, List.not_mem_nil, or_false] at hc
  rcases hc with rfl
  · exact ⟨RX0, TX0, 18, RX0, rfl, inX0, by decide, wd159, Or.inl rfl⟩
theorem fl_RX11_120 : FL RX11 120 [0] 10 := by
  intro c hc
  simp only [List.mem_cons, List.not_mem_nil, or_false] at hc
  rcases hc with rfl
  · exact ⟨RX0, TX0, 18, RX0, rfl, inX0, by decide, wd142, Or.inl rfl⟩
theorem fl_RX11_139 : FL RX11 139 [5] 8 := by
  intro c hc
  simp only [List.mem_cons, List.not_mem_nil, or_false] at hc
  rcases hc with rfl
  · exact ⟨RX5, TX5, 9, RX5, rfl, inX5, by decide, wd232, Or.inl rfl⟩
theorem fl_RX11_135 : FL RX11 135 [5] 7 := by
  intro c hc
  simp only [List.mem_cons, List.not_mem_nil, or_false] at hc
  rcases hc with rfl
  · exact ⟨RX5, TX5, 9, RX5, rfl, inX5, by decide, wd230, Or.inl rfl⟩
theorem fl_RX11_154 : FL RX11 154 [0] 17 := by
  intro c hc
  simp only [List.mem_cons, List.not_mem_nil, or_false] at hc
  rcases hc with rfl
  · exact ⟨RX0, TX0, 18, RX0, rfl, inX0, by decide, wd164, Or.inl rfl⟩
theorem fp_RX11_154 : FP RX11 154 [0] 17 .int false := by
  intro c hc
  simp only [List.mem_cons, List.not_mem_nil, or_false] at hc
  rcases hc with rfl
  · exact ⟨RX0, TX0, 18, RX0, tyX0, rfl, inX0, tyX0_ok, nmX0, by decide, wd164, Or.inl rfl, rfl, by decide +kernel, fun q => by cases q⟩
theorem fl_RX11_157 : FL RX11 157 [0] 15 := by
  intro c hc
  simp only [List.mem_cons, List.not_mem_nil, or_false] at hc
  rcases hc with rfl
  · exact ⟨RX0, TX0, 18, RX0, rfl, inX0, by decide, wd157, Or.inl rfl⟩
theorem fi_RX11_172 : FI RX11 172 [1, 2, 3, 4, 6, 8, 10] [8] := by
  refine ⟨RX8, wd689, fun c hc => ?_⟩
  simp only [List.mem_cons, List.not_mem_nil, or_false] at hc
  rcases hc with rfl | rfl | rfl | rfl | rfl | rfl | rfl
  · exact ⟨(RX1, TX1, 2), rfl, Or.inr ⟨by decide, by decide +kernel⟩⟩
  · exact ⟨(RX2, TX2, 2), rfl, Or.inr ⟨by decide, by decide +kernel⟩⟩
  · exact ⟨(RX3, TX3, 2), rfl, Or.inr ⟨by decide, by decide +kernel⟩⟩
  · exact ⟨(RX4, TX4, 2), rfl, Or.inr ⟨by decide, by decide +kernel⟩⟩
  · exact ⟨(RX6, TX6, 2), rfl, Or.inr ⟨by decide, by decide +kernel⟩⟩
  · exact ⟨(RX8, TX8, 2), rfl, Or.inl ⟨by decide, Or.inl rfl⟩⟩
  · exact ⟨(RX10, TX10, 2), rfl, Or.inr ⟨by decide, by decide +kernel⟩⟩
theorem fl_RX11_174 : FL RX11 174 [0] 13 := by
  intro c hc
  simp only [List.mem_cons, List.not_mem_nil, or_false] at hc
  rcases hc with rfl
  · exact ⟨RX0, TX0, 18, RX0, rfl, inX0, by decide, wd152, Or.inl rfl⟩
theorem fl_RX11_177 : FL RX11 177 [0] 14 := by
  intro c hc
  simp only [List.mem_cons, List.not_mem_nil, or_false] at hc
  rcases hc with rfl
  · exact ⟨RX0, TX0, 18, RX0, rfl, inX0, by decide, wd155, Or.inl rfl⟩
theorem vu_RX11_184_1 : VU RX11 184 0 1 mX6_daysAhead := ⟨_, rfl, yX6_daysAhead, RX6, ⟨_, _, _, wd736⟩, wd736, wd89, wd725, wd728, wd724, ⟨wd727, wd725⟩, by decide +kernel, rfl, by decide, rfl, rfl⟩
theorem vu_RX11_184_2 : VU RX11 184 0 2 mX6_daysAhead := ⟨_, rfl, yX6_daysAhead, RX6, ⟨_, _, _, wd736⟩, wd736, wd89, wd725, wd729, wd724, ⟨wd727, wd725⟩, by decide +kernel, rfl, by decide, rfl, rfl⟩
theorem vu_RX11_184_3 : VU RX11 184 0 3 mX6_daysAhead := ⟨_, rfl, yX6_daysAhead, RX6, ⟨_, _, _, wd736⟩, wd736, wd89, wd725, wd730, wd724, ⟨wd727, wd725⟩, by decide +kernel, rfl, by decide, rfl, rfl⟩
theorem vu_RX11_184_4 : VU RX11 184 0 4 mX4_daysAhead := ⟨_, rfl, yX6_daysAhead, RX6, ⟨_, _, _, wd736⟩, wd733, wd90, wd732, wd731, wd724, ⟨wd727, wd725⟩, by decide +kernel, rfl, by decide, rfl, rfl⟩
theorem vu_RX11_184_6 : VU RX11 184 0 6 mX6_daysAhead := ⟨_, rfl, yX6_daysAhead, RX6, ⟨_, _, _, wd736⟩, wd736, wd89, wd725, wd726, wd724, ⟨wd727, wd725⟩, by decide +kernel, rfl, by decide, rfl, rfl⟩
theorem vu_RX11_184_8 : VU RX11 184 0 8 mX6_daysAhead := ⟨_, rfl, yX6_daysAhead, RX6, ⟨_, _, _, wd736⟩, wd736, wd89, wd725, wd734, wd724, ⟨wd727, wd725⟩, by decide +kernel, rfl, by decide, rfl, rfl⟩
theorem vu_RX11_184_10 : VU RX11 184 0 10 mX6_daysAhead := ⟨_, rfl, yX6_daysAhead, RX6, ⟨_, _, _, wd736⟩, wd736, wd89, wd725, wd735, wd724, ⟨wd727, wd725⟩, by decide +kernel, rfl, by decide, rfl, rfl⟩
theorem fl_RX11_43 : FL RX11 43 [11] 5 := by
  intro c hc
  simp only [List.mem_cons, List.not_mem_nil, or_false] at hc
  rcases hc with rfl
  · exact ⟨RX11, TX11, 7, RX11, rfl, inX11, by decide, wd301, Or.inl rfl⟩
theorem vu_RX11_295_1 : VU RX11 295 3 1 mX10_chosen := ⟨_, rfl, yX6_chosen, RX6, ⟨_, _, _, wd782⟩, wd748, wd91, wd747, wd746, wd742, ⟨wd745, wd743⟩, by decide +kernel, rfl, by decide, rfl, rfl⟩
theorem vu_RX11_295_2 : VU RX11 295 3 2 mX6_chosen := ⟨_, rfl, yX6_chosen, RX6, ⟨_, _, _, wd782⟩, wd782, wd89, wd743, wd761, wd742, ⟨wd745, wd743⟩, by decide +kernel, rfl, by decide, rfl, rfl⟩
theorem vu_RX11_295_3 : VU RX11 295 3 3 mX6_chosen := ⟨_, rfl, yX6_chosen, RX6, ⟨_, _, _, wd782⟩, wd782, wd89, wd743, wd762, wd742, ⟨wd745, wd743⟩, by decide +kernel, rfl, by decide, rfl, rfl⟩
theorem vu_RX11_295_4 : VU RX11 295 3 4 mX6_chosen := ⟨_, rfl, yX6_chosen, RX6, ⟨_, _, _, wd782⟩, wd782, wd89, wd743, wd763, wd742, ⟨wd745, wd743⟩, by decide +kernel, rfl, by decide, rfl, rfl⟩
theorem vu_RX11_295_6 : VU RX11 295 3 6 mX6_chosen := ⟨_, rfl, yX6_chosen, RX6, ⟨_, _, _, wd782⟩, wd782, wd89, wd743, wd744, wd742, ⟨wd745, wd743⟩, by decide +kernel, rfl, by decide, rfl, rfl⟩
theorem vu_RX11_295_8 : VU RX11 295 3 8 mX8_chosen := ⟨_, rfl, yX6_chosen, RX6, ⟨_, _, _, wd782⟩, wd766, wd95, wd765, wd764, wd742, ⟨wd745, wd743⟩, by decide +kernel, rfl, by decide, rfl, rfl⟩
theorem vu_RX11_295_10 : VU RX11 295 3 10 mX10_chosen := ⟨_, rfl, yX6_chosen, RX6, ⟨_, _, _, wd782⟩, wd748, wd91, wd747, wd781, wd742, ⟨wd745, wd743⟩, by decide +kernel, rfl, by decide, rfl, rfl⟩
theorem fl_RX11_39 : FL RX11 39 [11] 4 := by
  intro c hc
  simp only [List.mem_cons, List.not_mem_nil, or_false] at hc
  rcases hc with rfl
  · exact ⟨RX11, TX11, 7, RX11, rfl, inX11, by decide, wd300, Or.inl rfl⟩
theorem fl_RX11_201 : FL RX11 201 [9] 9 := by
  intro c hc
  simp only [List.mem_cons, List.not_mem_nil, or_false] at hc
  rcases hc with rfl
  · exact ⟨RX9, TX9, 11, RX9, rfl, inX9, by decide, wd270, Or.inl rfl⟩
theorem fl_RX11_229 : FL RX11 229 [9] 10 := by
  intro c hc
  simp only [List.mem_cons, List.not_mem_nil, or_false] at hc
  rcases hc with rfl
  · exact ⟨RX9, TX9, 11, RX9, rfl, inX9, by decide, wd272, Or.inl rfl⟩
theorem fl_RX11_47 : FL RX11 47 [11] 6 := by
  intro c hc
  simp only [List.mem_cons, List.not_mem_nil, or_false] at hc
  rcases hc with rfl
  · exact ⟨RX11, TX11, 7, RX11, rfl, inX11, by decide, wd302, Or.inl rfl⟩
theorem vu_RX11_253_1 : VU RX11 253 2 1 mX6_means := ⟨_, rfl, yX6_means, RX6, ⟨_, _, _, wd995⟩, wd995, wd89, wd974, wd977, wd973, ⟨wd976, wd974⟩, by decide +kernel, rfl, by decide, rfl, rfl⟩
theorem vu_RX11_253_2 : VU RX11 253 2 2 mX6_means := ⟨_, rfl, yX6_means, RX6, ⟨_, _, _, wd995⟩, wd995, wd89, wd974, wd978, wd973, ⟨wd976, wd974⟩, by decide +kernel, rfl, by decide, rfl, rfl⟩
theorem vu_RX11_253_3 : VU RX11 253 2 3 mX6_means := ⟨_, rfl, yX6_means, RX6, ⟨_, _, _, wd995⟩, wd995, wd89, wd974, wd979, wd973, ⟨wd976, wd974⟩, by decide +kernel, rfl, by decide, rfl, rfl⟩
theorem vu_RX11_253_4 : VU RX11 253 2 4 mX4_means := ⟨_, rfl, yX6_means, RX6, ⟨_, _, _, wd995⟩, wd982, wd90, wd981, wd980, wd973, ⟨wd976, wd974⟩, by decide +kernel, rfl, by decide, rfl, rfl⟩
theorem vu_RX11_253_6 : VU RX11 253 2 6 mX6_means := ⟨_, rfl, yX6_means, RX6, ⟨_, _, _, wd995⟩, wd995, wd89, wd974, wd975, wd973, ⟨wd976, wd974⟩, by decide +kernel, rfl, by decide, rfl, rfl⟩
theorem vu_RX11_253_8 : VU RX11 253 2 8 mX8_means := ⟨_, rfl, yX6_means, RX6, ⟨_, _, _, wd995⟩, wd990, wd95, wd989, wd988, wd973, ⟨wd976, wd974⟩, by decide +kernel, rfl, by decide, rfl, rfl⟩
theorem vu_RX11_253_10 : VU RX11 253 2 10 mX6_means := ⟨_, rfl, yX6_means, RX6, ⟨_, _, _, wd995⟩, wd995, wd89, wd974, wd994, wd973, ⟨wd976, wd974⟩, by decide +kernel, rfl, by decide, rfl, rfl⟩
theorem vu_RX11_257_1 : VU RX11 257 2 1 mX10_rows := ⟨_, rfl, yX6_rows, RX6, ⟨_, _, _, wd1019⟩, wd1003, wd91, wd1002, wd1001, wd997, ⟨wd1000, wd998⟩, by decide +kernel, rfl, by decide, rfl, rfl⟩
theorem vu_RX11_257_2 : VU RX11 257 2 2 mX2_rows := ⟨_, rfl, yX6_rows, RX6, ⟨_, _, _, wd1019⟩, wd1009, wd94, wd1008, wd1007, wd997, ⟨wd1000, wd998⟩, by decide +kernel, rfl, by decide, rfl, rfl⟩
theorem vu_RX11_257_3 : VU RX11 257 2 3 mX6_rows := ⟨_, rfl, yX6_rows, RX6, ⟨_, _, _, wd1019⟩, wd1019, wd89, wd998, wd1015, wd997, ⟨wd1000, wd998⟩, by decide +kernel, rfl, by decide, rfl, rfl⟩
theorem vu_RX11_257_4 : VU RX11 257 2 4 mX6_rows := ⟨_, rfl, yX6_rows, RX6, ⟨_, _, _, wd1019⟩, wd1019, wd89, wd998, wd1016, wd997, ⟨wd1000, wd998⟩, by decide +kernel, rfl, by decide, rfl, rfl⟩
theorem vu_RX11_257_6 : VU RX11 257 2 6 mX6_rows := ⟨_, rfl, yX6_rows, RX6, ⟨_, _, _, wd1019⟩, wd1019, wd89, wd998, wd999, wd997, ⟨wd1000, wd998⟩, by decide +kernel, rfl, by decide, rfl, rfl⟩
theorem vu_RX11_257_8 : VU RX11 257 2 8 mX6_rows := ⟨_, rfl, yX6_rows, RX6, ⟨_, _, _, wd1019⟩, wd1019, wd89, wd998, wd1017, wd997, ⟨wd1000, wd998⟩, by decide +kernel, rfl, by decide, rfl, rfl⟩
theorem vu_RX11_257_10 : VU RX11 257 2 10 mX10_rows := ⟨_, rfl, yX6_rows, RX6, ⟨_, _, _, wd1019⟩, wd1003, wd91, wd1002, wd1018, wd997, ⟨wd1000, wd998⟩, by decide +kernel, rfl, by decide, rfl, rfl⟩
theorem vu_RX11_259_1 : VU RX11 259 2 1 mX1_ends := ⟨_, rfl, yX6_ends, RX6, ⟨_, _, _, wd1047⟩, wd1027, wd93, wd1026, wd1025, wd1021, ⟨wd1024, wd1022⟩, by decide +kernel, rfl, by decide, rfl, rfl⟩
theorem vu_RX11_259_2 : VU RX11 259 2 2 mX3_ends := ⟨_, rfl, yX6_ends, RX6, ⟨_, _, _, wd1047⟩, wd1039, wd92, wd1038, wd1037, wd1021, ⟨wd1024, wd1022⟩, by decide +kernel, rfl, by decide, rfl, rfl⟩
theorem vu_RX11_259_3 : VU RX11 259 2 3 mX3_ends := ⟨_, rfl, yX6_ends, RX6, ⟨_, _, _, wd1047⟩, wd1039, wd92, wd1038, wd1043, wd1021, ⟨wd1024, wd1022⟩, by decide +kernel, rfl, by decide, rfl, rfl⟩
theorem vu_RX11_259_4 : VU RX11 259 2 4 mX6_ends := ⟨_, rfl, yX6_ends, RX6, ⟨_, _, _, wd1047⟩, wd1047, wd89, wd1022, wd1044, wd1021, ⟨wd1024, wd1022⟩, by decide +kernel, rfl, by decide, rfl, rfl⟩
theorem vu_RX11_259_6 : VU RX11 259 2 6 mX6_ends := ⟨_, rfl, yX6_ends, RX6, ⟨_, _, _, wd1047⟩, wd1047, wd89, wd1022, wd1023, wd1021, ⟨wd1024, wd1022⟩, by decide +kernel, rfl, by decide, rfl, rfl⟩
theorem vu_RX11_259_8 : VU RX11 259 2 8 mX6_ends := ⟨_, rfl, yX6_ends, RX6, ⟨_, _, _, wd1047⟩, wd1047, wd89, wd1022, wd1045, wd1021, ⟨wd1024, wd1022⟩, by decide +kernel, rfl, by decide, rfl, rfl⟩
theorem vu_RX11_259_10 : VU RX11 259 2 10 mX6_ends := ⟨_, rfl, yX6_ends, RX6, ⟨_, _, _, wd1047⟩, wd1047, wd89, wd1022, wd1046, wd1021, ⟨wd1024, wd1022⟩, by decide +kernel, rfl, by decide, rfl, rfl⟩
theorem fi_RX11_276 : FI RX11 276 [1, 2, 3, 4, 6, 8, 10] [4] := by
  refine ⟨RX4, wd624, fun c hc => ?_⟩
  simp only [List.mem_cons, List.not_mem_nil, or_false] at hc
  rcases hc with rfl | rfl | rfl | rfl | rfl | rfl | rfl
  · exact ⟨(RX1, TX1, 2), rfl, Or.inr ⟨by decide, by decide +kernel⟩⟩
  · exact ⟨(RX2, TX2, 2), rfl, Or.inr ⟨by decide, by decide +kernel⟩⟩
  · exact ⟨(RX3, TX3, 2), rfl, Or.inr ⟨by decide, by decide +kernel⟩⟩
  · exact ⟨(RX4, TX4, 2), rfl, Or.inl ⟨by decide, Or.inl rfl⟩⟩
  · exact ⟨(RX6, TX6, 2), rfl, Or.inr ⟨by decide, by decide +kernel⟩⟩
  · exact ⟨(RX8, TX8, 2), rfl, Or.inr ⟨by decide, by decide +kernel⟩⟩
  · exact ⟨(RX10, TX10, 2), rfl, Or.inr ⟨by decide, by decide +kernel⟩⟩
theorem fi_RX11_281 : FI RX11 281 [1, 2, 3, 4, 6, 8, 10] [1, 10] := by
  refine ⟨RX10, wd653, fun c hc => ?_⟩
  simp only [List.mem_cons, List.not_mem_nil, or_false] at hc
  rcases hc with rfl | rfl | rfl | rfl | rfl | rfl | rfl
  · exact ⟨(RX1, TX1, 2), rfl, Or.inl ⟨by decide, Or.inr (by decide +kernel)⟩⟩
  · exact ⟨(RX2, TX2, 2), rfl, Or.inr ⟨by decide, by decide +kernel⟩⟩
  · exact ⟨(RX3, TX3, 2), rfl, Or.inr ⟨by decide, by decide +kernel⟩⟩
  · exact ⟨(RX4, TX4, 2), rfl, Or.inr ⟨by decide, by decide +kernel⟩⟩
  · exact ⟨(RX6, TX6, 2), rfl, Or.inr ⟨by decide, by decide +kernel⟩⟩
  · exact ⟨(RX8, TX8, 2), rfl, Or.inr ⟨by decide, by decide +kernel⟩⟩
  · exact ⟨(RX10, TX10, 2), rfl, Or.inl ⟨by decide, Or.inl rfl⟩⟩
theorem fi_RX11_284 : FI RX11 284 [1, 2, 3, 4, 6, 8, 10] [2, 3] := by
  refine ⟨RX3, wd662, fun c hc => ?_⟩
  simp only [List.mem_cons, List.not_mem_nil, or_false] at hc
  rcases hc with rfl | rfl | rfl | rfl | rfl | rfl | rfl
  · exact ⟨(RX1, TX1, 2), rfl, Or.inr ⟨by decide, by decide +kernel⟩⟩
  · exact ⟨(RX2, TX2, 2), rfl, Or.inl ⟨by decide, Or.inr (by decide +kernel)⟩⟩
  · exact ⟨(RX3, TX3, 2), rfl, Or.inl ⟨by decide, Or.inl rfl⟩⟩
  · exact ⟨(RX4, TX4, 2), rfl, Or.inr ⟨by decide, by decide +kernel⟩⟩
  · exact ⟨(RX6, TX6, 2), rfl, Or.inr ⟨by decide, by decide +kernel⟩⟩
  · exact ⟨(RX8, TX8, 2), rfl, Or.inr ⟨by decide, by decide +kernel⟩⟩
  · exact ⟨(RX10, TX10, 2), rfl, Or.inr ⟨by decide, by decide +kernel⟩⟩
theorem fi_RX11_287 : FI RX11 287 [1, 2, 3, 4, 6, 8, 10] [1] := by
  refine ⟨RX1, wd671, fun c hc => ?_⟩
  simp only [List.mem_cons, List.not_mem_nil, or_false] at hc
  rcases hc with rfl | rfl | rfl | rfl | rfl | rfl | rfl
  · exact ⟨(RX1, TX1, 2), rfl, Or.inl ⟨by decide, Or.inl rfl⟩⟩
  · exact ⟨(RX2, TX2, 2), rfl, Or.inr ⟨by decide, by decide +kernel⟩⟩
  · exact ⟨(RX3, TX3, 2), rfl, Or.inr ⟨by decide, by decide +kernel⟩⟩
  · exact ⟨(RX4, TX4, 2), rfl, Or.inr ⟨by decide, by decide +kernel⟩⟩
  · exact ⟨(RX6, TX6, 2), rfl, Or.inr ⟨by decide, by decide +kernel⟩⟩
  · exact ⟨(RX8, TX8, 2), rfl, Or.inr ⟨by decide, by decide +kernel⟩⟩
  · exact ⟨(RX10, TX10, 2), rfl, Or.inr ⟨by decide, by decide +kernel⟩⟩
theorem fi_RX11_290 : FI RX11 290 [1, 2, 3, 4, 6, 8, 10] [2] := by
  refine ⟨RX2, wd680, fun c hc => ?_⟩
  simp only [List.mem_cons, List.not_mem_nil, or_false] at hc
  rcases hc with rfl | rfl | rfl | rfl | rfl | rfl | rfl
  · exact ⟨(RX1, TX1, 2), rfl, Or.inr ⟨by decide, by decide +kernel⟩⟩
  · exact ⟨(RX2, TX2, 2), rfl, Or.inl ⟨by decide, Or.inl rfl⟩⟩
  · exact ⟨(RX3, TX3, 2), rfl, Or.inr ⟨by decide, by decide +kernel⟩⟩
  · exact ⟨(RX4, TX4, 2), rfl, Or.inr ⟨by decide, by decide +kernel⟩⟩
  · exact ⟨(RX6, TX6, 2), rfl, Or.inr ⟨by decide, by decide +kernel⟩⟩
  · exact ⟨(RX8, TX8, 2), rfl, Or.inr ⟨by decide, by decide +kernel⟩⟩
  · exact ⟨(RX10, TX10, 2), rfl, Or.inr ⟨by decide, by decide +kernel⟩⟩
theorem fl_RX11_268 : FL RX11 268 [1, 2, 3, 4, 6, 8, 10] 1 := by
  intro c hc
  simp only [List.mem_cons, List.not_mem_nil, or_false] at hc
  rcases hc with rfl | rfl | rfl | rfl | rfl | rfl | rfl
  · exact ⟨RX1, TX1, 2, RX6, rfl, inX1, by decide, wd647, Or.inl rfl⟩
  · exact ⟨RX2, TX2, 2, RX6, rfl, inX2, by decide, wd647, Or.inl rfl⟩
  · exact ⟨RX3, TX3, 2, RX6, rfl, inX3, by decide, wd647, Or.inl rfl⟩
  · exact ⟨RX4, TX4, 2, RX6, rfl, inX4, by decide, wd647, Or.inl rfl⟩
  · exact ⟨RX6, TX6, 2, RX6, rfl, inX6, by decide, wd647, Or.inl rfl⟩
  · exact ⟨RX8, TX8, 2, RX6, rfl, inX8, by decide, wd647, Or.inl rfl⟩
  · exact ⟨RX10, TX10, 2, RX6, rfl, inX10, by decide, wd647, Or.inl rfl⟩
theorem fl_RX11_18 : FL RX11 18 [11] 1 := by
  intro c hc
  simp only [List.mem_cons, List.not_mem_nil, or_false] at hc
  rcases hc with rfl
  · exact ⟨RX11, TX11, 7, RX11, rfl, inX11, by decide, wd297, Or.inl rfl⟩
theorem fl_RX11_21 : FL RX11 21 [11] 2 := by
  intro c hc
  simp only [List.mem_cons, List.not_mem_nil, or_false] at hc
  rcases hc with rfl
  · exact ⟨RX11, TX11, 7, RX11, rfl, inX11, by decide, wd298, Or.inl rfl⟩
theorem fp_RX12_9 : FP RX12 9 [12] 1 (.array .int) true := by
  intro c hc
  simp only [List.mem_cons, List.not_mem_nil, or_false] at hc
  rcases hc with rfl
  · exact ⟨RX12, TX12, 34, RX12, tyX12, rfl, inX12, tyX12_ok, nmX12, by decide, wd1088, Or.inl rfl, rfl, by decide +kernel, fun _ => rfl⟩
theorem fp_RX12_15 : FP RX12 15 [12] 2 (.array .int) true := by
  intro c hc
  simp only [List.mem_cons, List.not_mem_nil, or_false] at hc
  rcases hc with rfl
  · exact ⟨RX12, TX12, 34, RX12, tyX12, rfl, inX12, tyX12_ok, nmX12, by decide, wd1089, Or.inl rfl, rfl, by decide +kernel, fun _ => rfl⟩
theorem fp_RX12_18 : FP RX12 18 [12] 9 (.array .boolean) true := by
  intro c hc
  simp only [List.mem_cons, List.not_mem_nil, or_false] at hc
  rcases hc with rfl
  · exact ⟨RX12, TX12, 34, RX12, tyX12, rfl, inX12, tyX12_ok, nmX12, by decide, wd1096, Or.inl rfl, rfl, by decide +kernel, fun _ => rfl⟩
theorem fp_RX12_22 : FP RX12 22 [12] 10 .int false := by
  intro c hc
  simp only [List.mem_cons, List.not_mem_nil, or_false] at hc
  rcases hc with rfl
  · exact ⟨RX12, TX12, 34, RX12, tyX12, rfl, inX12, tyX12_ok, nmX12, by decide, wd1097, Or.inl rfl, rfl, by decide +kernel, fun q => by cases q⟩
theorem fp_RX12_26 : FP RX12 26 [12] 12 (.array .int) true := by
  intro c hc
  simp only [List.mem_cons, List.not_mem_nil, or_false] at hc
  rcases hc with rfl
  · exact ⟨RX12, TX12, 34, RX12, tyX12, rfl, inX12, tyX12_ok, nmX12, by decide, wd1099, Or.inl rfl, rfl, by decide +kernel, fun _ => rfl⟩
theorem fp_RX12_29 : FP RX12 29 [12] 13 (.array .int) true := by
  intro c hc
  simp only [List.mem_cons, List.not_mem_nil, or_false] at hc
  rcases hc with rfl
  · exact ⟨RX12, TX12, 34, RX12, tyX12, rfl, inX12, tyX12_ok, nmX12, by decide, wd1100, Or.inl rfl, rfl, by decide +kernel, fun _ => rfl⟩
theorem fp_RX12_32 : FP RX12 32 [12] 14 (.array .long) true := by
  intro c hc
  simp only [List.mem_cons, List.not_mem_nil, or_false] at hc
  rcases hc with rfl
  · exact ⟨RX12, TX12, 34, RX12, tyX12, rfl, inX12, tyX12_ok, nmX12, by decide, wd1101, Or.inl rfl, rfl, by decide +kernel, fun _ => rfl⟩
theorem fp_RX12_36 : FP RX12 36 [12] 15 (.array .long) true := by
  intro c hc
  simp only [List.mem_cons, List.not_mem_nil, or_false] at hc
  rcases hc with rfl
  · exact ⟨RX12, TX12, 34, RX12, tyX12, rfl, inX12, tyX12_ok, nmX12, by decide, wd1102, Or.inl rfl, rfl, by decide +kernel, fun _ => rfl⟩
theorem fp_RX12_39 : FP RX12 39 [12] 16 (.array .long) true := by
  intro c hc
  simp only [List.mem_cons, List.not_mem_nil, or_false] at hc
  rcases hc with rfl
  · exact ⟨RX12, TX12, 34, RX12, tyX12, rfl, inX12, tyX12_ok, nmX12, by decide, wd1103, Or.inl rfl, rfl, by decide +kernel, fun _ => rfl⟩
theorem fp_RX12_42 : FP RX12 42 [12] 17 (.array .int) true := by
  intro c hc
  simp only [List.mem_cons, List.not_mem_nil, or_false] at hc
  rcases hc with rfl
  · exact ⟨RX12, TX12, 34, RX12, tyX12, rfl, inX12, tyX12_ok, nmX12, by decide, wd1104, Or.inl rfl, rfl, by decide +kernel, fun _ => rfl⟩
theorem fp_RX12_45 : FP RX12 45 [12] 21 (.array .int) true := by
  intro c hc
  simp only [List.mem_cons, List.not_mem_nil, or_false] at hc
  rcases hc with rfl
  · exact ⟨RX12, TX12, 34, RX12, tyX12, rfl, inX12, tyX12_ok, nmX12, by decide, wd1108, Or.inl rfl, rfl, by decide +kernel, fun _ => rfl⟩
theorem fp_RX12_48 : FP RX12 48 [12] 22 (.array .int) true := by
  intro c hc
  simp only [List.mem_cons, List.not_mem_nil, or_false] at hc
  rcases hc with rfl
  · exact ⟨RX12, TX12, 34, RX12, tyX12, rfl, inX12, tyX12_ok, nmX12, by decide, wd1109, Or.inl rfl, rfl, by decide +kernel, fun _ => rfl⟩
theorem fp_RX12_51 : FP RX12 51 [12] 23 (.array .int) true := by
  intro c hc
  simp only [List.mem_cons, List.not_mem_nil, or_false] at hc
  rcases hc with rfl
  · exact ⟨RX12, TX12, 34, RX12, tyX12, rfl, inX12, tyX12_ok, nmX12, by decide, wd1110, Or.inl rfl, rfl, by decide +kernel, fun _ => rfl⟩
theorem fp_RX12_54 : FP RX12 54 [12] 24 (.array .int) true := by
  intro c hc
  simp only [List.mem_cons, List.not_mem_nil, or_false] at hc
  rcases hc with rfl
  · exact ⟨RX12, TX12, 34, RX12, tyX12, rfl, inX12, tyX12_ok, nmX12, by decide, wd1111, Or.inl rfl, rfl, by decide +kernel, fun _ => rfl⟩
theorem fp_RX12_57 : FP RX12 57 [12] 27 (.array .long) true := by
  intro c hc
  simp only [List.mem_cons, List.not_mem_nil, or_false] at hc
  rcases hc with rfl
  · exact ⟨RX12, TX12, 34, RX12, tyX12, rfl, inX12, tyX12_ok, nmX12, by decide, wd1114, Or.inl rfl, rfl, by decide +kernel, fun _ => rfl⟩
theorem fp_RX12_60 : FP RX12 60 [12] 28 (.array .int) true := by
  intro c hc
  simp only [List.mem_cons, List.not_mem_nil, or_false] at hc
  rcases hc with rfl
  · exact ⟨RX12, TX12, 34, RX12, tyX12, rfl, inX12, tyX12_ok, nmX12, by decide, wd1115, Or.inl rfl, rfl, by decide +kernel, fun _ => rfl⟩
theorem fp_RX12_63 : FP RX12 63 [12] 29 (.array .int) true := by
  intro c hc
  simp only [List.mem_cons, List.not_mem_nil, or_false] at hc
  rcases hc with rfl
  · exact ⟨RX12, TX12, 34, RX12, tyX12, rfl, inX12, tyX12_ok, nmX12, by decide, wd1116, Or.inl rfl, rfl, by decide +kernel, fun _ => rfl⟩
theorem fl_RX12_9 : FL RX12 9 [12] 1 := by
  intro c hc
  simp only [List.mem_cons, List.not_mem_nil, or_false] at hc
  rcases hc with rfl
  · exact ⟨RX12, TX12, 34, RX12, rfl, inX12, by decide, wd1088, Or.inl rfl⟩
theorem fl_RX12_75 : FL RX12 75 [12] 5 := by
  intro c hc
  simp only [List.mem_cons, List.not_mem_nil, or_false] at hc
  rcases hc with rfl
  · exact ⟨RX12, TX12, 34, RX12, rfl, inX12, by decide, wd1092, Or.inl rfl⟩
theorem fl_RX12_78 : FL RX12 78 [12] 6 := by
  intro c hc
  simp only [List.mem_cons, List.not_mem_nil, or_false] at hc
  rcases hc with rfl
  · exact ⟨RX12, TX12, 34, RX12, rfl, inX12, by decide, wd1093, Or.inl rfl⟩
theorem fp_RX12_75 : FP RX12 75 [12] 5 .int false := by
  intro c hc
  simp only [List.mem_cons, List.not_mem_nil, or_false] at hc
  rcases hc with rfl
  · exact ⟨RX12, TX12, 34, RX12, tyX12, rfl, inX12, tyX12_ok, nmX12, by decide, wd1092, Or.inl rfl, rfl, by decide +kernel, fun q => by cases q⟩
theorem fp_RX12_81 : FP RX12 81 [12] 7 .boolean false := by
  intro c hc
  simp only [List.mem_cons, List.not_mem_nil, or_false] at hc
  rcases hc with rfl
  · exact ⟨RX12, TX12, 34, RX12, tyX12, rfl, inX12, tyX12_ok, nmX12, by decide, wd1094, Or.inl rfl, rfl, by decide +kernel, fun q => by cases q⟩
theorem fl_RX12_81 : FL RX12 81 [12] 7 := by
  intro c hc
  simp only [List.mem_cons, List.not_mem_nil, or_false] at hc
  rcases hc with rfl
  · exact ⟨RX12, TX12, 34, RX12, rfl, inX12, by decide, wd1094, Or.inl rfl⟩
theorem fl_RX12_102 : FL RX12 102 [12] 4 := by
  intro c hc
  simp only [List.mem_cons, List.not_mem_nil, or_false] at hc
  rcases hc with rfl
  · exact ⟨RX12, TX12, 34, RX12, rfl, inX12, by decide, wd1091, Or.inl rfl⟩
theorem fl_RX12_105 : FL RX12 105 [12] 8 := by
  intro c hc
  simp only [List.mem_cons, List.not_mem_nil, or_false] at hc
  rcases hc with rfl
  · exact ⟨RX12, TX12, 34, RX12, rfl, inX12, by decide, wd1095, Or.inl rfl⟩
theorem fp_RX12_105 : FP RX12 105 [12] 8 .int false := by
  intro c hc
  simp only [List.mem_cons, List.not_mem_nil, or_false] at hc
  rcases hc with rfl
  · exact ⟨RX12, TX12, 34, RX12, tyX12, rfl, inX12, tyX12_ok, nmX12, by decide, wd1095, Or.inl rfl, rfl, by decide +kernel, fun q => by cases q⟩
theorem fp_RX12_102 : FP RX12 102 [12] 4 .int false := by
  intro c hc
  simp only [List.mem_cons, List.not_mem_nil, or_false] at hc
  rcases hc with rfl
  · exact ⟨RX12, TX12, 34, RX12, tyX12, rfl, inX12, tyX12_ok, nmX12, by decide, wd1091, Or.inl rfl, rfl, by decide +kernel, fun q => by cases q⟩
theorem fp_RX12_78 : FP RX12 78 [12] 6 .int false := by
  intro c hc
  simp only [List.mem_cons, List.not_mem_nil, or_false] at hc
  rcases hc with rfl
  · exact ⟨RX12, TX12, 34, RX12, tyX12, rfl, inX12, tyX12_ok, nmX12, by decide, wd1093, Or.inl rfl, rfl, by decide +kernel, fun q => by cases q⟩
theorem fl_RX12_18 : FL RX12 18 [12] 9 := by
  intro c hc
  simp only [List.mem_cons, List.not_mem_nil, or_false] at hc
  rcases hc with rfl
  · exact ⟨RX12, TX12, 34, RX12, rfl, inX12, by decide, wd1096, Or.inl rfl⟩
theorem fl_RX12_22 : FL RX12 22 [12] 10 := by
  intro c hc
  simp only [List.mem_cons, List.not_mem_nil, or_false] at hc
  rcases hc with rfl
  · exact ⟨RX12, TX12, 34, RX12, rfl, inX12, by decide, wd1097, Or.inl rfl⟩
theorem fl_RX12_161 : FL RX12 161 [12] 11 := by
  intro c hc
  simp only [List.mem_cons, List.not_mem_nil, or_false] at hc
  rcases hc with rfl
  · exact ⟨RX12, TX12, 34, RX12, rfl, inX12, by decide, wd1098, Or.inl rfl⟩
theorem fl_RX12_26 : FL RX12 26 [12] 12 := by
  intro c hc
  simp only [List.mem_cons, List.not_mem_nil, or_false] at hc
  rcases hc with rfl
  · exact ⟨RX12, TX12, 34, RX12, rfl, inX12, by decide, wd1099, Or.inl rfl⟩
theorem fl_RX12_29 : FL RX12 29 [12] 13 := by
  intro c hc
  simp only [List.mem_cons, List.not_mem_nil, or_false] at hc
  rcases hc with rfl
  · exact ⟨RX12, TX12, 34, RX12, rfl, inX12, by decide, wd1100, Or.inl rfl⟩
theorem fp_RX12_187 : FP RX12 187 [12] 19 .int false := by
  intro c hc
  simp only [List.mem_cons, List.not_mem_nil, or_false] at hc
  rcases hc with rfl
  · exact ⟨RX12, TX12, 34, RX12, tyX12, rfl, inX12, tyX12_ok, nmX12, by decide, wd1106, Or.inl rfl, rfl, by decide +kernel, fun q => by cases q⟩
theorem fl_RX12_32 : FL RX12 32 [12] 14 := by
  intro c hc
  simp only [List.mem_cons, List.not_mem_nil, or_false] at hc
  rcases hc with rfl
  · exact ⟨RX12, TX12, 34, RX12, rfl, inX12, by decide, wd1101, Or.inl rfl⟩
theorem fl_RX12_42 : FL RX12 42 [12] 17 := by
  intro c hc
  simp only [List.mem_cons, List.not_mem_nil, or_false] at hc
  rcases hc with rfl
  · exact ⟨RX12, TX12, 34, RX12, rfl, inX12, by decide, wd1104, Or.inl rfl⟩
theorem fl_RX12_190 : FL RX12 190 [12] 18 := by
  intro c hc
  simp only [List.mem_cons, List.not_mem_nil, or_false] at hc
  rcases hc with rfl
  · exact ⟨RX12, TX12, 34, RX12, rfl, inX12, by decide, wd1105, Or.inl rfl⟩
theorem fl_RX12_187 : FL RX12 187 [12] 19 := by
  intro c hc
  simp only [List.mem_cons, List.not_mem_nil, or_false] at hc
  rcases hc with rfl
  · exact ⟨RX12, TX12, 34, RX12, rfl, inX12, by decide, wd1106, Or.inl rfl⟩
theorem fl_RX12_197 : FL RX12 197 [12] 20 := by
  intro c hc
  simp only [List.mem_cons, List.not_mem_nil, or_false] at hc
  rcases hc with rfl
  · exact ⟨RX12, TX12, 34, RX12, rfl, inX12, by decide, wd1107, Or.inl rfl⟩
theorem fl_RX12_36 : FL RX12 36 [12] 15 := by
  intro c hc
  simp only [List.mem_cons, List.not_mem_nil, or_false] at hc
  rcases hc with rfl
  · exact ⟨RX12, TX12, 34, RX12, rfl, inX12, by decide, wd1102, Or.inl rfl⟩
theorem fl_RX12_39 : FL RX12 39 [12] 16 := by
  intro c hc
  simp only [List.mem_cons, List.not_mem_nil, or_false] at hc
  rcases hc with rfl
  · exact ⟨RX12, TX12, 34, RX12, rfl, inX12, by decide, wd1103, Or.inl rfl⟩
theorem fp_RX12_197 : FP RX12 197 [12] 20 .int false := by
  intro c hc
  simp only [List.mem_cons, List.not_mem_nil, or_false] at hc
  rcases hc with rfl
  · exact ⟨RX12, TX12, 34, RX12, tyX12, rfl, inX12, tyX12_ok, nmX12, by decide, wd1107, Or.inl rfl, rfl, by decide +kernel, fun q => by cases q⟩
theorem fp_RX12_190 : FP RX12 190 [12] 18 .int false := by
  intro c hc
  simp only [List.mem_cons, List.not_mem_nil, or_false] at hc
  rcases hc with rfl
  · exact ⟨RX12, TX12, 34, RX12, tyX12, rfl, inX12, tyX12_ok, nmX12, by decide, wd1105, Or.inl rfl, rfl, by decide +kernel, fun q => by cases q⟩
theorem fl_RX12_45 : FL RX12 45 [12] 21 := by
  intro c hc
  simp only [List.mem_cons, List.not_mem_nil, or_false] at hc
  rcases hc with rfl
  · exact ⟨RX12, TX12, 34, RX12, rfl, inX12, by decide, wd1108, Or.inl rfl⟩
theorem fl_RX12_244 : FL RX12 244 [12] 25 := by
  intro c hc
  simp only [List.mem_cons, List.not_mem_nil, or_false] at hc
  rcases hc with rfl
  · exact ⟨RX12, TX12, 34, RX12, rfl, inX12, by decide, wd1112, Or.inl rfl⟩
theorem fl_RX12_54 : FL RX12 54 [12] 24 := by
  intro c hc
  simp only [List.mem_cons, List.not_mem_nil, or_false] at hc
  rcases hc with rfl
  · exact ⟨RX12, TX12, 34, RX12, rfl, inX12, by decide, wd1111, Or.inl rfl⟩
theorem fl_RX12_48 : FL RX12 48 [12] 22 := by
  intro c hc
  simp only [List.mem_cons, List.not_mem_nil, or_false] at hc
  rcases hc with rfl
  · exact ⟨RX12, TX12, 34, RX12, rfl, inX12, by decide, wd1109, Or.inl rfl⟩
theorem fl_RX12_51 : FL RX12 51 [12] 23 := by
  intro c hc
  simp only [List.mem_cons, List.not_mem_nil, or_false] at hc
  rcases hc with rfl
  · exact ⟨RX12, TX12, 34, RX12, rfl, inX12, by decide, wd1110, Or.inl rfl⟩
theorem fp_RX12_258 : FP RX12 258 [12] 26 .int false := by
  intro c hc
  simp only [List.mem_cons, List.not_mem_nil, or_false] at hc
  rcases hc with rfl
  · exact ⟨RX12, TX12, 34, RX12, tyX12, rfl, inX12, tyX12_ok, nmX12, by decide, wd1113, Or.inl rfl, rfl, by decide +kernel, fun q => by cases q⟩
theorem fp_RX12_244 : FP RX12 244 [12] 25 .int false := by
  intro c hc
  simp only [List.mem_cons, List.not_mem_nil, or_false] at hc
  rcases hc with rfl
  · exact ⟨RX12, TX12, 34, RX12, tyX12, rfl, inX12, tyX12_ok, nmX12, by decide, wd1112, Or.inl rfl, rfl, by decide +kernel, fun q => by cases q⟩
theorem fl_RX12_258 : FL RX12 258 [12] 26 := by
  intro c hc
  simp only [List.mem_cons, List.not_mem_nil, or_false] at hc
  rcases hc with rfl
  · exact ⟨RX12, TX12, 34, RX12, rfl, inX12, by decide, wd1113, Or.inl rfl⟩
theorem fl_RX12_57 : FL RX12 57 [12] 27 := by
  intro c hc
  simp only [List.mem_cons, List.not_mem_nil, or_false] at hc
  rcases hc with rfl
  · exact ⟨RX12, TX12, 34, RX12, rfl, inX12, by decide, wd1114, Or.inl rfl⟩
theorem fl_RX12_60 : FL RX12 60 [12] 28 := by
  intro c hc
  simp only [List.mem_cons, List.not_mem_nil, or_false] at hc
  rcases hc with rfl
  · exact ⟨RX12, TX12, 34, RX12, rfl, inX12, by decide, wd1115, Or.inl rfl⟩
theorem fp_RX12_161 : FP RX12 161 [12] 11 .int false := by
  intro c hc
  simp only [List.mem_cons, List.not_mem_nil, or_false] at hc
  rcases hc with rfl
  · exact ⟨RX12, TX12, 34, RX12, tyX12, rfl, inX12, tyX12_ok, nmX12, by decide, wd1098, Or.inl rfl, rfl, by decide +kernel, fun q => by cases q⟩
theorem fl_RX12_295 : FL RX12 295 [12] 30 := by
  intro c hc
  simp only [List.mem_cons, List.not_mem_nil, or_false] at hc
  rcases hc with rfl
  · exact ⟨RX12, TX12, 34, RX12, rfl, inX12, by decide, wd1117, Or.inl rfl⟩
theorem fp_RX12_295 : FP RX12 295 [12] 30 .int false := by
  intro c hc
  simp only [List.mem_cons, List.not_mem_nil, or_false] at hc
  rcases hc with rfl
  · exact ⟨RX12, TX12, 34, RX12, tyX12, rfl, inX12, tyX12_ok, nmX12, by decide, wd1117, Or.inl rfl, rfl, by decide +kernel, fun q => by cases q⟩
theorem fl_RX12_63 : FL RX12 63 [12] 29 := by
  intro c hc
  simp only [List.mem_cons, List.not_mem_nil, or_false] at hc
  rcases hc with rfl
  · exact ⟨RX12, TX12, 34, RX12, rfl, inX12, by decide, wd1116, Or.inl rfl⟩
theorem fl_RX12_301 : FL RX12 301 [12] 32 := by
  intro c hc
  simp only [List.mem_cons, List.not_mem_nil, or_false] at hc
  rcases hc with rfl
  · exact ⟨RX12, TX12, 34, RX12, rfl, inX12, by decide, wd1119, Or.inl rfl⟩
theorem fl_RX12_304 : FL RX12 304 [12] 31 := by
  intro c hc
  simp only [List.mem_cons, List.not_mem_nil, or_false] at hc
  rcases hc with rfl
  · exact ⟨RX12, TX12, 34, RX12, rfl, inX12, by decide, wd1118, Or.inl rfl⟩
theorem fl_RX12_310 : FL RX12 310 [12] 33 := by
  intro c hc
  simp only [List.mem_cons, List.not_mem_nil, or_false] at hc
  rcases hc with rfl
  · exact ⟨RX12, TX12, 34, RX12, rfl, inX12, by decide, wd1120, Or.inl rfl⟩
theorem fp_RX12_304 : FP RX12 304 [12] 31 .int false := by
  intro c hc
  simp only [List.mem_cons, List.not_mem_nil, or_false] at hc
  rcases hc with rfl
  · exact ⟨RX12, TX12, 34, RX12, tyX12, rfl, inX12, tyX12_ok, nmX12, by decide, wd1118, Or.inl rfl, rfl, by decide +kernel, fun q => by cases q⟩
theorem fp_RX12_301 : FP RX12 301 [12] 32 .int false := by
  intro c hc
  simp only [List.mem_cons, List.not_mem_nil, or_false] at hc
  rcases hc with rfl
  · exact ⟨RX12, TX12, 34, RX12, tyX12, rfl, inX12, tyX12_ok, nmX12, by decide, wd1119, Or.inl rfl, rfl, by decide +kernel, fun q => by cases q⟩
theorem fp_RX12_310 : FP RX12 310 [12] 33 .int false := by
  intro c hc
  simp only [List.mem_cons, List.not_mem_nil, or_false] at hc
  rcases hc with rfl
  · exact ⟨RX12, TX12, 34, RX12, tyX12, rfl, inX12, tyX12_ok, nmX12, by decide, wd1120, Or.inl rfl, rfl, by decide +kernel, fun q => by cases q⟩
theorem fp_RX12_331 : FP RX12 331 [12] 3 .boolean false := by
  intro c hc
  simp only [List.mem_cons, List.not_mem_nil, or_false] at hc
  rcases hc with rfl
  · exact ⟨RX12, TX12, 34, RX12, tyX12, rfl, inX12, tyX12_ok, nmX12, by decide, wd1090, Or.inl rfl, rfl, by decide +kernel, fun q => by cases q⟩
theorem fl_RX12_15 : FL RX12 15 [12] 2 := by
  intro c hc
  simp only [List.mem_cons, List.not_mem_nil, or_false] at hc
  rcases hc with rfl
  · exact ⟨RX12, TX12, 34, RX12, rfl, inX12, by decide, wd1089, Or.inl rfl⟩
theorem fl_RX12_331 : FL RX12 331 [12] 3 := by
  intro c hc
  simp only [List.mem_cons, List.not_mem_nil, or_false] at hc
  rcases hc with rfl
  · exact ⟨RX12, TX12, 34, RX12, rfl, inX12, by decide, wd1090, Or.inl rfl⟩
