def e_X0_init : pm_E := (yX0_init, cX0_init, 1, none, { frames := 1, cells := 1, slots := 64, locals := 20 })
def e_X0_isThere : pm_E := (yX0_isThere, cX0_isThere, 1, (some .boolean), { frames := 0, cells := 0, slots := 0, locals := 0 })
def e_X0_begin : pm_E := (yX0_begin, cX0_begin, 2, none, { frames := 1, cells := 0, slots := 0, locals := 23 })
def e_X0_hasBytes : pm_E := (yX0_hasBytes, cX0_hasBytes, 3, (some .boolean), { frames := 0, cells := 0, slots := 0, locals := 0 })
def e_X0_misfitsIn : pm_E := (yX0_misfitsIn, cX0_misfitsIn, 4, (some .int), { frames := 3, cells := 0, slots := 0, locals := 66 })
def e_X0_numbersThere : pm_E := (yX0_numbersThere, cX0_numbersThere, 4, (some .long), { frames := 1, cells := 0, slots := 0, locals := 20 })
def e_X0_mendingSwap : pm_E := (yX0_mendingSwap, cX0_mendingSwap, 5, (some .int), { frames := 5, cells := 0, slots := 0, locals := 113 })
def e_X0_partsInto : pm_E := (yX0_partsInto, cX0_partsInto, 4, (some .boolean), { frames := 1, cells := 0, slots := 0, locals := 23 })
def e_X0_isMendedBy : pm_E := (yX0_isMendedBy, cX0_isMendedBy, 5, (some .boolean), { frames := 4, cells := 0, slots := 0, locals := 89 })
def e_X0_changePlaces : pm_E := (yX0_changePlaces, cX0_changePlaces, 4, none, { frames := 0, cells := 0, slots := 0, locals := 0 })
def e_X0_isMisfit : pm_E := (yX0_isMisfit, cX0_isMisfit, 3, (some .boolean), { frames := 2, cells := 0, slots := 0, locals := 44 })
def e_X0_isMisfitPair : pm_E := (yX0_isMisfitPair, cX0_isMisfitPair, 3, (some .boolean), { frames := 1, cells := 0, slots := 0, locals := 22 })
def e_X1_init : pm_E := (yX1_init, cX1_init, 1, none, { frames := 1, cells := 0, slots := 0, locals := 20 })
def e_X1_tell : pm_E := (yX1_tell, cX1_tell, 2, (some .int), { frames := 0, cells := 0, slots := 0, locals := 0 })
def e_X1_castLine : pm_E := (yX1_castLine, cX1_castLine, 2, (some .int), { frames := 0, cells := 0, slots := 0, locals := 0 })
def e_X1_weigh : pm_E := (yX1_weigh, cX1_weigh, 2, none, { frames := 2, cells := 0, slots := 0, locals := 46 })
def e_X2_init : pm_E := (yX2_init, cX2_init, 1, none, { frames := 2, cells := 0, slots := 0, locals := 40 })
def e_X2_tell : pm_E := (yX2_tell, cX2_tell, 2, (some .int), { frames := 0, cells := 0, slots := 0, locals := 0 })
def e_X2_castLine : pm_E := (yX2_castLine, cX2_castLine, 3, (some .int), { frames := 1, cells := 0, slots := 0, locals := 21 })
def e_X2_weigh : pm_E := (yX2_weigh, cX2_weigh, 2, none, { frames := 2, cells := 0, slots := 0, locals := 46 })
def e_X3_init : pm_E := (yX3_init, cX3_init, 1, none, { frames := 1, cells := 1, slots := 6, locals := 23 })
def e_X3_bits : pm_E := (yX3_bits, cX3_bits, 3, (some .int), { frames := 0, cells := 0, slots := 0, locals := 0 })
def e_X3_oldLines : pm_E := (yX3_oldLines, cX3_oldLines, 3, (some .int), { frames := 1, cells := 0, slots := 0, locals := 20 })
def e_X3_become : pm_E := (yX3_become, cX3_become, 2, none, { frames := 1, cells := 0, slots := 0, locals := 60 })
def e_X3_castBy : pm_E := (yX3_castBy, cX3_castBy, 5, (some .boolean), { frames := 3, cells := 0, slots := 0, locals := 68 })
def e_X3_becomeAfter : pm_E := (yX3_becomeAfter, cX3_becomeAfter, 4, none, { frames := 1, cells := 0, slots := 0, locals := 20 })
def e_X3_changed : pm_E := (yX3_changed, cX3_changed, 1, (some .int), { frames := 0, cells := 0, slots := 0, locals := 0 })
def e_X4_init : pm_E := (yX4_init, cX4_init, 1, none, { frames := 1, cells := 3, slots := 153, locals := 20 })
def e_X4_begin : pm_E := (yX4_begin, cX4_begin, 3, none, { frames := 1, cells := 0, slots := 0, locals := 24 })
def e_X4_beginBundle : pm_E := (yX4_beginBundle, cX4_beginBundle, 2, none, { frames := 2, cells := 0, slots := 0, locals := 46 })
def e_X4_partsInto : pm_E := (yX4_partsInto, cX4_partsInto, 3, none, { frames := 0, cells := 0, slots := 0, locals := 0 })
def e_X5_init : pm_E := (yX5_init, cX5_init, 1, none, { frames := 1, cells := 0, slots := 0, locals := 20 })
def e_X5_begin : pm_E := (yX5_begin, cX5_begin, 3, none, { frames := 0, cells := 0, slots := 0, locals := 0 })
def e_X5_nextBelow : pm_E := (yX5_nextBelow, cX5_nextBelow, 2, (some .int), { frames := 0, cells := 0, slots := 0, locals := 0 })
def e_X6_init : pm_E := (yX6_init, cX6_init, 4, none, { frames := 2, cells := 0, slots := 0, locals := 40 })
def e_X6_tell : pm_E := (yX6_tell, cX6_tell, 2, (some .int), { frames := 1, cells := 0, slots := 0, locals := 20 })
def e_X6_kind : pm_E := (yX6_kind, cX6_kind, 1, (some .int), { frames := 0, cells := 0, slots := 0, locals := 0 })
def e_X6_firstPlace : pm_E := (yX6_firstPlace, cX6_firstPlace, 2, (some .int), { frames := 0, cells := 0, slots := 0, locals := 0 })
def e_X6_lastPlace : pm_E := (yX6_lastPlace, cX6_lastPlace, 2, (some .int), { frames := 0, cells := 0, slots := 0, locals := 0 })
def e_X6_placesOf : pm_E := (yX6_placesOf, cX6_placesOf, 2, (some .int), { frames := 1, cells := 0, slots := 0, locals := 21 })
def e_X6_placesAtFirst : pm_E := (yX6_placesAtFirst, cX6_placesAtFirst, 1, (some .int), { frames := 2, cells := 0, slots := 0, locals := 42 })
def e_X6_lineOf : pm_E := (yX6_lineOf, cX6_lineOf, 2, (some .int), { frames := 0, cells := 0, slots := 0, locals := 0 })
def e_X6_leftOf : pm_E := (yX6_leftOf, cX6_leftOf, 4, (some .int), { frames := 1, cells := 0, slots := 0, locals := 22 })
def e_X6_partedAt : pm_E := (yX6_partedAt, cX6_partedAt, 3, (some .int), { frames := 2, cells := 0, slots := 0, locals := 45 })
def e_X6_castLine : pm_E := (yX6_castLine, cX6_castLine, 4, (some .int), { frames := 2, cells := 0, slots := 0, locals := 45 })
def e_X6_weigh : pm_E := (yX6_weigh, cX6_weigh, 2, none, { frames := 5, cells := 0, slots := 0, locals := 123 })
def e_X6_weighBundle : pm_E := (yX6_weighBundle, cX6_weighBundle, 5, none, { frames := 4, cells := 0, slots := 0, locals := 99 })
def e_X6_partHeaps : pm_E := (yX6_partHeaps, cX6_partHeaps, 5, none, { frames := 3, cells := 0, slots := 0, locals := 75 })
def e_X6_sharesOf : pm_E := (yX6_sharesOf, cX6_sharesOf, 5, (some .long), { frames := 2, cells := 0, slots := 0, locals := 42 })
def e_X6_partHeap : pm_E := (yX6_partHeap, cX6_partHeap, 11, none, { frames := 2, cells := 0, slots := 0, locals := 45 })
def e_X6_rest : pm_E := (yX6_rest, cX6_rest, 3, (some .int), { frames := 0, cells := 0, slots := 0, locals := 0 })
def e_X7_init : pm_E := (yX7_init, cX7_init, 6, none, { frames := 3, cells := 0, slots := 0, locals := 63 })
def e_X7_kind : pm_E := (yX7_kind, cX7_kind, 1, (some .int), { frames := 0, cells := 0, slots := 0, locals := 0 })
def e_X7_firstPlace : pm_E := (yX7_firstPlace, cX7_firstPlace, 2, (some .int), { frames := 0, cells := 0, slots := 0, locals := 0 })
def e_X7_lastPlace : pm_E := (yX7_lastPlace, cX7_lastPlace, 2, (some .int), { frames := 0, cells := 0, slots := 0, locals := 0 })
def e_X8_init : pm_E := (yX8_init, cX8_init, 1, none, { frames := 1, cells := 4, slots := 256, locals := 20 })
def e_X8_find : pm_E := (yX8_find, cX8_find, 5, (some .int), { frames := 3, cells := 0, slots := 0, locals := 70 })
def e_X8_actAt : pm_E := (yX8_actAt, cX8_actAt, 2, (some .int), { frames := 0, cells := 0, slots := 0, locals := 0 })
def e_X8_meetAll : pm_E := (yX8_meetAll, cX8_meetAll, 8, none, { frames := 2, cells := 0, slots := 0, locals := 43 })
def e_X8_after : pm_E := (yX8_after, cX8_after, 2, (some .int), { frames := 1, cells := 0, slots := 0, locals := 22 })
def e_X9_init : pm_E := (yX9_init, cX9_init, 2, none, { frames := 2, cells := 42, slots := 836, locals := 43 })
def e_X9_caster : pm_E := (yX9_caster, cX9_caster, 2, (some .int), { frames := 3, cells := 1, slots := 0, locals := 60 })
def e_X9_stalks : pm_E := (yX9_stalks, cX9_stalks, 4, (some .int), { frames := 3, cells := 1, slots := 3, locals := 63 })
def e_X9_thumb : pm_E := (yX9_thumb, cX9_thumb, 6, (some .int), { frames := 4, cells := 1, slots := 5, locals := 88 })
def e_X9_told : pm_E := (yX9_told, cX9_told, 4, (some .int), { frames := 2, cells := 0, slots := 0, locals := 41 })
def e_X9_mark : pm_E := (yX9_mark, cX9_mark, 5, (some .int), { frames := 3, cells := 0, slots := 0, locals := 62 })
def e_X9_part : pm_E := (yX9_part, cX9_part, 7, (some .int), { frames := 3, cells := 0, slots := 0, locals := 67 })
def e_X9_line : pm_E := (yX9_line, cX9_line, 10, (some .int), { frames := 3, cells := 0, slots := 0, locals := 67 })
def e_X9_odds : pm_E := (yX9_odds, cX9_odds, 4, (some .int), { frames := 6, cells := 0, slots := 0, locals := 144 })
def e_X9_mean : pm_E := (yX9_mean, cX9_mean, 6, (some .int), { frames := 6, cells := 0, slots := 0, locals := 144 })
def e_X9_drawn : pm_E := (yX9_drawn, cX9_drawn, 5, (some .int), { frames := 3, cells := 0, slots := 0, locals := 68 })
def e_X9_set : pm_E := (yX9_set, cX9_set, 6, (some .int), { frames := 1, cells := 0, slots := 0, locals := 21 })
def e_X9_get : pm_E := (yX9_get, cX9_get, 4, (some .int), { frames := 1, cells := 0, slots := 0, locals := 21 })
def e_X9_draw : pm_E := (yX9_draw, cX9_draw, 7, (some .int), { frames := 4, cells := 0, slots := 0, locals := 92 })
def e_X9_number : pm_E := (yX9_number, cX9_number, 3, (some .int), { frames := 1, cells := 0, slots := 0, locals := 22 })
def e_X9_act : pm_E := (yX9_act, cX9_act, 6, (some .int), { frames := 2, cells := 0, slots := 0, locals := 81 })
def e_X9_way : pm_E := (yX9_way, cX9_way, 4, (some .int), { frames := 4, cells := 0, slots := 0, locals := 94 })
def e_X9_step : pm_E := (yX9_step, cX9_step, 2, (some .int), { frames := 1, cells := 0, slots := 0, locals := 21 })
def e_X9_row : pm_E := (yX9_row, cX9_row, 4, (some .int), { frames := 2, cells := 0, slots := 0, locals := 44 })
def e_X9_lay : pm_E := (yX9_lay, cX9_lay, 6, (some .int), { frames := 1, cells := 0, slots := 0, locals := 21 })
def e_X9_tear : pm_E := (yX9_tear, cX9_tear, 3, (some .int), { frames := 1, cells := 0, slots := 0, locals := 21 })
def e_X9_copy : pm_E := (yX9_copy, cX9_copy, 8, (some .int), { frames := 1, cells := 0, slots := 0, locals := 60 })
def e_X9_misfits : pm_E := (yX9_misfits, cX9_misfits, 4, (some .int), { frames := 4, cells := 0, slots := 0, locals := 89 })
def e_X9_follows : pm_E := (yX9_follows, cX9_follows, 7, (some .int), { frames := 4, cells := 0, slots := 0, locals := 89 })
def e_X9_lacks : pm_E := (yX9_lacks, cX9_lacks, 3, (some .int), { frames := 2, cells := 0, slots := 0, locals := 43 })
def e_X9_swapped : pm_E := (yX9_swapped, cX9_swapped, 4, (some .int), { frames := 6, cells := 0, slots := 0, locals := 137 })
def e_X9_record : pm_E := (yX9_record, cX9_record, 9, (some .int), { frames := 3, cells := 0, slots := 0, locals := 68 })
def e_X9_off : pm_E := (yX9_off, cX9_off, 5, (some .int), { frames := 7, cells := 0, slots := 0, locals := 165 })
def e_X9_nearest : pm_E := (yX9_nearest, cX9_nearest, 7, (some .int), { frames := 7, cells := 0, slots := 0, locals := 165 })
def e_X9_lost : pm_E := (yX9_lost, cX9_lost, 10, (some .int), { frames := 5, cells := 0, slots := 0, locals := 123 })
def e_X9_need : pm_E := (yX9_need, cX9_need, 6, (some .int), { frames := 7, cells := 0, slots := 0, locals := 165 })
def e_X9_asked : pm_E := (yX9_asked, cX9_asked, 1, (some .long), { frames := 0, cells := 0, slots := 0, locals := 0 })
def e_X9_upper : pm_E := (yX9_upper, cX9_upper, 1, (some .long), { frames := 0, cells := 0, slots := 0, locals := 0 })
def e_X9_lower : pm_E := (yX9_lower, cX9_lower, 1, (some .long), { frames := 0, cells := 0, slots := 0, locals := 0 })
def e_X9_count : pm_E := (yX9_count, cX9_count, 2, (some .int), { frames := 3, cells := 0, slots := 0, locals := 64 })
def e_X9_finding : pm_E := (yX9_finding, cX9_finding, 1, (some .int), { frames := 0, cells := 0, slots := 0, locals := 0 })
def e_X9_findings : pm_E := (yX9_findings, cX9_findings, 2, (some .int), { frames := 0, cells := 0, slots := 0, locals := 0 })
def e_X9_digest : pm_E := (yX9_digest, cX9_digest, 5, (some .long), { frames := 3, cells := 0, slots := 0, locals := 64 })
def e_X9_found : pm_E := (yX9_found, cX9_found, 2, (some .int), { frames := 0, cells := 0, slots := 0, locals := 0 })
def e_X9_keep : pm_E := (yX9_keep, cX9_keep, 3, (some .int), { frames := 0, cells := 0, slots := 0, locals := 0 })
def e_X9_casterAt : pm_E := (yX9_casterAt, cX9_casterAt, 2, (some (.object "StalkRoom$Caster")), { frames := 0, cells := 0, slots := 0, locals := 0 })
def e_X9_figureAt : pm_E := (yX9_figureAt, cX9_figureAt, 2, (some (.object "StalkRoom$Figure")), { frames := 0, cells := 0, slots := 0, locals := 0 })
def e_X9_rowAt : pm_E := (yX9_rowAt, cX9_rowAt, 2, (some (.object "StalkRoom$ByteRow")), { frames := 0, cells := 0, slots := 0, locals := 0 })
def e_X9_rowsThere : pm_E := (yX9_rowsThere, cX9_rowsThere, 3, (some .int), { frames := 1, cells := 0, slots := 0, locals := 20 })
def e_X9_oldLinesOfAll : pm_E := (yX9_oldLinesOfAll, cX9_oldLinesOfAll, 3, (some .int), { frames := 2, cells := 0, slots := 0, locals := 42 })
def e_X9_tellFraction : pm_E := (yX9_tellFraction, cX9_tellFraction, 7, none, { frames := 1, cells := 0, slots := 0, locals := 26 })
def e_X9_offOf : pm_E := (yX9_offOf, cX9_offOf, 2, (some .int), { frames := 6, cells := 0, slots := 0, locals := 144 })
def e_X9_weighedDiffer : pm_E := (yX9_weighedDiffer, cX9_weighedDiffer, 3, (some .int), { frames := 1, cells := 0, slots := 0, locals := 22 })
def e_X9_commonDivisor : pm_E := (yX9_commonDivisor, cX9_commonDivisor, 7, (some .long), { frames := 0, cells := 0, slots := 0, locals := 0 })
def e_X9_asStalks : pm_E := (yX9_asStalks, cX9_asStalks, 2, (some (.object "StalkRoom$Stalks")), { frames := 0, cells := 0, slots := 0, locals := 0 })
def e_X9_isBundle : pm_E := (yX9_isBundle, cX9_isBundle, 2, (some .boolean), { frames := 0, cells := 0, slots := 0, locals := 0 })
def e_X9_isNumber : pm_E := (yX9_isNumber, cX9_isNumber, 1, (some .boolean), { frames := 0, cells := 0, slots := 0, locals := 0 })
def e_X9_isOrder : pm_E := (yX9_isOrder, cX9_isOrder, 1, (some .boolean), { frames := 0, cells := 0, slots := 0, locals := 0 })
def e_X9_isOld : pm_E := (yX9_isOld, cX9_isOld, 1, (some .boolean), { frames := 0, cells := 0, slots := 0, locals := 0 })
def e_X9_turnedBits : pm_E := (yX9_turnedBits, cX9_turnedBits, 3, (some .int), { frames := 0, cells := 0, slots := 0, locals := 0 })
def e_X9_oppositeBits : pm_E := (yX9_oppositeBits, cX9_oppositeBits, 1, (some .int), { frames := 0, cells := 0, slots := 0, locals := 0 })
def e_X9_nestedBits : pm_E := (yX9_nestedBits, cX9_nestedBits, 1, (some .int), { frames := 0, cells := 0, slots := 0, locals := 0 })
def e_X10_init : pm_E := (yX10_init, cX10_init, 2, none, { frames := 1, cells := 23, slots := 971, locals := 20 })
def e_X10_in : pm_E := (yX10_in, cX10_in, 3, (some .boolean), { frames := 0, cells := 0, slots := 0, locals := 0 })
def e_X10_meets : pm_E := (yX10_meets, cX10_meets, 2, (some .int), { frames := 0, cells := 0, slots := 0, locals := 0 })
def e_X10_divisor : pm_E := (yX10_divisor, cX10_divisor, 10, (some .long), { frames := 0, cells := 0, slots := 0, locals := 0 })
def e_X10_tell : pm_E := (yX10_tell, cX10_tell, 7, (some .int), { frames := 1, cells := 0, slots := 0, locals := 29 })
def e_X10_put : pm_E := (yX10_put, cX10_put, 7, (some .int), { frames := 0, cells := 0, slots := 0, locals := 0 })
def e_X10_caster : pm_E := (yX10_caster, cX10_caster, 2, (some .int), { frames := 1, cells := 0, slots := 0, locals := 26 })
def e_X10_areStalks : pm_E := (yX10_areStalks, cX10_areStalks, 2, (some .boolean), { frames := 1, cells := 0, slots := 0, locals := 22 })
def e_X10_stalks : pm_E := (yX10_stalks, cX10_stalks, 4, (some .int), { frames := 2, cells := 0, slots := 0, locals := 43 })
def e_X10_thumb : pm_E := (yX10_thumb, cX10_thumb, 6, (some .int), { frames := 2, cells := 0, slots := 0, locals := 43 })
def e_X10_isCaster : pm_E := (yX10_isCaster, cX10_isCaster, 2, (some .boolean), { frames := 1, cells := 0, slots := 0, locals := 22 })
def e_X10_parts : pm_E := (yX10_parts, cX10_parts, 2, (some .boolean), { frames := 0, cells := 0, slots := 0, locals := 0 })
def e_X10_tells : pm_E := (yX10_tells, cX10_tells, 3, (some .int), { frames := 1, cells := 0, slots := 0, locals := 21 })
def e_X10_told : pm_E := (yX10_told, cX10_told, 3, (some .int), { frames := 2, cells := 0, slots := 0, locals := 43 })
def e_X10_rest : pm_E := (yX10_rest, cX10_rest, 2, (some .int), { frames := 0, cells := 0, slots := 0, locals := 0 })
def e_X10_left : pm_E := (yX10_left, cX10_left, 5, (some .int), { frames := 1, cells := 0, slots := 0, locals := 21 })
def e_X10_first : pm_E := (yX10_first, cX10_first, 3, (some .int), { frames := 0, cells := 0, slots := 0, locals := 0 })
def e_X10_places : pm_E := (yX10_places, cX10_places, 4, (some .int), { frames := 1, cells := 0, slots := 0, locals := 22 })
def e_X10_mark : pm_E := (yX10_mark, cX10_mark, 3, (some .int), { frames := 2, cells := 0, slots := 0, locals := 45 })
def e_X10_part : pm_E := (yX10_part, cX10_part, 4, (some .int), { frames := 2, cells := 0, slots := 0, locals := 45 })
def e_X10_line : pm_E := (yX10_line, cX10_line, 8, (some .int), { frames := 2, cells := 0, slots := 0, locals := 45 })
def e_X10_add : pm_E := (yX10_add, cX10_add, 17, none, { frames := 1, cells := 0, slots := 0, locals := 29 })
def e_X10_clearOdds : pm_E := (yX10_clearOdds, cX10_clearOdds, 2, none, { frames := 0, cells := 0, slots := 0, locals := 0 })
def e_X10_setOdds : pm_E := (yX10_setOdds, cX10_setOdds, 4, none, { frames := 3, cells := 0, slots := 0, locals := 92 })
def e_X10_partAll : pm_E := (yX10_partAll, cX10_partAll, 8, none, { frames := 2, cells := 0, slots := 0, locals := 65 })
def e_X10_odds : pm_E := (yX10_odds, cX10_odds, 3, (some .int), { frames := 4, cells := 0, slots := 0, locals := 115 })
def e_X10_mean : pm_E := (yX10_mean, cX10_mean, 3, (some .int), { frames := 4, cells := 0, slots := 0, locals := 115 })
def e_X10_under : pm_E := (yX10_under, cX10_under, 2, (some .int), { frames := 0, cells := 0, slots := 0, locals := 0 })
def e_X10_draws : pm_E := (yX10_draws, cX10_draws, 4, (some .int), { frames := 2, cells := 0, slots := 0, locals := 45 })
def e_X10_drawn : pm_E := (yX10_drawn, cX10_drawn, 4, (some .int), { frames := 3, cells := 0, slots := 0, locals := 68 })
def e_X10_isFigure : pm_E := (yX10_isFigure, cX10_isFigure, 1, (some .boolean), { frames := 1, cells := 0, slots := 0, locals := 22 })
def e_X10_set : pm_E := (yX10_set, cX10_set, 5, (some .int), { frames := 2, cells := 0, slots := 0, locals := 42 })
def e_X10_get : pm_E := (yX10_get, cX10_get, 3, (some .int), { frames := 2, cells := 0, slots := 0, locals := 42 })
def e_X10_draw : pm_E := (yX10_draw, cX10_draw, 8, (some .int), { frames := 3, cells := 0, slots := 0, locals := 68 })
def e_X10_numberOf : pm_E := (yX10_numberOf, cX10_numberOf, 4, (some .int), { frames := 0, cells := 0, slots := 0, locals := 0 })
def e_X10_number : pm_E := (yX10_number, cX10_number, 2, (some .int), { frames := 2, cells := 0, slots := 0, locals := 42 })
def e_X10_nestedAt : pm_E := (yX10_nestedAt, cX10_nestedAt, 1, (some .int), { frames := 0, cells := 0, slots := 0, locals := 0 })
def e_X10_act : pm_E := (yX10_act, cX10_act, 6, (some .int), { frames := 2, cells := 0, slots := 0, locals := 42 })
def e_X10_turned : pm_E := (yX10_turned, cX10_turned, 3, (some .int), { frames := 0, cells := 0, slots := 0, locals := 0 })
def e_X10_after : pm_E := (yX10_after, cX10_after, 4, (some .int), { frames := 1, cells := 0, slots := 0, locals := 22 })
def e_X10_way : pm_E := (yX10_way, cX10_way, 8, (some .int), { frames := 2, cells := 0, slots := 0, locals := 45 })
def e_X10_step : pm_E := (yX10_step, cX10_step, 2, (some .int), { frames := 1, cells := 0, slots := 0, locals := 22 })
def e_X10_isRow : pm_E := (yX10_isRow, cX10_isRow, 1, (some .boolean), { frames := 1, cells := 0, slots := 0, locals := 22 })
def e_X10_looked : pm_E := (yX10_looked, cX10_looked, 2, (some .int), { frames := 2, cells := 0, slots := 0, locals := 42 })
def e_X10_row : pm_E := (yX10_row, cX10_row, 4, (some .int), { frames := 2, cells := 0, slots := 0, locals := 42 })
def e_X10_lay : pm_E := (yX10_lay, cX10_lay, 6, (some .int), { frames := 3, cells := 0, slots := 0, locals := 63 })
def e_X10_tear : pm_E := (yX10_tear, cX10_tear, 3, (some .int), { frames := 3, cells := 0, slots := 0, locals := 63 })
def e_X10_copy : pm_E := (yX10_copy, cX10_copy, 7, (some .int), { frames := 2, cells := 0, slots := 0, locals := 42 })
def e_X10_leaf : pm_E := (yX10_leaf, cX10_leaf, 3, (some .int), { frames := 0, cells := 0, slots := 0, locals := 0 })
def e_X10_misfitsOf : pm_E := (yX10_misfitsOf, cX10_misfitsOf, 8, (some .int), { frames := 1, cells := 0, slots := 0, locals := 22 })
def e_X10_misfits : pm_E := (yX10_misfits, cX10_misfits, 4, (some .int), { frames := 3, cells := 0, slots := 0, locals := 63 })
def e_X10_follows : pm_E := (yX10_follows, cX10_follows, 5, (some .int), { frames := 3, cells := 0, slots := 0, locals := 63 })
def e_X10_lacks : pm_E := (yX10_lacks, cX10_lacks, 8, (some .int), { frames := 3, cells := 0, slots := 0, locals := 63 })
def e_X10_swap : pm_E := (yX10_swap, cX10_swap, 5, none, { frames := 0, cells := 0, slots := 0, locals := 0 })
def e_X10_swapped : pm_E := (yX10_swapped, cX10_swapped, 7, (some .int), { frames := 3, cells := 0, slots := 0, locals := 63 })
def e_X10_record : pm_E := (yX10_record, cX10_record, 7, (some .int), { frames := 3, cells := 0, slots := 0, locals := 68 })
def e_X10_counts : pm_E := (yX10_counts, cX10_counts, 4, (some .boolean), { frames := 1, cells := 0, slots := 0, locals := 22 })
def e_X10_setShares : pm_E := (yX10_setShares, cX10_setShares, 7, none, { frames := 4, cells := 0, slots := 0, locals := 115 })
def e_X10_offOf : pm_E := (yX10_offOf, cX10_offOf, 5, (some .int), { frames := 5, cells := 0, slots := 0, locals := 141 })
def e_X10_off : pm_E := (yX10_off, cX10_off, 4, (some .int), { frames := 6, cells := 0, slots := 0, locals := 165 })
def e_X10_nearest : pm_E := (yX10_nearest, cX10_nearest, 7, (some .int), { frames := 6, cells := 0, slots := 0, locals := 165 })
def e_X10_lost : pm_E := (yX10_lost, cX10_lost, 9, (some .int), { frames := 6, cells := 0, slots := 0, locals := 165 })
def e_X10_need : pm_E := (yX10_need, cX10_need, 5, (some .int), { frames := 5, cells := 0, slots := 0, locals := 141 })
def e_X10_asked : pm_E := (yX10_asked, cX10_asked, 1, (some .long), { frames := 0, cells := 0, slots := 0, locals := 0 })
def e_X10_upper : pm_E := (yX10_upper, cX10_upper, 1, (some .long), { frames := 0, cells := 0, slots := 0, locals := 0 })
def e_X10_lower : pm_E := (yX10_lower, cX10_lower, 1, (some .long), { frames := 0, cells := 0, slots := 0, locals := 0 })
def e_X10_count : pm_E := (yX10_count, cX10_count, 4, (some .int), { frames := 1, cells := 0, slots := 0, locals := 22 })
def e_X10_finding : pm_E := (yX10_finding, cX10_finding, 1, (some .int), { frames := 0, cells := 0, slots := 0, locals := 0 })
def e_X10_findings : pm_E := (yX10_findings, cX10_findings, 2, (some .int), { frames := 1, cells := 0, slots := 0, locals := 22 })
def e_X10_digest : pm_E := (yX10_digest, cX10_digest, 5, (some .long), { frames := 2, cells := 0, slots := 0, locals := 43 })
def e_J13_bitCount_95d88 : pm_E := (yJ13_bitCount_95d88, cJ13_bitCount_95d88, 2, (some .int), { frames := 0, cells := 0, slots := 0, locals := 0 })
def e_J9_abs_0f7a4 : pm_E := (yJ9_abs_0f7a4, cJ9_abs_0f7a4, 1, (some .int), { frames := 0, cells := 0, slots := 0, locals := 0 })
def e_J7_fill_d0a16 : pm_E := (yJ7_fill_d0a16, cJ7_fill_d0a16, 5, none, { frames := 0, cells := 0, slots := 0, locals := 0 })
def e_J7_fill_53178 : pm_E := (yJ7_fill_53178, cJ7_fill_53178, 4, none, { frames := 0, cells := 0, slots := 0, locals := 0 })
def e_J7_fill_031fb : pm_E := (yJ7_fill_031fb, cJ7_fill_031fb, 4, none, { frames := 0, cells := 0, slots := 0, locals := 0 })
def e_L_law : pm_E := (x, code, 4, (some .boolean), { frames := 10, cells := 633982, slots := 7200303, locals := 402 })
theorem fit_X0_begin_J7_fill_031fb : pm_fit e_X0_begin e_J7_fill_031fb 2 := ⟨by decide +kernel, by decide +kernel, wm_565, wm_45, ⟨by decide +kernel, by decide +kernel⟩, by decide +kernel⟩
theorem fit_X0_misfitsIn_X0_isMisfit : pm_fit e_X0_misfitsIn e_X0_isMisfit 2 := ⟨by decide +kernel, by decide +kernel, wm_601, wm_49, ⟨by decide +kernel, by decide +kernel⟩, by decide +kernel⟩
theorem fit_X0_numbersThere_X9_isNumber : pm_fit e_X0_numbersThere e_X9_isNumber 1 := ⟨by decide +kernel, by decide +kernel, wm_520, wm_43, ⟨by decide +kernel, by decide +kernel⟩, by decide +kernel⟩
theorem fit_X0_mendingSwap_X0_misfitsIn : pm_fit e_X0_mendingSwap e_X0_misfitsIn 1 := ⟨by decide +kernel, by decide +kernel, wm_597, wm_49, ⟨by decide +kernel, by decide +kernel⟩, by decide +kernel⟩
theorem fit_X0_mendingSwap_X0_isMisfit : pm_fit e_X0_mendingSwap e_X0_isMisfit 2 := ⟨by decide +kernel, by decide +kernel, wm_601, wm_49, ⟨by decide +kernel, by decide +kernel⟩, by decide +kernel⟩
theorem fit_X0_mendingSwap_X0_isMendedBy : pm_fit e_X0_mendingSwap e_X0_isMendedBy 3 := ⟨by decide +kernel, by decide +kernel, wm_640, wm_49, ⟨by decide +kernel, by decide +kernel⟩, by decide +kernel⟩
theorem fit_X0_partsInto_J7_fill_53178 : pm_fit e_X0_partsInto e_J7_fill_53178 2 := ⟨by decide +kernel, by decide +kernel, wm_77, wm_45, ⟨by decide +kernel, by decide +kernel⟩, by decide +kernel⟩
theorem fit_X0_isMendedBy_X0_changePlaces : pm_fit e_X0_isMendedBy e_X0_changePlaces 2 := ⟨by decide +kernel, by decide +kernel, wm_644, wm_49, ⟨by decide +kernel, by decide +kernel⟩, by decide +kernel⟩
theorem fit_X0_isMendedBy_X0_misfitsIn : pm_fit e_X0_isMendedBy e_X0_misfitsIn 1 := ⟨by decide +kernel, by decide +kernel, wm_597, wm_49, ⟨by decide +kernel, by decide +kernel⟩, by decide +kernel⟩
theorem fit_X0_isMisfit_X0_isMisfitPair : pm_fit e_X0_isMisfit e_X0_isMisfitPair 1 := ⟨by decide +kernel, by decide +kernel, wm_605, wm_49, ⟨by decide +kernel, by decide +kernel⟩, by decide +kernel⟩
theorem fit_X0_isMisfit_X9_isNumber : pm_fit e_X0_isMisfit e_X9_isNumber 1 := ⟨by decide +kernel, by decide +kernel, wm_520, wm_43, ⟨by decide +kernel, by decide +kernel⟩, by decide +kernel⟩
theorem fit_X0_isMisfit_X9_turnedBits : pm_fit e_X0_isMisfit e_X9_turnedBits 1 := ⟨by decide +kernel, by decide +kernel, wm_535, wm_43, ⟨by decide +kernel, by decide +kernel⟩, by decide +kernel⟩
theorem fit_X0_isMisfitPair_X9_isNumber : pm_fit e_X0_isMisfitPair e_X9_isNumber 1 := ⟨by decide +kernel, by decide +kernel, wm_520, wm_43, ⟨by decide +kernel, by decide +kernel⟩, by decide +kernel⟩
theorem fit_X0_isMisfitPair_X9_turnedBits : pm_fit e_X0_isMisfitPair e_X9_turnedBits 1 := ⟨by decide +kernel, by decide +kernel, wm_535, wm_43, ⟨by decide +kernel, by decide +kernel⟩, by decide +kernel⟩
theorem fit_X0_isMisfitPair_X9_oppositeBits : pm_fit e_X0_isMisfitPair e_X9_oppositeBits 1 := ⟨by decide +kernel, by decide +kernel, wm_538, wm_43, ⟨by decide +kernel, by decide +kernel⟩, by decide +kernel⟩
theorem fit_X1_weigh_X4_begin : pm_fit e_X1_weigh e_X4_begin 1 := ⟨by decide +kernel, by decide +kernel, wm_385, wm_48, ⟨by decide +kernel, by decide +kernel⟩, by decide +kernel⟩
theorem fit_X2_init_X1_init : pm_fit e_X2_init e_X1_init 0 := ⟨by decide +kernel, by decide +kernel, wm_218, wm_51, ⟨by decide +kernel, by decide +kernel⟩, by decide +kernel⟩
theorem fit_X2_castLine_X5_nextBelow : pm_fit e_X2_castLine e_X5_nextBelow 1 := ⟨by decide +kernel, by decide +kernel, wm_453, wm_47, ⟨by decide +kernel, by decide +kernel⟩, by decide +kernel⟩
theorem fit_X2_weigh_X4_begin : pm_fit e_X2_weigh e_X4_begin 1 := ⟨by decide +kernel, by decide +kernel, wm_385, wm_48, ⟨by decide +kernel, by decide +kernel⟩, by decide +kernel⟩
theorem fit_X3_init_J7_fill_53178 : pm_fit e_X3_init e_J7_fill_53178 2 := ⟨by decide +kernel, by decide +kernel, wm_77, wm_45, ⟨by decide +kernel, by decide +kernel⟩, by decide +kernel⟩
theorem fit_X3_oldLines_X9_isOld : pm_fit e_X3_oldLines e_X9_isOld 1 := ⟨by decide +kernel, by decide +kernel, wm_494, wm_43, ⟨by decide +kernel, by decide +kernel⟩, by decide +kernel⟩
theorem fit_X3_castBy_X1_castLine : pm_fit e_X3_castBy e_X1_castLine 1 := ⟨by decide +kernel, by decide +kernel, wm_461, wm_51, ⟨by decide +kernel, by decide +kernel⟩, by decide +kernel⟩
theorem fit_X3_castBy_X2_castLine : pm_fit e_X3_castBy e_X2_castLine 1 := ⟨by decide +kernel, by decide +kernel, wm_449, wm_52, ⟨by decide +kernel, by decide +kernel⟩, by decide +kernel⟩
theorem fit_X3_castBy_X6_castLine : pm_fit e_X3_castBy e_X6_castLine 1 := ⟨by decide +kernel, by decide +kernel, wm_458, wm_53, ⟨by decide +kernel, by decide +kernel⟩, by decide +kernel⟩
theorem fit_X3_becomeAfter_X3_changed : pm_fit e_X3_becomeAfter e_X3_changed 1 := ⟨by decide +kernel, by decide +kernel, wm_513, wm_44, ⟨by decide +kernel, by decide +kernel⟩, by decide +kernel⟩
theorem fit_X4_begin_J7_fill_d0a16 : pm_fit e_X4_begin e_J7_fill_d0a16 2 := ⟨by decide +kernel, by decide +kernel, wm_388, wm_45, ⟨by decide +kernel, by decide +kernel⟩, by decide +kernel⟩
theorem fit_X4_beginBundle_X4_begin : pm_fit e_X4_beginBundle e_X4_begin 1 := ⟨by decide +kernel, by decide +kernel, wm_385, wm_48, ⟨by decide +kernel, by decide +kernel⟩, by decide +kernel⟩
theorem fit_X4_beginBundle_J7_fill_d0a16 : pm_fit e_X4_beginBundle e_J7_fill_d0a16 2 := ⟨by decide +kernel, by decide +kernel, wm_388, wm_45, ⟨by decide +kernel, by decide +kernel⟩, by decide +kernel⟩
theorem fit_X6_init_X1_init : pm_fit e_X6_init e_X1_init 0 := ⟨by decide +kernel, by decide +kernel, wm_218, wm_51, ⟨by decide +kernel, by decide +kernel⟩, by decide +kernel⟩
theorem fit_X6_tell_X6_kind : pm_fit e_X6_tell e_X6_kind 0 := ⟨by decide +kernel, by decide +kernel, wm_297, wm_53, ⟨by decide +kernel, by decide +kernel⟩, by decide +kernel⟩
theorem fit_X6_tell_X7_kind : pm_fit e_X6_tell e_X7_kind 0 := ⟨by decide +kernel, by decide +kernel, wm_296, wm_54, ⟨by decide +kernel, by decide +kernel⟩, by decide +kernel⟩
theorem fit_X6_placesOf_X6_lastPlace : pm_fit e_X6_placesOf e_X6_lastPlace 1 := ⟨by decide +kernel, by decide +kernel, wm_333, wm_53, ⟨by decide +kernel, by decide +kernel⟩, by decide +kernel⟩
theorem fit_X6_placesOf_X7_lastPlace : pm_fit e_X6_placesOf e_X7_lastPlace 1 := ⟨by decide +kernel, by decide +kernel, wm_332, wm_54, ⟨by decide +kernel, by decide +kernel⟩, by decide +kernel⟩
theorem fit_X6_placesOf_X6_firstPlace : pm_fit e_X6_placesOf e_X6_firstPlace 1 := ⟨by decide +kernel, by decide +kernel, wm_341, wm_53, ⟨by decide +kernel, by decide +kernel⟩, by decide +kernel⟩
theorem fit_X6_placesOf_X7_firstPlace : pm_fit e_X6_placesOf e_X7_firstPlace 1 := ⟨by decide +kernel, by decide +kernel, wm_340, wm_54, ⟨by decide +kernel, by decide +kernel⟩, by decide +kernel⟩
theorem fit_X6_placesAtFirst_X6_placesOf : pm_fit e_X6_placesAtFirst e_X6_placesOf 1 := ⟨by decide +kernel, by decide +kernel, wm_325, wm_53, ⟨by decide +kernel, by decide +kernel⟩, by decide +kernel⟩
theorem fit_X6_leftOf_X6_rest : pm_fit e_X6_leftOf e_X6_rest 1 := ⟨by decide +kernel, by decide +kernel, wm_313, wm_53, ⟨by decide +kernel, by decide +kernel⟩, by decide +kernel⟩
theorem fit_X6_partedAt_X6_leftOf : pm_fit e_X6_partedAt e_X6_leftOf 2 := ⟨by decide +kernel, by decide +kernel, wm_309, wm_53, ⟨by decide +kernel, by decide +kernel⟩, by decide +kernel⟩
theorem fit_X6_castLine_X6_firstPlace : pm_fit e_X6_castLine e_X6_firstPlace 1 := ⟨by decide +kernel, by decide +kernel, wm_341, wm_53, ⟨by decide +kernel, by decide +kernel⟩, by decide +kernel⟩
theorem fit_X6_castLine_X7_firstPlace : pm_fit e_X6_castLine e_X7_firstPlace 1 := ⟨by decide +kernel, by decide +kernel, wm_340, wm_54, ⟨by decide +kernel, by decide +kernel⟩, by decide +kernel⟩
theorem fit_X6_castLine_X6_placesOf : pm_fit e_X6_castLine e_X6_placesOf 1 := ⟨by decide +kernel, by decide +kernel, wm_325, wm_53, ⟨by decide +kernel, by decide +kernel⟩, by decide +kernel⟩
theorem fit_X6_castLine_X5_nextBelow : pm_fit e_X6_castLine e_X5_nextBelow 1 := ⟨by decide +kernel, by decide +kernel, wm_453, wm_47, ⟨by decide +kernel, by decide +kernel⟩, by decide +kernel⟩
theorem fit_X6_castLine_X6_leftOf : pm_fit e_X6_castLine e_X6_leftOf 2 := ⟨by decide +kernel, by decide +kernel, wm_309, wm_53, ⟨by decide +kernel, by decide +kernel⟩, by decide +kernel⟩
theorem fit_X6_castLine_X6_lineOf : pm_fit e_X6_castLine e_X6_lineOf 1 := ⟨by decide +kernel, by decide +kernel, wm_369, wm_53, ⟨by decide +kernel, by decide +kernel⟩, by decide +kernel⟩
theorem fit_X6_weigh_X6_weighBundle : pm_fit e_X6_weigh e_X6_weighBundle 2 := ⟨by decide +kernel, by decide +kernel, wm_398, wm_53, ⟨by decide +kernel, by decide +kernel⟩, by decide +kernel⟩
theorem fit_X6_weighBundle_X4_beginBundle : pm_fit e_X6_weighBundle e_X4_beginBundle 1 := ⟨by decide +kernel, by decide +kernel, wm_402, wm_48, ⟨by decide +kernel, by decide +kernel⟩, by decide +kernel⟩
theorem fit_X6_weighBundle_X6_partHeaps : pm_fit e_X6_weighBundle e_X6_partHeaps 1 := ⟨by decide +kernel, by decide +kernel, wm_407, wm_53, ⟨by decide +kernel, by decide +kernel⟩, by decide +kernel⟩
theorem fit_X6_weighBundle_X6_lineOf : pm_fit e_X6_weighBundle e_X6_lineOf 1 := ⟨by decide +kernel, by decide +kernel, wm_369, wm_53, ⟨by decide +kernel, by decide +kernel⟩, by decide +kernel⟩
theorem fit_X6_partHeaps_X6_sharesOf : pm_fit e_X6_partHeaps e_X6_sharesOf 1 := ⟨by decide +kernel, by decide +kernel, wm_411, wm_53, ⟨by decide +kernel, by decide +kernel⟩, by decide +kernel⟩
theorem fit_X6_partHeaps_J7_fill_d0a16 : pm_fit e_X6_partHeaps e_J7_fill_d0a16 2 := ⟨by decide +kernel, by decide +kernel, wm_388, wm_45, ⟨by decide +kernel, by decide +kernel⟩, by decide +kernel⟩
theorem fit_X6_partHeaps_X6_partHeap : pm_fit e_X6_partHeaps e_X6_partHeap 3 := ⟨by decide +kernel, by decide +kernel, wm_416, wm_53, ⟨by decide +kernel, by decide +kernel⟩, by decide +kernel⟩
theorem fit_X6_sharesOf_X6_placesOf : pm_fit e_X6_sharesOf e_X6_placesOf 1 := ⟨by decide +kernel, by decide +kernel, wm_325, wm_53, ⟨by decide +kernel, by decide +kernel⟩, by decide +kernel⟩
theorem fit_X6_partHeap_X6_placesOf : pm_fit e_X6_partHeap e_X6_placesOf 1 := ⟨by decide +kernel, by decide +kernel, wm_325, wm_53, ⟨by decide +kernel, by decide +kernel⟩, by decide +kernel⟩
theorem fit_X6_partHeap_X6_firstPlace : pm_fit e_X6_partHeap e_X6_firstPlace 1 := ⟨by decide +kernel, by decide +kernel, wm_341, wm_53, ⟨by decide +kernel, by decide +kernel⟩, by decide +kernel⟩
theorem fit_X6_partHeap_X7_firstPlace : pm_fit e_X6_partHeap e_X7_firstPlace 1 := ⟨by decide +kernel, by decide +kernel, wm_340, wm_54, ⟨by decide +kernel, by decide +kernel⟩, by decide +kernel⟩
theorem fit_X6_partHeap_X6_leftOf : pm_fit e_X6_partHeap e_X6_leftOf 2 := ⟨by decide +kernel, by decide +kernel, wm_309, wm_53, ⟨by decide +kernel, by decide +kernel⟩, by decide +kernel⟩
theorem fit_X7_init_X6_init : pm_fit e_X7_init e_X6_init 3 := ⟨by decide +kernel, by decide +kernel, wm_239, wm_53, ⟨by decide +kernel, by decide +kernel⟩, by decide +kernel⟩
theorem fit_X8_find_X8_meetAll : pm_fit e_X8_find e_X8_meetAll 2 := ⟨by decide +kernel, by decide +kernel, wm_528, wm_46, ⟨by decide +kernel, by decide +kernel⟩, by decide +kernel⟩
theorem fit_X8_find_X9_isNumber : pm_fit e_X8_find e_X9_isNumber 1 := ⟨by decide +kernel, by decide +kernel, wm_520, wm_43, ⟨by decide +kernel, by decide +kernel⟩, by decide +kernel⟩
theorem fit_X8_meetAll_J7_fill_53178 : pm_fit e_X8_meetAll e_J7_fill_53178 2 := ⟨by decide +kernel, by decide +kernel, wm_77, wm_45, ⟨by decide +kernel, by decide +kernel⟩, by decide +kernel⟩
theorem fit_X8_meetAll_X8_after : pm_fit e_X8_meetAll e_X8_after 2 := ⟨by decide +kernel, by decide +kernel, wm_532, wm_46, ⟨by decide +kernel, by decide +kernel⟩, by decide +kernel⟩
theorem fit_X8_after_X9_turnedBits : pm_fit e_X8_after e_X9_turnedBits 1 := ⟨by decide +kernel, by decide +kernel, wm_535, wm_43, ⟨by decide +kernel, by decide +kernel⟩, by decide +kernel⟩
theorem fit_X8_after_X9_oppositeBits : pm_fit e_X8_after e_X9_oppositeBits 1 := ⟨by decide +kernel, by decide +kernel, wm_538, wm_43, ⟨by decide +kernel, by decide +kernel⟩, by decide +kernel⟩
theorem fit_X8_after_X9_nestedBits : pm_fit e_X8_after e_X9_nestedBits 1 := ⟨by decide +kernel, by decide +kernel, wm_541, wm_43, ⟨by decide +kernel, by decide +kernel⟩, by decide +kernel⟩
theorem fit_X9_init_X3_init : pm_fit e_X9_init e_X3_init 0 := ⟨by decide +kernel, by decide +kernel, wm_73, wm_44, ⟨by decide +kernel, by decide +kernel⟩, by decide +kernel⟩
theorem fit_X9_init_X8_init : pm_fit e_X9_init e_X8_init 0 := ⟨by decide +kernel, by decide +kernel, wm_90, wm_46, ⟨by decide +kernel, by decide +kernel⟩, by decide +kernel⟩
theorem fit_X9_init_X5_init : pm_fit e_X9_init e_X5_init 0 := ⟨by decide +kernel, by decide +kernel, wm_112, wm_47, ⟨by decide +kernel, by decide +kernel⟩, by decide +kernel⟩
theorem fit_X9_init_X4_init : pm_fit e_X9_init e_X4_init 0 := ⟨by decide +kernel, by decide +kernel, wm_122, wm_48, ⟨by decide +kernel, by decide +kernel⟩, by decide +kernel⟩
theorem fit_X9_init_X0_init : pm_fit e_X9_init e_X0_init 0 := ⟨by decide +kernel, by decide +kernel, wm_149, wm_49, ⟨by decide +kernel, by decide +kernel⟩, by decide +kernel⟩
theorem fit_X9_caster_X2_init : pm_fit e_X9_caster e_X2_init 0 := ⟨by decide +kernel, by decide +kernel, wm_215, wm_52, ⟨by decide +kernel, by decide +kernel⟩, by decide +kernel⟩
theorem fit_X9_caster_X1_init : pm_fit e_X9_caster e_X1_init 0 := ⟨by decide +kernel, by decide +kernel, wm_218, wm_51, ⟨by decide +kernel, by decide +kernel⟩, by decide +kernel⟩
theorem fit_X9_caster_X9_keep : pm_fit e_X9_caster e_X9_keep 1 := ⟨by decide +kernel, by decide +kernel, wm_227, wm_43, ⟨by decide +kernel, by decide +kernel⟩, by decide +kernel⟩
theorem fit_X9_stalks_X9_isBundle : pm_fit e_X9_stalks e_X9_isBundle 2 := ⟨by decide +kernel, by decide +kernel, wm_234, wm_43, ⟨by decide +kernel, by decide +kernel⟩, by decide +kernel⟩
theorem fit_X9_stalks_X6_init : pm_fit e_X9_stalks e_X6_init 3 := ⟨by decide +kernel, by decide +kernel, wm_239, wm_53, ⟨by decide +kernel, by decide +kernel⟩, by decide +kernel⟩
theorem fit_X9_stalks_X9_keep : pm_fit e_X9_stalks e_X9_keep 1 := ⟨by decide +kernel, by decide +kernel, wm_227, wm_43, ⟨by decide +kernel, by decide +kernel⟩, by decide +kernel⟩
theorem fit_X9_thumb_X9_isBundle : pm_fit e_X9_thumb e_X9_isBundle 2 := ⟨by decide +kernel, by decide +kernel, wm_234, wm_43, ⟨by decide +kernel, by decide +kernel⟩, by decide +kernel⟩
theorem fit_X9_thumb_X7_init : pm_fit e_X9_thumb e_X7_init 5 := ⟨by decide +kernel, by decide +kernel, wm_260, wm_54, ⟨by decide +kernel, by decide +kernel⟩, by decide +kernel⟩
theorem fit_X9_thumb_X9_keep : pm_fit e_X9_thumb e_X9_keep 1 := ⟨by decide +kernel, by decide +kernel, wm_227, wm_43, ⟨by decide +kernel, by decide +kernel⟩, by decide +kernel⟩
theorem fit_X9_told_X9_casterAt : pm_fit e_X9_told e_X9_casterAt 1 := ⟨by decide +kernel, by decide +kernel, wm_279, wm_43, ⟨by decide +kernel, by decide +kernel⟩, by decide +kernel⟩
theorem fit_X9_told_X1_tell : pm_fit e_X9_told e_X1_tell 1 := ⟨by decide +kernel, by decide +kernel, wm_299, wm_51, ⟨by decide +kernel, by decide +kernel⟩, by decide +kernel⟩
theorem fit_X9_told_X2_tell : pm_fit e_X9_told e_X2_tell 1 := ⟨by decide +kernel, by decide +kernel, wm_286, wm_52, ⟨by decide +kernel, by decide +kernel⟩, by decide +kernel⟩
theorem fit_X9_told_X6_tell : pm_fit e_X9_told e_X6_tell 1 := ⟨by decide +kernel, by decide +kernel, wm_289, wm_53, ⟨by decide +kernel, by decide +kernel⟩, by decide +kernel⟩
theorem fit_X9_mark_X9_casterAt : pm_fit e_X9_mark e_X9_casterAt 1 := ⟨by decide +kernel, by decide +kernel, wm_279, wm_43, ⟨by decide +kernel, by decide +kernel⟩, by decide +kernel⟩
theorem fit_X9_mark_X6_leftOf : pm_fit e_X9_mark e_X6_leftOf 2 := ⟨by decide +kernel, by decide +kernel, wm_309, wm_53, ⟨by decide +kernel, by decide +kernel⟩, by decide +kernel⟩
theorem fit_X9_mark_X6_placesAtFirst : pm_fit e_X9_mark e_X6_placesAtFirst 0 := ⟨by decide +kernel, by decide +kernel, wm_319, wm_53, ⟨by decide +kernel, by decide +kernel⟩, by decide +kernel⟩
theorem fit_X9_mark_X9_found : pm_fit e_X9_mark e_X9_found 1 := ⟨by decide +kernel, by decide +kernel, wm_345, wm_43, ⟨by decide +kernel, by decide +kernel⟩, by decide +kernel⟩
theorem fit_X9_part_X9_casterAt : pm_fit e_X9_part e_X9_casterAt 1 := ⟨by decide +kernel, by decide +kernel, wm_279, wm_43, ⟨by decide +kernel, by decide +kernel⟩, by decide +kernel⟩
theorem fit_X9_part_X9_asStalks : pm_fit e_X9_part e_X9_asStalks 1 := ⟨by decide +kernel, by decide +kernel, wm_352, wm_43, ⟨by decide +kernel, by decide +kernel⟩, by decide +kernel⟩
theorem fit_X9_part_X9_found : pm_fit e_X9_part e_X9_found 1 := ⟨by decide +kernel, by decide +kernel, wm_345, wm_43, ⟨by decide +kernel, by decide +kernel⟩, by decide +kernel⟩
theorem fit_X9_part_X6_partedAt : pm_fit e_X9_part e_X6_partedAt 2 := ⟨by decide +kernel, by decide +kernel, wm_358, wm_53, ⟨by decide +kernel, by decide +kernel⟩, by decide +kernel⟩
theorem fit_X9_line_X9_casterAt : pm_fit e_X9_line e_X9_casterAt 1 := ⟨by decide +kernel, by decide +kernel, wm_279, wm_43, ⟨by decide +kernel, by decide +kernel⟩, by decide +kernel⟩
theorem fit_X9_line_X9_asStalks : pm_fit e_X9_line e_X9_asStalks 1 := ⟨by decide +kernel, by decide +kernel, wm_352, wm_43, ⟨by decide +kernel, by decide +kernel⟩, by decide +kernel⟩
theorem fit_X9_line_X9_found : pm_fit e_X9_line e_X9_found 1 := ⟨by decide +kernel, by decide +kernel, wm_345, wm_43, ⟨by decide +kernel, by decide +kernel⟩, by decide +kernel⟩
theorem fit_X9_line_X6_partedAt : pm_fit e_X9_line e_X6_partedAt 2 := ⟨by decide +kernel, by decide +kernel, wm_358, wm_53, ⟨by decide +kernel, by decide +kernel⟩, by decide +kernel⟩
theorem fit_X9_line_X6_lineOf : pm_fit e_X9_line e_X6_lineOf 1 := ⟨by decide +kernel, by decide +kernel, wm_369, wm_53, ⟨by decide +kernel, by decide +kernel⟩, by decide +kernel⟩
theorem fit_X9_odds_X9_casterAt : pm_fit e_X9_odds e_X9_casterAt 1 := ⟨by decide +kernel, by decide +kernel, wm_279, wm_43, ⟨by decide +kernel, by decide +kernel⟩, by decide +kernel⟩
theorem fit_X9_odds_X1_weigh : pm_fit e_X9_odds e_X1_weigh 1 := ⟨by decide +kernel, by decide +kernel, wm_422, wm_51, ⟨by decide +kernel, by decide +kernel⟩, by decide +kernel⟩
theorem fit_X9_odds_X2_weigh : pm_fit e_X9_odds e_X2_weigh 1 := ⟨by decide +kernel, by decide +kernel, wm_380, wm_52, ⟨by decide +kernel, by decide +kernel⟩, by decide +kernel⟩
theorem fit_X9_odds_X6_weigh : pm_fit e_X9_odds e_X6_weigh 1 := ⟨by decide +kernel, by decide +kernel, wm_392, wm_53, ⟨by decide +kernel, by decide +kernel⟩, by decide +kernel⟩
theorem fit_X9_odds_X9_tellFraction : pm_fit e_X9_odds e_X9_tellFraction 2 := ⟨by decide +kernel, by decide +kernel, wm_427, wm_43, ⟨by decide +kernel, by decide +kernel⟩, by decide +kernel⟩
theorem fit_X9_mean_X9_casterAt : pm_fit e_X9_mean e_X9_casterAt 1 := ⟨by decide +kernel, by decide +kernel, wm_279, wm_43, ⟨by decide +kernel, by decide +kernel⟩, by decide +kernel⟩
theorem fit_X9_mean_X1_weigh : pm_fit e_X9_mean e_X1_weigh 1 := ⟨by decide +kernel, by decide +kernel, wm_422, wm_51, ⟨by decide +kernel, by decide +kernel⟩, by decide +kernel⟩
theorem fit_X9_mean_X2_weigh : pm_fit e_X9_mean e_X2_weigh 1 := ⟨by decide +kernel, by decide +kernel, wm_380, wm_52, ⟨by decide +kernel, by decide +kernel⟩, by decide +kernel⟩
theorem fit_X9_mean_X6_weigh : pm_fit e_X9_mean e_X6_weigh 1 := ⟨by decide +kernel, by decide +kernel, wm_392, wm_53, ⟨by decide +kernel, by decide +kernel⟩, by decide +kernel⟩
theorem fit_X9_mean_X9_tellFraction : pm_fit e_X9_mean e_X9_tellFraction 2 := ⟨by decide +kernel, by decide +kernel, wm_427, wm_43, ⟨by decide +kernel, by decide +kernel⟩, by decide +kernel⟩
theorem fit_X9_drawn_X9_casterAt : pm_fit e_X9_drawn e_X9_casterAt 1 := ⟨by decide +kernel, by decide +kernel, wm_279, wm_43, ⟨by decide +kernel, by decide +kernel⟩, by decide +kernel⟩
theorem fit_X9_drawn_X5_begin : pm_fit e_X9_drawn e_X5_begin 1 := ⟨by decide +kernel, by decide +kernel, wm_442, wm_47, ⟨by decide +kernel, by decide +kernel⟩, by decide +kernel⟩
theorem fit_X9_drawn_X1_castLine : pm_fit e_X9_drawn e_X1_castLine 1 := ⟨by decide +kernel, by decide +kernel, wm_461, wm_51, ⟨by decide +kernel, by decide +kernel⟩, by decide +kernel⟩
theorem fit_X9_drawn_X2_castLine : pm_fit e_X9_drawn e_X2_castLine 1 := ⟨by decide +kernel, by decide +kernel, wm_449, wm_52, ⟨by decide +kernel, by decide +kernel⟩, by decide +kernel⟩
theorem fit_X9_drawn_X6_castLine : pm_fit e_X9_drawn e_X6_castLine 1 := ⟨by decide +kernel, by decide +kernel, wm_458, wm_53, ⟨by decide +kernel, by decide +kernel⟩, by decide +kernel⟩
theorem fit_X9_set_X9_figureAt : pm_fit e_X9_set e_X9_figureAt 1 := ⟨by decide +kernel, by decide +kernel, wm_469, wm_43, ⟨by decide +kernel, by decide +kernel⟩, by decide +kernel⟩
theorem fit_X9_set_X9_found : pm_fit e_X9_set e_X9_found 1 := ⟨by decide +kernel, by decide +kernel, wm_345, wm_43, ⟨by decide +kernel, by decide +kernel⟩, by decide +kernel⟩
theorem fit_X9_get_X9_figureAt : pm_fit e_X9_get e_X9_figureAt 1 := ⟨by decide +kernel, by decide +kernel, wm_469, wm_43, ⟨by decide +kernel, by decide +kernel⟩, by decide +kernel⟩
theorem fit_X9_get_X9_found : pm_fit e_X9_get e_X9_found 1 := ⟨by decide +kernel, by decide +kernel, wm_345, wm_43, ⟨by decide +kernel, by decide +kernel⟩, by decide +kernel⟩
theorem fit_X9_draw_X9_figureAt : pm_fit e_X9_draw e_X9_figureAt 1 := ⟨by decide +kernel, by decide +kernel, wm_469, wm_43, ⟨by decide +kernel, by decide +kernel⟩, by decide +kernel⟩
theorem fit_X9_draw_X9_casterAt : pm_fit e_X9_draw e_X9_casterAt 1 := ⟨by decide +kernel, by decide +kernel, wm_279, wm_43, ⟨by decide +kernel, by decide +kernel⟩, by decide +kernel⟩
theorem fit_X9_draw_X5_begin : pm_fit e_X9_draw e_X5_begin 1 := ⟨by decide +kernel, by decide +kernel, wm_442, wm_47, ⟨by decide +kernel, by decide +kernel⟩, by decide +kernel⟩
theorem fit_X9_draw_X3_castBy : pm_fit e_X9_draw e_X3_castBy 2 := ⟨by decide +kernel, by decide +kernel, wm_481, wm_44, ⟨by decide +kernel, by decide +kernel⟩, by decide +kernel⟩
theorem fit_X9_draw_X3_become : pm_fit e_X9_draw e_X3_become 1 := ⟨by decide +kernel, by decide +kernel, wm_486, wm_44, ⟨by decide +kernel, by decide +kernel⟩, by decide +kernel⟩
theorem fit_X9_draw_X3_oldLines : pm_fit e_X9_draw e_X3_oldLines 0 := ⟨by decide +kernel, by decide +kernel, wm_491, wm_44, ⟨by decide +kernel, by decide +kernel⟩, by decide +kernel⟩
theorem fit_X9_number_X9_figureAt : pm_fit e_X9_number e_X9_figureAt 1 := ⟨by decide +kernel, by decide +kernel, wm_469, wm_43, ⟨by decide +kernel, by decide +kernel⟩, by decide +kernel⟩
theorem fit_X9_number_X3_bits : pm_fit e_X9_number e_X3_bits 0 := ⟨by decide +kernel, by decide +kernel, wm_502, wm_44, ⟨by decide +kernel, by decide +kernel⟩, by decide +kernel⟩
theorem fit_X9_act_X9_figureAt : pm_fit e_X9_act e_X9_figureAt 1 := ⟨by decide +kernel, by decide +kernel, wm_469, wm_43, ⟨by decide +kernel, by decide +kernel⟩, by decide +kernel⟩
theorem fit_X9_act_X3_becomeAfter : pm_fit e_X9_act e_X3_becomeAfter 2 := ⟨by decide +kernel, by decide +kernel, wm_510, wm_44, ⟨by decide +kernel, by decide +kernel⟩, by decide +kernel⟩
theorem fit_X9_act_X3_become : pm_fit e_X9_act e_X3_become 1 := ⟨by decide +kernel, by decide +kernel, wm_486, wm_44, ⟨by decide +kernel, by decide +kernel⟩, by decide +kernel⟩
theorem fit_X9_act_X3_bits : pm_fit e_X9_act e_X3_bits 0 := ⟨by decide +kernel, by decide +kernel, wm_502, wm_44, ⟨by decide +kernel, by decide +kernel⟩, by decide +kernel⟩
theorem fit_X9_way_X9_isNumber : pm_fit e_X9_way e_X9_isNumber 1 := ⟨by decide +kernel, by decide +kernel, wm_520, wm_43, ⟨by decide +kernel, by decide +kernel⟩, by decide +kernel⟩
theorem fit_X9_way_X8_find : pm_fit e_X9_way e_X8_find 3 := ⟨by decide +kernel, by decide +kernel, wm_524, wm_46, ⟨by decide +kernel, by decide +kernel⟩, by decide +kernel⟩
theorem fit_X9_step_X8_actAt : pm_fit e_X9_step e_X8_actAt 1 := ⟨by decide +kernel, by decide +kernel, wm_550, wm_46, ⟨by decide +kernel, by decide +kernel⟩, by decide +kernel⟩
theorem fit_X9_row_X9_rowAt : pm_fit e_X9_row e_X9_rowAt 1 := ⟨by decide +kernel, by decide +kernel, wm_558, wm_43, ⟨by decide +kernel, by decide +kernel⟩, by decide +kernel⟩
theorem fit_X9_row_X9_found : pm_fit e_X9_row e_X9_found 1 := ⟨by decide +kernel, by decide +kernel, wm_345, wm_43, ⟨by decide +kernel, by decide +kernel⟩, by decide +kernel⟩
theorem fit_X9_row_X0_begin : pm_fit e_X9_row e_X0_begin 1 := ⟨by decide +kernel, by decide +kernel, wm_562, wm_49, ⟨by decide +kernel, by decide +kernel⟩, by decide +kernel⟩
theorem fit_X9_lay_X9_rowAt : pm_fit e_X9_lay e_X9_rowAt 1 := ⟨by decide +kernel, by decide +kernel, wm_558, wm_43, ⟨by decide +kernel, by decide +kernel⟩, by decide +kernel⟩
theorem fit_X9_lay_X0_isThere : pm_fit e_X9_lay e_X0_isThere 0 := ⟨by decide +kernel, by decide +kernel, wm_573, wm_49, ⟨by decide +kernel, by decide +kernel⟩, by decide +kernel⟩
theorem fit_X9_lay_X9_found : pm_fit e_X9_lay e_X9_found 1 := ⟨by decide +kernel, by decide +kernel, wm_345, wm_43, ⟨by decide +kernel, by decide +kernel⟩, by decide +kernel⟩
theorem fit_X9_tear_X9_rowAt : pm_fit e_X9_tear e_X9_rowAt 1 := ⟨by decide +kernel, by decide +kernel, wm_558, wm_43, ⟨by decide +kernel, by decide +kernel⟩, by decide +kernel⟩
theorem fit_X9_tear_X0_isThere : pm_fit e_X9_tear e_X0_isThere 0 := ⟨by decide +kernel, by decide +kernel, wm_573, wm_49, ⟨by decide +kernel, by decide +kernel⟩, by decide +kernel⟩
theorem fit_X9_tear_X9_found : pm_fit e_X9_tear e_X9_found 1 := ⟨by decide +kernel, by decide +kernel, wm_345, wm_43, ⟨by decide +kernel, by decide +kernel⟩, by decide +kernel⟩
theorem fit_X9_copy_X9_rowAt : pm_fit e_X9_copy e_X9_rowAt 1 := ⟨by decide +kernel, by decide +kernel, wm_558, wm_43, ⟨by decide +kernel, by decide +kernel⟩, by decide +kernel⟩
theorem fit_X9_copy_X9_found : pm_fit e_X9_copy e_X9_found 1 := ⟨by decide +kernel, by decide +kernel, wm_345, wm_43, ⟨by decide +kernel, by decide +kernel⟩, by decide +kernel⟩
theorem fit_X9_copy_X0_isThere : pm_fit e_X9_copy e_X0_isThere 0 := ⟨by decide +kernel, by decide +kernel, wm_573, wm_49, ⟨by decide +kernel, by decide +kernel⟩, by decide +kernel⟩
theorem fit_X9_copy_X0_hasBytes : pm_fit e_X9_copy e_X0_hasBytes 2 := ⟨by decide +kernel, by decide +kernel, wm_585, wm_49, ⟨by decide +kernel, by decide +kernel⟩, by decide +kernel⟩
theorem fit_X9_misfits_X9_rowAt : pm_fit e_X9_misfits e_X9_rowAt 1 := ⟨by decide +kernel, by decide +kernel, wm_558, wm_43, ⟨by decide +kernel, by decide +kernel⟩, by decide +kernel⟩
theorem fit_X9_misfits_X9_isOrder : pm_fit e_X9_misfits e_X9_isOrder 1 := ⟨by decide +kernel, by decide +kernel, wm_593, wm_43, ⟨by decide +kernel, by decide +kernel⟩, by decide +kernel⟩
theorem fit_X9_misfits_X0_isThere : pm_fit e_X9_misfits e_X0_isThere 0 := ⟨by decide +kernel, by decide +kernel, wm_573, wm_49, ⟨by decide +kernel, by decide +kernel⟩, by decide +kernel⟩
theorem fit_X9_misfits_X9_found : pm_fit e_X9_misfits e_X9_found 1 := ⟨by decide +kernel, by decide +kernel, wm_345, wm_43, ⟨by decide +kernel, by decide +kernel⟩, by decide +kernel⟩
theorem fit_X9_misfits_X0_misfitsIn : pm_fit e_X9_misfits e_X0_misfitsIn 1 := ⟨by decide +kernel, by decide +kernel, wm_597, wm_49, ⟨by decide +kernel, by decide +kernel⟩, by decide +kernel⟩
theorem fit_X9_follows_X9_rowAt : pm_fit e_X9_follows e_X9_rowAt 1 := ⟨by decide +kernel, by decide +kernel, wm_558, wm_43, ⟨by decide +kernel, by decide +kernel⟩, by decide +kernel⟩
theorem fit_X9_follows_X0_isThere : pm_fit e_X9_follows e_X0_isThere 0 := ⟨by decide +kernel, by decide +kernel, wm_573, wm_49, ⟨by decide +kernel, by decide +kernel⟩, by decide +kernel⟩
theorem fit_X9_follows_X9_found : pm_fit e_X9_follows e_X9_found 1 := ⟨by decide +kernel, by decide +kernel, wm_345, wm_43, ⟨by decide +kernel, by decide +kernel⟩, by decide +kernel⟩
theorem fit_X9_follows_X0_misfitsIn : pm_fit e_X9_follows e_X0_misfitsIn 1 := ⟨by decide +kernel, by decide +kernel, wm_597, wm_49, ⟨by decide +kernel, by decide +kernel⟩, by decide +kernel⟩
theorem fit_X9_lacks_X9_rowAt : pm_fit e_X9_lacks e_X9_rowAt 1 := ⟨by decide +kernel, by decide +kernel, wm_558, wm_43, ⟨by decide +kernel, by decide +kernel⟩, by decide +kernel⟩
theorem fit_X9_lacks_X0_isThere : pm_fit e_X9_lacks e_X0_isThere 0 := ⟨by decide +kernel, by decide +kernel, wm_573, wm_49, ⟨by decide +kernel, by decide +kernel⟩, by decide +kernel⟩
theorem fit_X9_lacks_X9_found : pm_fit e_X9_lacks e_X9_found 1 := ⟨by decide +kernel, by decide +kernel, wm_345, wm_43, ⟨by decide +kernel, by decide +kernel⟩, by decide +kernel⟩
theorem fit_X9_lacks_X0_numbersThere : pm_fit e_X9_lacks e_X0_numbersThere 0 := ⟨by decide +kernel, by decide +kernel, wm_620, wm_49, ⟨by decide +kernel, by decide +kernel⟩, by decide +kernel⟩
theorem fit_X9_lacks_J13_bitCount_95d88 : pm_fit e_X9_lacks e_J13_bitCount_95d88 1 := ⟨by decide +kernel, by decide +kernel, wm_624, wm_56, ⟨by decide +kernel, by decide +kernel⟩, by decide +kernel⟩
theorem fit_X9_swapped_X9_rowAt : pm_fit e_X9_swapped e_X9_rowAt 1 := ⟨by decide +kernel, by decide +kernel, wm_558, wm_43, ⟨by decide +kernel, by decide +kernel⟩, by decide +kernel⟩
theorem fit_X9_swapped_X9_isOrder : pm_fit e_X9_swapped e_X9_isOrder 1 := ⟨by decide +kernel, by decide +kernel, wm_593, wm_43, ⟨by decide +kernel, by decide +kernel⟩, by decide +kernel⟩
theorem fit_X9_swapped_X0_isThere : pm_fit e_X9_swapped e_X0_isThere 0 := ⟨by decide +kernel, by decide +kernel, wm_573, wm_49, ⟨by decide +kernel, by decide +kernel⟩, by decide +kernel⟩
theorem fit_X9_swapped_X9_found : pm_fit e_X9_swapped e_X9_found 1 := ⟨by decide +kernel, by decide +kernel, wm_345, wm_43, ⟨by decide +kernel, by decide +kernel⟩, by decide +kernel⟩
theorem fit_X9_swapped_X0_mendingSwap : pm_fit e_X9_swapped e_X0_mendingSwap 1 := ⟨by decide +kernel, by decide +kernel, wm_635, wm_49, ⟨by decide +kernel, by decide +kernel⟩, by decide +kernel⟩
theorem fit_X9_record_X9_rowAt : pm_fit e_X9_record e_X9_rowAt 1 := ⟨by decide +kernel, by decide +kernel, wm_558, wm_43, ⟨by decide +kernel, by decide +kernel⟩, by decide +kernel⟩
theorem fit_X9_record_X9_casterAt : pm_fit e_X9_record e_X9_casterAt 1 := ⟨by decide +kernel, by decide +kernel, wm_279, wm_43, ⟨by decide +kernel, by decide +kernel⟩, by decide +kernel⟩
theorem fit_X9_record_X0_begin : pm_fit e_X9_record e_X0_begin 1 := ⟨by decide +kernel, by decide +kernel, wm_562, wm_49, ⟨by decide +kernel, by decide +kernel⟩, by decide +kernel⟩
theorem fit_X9_record_X5_begin : pm_fit e_X9_record e_X5_begin 1 := ⟨by decide +kernel, by decide +kernel, wm_442, wm_47, ⟨by decide +kernel, by decide +kernel⟩, by decide +kernel⟩
theorem fit_X9_record_X1_castLine : pm_fit e_X9_record e_X1_castLine 1 := ⟨by decide +kernel, by decide +kernel, wm_461, wm_51, ⟨by decide +kernel, by decide +kernel⟩, by decide +kernel⟩
theorem fit_X9_record_X2_castLine : pm_fit e_X9_record e_X2_castLine 1 := ⟨by decide +kernel, by decide +kernel, wm_449, wm_52, ⟨by decide +kernel, by decide +kernel⟩, by decide +kernel⟩
theorem fit_X9_record_X6_castLine : pm_fit e_X9_record e_X6_castLine 1 := ⟨by decide +kernel, by decide +kernel, wm_458, wm_53, ⟨by decide +kernel, by decide +kernel⟩, by decide +kernel⟩
theorem fit_X9_off_X9_rowAt : pm_fit e_X9_off e_X9_rowAt 1 := ⟨by decide +kernel, by decide +kernel, wm_558, wm_43, ⟨by decide +kernel, by decide +kernel⟩, by decide +kernel⟩
theorem fit_X9_off_X9_casterAt : pm_fit e_X9_off e_X9_casterAt 1 := ⟨by decide +kernel, by decide +kernel, wm_279, wm_43, ⟨by decide +kernel, by decide +kernel⟩, by decide +kernel⟩
theorem fit_X9_off_X0_isThere : pm_fit e_X9_off e_X0_isThere 0 := ⟨by decide +kernel, by decide +kernel, wm_573, wm_49, ⟨by decide +kernel, by decide +kernel⟩, by decide +kernel⟩
theorem fit_X9_off_X9_found : pm_fit e_X9_off e_X9_found 1 := ⟨by decide +kernel, by decide +kernel, wm_345, wm_43, ⟨by decide +kernel, by decide +kernel⟩, by decide +kernel⟩
theorem fit_X9_off_X0_partsInto : pm_fit e_X9_off e_X0_partsInto 1 := ⟨by decide +kernel, by decide +kernel, wm_656, wm_49, ⟨by decide +kernel, by decide +kernel⟩, by decide +kernel⟩
theorem fit_X9_off_X9_offOf : pm_fit e_X9_off e_X9_offOf 1 := ⟨by decide +kernel, by decide +kernel, wm_662, wm_43, ⟨by decide +kernel, by decide +kernel⟩, by decide +kernel⟩
theorem fit_X9_nearest_X9_rowAt : pm_fit e_X9_nearest e_X9_rowAt 1 := ⟨by decide +kernel, by decide +kernel, wm_558, wm_43, ⟨by decide +kernel, by decide +kernel⟩, by decide +kernel⟩
theorem fit_X9_nearest_X0_isThere : pm_fit e_X9_nearest e_X0_isThere 0 := ⟨by decide +kernel, by decide +kernel, wm_573, wm_49, ⟨by decide +kernel, by decide +kernel⟩, by decide +kernel⟩
theorem fit_X9_nearest_X9_found : pm_fit e_X9_nearest e_X9_found 1 := ⟨by decide +kernel, by decide +kernel, wm_345, wm_43, ⟨by decide +kernel, by decide +kernel⟩, by decide +kernel⟩
theorem fit_X9_nearest_X0_partsInto : pm_fit e_X9_nearest e_X0_partsInto 1 := ⟨by decide +kernel, by decide +kernel, wm_656, wm_49, ⟨by decide +kernel, by decide +kernel⟩, by decide +kernel⟩
theorem fit_X9_nearest_X9_casterAt : pm_fit e_X9_nearest e_X9_casterAt 1 := ⟨by decide +kernel, by decide +kernel, wm_279, wm_43, ⟨by decide +kernel, by decide +kernel⟩, by decide +kernel⟩
theorem fit_X9_nearest_X9_offOf : pm_fit e_X9_nearest e_X9_offOf 1 := ⟨by decide +kernel, by decide +kernel, wm_662, wm_43, ⟨by decide +kernel, by decide +kernel⟩, by decide +kernel⟩
theorem fit_X9_lost_X9_rowAt : pm_fit e_X9_lost e_X9_rowAt 1 := ⟨by decide +kernel, by decide +kernel, wm_558, wm_43, ⟨by decide +kernel, by decide +kernel⟩, by decide +kernel⟩
theorem fit_X9_lost_X9_casterAt : pm_fit e_X9_lost e_X9_casterAt 1 := ⟨by decide +kernel, by decide +kernel, wm_279, wm_43, ⟨by decide +kernel, by decide +kernel⟩, by decide +kernel⟩
theorem fit_X9_lost_X0_isThere : pm_fit e_X9_lost e_X0_isThere 0 := ⟨by decide +kernel, by decide +kernel, wm_573, wm_49, ⟨by decide +kernel, by decide +kernel⟩, by decide +kernel⟩
theorem fit_X9_lost_X9_found : pm_fit e_X9_lost e_X9_found 1 := ⟨by decide +kernel, by decide +kernel, wm_345, wm_43, ⟨by decide +kernel, by decide +kernel⟩, by decide +kernel⟩
theorem fit_X9_lost_X9_asStalks : pm_fit e_X9_lost e_X9_asStalks 1 := ⟨by decide +kernel, by decide +kernel, wm_352, wm_43, ⟨by decide +kernel, by decide +kernel⟩, by decide +kernel⟩
theorem fit_X9_lost_X0_partsInto : pm_fit e_X9_lost e_X0_partsInto 1 := ⟨by decide +kernel, by decide +kernel, wm_656, wm_49, ⟨by decide +kernel, by decide +kernel⟩, by decide +kernel⟩
theorem fit_X9_lost_X6_weighBundle : pm_fit e_X9_lost e_X6_weighBundle 2 := ⟨by decide +kernel, by decide +kernel, wm_398, wm_53, ⟨by decide +kernel, by decide +kernel⟩, by decide +kernel⟩
theorem fit_X9_lost_X9_weighedDiffer : pm_fit e_X9_lost e_X9_weighedDiffer 0 := ⟨by decide +kernel, by decide +kernel, wm_667, wm_43, ⟨by decide +kernel, by decide +kernel⟩, by decide +kernel⟩
theorem fit_X9_need_X9_casterAt : pm_fit e_X9_need e_X9_casterAt 1 := ⟨by decide +kernel, by decide +kernel, wm_279, wm_43, ⟨by decide +kernel, by decide +kernel⟩, by decide +kernel⟩
theorem fit_X9_need_X1_weigh : pm_fit e_X9_need e_X1_weigh 1 := ⟨by decide +kernel, by decide +kernel, wm_422, wm_51, ⟨by decide +kernel, by decide +kernel⟩, by decide +kernel⟩
theorem fit_X9_need_X2_weigh : pm_fit e_X9_need e_X2_weigh 1 := ⟨by decide +kernel, by decide +kernel, wm_380, wm_52, ⟨by decide +kernel, by decide +kernel⟩, by decide +kernel⟩
theorem fit_X9_need_X6_weigh : pm_fit e_X9_need e_X6_weigh 1 := ⟨by decide +kernel, by decide +kernel, wm_392, wm_53, ⟨by decide +kernel, by decide +kernel⟩, by decide +kernel⟩
theorem fit_X9_need_X4_partsInto : pm_fit e_X9_need e_X4_partsInto 1 := ⟨by decide +kernel, by decide +kernel, wm_671, wm_48, ⟨by decide +kernel, by decide +kernel⟩, by decide +kernel⟩
theorem fit_X9_need_X9_offOf : pm_fit e_X9_need e_X9_offOf 1 := ⟨by decide +kernel, by decide +kernel, wm_662, wm_43, ⟨by decide +kernel, by decide +kernel⟩, by decide +kernel⟩
theorem fit_X9_count_X9_rowsThere : pm_fit e_X9_count e_X9_rowsThere 0 := ⟨by decide +kernel, by decide +kernel, wm_710, wm_43, ⟨by decide +kernel, by decide +kernel⟩, by decide +kernel⟩
theorem fit_X9_count_X9_oldLinesOfAll : pm_fit e_X9_count e_X9_oldLinesOfAll 0 := ⟨by decide +kernel, by decide +kernel, wm_714, wm_43, ⟨by decide +kernel, by decide +kernel⟩, by decide +kernel⟩
theorem fit_X9_digest_X9_told : pm_fit e_X9_digest e_X9_told 2 := ⟨by decide +kernel, by decide +kernel, wm_275, wm_43, ⟨by decide +kernel, by decide +kernel⟩, by decide +kernel⟩
theorem fit_X9_rowsThere_X0_isThere : pm_fit e_X9_rowsThere e_X0_isThere 0 := ⟨by decide +kernel, by decide +kernel, wm_573, wm_49, ⟨by decide +kernel, by decide +kernel⟩, by decide +kernel⟩
theorem fit_X9_oldLinesOfAll_X3_oldLines : pm_fit e_X9_oldLinesOfAll e_X3_oldLines 0 := ⟨by decide +kernel, by decide +kernel, wm_491, wm_44, ⟨by decide +kernel, by decide +kernel⟩, by decide +kernel⟩
theorem fit_X9_tellFraction_X9_commonDivisor : pm_fit e_X9_tellFraction e_X9_commonDivisor 2 := ⟨by decide +kernel, by decide +kernel, wm_430, wm_43, ⟨by decide +kernel, by decide +kernel⟩, by decide +kernel⟩
theorem fit_X9_offOf_X1_weigh : pm_fit e_X9_offOf e_X1_weigh 1 := ⟨by decide +kernel, by decide +kernel, wm_422, wm_51, ⟨by decide +kernel, by decide +kernel⟩, by decide +kernel⟩
theorem fit_X9_offOf_X2_weigh : pm_fit e_X9_offOf e_X2_weigh 1 := ⟨by decide +kernel, by decide +kernel, wm_380, wm_52, ⟨by decide +kernel, by decide +kernel⟩, by decide +kernel⟩
theorem fit_X9_offOf_X6_weigh : pm_fit e_X9_offOf e_X6_weigh 1 := ⟨by decide +kernel, by decide +kernel, wm_392, wm_53, ⟨by decide +kernel, by decide +kernel⟩, by decide +kernel⟩
theorem fit_X9_offOf_X9_weighedDiffer : pm_fit e_X9_offOf e_X9_weighedDiffer 0 := ⟨by decide +kernel, by decide +kernel, wm_667, wm_43, ⟨by decide +kernel, by decide +kernel⟩, by decide +kernel⟩
theorem fit_X9_weighedDiffer_X4_partsInto : pm_fit e_X9_weighedDiffer e_X4_partsInto 1 := ⟨by decide +kernel, by decide +kernel, wm_671, wm_48, ⟨by decide +kernel, by decide +kernel⟩, by decide +kernel⟩
theorem fit_X9_weighedDiffer_J9_abs_0f7a4 : pm_fit e_X9_weighedDiffer e_J9_abs_0f7a4 1 := ⟨by decide +kernel, by decide +kernel, wm_675, wm_57, ⟨by decide +kernel, by decide +kernel⟩, by decide +kernel⟩
theorem fit_X10_tell_X10_divisor : pm_fit e_X10_tell e_X10_divisor 2 := ⟨by decide +kernel, by decide +kernel, wm_926, wm_50, ⟨by decide +kernel, by decide +kernel⟩, by decide +kernel⟩
theorem fit_X10_caster_X10_put : pm_fit e_X10_caster e_X10_put 6 := ⟨by decide +kernel, by decide +kernel, wm_844, wm_50, ⟨by decide +kernel, by decide +kernel⟩, by decide +kernel⟩
theorem fit_X10_areStalks_X10_in : pm_fit e_X10_areStalks e_X10_in 3 := ⟨by decide +kernel, by decide +kernel, wm_854, wm_50, ⟨by decide +kernel, by decide +kernel⟩, by decide +kernel⟩
theorem fit_X10_stalks_X10_areStalks : pm_fit e_X10_stalks e_X10_areStalks 2 := ⟨by decide +kernel, by decide +kernel, wm_851, wm_50, ⟨by decide +kernel, by decide +kernel⟩, by decide +kernel⟩
theorem fit_X10_stalks_X10_put : pm_fit e_X10_stalks e_X10_put 6 := ⟨by decide +kernel, by decide +kernel, wm_844, wm_50, ⟨by decide +kernel, by decide +kernel⟩, by decide +kernel⟩
theorem fit_X10_thumb_X10_areStalks : pm_fit e_X10_thumb e_X10_areStalks 2 := ⟨by decide +kernel, by decide +kernel, wm_851, wm_50, ⟨by decide +kernel, by decide +kernel⟩, by decide +kernel⟩
theorem fit_X10_thumb_X10_in : pm_fit e_X10_thumb e_X10_in 3 := ⟨by decide +kernel, by decide +kernel, wm_854, wm_50, ⟨by decide +kernel, by decide +kernel⟩, by decide +kernel⟩
theorem fit_X10_thumb_X10_put : pm_fit e_X10_thumb e_X10_put 6 := ⟨by decide +kernel, by decide +kernel, wm_844, wm_50, ⟨by decide +kernel, by decide +kernel⟩, by decide +kernel⟩
theorem fit_X10_isCaster_X10_in : pm_fit e_X10_isCaster e_X10_in 3 := ⟨by decide +kernel, by decide +kernel, wm_854, wm_50, ⟨by decide +kernel, by decide +kernel⟩, by decide +kernel⟩
theorem fit_X10_tells_X10_parts : pm_fit e_X10_tells e_X10_parts 1 := ⟨by decide +kernel, by decide +kernel, wm_874, wm_50, ⟨by decide +kernel, by decide +kernel⟩, by decide +kernel⟩
theorem fit_X10_told_X10_isCaster : pm_fit e_X10_told e_X10_isCaster 1 := ⟨by decide +kernel, by decide +kernel, wm_866, wm_50, ⟨by decide +kernel, by decide +kernel⟩, by decide +kernel⟩
theorem fit_X10_told_X10_in : pm_fit e_X10_told e_X10_in 3 := ⟨by decide +kernel, by decide +kernel, wm_854, wm_50, ⟨by decide +kernel, by decide +kernel⟩, by decide +kernel⟩
theorem fit_X10_told_X10_tells : pm_fit e_X10_told e_X10_tells 2 := ⟨by decide +kernel, by decide +kernel, wm_870, wm_50, ⟨by decide +kernel, by decide +kernel⟩, by decide +kernel⟩
theorem fit_X10_left_X10_rest : pm_fit e_X10_left e_X10_rest 2 := ⟨by decide +kernel, by decide +kernel, wm_889, wm_50, ⟨by decide +kernel, by decide +kernel⟩, by decide +kernel⟩
theorem fit_X10_places_X10_first : pm_fit e_X10_places e_X10_first 2 := ⟨by decide +kernel, by decide +kernel, wm_897, wm_50, ⟨by decide +kernel, by decide +kernel⟩, by decide +kernel⟩
theorem fit_X10_mark_X10_isCaster : pm_fit e_X10_mark e_X10_isCaster 1 := ⟨by decide +kernel, by decide +kernel, wm_866, wm_50, ⟨by decide +kernel, by decide +kernel⟩, by decide +kernel⟩
theorem fit_X10_mark_X10_in : pm_fit e_X10_mark e_X10_in 3 := ⟨by decide +kernel, by decide +kernel, wm_854, wm_50, ⟨by decide +kernel, by decide +kernel⟩, by decide +kernel⟩
theorem fit_X10_mark_X10_meets : pm_fit e_X10_mark e_X10_meets 1 := ⟨by decide +kernel, by decide +kernel, wm_882, wm_50, ⟨by decide +kernel, by decide +kernel⟩, by decide +kernel⟩
theorem fit_X10_mark_X10_left : pm_fit e_X10_mark e_X10_left 3 := ⟨by decide +kernel, by decide +kernel, wm_886, wm_50, ⟨by decide +kernel, by decide +kernel⟩, by decide +kernel⟩
theorem fit_X10_mark_X10_places : pm_fit e_X10_mark e_X10_places 2 := ⟨by decide +kernel, by decide +kernel, wm_893, wm_50, ⟨by decide +kernel, by decide +kernel⟩, by decide +kernel⟩
theorem fit_X10_part_X10_isCaster : pm_fit e_X10_part e_X10_isCaster 1 := ⟨by decide +kernel, by decide +kernel, wm_866, wm_50, ⟨by decide +kernel, by decide +kernel⟩, by decide +kernel⟩
theorem fit_X10_part_X10_in : pm_fit e_X10_part e_X10_in 3 := ⟨by decide +kernel, by decide +kernel, wm_854, wm_50, ⟨by decide +kernel, by decide +kernel⟩, by decide +kernel⟩
theorem fit_X10_part_X10_parts : pm_fit e_X10_part e_X10_parts 1 := ⟨by decide +kernel, by decide +kernel, wm_874, wm_50, ⟨by decide +kernel, by decide +kernel⟩, by decide +kernel⟩
theorem fit_X10_part_X10_meets : pm_fit e_X10_part e_X10_meets 1 := ⟨by decide +kernel, by decide +kernel, wm_882, wm_50, ⟨by decide +kernel, by decide +kernel⟩, by decide +kernel⟩
theorem fit_X10_part_X10_left : pm_fit e_X10_part e_X10_left 3 := ⟨by decide +kernel, by decide +kernel, wm_886, wm_50, ⟨by decide +kernel, by decide +kernel⟩, by decide +kernel⟩
theorem fit_X10_line_X10_isCaster : pm_fit e_X10_line e_X10_isCaster 1 := ⟨by decide +kernel, by decide +kernel, wm_866, wm_50, ⟨by decide +kernel, by decide +kernel⟩, by decide +kernel⟩
theorem fit_X10_line_X10_parts : pm_fit e_X10_line e_X10_parts 1 := ⟨by decide +kernel, by decide +kernel, wm_874, wm_50, ⟨by decide +kernel, by decide +kernel⟩, by decide +kernel⟩
theorem fit_X10_line_X10_meets : pm_fit e_X10_line e_X10_meets 1 := ⟨by decide +kernel, by decide +kernel, wm_882, wm_50, ⟨by decide +kernel, by decide +kernel⟩, by decide +kernel⟩
theorem fit_X10_line_X10_in : pm_fit e_X10_line e_X10_in 3 := ⟨by decide +kernel, by decide +kernel, wm_854, wm_50, ⟨by decide +kernel, by decide +kernel⟩, by decide +kernel⟩
theorem fit_X10_line_X10_left : pm_fit e_X10_line e_X10_left 3 := ⟨by decide +kernel, by decide +kernel, wm_886, wm_50, ⟨by decide +kernel, by decide +kernel⟩, by decide +kernel⟩
theorem fit_X10_add_X10_divisor : pm_fit e_X10_add e_X10_divisor 2 := ⟨by decide +kernel, by decide +kernel, wm_926, wm_50, ⟨by decide +kernel, by decide +kernel⟩, by decide +kernel⟩
theorem fit_X10_setOdds_X10_clearOdds : pm_fit e_X10_setOdds e_X10_clearOdds 0 := ⟨by decide +kernel, by decide +kernel, wm_917, wm_50, ⟨by decide +kernel, by decide +kernel⟩, by decide +kernel⟩
theorem fit_X10_setOdds_X10_parts : pm_fit e_X10_setOdds e_X10_parts 1 := ⟨by decide +kernel, by decide +kernel, wm_874, wm_50, ⟨by decide +kernel, by decide +kernel⟩, by decide +kernel⟩
theorem fit_X10_setOdds_X10_partAll : pm_fit e_X10_setOdds e_X10_partAll 1 := ⟨by decide +kernel, by decide +kernel, wm_923, wm_50, ⟨by decide +kernel, by decide +kernel⟩, by decide +kernel⟩
theorem fit_X10_setOdds_X10_add : pm_fit e_X10_setOdds e_X10_add 4 := ⟨by decide +kernel, by decide +kernel, wm_930, wm_50, ⟨by decide +kernel, by decide +kernel⟩, by decide +kernel⟩
theorem fit_X10_partAll_X10_places : pm_fit e_X10_partAll e_X10_places 2 := ⟨by decide +kernel, by decide +kernel, wm_893, wm_50, ⟨by decide +kernel, by decide +kernel⟩, by decide +kernel⟩
theorem fit_X10_partAll_X10_first : pm_fit e_X10_partAll e_X10_first 2 := ⟨by decide +kernel, by decide +kernel, wm_897, wm_50, ⟨by decide +kernel, by decide +kernel⟩, by decide +kernel⟩
theorem fit_X10_partAll_X10_left : pm_fit e_X10_partAll e_X10_left 3 := ⟨by decide +kernel, by decide +kernel, wm_886, wm_50, ⟨by decide +kernel, by decide +kernel⟩, by decide +kernel⟩
theorem fit_X10_partAll_X10_divisor : pm_fit e_X10_partAll e_X10_divisor 2 := ⟨by decide +kernel, by decide +kernel, wm_926, wm_50, ⟨by decide +kernel, by decide +kernel⟩, by decide +kernel⟩
theorem fit_X10_partAll_X10_add : pm_fit e_X10_partAll e_X10_add 4 := ⟨by decide +kernel, by decide +kernel, wm_930, wm_50, ⟨by decide +kernel, by decide +kernel⟩, by decide +kernel⟩
theorem fit_X10_odds_X10_isCaster : pm_fit e_X10_odds e_X10_isCaster 1 := ⟨by decide +kernel, by decide +kernel, wm_866, wm_50, ⟨by decide +kernel, by decide +kernel⟩, by decide +kernel⟩
theorem fit_X10_odds_X10_in : pm_fit e_X10_odds e_X10_in 3 := ⟨by decide +kernel, by decide +kernel, wm_854, wm_50, ⟨by decide +kernel, by decide +kernel⟩, by decide +kernel⟩
theorem fit_X10_odds_X10_setOdds : pm_fit e_X10_odds e_X10_setOdds 1 := ⟨by decide +kernel, by decide +kernel, wm_913, wm_50, ⟨by decide +kernel, by decide +kernel⟩, by decide +kernel⟩
theorem fit_X10_odds_X10_tell : pm_fit e_X10_odds e_X10_tell 2 := ⟨by decide +kernel, by decide +kernel, wm_934, wm_50, ⟨by decide +kernel, by decide +kernel⟩, by decide +kernel⟩
theorem fit_X10_mean_X10_isCaster : pm_fit e_X10_mean e_X10_isCaster 1 := ⟨by decide +kernel, by decide +kernel, wm_866, wm_50, ⟨by decide +kernel, by decide +kernel⟩, by decide +kernel⟩
theorem fit_X10_mean_X10_setOdds : pm_fit e_X10_mean e_X10_setOdds 1 := ⟨by decide +kernel, by decide +kernel, wm_913, wm_50, ⟨by decide +kernel, by decide +kernel⟩, by decide +kernel⟩
theorem fit_X10_mean_X10_add : pm_fit e_X10_mean e_X10_add 4 := ⟨by decide +kernel, by decide +kernel, wm_930, wm_50, ⟨by decide +kernel, by decide +kernel⟩, by decide +kernel⟩
theorem fit_X10_mean_X10_tell : pm_fit e_X10_mean e_X10_tell 2 := ⟨by decide +kernel, by decide +kernel, wm_934, wm_50, ⟨by decide +kernel, by decide +kernel⟩, by decide +kernel⟩
theorem fit_X10_draws_X10_under : pm_fit e_X10_draws e_X10_under 1 := ⟨by decide +kernel, by decide +kernel, wm_950, wm_50, ⟨by decide +kernel, by decide +kernel⟩, by decide +kernel⟩
theorem fit_X10_draws_X10_first : pm_fit e_X10_draws e_X10_first 2 := ⟨by decide +kernel, by decide +kernel, wm_897, wm_50, ⟨by decide +kernel, by decide +kernel⟩, by decide +kernel⟩
theorem fit_X10_draws_X10_places : pm_fit e_X10_draws e_X10_places 2 := ⟨by decide +kernel, by decide +kernel, wm_893, wm_50, ⟨by decide +kernel, by decide +kernel⟩, by decide +kernel⟩
theorem fit_X10_draws_X10_left : pm_fit e_X10_draws e_X10_left 3 := ⟨by decide +kernel, by decide +kernel, wm_886, wm_50, ⟨by decide +kernel, by decide +kernel⟩, by decide +kernel⟩
theorem fit_X10_drawn_X10_isCaster : pm_fit e_X10_drawn e_X10_isCaster 1 := ⟨by decide +kernel, by decide +kernel, wm_866, wm_50, ⟨by decide +kernel, by decide +kernel⟩, by decide +kernel⟩
theorem fit_X10_drawn_X10_draws : pm_fit e_X10_drawn e_X10_draws 1 := ⟨by decide +kernel, by decide +kernel, wm_946, wm_50, ⟨by decide +kernel, by decide +kernel⟩, by decide +kernel⟩
theorem fit_X10_isFigure_X10_in : pm_fit e_X10_isFigure e_X10_in 3 := ⟨by decide +kernel, by decide +kernel, wm_854, wm_50, ⟨by decide +kernel, by decide +kernel⟩, by decide +kernel⟩
theorem fit_X10_set_X10_isFigure : pm_fit e_X10_set e_X10_isFigure 1 := ⟨by decide +kernel, by decide +kernel, wm_959, wm_50, ⟨by decide +kernel, by decide +kernel⟩, by decide +kernel⟩
theorem fit_X10_set_X10_in : pm_fit e_X10_set e_X10_in 3 := ⟨by decide +kernel, by decide +kernel, wm_854, wm_50, ⟨by decide +kernel, by decide +kernel⟩, by decide +kernel⟩
theorem fit_X10_set_X10_meets : pm_fit e_X10_set e_X10_meets 1 := ⟨by decide +kernel, by decide +kernel, wm_882, wm_50, ⟨by decide +kernel, by decide +kernel⟩, by decide +kernel⟩
theorem fit_X10_get_X10_isFigure : pm_fit e_X10_get e_X10_isFigure 1 := ⟨by decide +kernel, by decide +kernel, wm_959, wm_50, ⟨by decide +kernel, by decide +kernel⟩, by decide +kernel⟩
theorem fit_X10_get_X10_in : pm_fit e_X10_get e_X10_in 3 := ⟨by decide +kernel, by decide +kernel, wm_854, wm_50, ⟨by decide +kernel, by decide +kernel⟩, by decide +kernel⟩
theorem fit_X10_get_X10_meets : pm_fit e_X10_get e_X10_meets 1 := ⟨by decide +kernel, by decide +kernel, wm_882, wm_50, ⟨by decide +kernel, by decide +kernel⟩, by decide +kernel⟩
theorem fit_X10_draw_X10_isFigure : pm_fit e_X10_draw e_X10_isFigure 1 := ⟨by decide +kernel, by decide +kernel, wm_959, wm_50, ⟨by decide +kernel, by decide +kernel⟩, by decide +kernel⟩
theorem fit_X10_draw_X10_isCaster : pm_fit e_X10_draw e_X10_isCaster 1 := ⟨by decide +kernel, by decide +kernel, wm_866, wm_50, ⟨by decide +kernel, by decide +kernel⟩, by decide +kernel⟩
theorem fit_X10_draw_X10_draws : pm_fit e_X10_draw e_X10_draws 1 := ⟨by decide +kernel, by decide +kernel, wm_946, wm_50, ⟨by decide +kernel, by decide +kernel⟩, by decide +kernel⟩
theorem fit_X10_draw_X10_in : pm_fit e_X10_draw e_X10_in 3 := ⟨by decide +kernel, by decide +kernel, wm_854, wm_50, ⟨by decide +kernel, by decide +kernel⟩, by decide +kernel⟩
theorem fit_X10_number_X10_isFigure : pm_fit e_X10_number e_X10_isFigure 1 := ⟨by decide +kernel, by decide +kernel, wm_959, wm_50, ⟨by decide +kernel, by decide +kernel⟩, by decide +kernel⟩
theorem fit_X10_number_X10_numberOf : pm_fit e_X10_number e_X10_numberOf 1 := ⟨by decide +kernel, by decide +kernel, wm_975, wm_50, ⟨by decide +kernel, by decide +kernel⟩, by decide +kernel⟩
theorem fit_X10_act_X10_isFigure : pm_fit e_X10_act e_X10_isFigure 1 := ⟨by decide +kernel, by decide +kernel, wm_959, wm_50, ⟨by decide +kernel, by decide +kernel⟩, by decide +kernel⟩
theorem fit_X10_act_X10_in : pm_fit e_X10_act e_X10_in 3 := ⟨by decide +kernel, by decide +kernel, wm_854, wm_50, ⟨by decide +kernel, by decide +kernel⟩, by decide +kernel⟩
theorem fit_X10_act_X10_nestedAt : pm_fit e_X10_act e_X10_nestedAt 1 := ⟨by decide +kernel, by decide +kernel, wm_982, wm_50, ⟨by decide +kernel, by decide +kernel⟩, by decide +kernel⟩
theorem fit_X10_act_X10_numberOf : pm_fit e_X10_act e_X10_numberOf 1 := ⟨by decide +kernel, by decide +kernel, wm_975, wm_50, ⟨by decide +kernel, by decide +kernel⟩, by decide +kernel⟩
theorem fit_X10_after_X10_turned : pm_fit e_X10_after e_X10_turned 1 := ⟨by decide +kernel, by decide +kernel, wm_992, wm_50, ⟨by decide +kernel, by decide +kernel⟩, by decide +kernel⟩
theorem fit_X10_after_X10_nestedAt : pm_fit e_X10_after e_X10_nestedAt 1 := ⟨by decide +kernel, by decide +kernel, wm_982, wm_50, ⟨by decide +kernel, by decide +kernel⟩, by decide +kernel⟩
theorem fit_X10_way_X10_in : pm_fit e_X10_way e_X10_in 3 := ⟨by decide +kernel, by decide +kernel, wm_854, wm_50, ⟨by decide +kernel, by decide +kernel⟩, by decide +kernel⟩
theorem fit_X10_way_X10_after : pm_fit e_X10_way e_X10_after 2 := ⟨by decide +kernel, by decide +kernel, wm_989, wm_50, ⟨by decide +kernel, by decide +kernel⟩, by decide +kernel⟩
theorem fit_X10_step_X10_in : pm_fit e_X10_step e_X10_in 3 := ⟨by decide +kernel, by decide +kernel, wm_854, wm_50, ⟨by decide +kernel, by decide +kernel⟩, by decide +kernel⟩
theorem fit_X10_isRow_X10_in : pm_fit e_X10_isRow e_X10_in 3 := ⟨by decide +kernel, by decide +kernel, wm_854, wm_50, ⟨by decide +kernel, by decide +kernel⟩, by decide +kernel⟩
theorem fit_X10_looked_X10_isRow : pm_fit e_X10_looked e_X10_isRow 1 := ⟨by decide +kernel, by decide +kernel, wm_1003, wm_50, ⟨by decide +kernel, by decide +kernel⟩, by decide +kernel⟩
theorem fit_X10_looked_X10_meets : pm_fit e_X10_looked e_X10_meets 1 := ⟨by decide +kernel, by decide +kernel, wm_882, wm_50, ⟨by decide +kernel, by decide +kernel⟩, by decide +kernel⟩
theorem fit_X10_row_X10_isRow : pm_fit e_X10_row e_X10_isRow 1 := ⟨by decide +kernel, by decide +kernel, wm_1003, wm_50, ⟨by decide +kernel, by decide +kernel⟩, by decide +kernel⟩
theorem fit_X10_row_X10_meets : pm_fit e_X10_row e_X10_meets 1 := ⟨by decide +kernel, by decide +kernel, wm_882, wm_50, ⟨by decide +kernel, by decide +kernel⟩, by decide +kernel⟩
theorem fit_X10_lay_X10_looked : pm_fit e_X10_lay e_X10_looked 1 := ⟨by decide +kernel, by decide +kernel, wm_1011, wm_50, ⟨by decide +kernel, by decide +kernel⟩, by decide +kernel⟩
theorem fit_X10_lay_X10_in : pm_fit e_X10_lay e_X10_in 3 := ⟨by decide +kernel, by decide +kernel, wm_854, wm_50, ⟨by decide +kernel, by decide +kernel⟩, by decide +kernel⟩
theorem fit_X10_lay_X10_meets : pm_fit e_X10_lay e_X10_meets 1 := ⟨by decide +kernel, by decide +kernel, wm_882, wm_50, ⟨by decide +kernel, by decide +kernel⟩, by decide +kernel⟩
theorem fit_X10_tear_X10_looked : pm_fit e_X10_tear e_X10_looked 1 := ⟨by decide +kernel, by decide +kernel, wm_1011, wm_50, ⟨by decide +kernel, by decide +kernel⟩, by decide +kernel⟩
theorem fit_X10_copy_X10_isRow : pm_fit e_X10_copy e_X10_isRow 1 := ⟨by decide +kernel, by decide +kernel, wm_1003, wm_50, ⟨by decide +kernel, by decide +kernel⟩, by decide +kernel⟩
theorem fit_X10_copy_X10_meets : pm_fit e_X10_copy e_X10_meets 1 := ⟨by decide +kernel, by decide +kernel, wm_882, wm_50, ⟨by decide +kernel, by decide +kernel⟩, by decide +kernel⟩
theorem fit_X10_misfitsOf_X10_leaf : pm_fit e_X10_misfitsOf e_X10_leaf 2 := ⟨by decide +kernel, by decide +kernel, wm_1031, wm_50, ⟨by decide +kernel, by decide +kernel⟩, by decide +kernel⟩
theorem fit_X10_misfitsOf_X10_in : pm_fit e_X10_misfitsOf e_X10_in 3 := ⟨by decide +kernel, by decide +kernel, wm_854, wm_50, ⟨by decide +kernel, by decide +kernel⟩, by decide +kernel⟩
theorem fit_X10_misfitsOf_X10_turned : pm_fit e_X10_misfitsOf e_X10_turned 1 := ⟨by decide +kernel, by decide +kernel, wm_992, wm_50, ⟨by decide +kernel, by decide +kernel⟩, by decide +kernel⟩
theorem fit_X10_misfits_X10_in : pm_fit e_X10_misfits e_X10_in 3 := ⟨by decide +kernel, by decide +kernel, wm_854, wm_50, ⟨by decide +kernel, by decide +kernel⟩, by decide +kernel⟩
theorem fit_X10_misfits_X10_looked : pm_fit e_X10_misfits e_X10_looked 1 := ⟨by decide +kernel, by decide +kernel, wm_1011, wm_50, ⟨by decide +kernel, by decide +kernel⟩, by decide +kernel⟩
theorem fit_X10_misfits_X10_misfitsOf : pm_fit e_X10_misfits e_X10_misfitsOf 2 := ⟨by decide +kernel, by decide +kernel, wm_1027, wm_50, ⟨by decide +kernel, by decide +kernel⟩, by decide +kernel⟩
theorem fit_X10_follows_X10_looked : pm_fit e_X10_follows e_X10_looked 1 := ⟨by decide +kernel, by decide +kernel, wm_1011, wm_50, ⟨by decide +kernel, by decide +kernel⟩, by decide +kernel⟩
theorem fit_X10_follows_X10_misfitsOf : pm_fit e_X10_follows e_X10_misfitsOf 2 := ⟨by decide +kernel, by decide +kernel, wm_1027, wm_50, ⟨by decide +kernel, by decide +kernel⟩, by decide +kernel⟩
theorem fit_X10_lacks_X10_looked : pm_fit e_X10_lacks e_X10_looked 1 := ⟨by decide +kernel, by decide +kernel, wm_1011, wm_50, ⟨by decide +kernel, by decide +kernel⟩, by decide +kernel⟩
theorem fit_X10_lacks_X10_leaf : pm_fit e_X10_lacks e_X10_leaf 2 := ⟨by decide +kernel, by decide +kernel, wm_1031, wm_50, ⟨by decide +kernel, by decide +kernel⟩, by decide +kernel⟩
theorem fit_X10_lacks_X10_in : pm_fit e_X10_lacks e_X10_in 3 := ⟨by decide +kernel, by decide +kernel, wm_854, wm_50, ⟨by decide +kernel, by decide +kernel⟩, by decide +kernel⟩
theorem fit_X10_swapped_X10_in : pm_fit e_X10_swapped e_X10_in 3 := ⟨by decide +kernel, by decide +kernel, wm_854, wm_50, ⟨by decide +kernel, by decide +kernel⟩, by decide +kernel⟩
theorem fit_X10_swapped_X10_looked : pm_fit e_X10_swapped e_X10_looked 1 := ⟨by decide +kernel, by decide +kernel, wm_1011, wm_50, ⟨by decide +kernel, by decide +kernel⟩, by decide +kernel⟩
theorem fit_X10_swapped_X10_misfitsOf : pm_fit e_X10_swapped e_X10_misfitsOf 2 := ⟨by decide +kernel, by decide +kernel, wm_1027, wm_50, ⟨by decide +kernel, by decide +kernel⟩, by decide +kernel⟩
theorem fit_X10_swapped_X10_swap : pm_fit e_X10_swapped e_X10_swap 3 := ⟨by decide +kernel, by decide +kernel, wm_1048, wm_50, ⟨by decide +kernel, by decide +kernel⟩, by decide +kernel⟩
theorem fit_X10_record_X10_isRow : pm_fit e_X10_record e_X10_isRow 1 := ⟨by decide +kernel, by decide +kernel, wm_1003, wm_50, ⟨by decide +kernel, by decide +kernel⟩, by decide +kernel⟩
theorem fit_X10_record_X10_isCaster : pm_fit e_X10_record e_X10_isCaster 1 := ⟨by decide +kernel, by decide +kernel, wm_866, wm_50, ⟨by decide +kernel, by decide +kernel⟩, by decide +kernel⟩
theorem fit_X10_record_X10_in : pm_fit e_X10_record e_X10_in 3 := ⟨by decide +kernel, by decide +kernel, wm_854, wm_50, ⟨by decide +kernel, by decide +kernel⟩, by decide +kernel⟩
theorem fit_X10_record_X10_draws : pm_fit e_X10_record e_X10_draws 1 := ⟨by decide +kernel, by decide +kernel, wm_946, wm_50, ⟨by decide +kernel, by decide +kernel⟩, by decide +kernel⟩
theorem fit_X10_counts_X10_leaf : pm_fit e_X10_counts e_X10_leaf 2 := ⟨by decide +kernel, by decide +kernel, wm_1031, wm_50, ⟨by decide +kernel, by decide +kernel⟩, by decide +kernel⟩
theorem fit_X10_counts_X10_in : pm_fit e_X10_counts e_X10_in 3 := ⟨by decide +kernel, by decide +kernel, wm_854, wm_50, ⟨by decide +kernel, by decide +kernel⟩, by decide +kernel⟩
theorem fit_X10_setShares_X10_setOdds : pm_fit e_X10_setShares e_X10_setOdds 1 := ⟨by decide +kernel, by decide +kernel, wm_913, wm_50, ⟨by decide +kernel, by decide +kernel⟩, by decide +kernel⟩
theorem fit_X10_offOf_X10_setShares : pm_fit e_X10_offOf e_X10_setShares 1 := ⟨by decide +kernel, by decide +kernel, wm_1068, wm_50, ⟨by decide +kernel, by decide +kernel⟩, by decide +kernel⟩
theorem fit_X10_off_X10_isCaster : pm_fit e_X10_off e_X10_isCaster 1 := ⟨by decide +kernel, by decide +kernel, wm_866, wm_50, ⟨by decide +kernel, by decide +kernel⟩, by decide +kernel⟩
theorem fit_X10_off_X10_looked : pm_fit e_X10_off e_X10_looked 1 := ⟨by decide +kernel, by decide +kernel, wm_1011, wm_50, ⟨by decide +kernel, by decide +kernel⟩, by decide +kernel⟩
theorem fit_X10_off_X10_counts : pm_fit e_X10_off e_X10_counts 1 := ⟨by decide +kernel, by decide +kernel, wm_1060, wm_50, ⟨by decide +kernel, by decide +kernel⟩, by decide +kernel⟩
theorem fit_X10_off_X10_meets : pm_fit e_X10_off e_X10_meets 1 := ⟨by decide +kernel, by decide +kernel, wm_882, wm_50, ⟨by decide +kernel, by decide +kernel⟩, by decide +kernel⟩
theorem fit_X10_off_X10_offOf : pm_fit e_X10_off e_X10_offOf 1 := ⟨by decide +kernel, by decide +kernel, wm_1064, wm_50, ⟨by decide +kernel, by decide +kernel⟩, by decide +kernel⟩
theorem fit_X10_nearest_X10_isRow : pm_fit e_X10_nearest e_X10_isRow 1 := ⟨by decide +kernel, by decide +kernel, wm_1003, wm_50, ⟨by decide +kernel, by decide +kernel⟩, by decide +kernel⟩
theorem fit_X10_nearest_X10_looked : pm_fit e_X10_nearest e_X10_looked 1 := ⟨by decide +kernel, by decide +kernel, wm_1011, wm_50, ⟨by decide +kernel, by decide +kernel⟩, by decide +kernel⟩
theorem fit_X10_nearest_X10_counts : pm_fit e_X10_nearest e_X10_counts 1 := ⟨by decide +kernel, by decide +kernel, wm_1060, wm_50, ⟨by decide +kernel, by decide +kernel⟩, by decide +kernel⟩
theorem fit_X10_nearest_X10_meets : pm_fit e_X10_nearest e_X10_meets 1 := ⟨by decide +kernel, by decide +kernel, wm_882, wm_50, ⟨by decide +kernel, by decide +kernel⟩, by decide +kernel⟩
theorem fit_X10_nearest_X10_offOf : pm_fit e_X10_nearest e_X10_offOf 1 := ⟨by decide +kernel, by decide +kernel, wm_1064, wm_50, ⟨by decide +kernel, by decide +kernel⟩, by decide +kernel⟩
theorem fit_X10_lost_X10_isCaster : pm_fit e_X10_lost e_X10_isCaster 1 := ⟨by decide +kernel, by decide +kernel, wm_866, wm_50, ⟨by decide +kernel, by decide +kernel⟩, by decide +kernel⟩
theorem fit_X10_lost_X10_looked : pm_fit e_X10_lost e_X10_looked 1 := ⟨by decide +kernel, by decide +kernel, wm_1011, wm_50, ⟨by decide +kernel, by decide +kernel⟩, by decide +kernel⟩
theorem fit_X10_lost_X10_parts : pm_fit e_X10_lost e_X10_parts 1 := ⟨by decide +kernel, by decide +kernel, wm_874, wm_50, ⟨by decide +kernel, by decide +kernel⟩, by decide +kernel⟩
theorem fit_X10_lost_X10_meets : pm_fit e_X10_lost e_X10_meets 1 := ⟨by decide +kernel, by decide +kernel, wm_882, wm_50, ⟨by decide +kernel, by decide +kernel⟩, by decide +kernel⟩
theorem fit_X10_lost_X10_counts : pm_fit e_X10_lost e_X10_counts 1 := ⟨by decide +kernel, by decide +kernel, wm_1060, wm_50, ⟨by decide +kernel, by decide +kernel⟩, by decide +kernel⟩
theorem fit_X10_lost_X10_offOf : pm_fit e_X10_lost e_X10_offOf 1 := ⟨by decide +kernel, by decide +kernel, wm_1064, wm_50, ⟨by decide +kernel, by decide +kernel⟩, by decide +kernel⟩
theorem fit_X10_need_X10_isCaster : pm_fit e_X10_need e_X10_isCaster 1 := ⟨by decide +kernel, by decide +kernel, wm_866, wm_50, ⟨by decide +kernel, by decide +kernel⟩, by decide +kernel⟩
theorem fit_X10_need_X10_setShares : pm_fit e_X10_need e_X10_setShares 1 := ⟨by decide +kernel, by decide +kernel, wm_1068, wm_50, ⟨by decide +kernel, by decide +kernel⟩, by decide +kernel⟩
theorem fit_X10_count_X10_in : pm_fit e_X10_count e_X10_in 3 := ⟨by decide +kernel, by decide +kernel, wm_854, wm_50, ⟨by decide +kernel, by decide +kernel⟩, by decide +kernel⟩
theorem fit_X10_findings_X10_in : pm_fit e_X10_findings e_X10_in 3 := ⟨by decide +kernel, by decide +kernel, wm_854, wm_50, ⟨by decide +kernel, by decide +kernel⟩, by decide +kernel⟩
theorem fit_X10_digest_X10_tells : pm_fit e_X10_digest e_X10_tells 2 := ⟨by decide +kernel, by decide +kernel, wm_870, wm_50, ⟨by decide +kernel, by decide +kernel⟩, by decide +kernel⟩
theorem fit_L_law_X9_init : pm_fit e_L_law e_X9_init 0 := ⟨by decide +kernel, by decide +kernel, wm_62, wm_43, ⟨by decide +kernel, by decide +kernel⟩, by decide +kernel⟩
theorem fit_L_law_X10_init : pm_fit e_L_law e_X10_init 0 := ⟨by decide +kernel, by decide +kernel, wm_734, wm_50, ⟨by decide +kernel, by decide +kernel⟩, by decide +kernel⟩
theorem fit_L_law_X9_caster : pm_fit e_L_law e_X9_caster 1 := ⟨by decide +kernel, by decide +kernel, wm_210, wm_43, ⟨by decide +kernel, by decide +kernel⟩, by decide +kernel⟩
theorem fit_L_law_X10_caster : pm_fit e_L_law e_X10_caster 1 := ⟨by decide +kernel, by decide +kernel, wm_840, wm_50, ⟨by decide +kernel, by decide +kernel⟩, by decide +kernel⟩
theorem fit_L_law_X9_stalks : pm_fit e_L_law e_X9_stalks 3 := ⟨by decide +kernel, by decide +kernel, wm_231, wm_43, ⟨by decide +kernel, by decide +kernel⟩, by decide +kernel⟩
theorem fit_L_law_X10_stalks : pm_fit e_L_law e_X10_stalks 3 := ⟨by decide +kernel, by decide +kernel, wm_848, wm_50, ⟨by decide +kernel, by decide +kernel⟩, by decide +kernel⟩
theorem fit_L_law_X9_thumb : pm_fit e_L_law e_X9_thumb 5 := ⟨by decide +kernel, by decide +kernel, wm_255, wm_43, ⟨by decide +kernel, by decide +kernel⟩, by decide +kernel⟩
theorem fit_L_law_X10_thumb : pm_fit e_L_law e_X10_thumb 5 := ⟨by decide +kernel, by decide +kernel, wm_858, wm_50, ⟨by decide +kernel, by decide +kernel⟩, by decide +kernel⟩
theorem fit_L_law_X9_told : pm_fit e_L_law e_X9_told 2 := ⟨by decide +kernel, by decide +kernel, wm_275, wm_43, ⟨by decide +kernel, by decide +kernel⟩, by decide +kernel⟩
theorem fit_L_law_X10_told : pm_fit e_L_law e_X10_told 2 := ⟨by decide +kernel, by decide +kernel, wm_862, wm_50, ⟨by decide +kernel, by decide +kernel⟩, by decide +kernel⟩
theorem fit_L_law_X9_mark : pm_fit e_L_law e_X9_mark 2 := ⟨by decide +kernel, by decide +kernel, wm_303, wm_43, ⟨by decide +kernel, by decide +kernel⟩, by decide +kernel⟩
theorem fit_L_law_X10_mark : pm_fit e_L_law e_X10_mark 2 := ⟨by decide +kernel, by decide +kernel, wm_878, wm_50, ⟨by decide +kernel, by decide +kernel⟩, by decide +kernel⟩
theorem fit_L_law_X9_part : pm_fit e_L_law e_X9_part 3 := ⟨by decide +kernel, by decide +kernel, wm_349, wm_43, ⟨by decide +kernel, by decide +kernel⟩, by decide +kernel⟩
theorem fit_L_law_X10_part : pm_fit e_L_law e_X10_part 3 := ⟨by decide +kernel, by decide +kernel, wm_901, wm_50, ⟨by decide +kernel, by decide +kernel⟩, by decide +kernel⟩
theorem fit_L_law_X9_line : pm_fit e_L_law e_X9_line 4 := ⟨by decide +kernel, by decide +kernel, wm_363, wm_43, ⟨by decide +kernel, by decide +kernel⟩, by decide +kernel⟩
theorem fit_L_law_X10_line : pm_fit e_L_law e_X10_line 4 := ⟨by decide +kernel, by decide +kernel, wm_905, wm_50, ⟨by decide +kernel, by decide +kernel⟩, by decide +kernel⟩
theorem fit_L_law_X9_odds : pm_fit e_L_law e_X9_odds 2 := ⟨by decide +kernel, by decide +kernel, wm_373, wm_43, ⟨by decide +kernel, by decide +kernel⟩, by decide +kernel⟩
theorem fit_L_law_X10_odds : pm_fit e_L_law e_X10_odds 2 := ⟨by decide +kernel, by decide +kernel, wm_909, wm_50, ⟨by decide +kernel, by decide +kernel⟩, by decide +kernel⟩
theorem fit_L_law_X9_mean : pm_fit e_L_law e_X9_mean 1 := ⟨by decide +kernel, by decide +kernel, wm_434, wm_43, ⟨by decide +kernel, by decide +kernel⟩, by decide +kernel⟩
theorem fit_L_law_X10_mean : pm_fit e_L_law e_X10_mean 1 := ⟨by decide +kernel, by decide +kernel, wm_938, wm_50, ⟨by decide +kernel, by decide +kernel⟩, by decide +kernel⟩
theorem fit_L_law_X9_drawn : pm_fit e_L_law e_X9_drawn 2 := ⟨by decide +kernel, by decide +kernel, wm_438, wm_43, ⟨by decide +kernel, by decide +kernel⟩, by decide +kernel⟩
theorem fit_L_law_X10_drawn : pm_fit e_L_law e_X10_drawn 2 := ⟨by decide +kernel, by decide +kernel, wm_942, wm_50, ⟨by decide +kernel, by decide +kernel⟩, by decide +kernel⟩
theorem fit_L_law_X9_set : pm_fit e_L_law e_X9_set 3 := ⟨by decide +kernel, by decide +kernel, wm_465, wm_43, ⟨by decide +kernel, by decide +kernel⟩, by decide +kernel⟩
theorem fit_L_law_X10_set : pm_fit e_L_law e_X10_set 3 := ⟨by decide +kernel, by decide +kernel, wm_956, wm_50, ⟨by decide +kernel, by decide +kernel⟩, by decide +kernel⟩
theorem fit_L_law_X9_get : pm_fit e_L_law e_X9_get 2 := ⟨by decide +kernel, by decide +kernel, wm_473, wm_43, ⟨by decide +kernel, by decide +kernel⟩, by decide +kernel⟩
theorem fit_L_law_X10_get : pm_fit e_L_law e_X10_get 2 := ⟨by decide +kernel, by decide +kernel, wm_963, wm_50, ⟨by decide +kernel, by decide +kernel⟩, by decide +kernel⟩
theorem fit_L_law_X9_draw : pm_fit e_L_law e_X9_draw 3 := ⟨by decide +kernel, by decide +kernel, wm_477, wm_43, ⟨by decide +kernel, by decide +kernel⟩, by decide +kernel⟩
theorem fit_L_law_X10_draw : pm_fit e_L_law e_X10_draw 3 := ⟨by decide +kernel, by decide +kernel, wm_967, wm_50, ⟨by decide +kernel, by decide +kernel⟩, by decide +kernel⟩
theorem fit_L_law_X9_number : pm_fit e_L_law e_X9_number 1 := ⟨by decide +kernel, by decide +kernel, wm_498, wm_43, ⟨by decide +kernel, by decide +kernel⟩, by decide +kernel⟩
theorem fit_L_law_X10_number : pm_fit e_L_law e_X10_number 1 := ⟨by decide +kernel, by decide +kernel, wm_971, wm_50, ⟨by decide +kernel, by decide +kernel⟩, by decide +kernel⟩
theorem fit_L_law_X9_act : pm_fit e_L_law e_X9_act 3 := ⟨by decide +kernel, by decide +kernel, wm_506, wm_43, ⟨by decide +kernel, by decide +kernel⟩, by decide +kernel⟩
theorem fit_L_law_X10_act : pm_fit e_L_law e_X10_act 3 := ⟨by decide +kernel, by decide +kernel, wm_979, wm_50, ⟨by decide +kernel, by decide +kernel⟩, by decide +kernel⟩
theorem fit_L_law_X9_way : pm_fit e_L_law e_X9_way 3 := ⟨by decide +kernel, by decide +kernel, wm_517, wm_43, ⟨by decide +kernel, by decide +kernel⟩, by decide +kernel⟩
theorem fit_L_law_X10_way : pm_fit e_L_law e_X10_way 3 := ⟨by decide +kernel, by decide +kernel, wm_986, wm_50, ⟨by decide +kernel, by decide +kernel⟩, by decide +kernel⟩
theorem fit_L_law_X9_step : pm_fit e_L_law e_X9_step 1 := ⟨by decide +kernel, by decide +kernel, wm_546, wm_43, ⟨by decide +kernel, by decide +kernel⟩, by decide +kernel⟩
theorem fit_L_law_X10_step : pm_fit e_L_law e_X10_step 1 := ⟨by decide +kernel, by decide +kernel, wm_996, wm_50, ⟨by decide +kernel, by decide +kernel⟩, by decide +kernel⟩
theorem fit_L_law_X9_row : pm_fit e_L_law e_X9_row 2 := ⟨by decide +kernel, by decide +kernel, wm_554, wm_43, ⟨by decide +kernel, by decide +kernel⟩, by decide +kernel⟩
theorem fit_L_law_X10_row : pm_fit e_L_law e_X10_row 2 := ⟨by decide +kernel, by decide +kernel, wm_1000, wm_50, ⟨by decide +kernel, by decide +kernel⟩, by decide +kernel⟩
theorem fit_L_law_X9_lay : pm_fit e_L_law e_X9_lay 3 := ⟨by decide +kernel, by decide +kernel, wm_569, wm_43, ⟨by decide +kernel, by decide +kernel⟩, by decide +kernel⟩
theorem fit_L_law_X10_lay : pm_fit e_L_law e_X10_lay 3 := ⟨by decide +kernel, by decide +kernel, wm_1007, wm_50, ⟨by decide +kernel, by decide +kernel⟩, by decide +kernel⟩
theorem fit_L_law_X9_tear : pm_fit e_L_law e_X9_tear 1 := ⟨by decide +kernel, by decide +kernel, wm_577, wm_43, ⟨by decide +kernel, by decide +kernel⟩, by decide +kernel⟩
theorem fit_L_law_X10_tear : pm_fit e_L_law e_X10_tear 1 := ⟨by decide +kernel, by decide +kernel, wm_1015, wm_50, ⟨by decide +kernel, by decide +kernel⟩, by decide +kernel⟩
theorem fit_L_law_X9_copy : pm_fit e_L_law e_X9_copy 5 := ⟨by decide +kernel, by decide +kernel, wm_581, wm_43, ⟨by decide +kernel, by decide +kernel⟩, by decide +kernel⟩
theorem fit_L_law_X10_copy : pm_fit e_L_law e_X10_copy 5 := ⟨by decide +kernel, by decide +kernel, wm_1019, wm_50, ⟨by decide +kernel, by decide +kernel⟩, by decide +kernel⟩
theorem fit_L_law_X9_misfits : pm_fit e_L_law e_X9_misfits 2 := ⟨by decide +kernel, by decide +kernel, wm_590, wm_43, ⟨by decide +kernel, by decide +kernel⟩, by decide +kernel⟩
theorem fit_L_law_X10_misfits : pm_fit e_L_law e_X10_misfits 2 := ⟨by decide +kernel, by decide +kernel, wm_1023, wm_50, ⟨by decide +kernel, by decide +kernel⟩, by decide +kernel⟩
theorem fit_L_law_X9_follows : pm_fit e_L_law e_X9_follows 1 := ⟨by decide +kernel, by decide +kernel, wm_612, wm_43, ⟨by decide +kernel, by decide +kernel⟩, by decide +kernel⟩
theorem fit_L_law_X10_follows : pm_fit e_L_law e_X10_follows 1 := ⟨by decide +kernel, by decide +kernel, wm_1035, wm_50, ⟨by decide +kernel, by decide +kernel⟩, by decide +kernel⟩
theorem fit_L_law_X9_lacks : pm_fit e_L_law e_X9_lacks 1 := ⟨by decide +kernel, by decide +kernel, wm_616, wm_43, ⟨by decide +kernel, by decide +kernel⟩, by decide +kernel⟩
theorem fit_L_law_X10_lacks : pm_fit e_L_law e_X10_lacks 1 := ⟨by decide +kernel, by decide +kernel, wm_1039, wm_50, ⟨by decide +kernel, by decide +kernel⟩, by decide +kernel⟩
theorem fit_L_law_X9_swapped : pm_fit e_L_law e_X9_swapped 2 := ⟨by decide +kernel, by decide +kernel, wm_631, wm_43, ⟨by decide +kernel, by decide +kernel⟩, by decide +kernel⟩
theorem fit_L_law_X10_swapped : pm_fit e_L_law e_X10_swapped 2 := ⟨by decide +kernel, by decide +kernel, wm_1044, wm_50, ⟨by decide +kernel, by decide +kernel⟩, by decide +kernel⟩
theorem fit_L_law_X9_record : pm_fit e_L_law e_X9_record 4 := ⟨by decide +kernel, by decide +kernel, wm_648, wm_43, ⟨by decide +kernel, by decide +kernel⟩, by decide +kernel⟩
theorem fit_L_law_X10_record : pm_fit e_L_law e_X10_record 4 := ⟨by decide +kernel, by decide +kernel, wm_1052, wm_50, ⟨by decide +kernel, by decide +kernel⟩, by decide +kernel⟩
theorem fit_L_law_X9_off : pm_fit e_L_law e_X9_off 2 := ⟨by decide +kernel, by decide +kernel, wm_652, wm_43, ⟨by decide +kernel, by decide +kernel⟩, by decide +kernel⟩
theorem fit_L_law_X10_off : pm_fit e_L_law e_X10_off 2 := ⟨by decide +kernel, by decide +kernel, wm_1056, wm_50, ⟨by decide +kernel, by decide +kernel⟩, by decide +kernel⟩
theorem fit_L_law_X9_nearest : pm_fit e_L_law e_X9_nearest 1 := ⟨by decide +kernel, by decide +kernel, wm_679, wm_43, ⟨by decide +kernel, by decide +kernel⟩, by decide +kernel⟩
theorem fit_L_law_X10_nearest : pm_fit e_L_law e_X10_nearest 1 := ⟨by decide +kernel, by decide +kernel, wm_1074, wm_50, ⟨by decide +kernel, by decide +kernel⟩, by decide +kernel⟩
theorem fit_L_law_X9_lost : pm_fit e_L_law e_X9_lost 2 := ⟨by decide +kernel, by decide +kernel, wm_684, wm_43, ⟨by decide +kernel, by decide +kernel⟩, by decide +kernel⟩
theorem fit_L_law_X10_lost : pm_fit e_L_law e_X10_lost 2 := ⟨by decide +kernel, by decide +kernel, wm_1078, wm_50, ⟨by decide +kernel, by decide +kernel⟩, by decide +kernel⟩
theorem fit_L_law_X9_need : pm_fit e_L_law e_X9_need 2 := ⟨by decide +kernel, by decide +kernel, wm_689, wm_43, ⟨by decide +kernel, by decide +kernel⟩, by decide +kernel⟩
theorem fit_L_law_X10_need : pm_fit e_L_law e_X10_need 2 := ⟨by decide +kernel, by decide +kernel, wm_1082, wm_50, ⟨by decide +kernel, by decide +kernel⟩, by decide +kernel⟩
theorem fit_L_law_X9_asked : pm_fit e_L_law e_X9_asked 0 := ⟨by decide +kernel, by decide +kernel, wm_694, wm_43, ⟨by decide +kernel, by decide +kernel⟩, by decide +kernel⟩
theorem fit_L_law_X10_asked : pm_fit e_L_law e_X10_asked 0 := ⟨by decide +kernel, by decide +kernel, wm_1087, wm_50, ⟨by decide +kernel, by decide +kernel⟩, by decide +kernel⟩
theorem fit_L_law_X9_upper : pm_fit e_L_law e_X9_upper 0 := ⟨by decide +kernel, by decide +kernel, wm_698, wm_43, ⟨by decide +kernel, by decide +kernel⟩, by decide +kernel⟩
theorem fit_L_law_X10_upper : pm_fit e_L_law e_X10_upper 0 := ⟨by decide +kernel, by decide +kernel, wm_1091, wm_50, ⟨by decide +kernel, by decide +kernel⟩, by decide +kernel⟩
theorem fit_L_law_X9_lower : pm_fit e_L_law e_X9_lower 0 := ⟨by decide +kernel, by decide +kernel, wm_702, wm_43, ⟨by decide +kernel, by decide +kernel⟩, by decide +kernel⟩
theorem fit_L_law_X10_lower : pm_fit e_L_law e_X10_lower 0 := ⟨by decide +kernel, by decide +kernel, wm_1095, wm_50, ⟨by decide +kernel, by decide +kernel⟩, by decide +kernel⟩
theorem fit_L_law_X9_count : pm_fit e_L_law e_X9_count 1 := ⟨by decide +kernel, by decide +kernel, wm_706, wm_43, ⟨by decide +kernel, by decide +kernel⟩, by decide +kernel⟩
theorem fit_L_law_X10_count : pm_fit e_L_law e_X10_count 1 := ⟨by decide +kernel, by decide +kernel, wm_1099, wm_50, ⟨by decide +kernel, by decide +kernel⟩, by decide +kernel⟩
theorem fit_L_law_X9_finding : pm_fit e_L_law e_X9_finding 0 := ⟨by decide +kernel, by decide +kernel, wm_718, wm_43, ⟨by decide +kernel, by decide +kernel⟩, by decide +kernel⟩
theorem fit_L_law_X10_finding : pm_fit e_L_law e_X10_finding 0 := ⟨by decide +kernel, by decide +kernel, wm_1103, wm_50, ⟨by decide +kernel, by decide +kernel⟩, by decide +kernel⟩
theorem fit_L_law_X9_findings : pm_fit e_L_law e_X9_findings 1 := ⟨by decide +kernel, by decide +kernel, wm_722, wm_43, ⟨by decide +kernel, by decide +kernel⟩, by decide +kernel⟩
theorem fit_L_law_X10_findings : pm_fit e_L_law e_X10_findings 1 := ⟨by decide +kernel, by decide +kernel, wm_1107, wm_50, ⟨by decide +kernel, by decide +kernel⟩, by decide +kernel⟩
theorem fit_L_law_X9_digest : pm_fit e_L_law e_X9_digest 0 := ⟨by decide +kernel, by decide +kernel, wm_726, wm_43, ⟨by decide +kernel, by decide +kernel⟩, by decide +kernel⟩
theorem fit_L_law_X10_digest : pm_fit e_L_law e_X10_digest 0 := ⟨by decide +kernel, by decide +kernel, wm_1111, wm_50, ⟨by decide +kernel, by decide +kernel⟩, by decide +kernel⟩
