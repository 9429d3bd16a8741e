/-! ===== methods, and what the pools name ===== -/
theorem fv_at {w : Cond} (i : Nat) (h : lw_tbl[i]? = some w) (g : goodWord w = true) : w ∈ fv_tbl := fv_in (List.mem_of_getElem? h) g
abbrev Y0_init : fv_Y := (yX0_init, cX0_init, 1, none)
abbrev Y0_join : fv_Y := (yX0_join, cX0_join, 5, (some .int))
abbrev Y0_combine : fv_Y := (yX0_combine, cX0_combine, 5, (some .int))
abbrev Y0_multiply : fv_Y := (yX0_multiply, cX0_multiply, 8, (some .int))
abbrev Y0_isTooHigh : fv_Y := (yX0_isTooHigh, cX0_isTooHigh, 3, (some .boolean))
abbrev Y0_swapLetters : fv_Y := (yX0_swapLetters, cX0_swapLetters, 5, (some .int))
abbrev Y0_differ : fv_Y := (yX0_differ, cX0_differ, 5, (some .int))
abbrev Y0_pourDifference : fv_Y := (yX0_pourDifference, cX0_pourDifference, 12, none)
abbrev Y0_compose : fv_Y := (yX0_compose, cX0_compose, 9, (some .int))
abbrev Y0_staircase : fv_Y := (yX0_staircase, cX0_staircase, 3, (some .int))
abbrev Y0_partOf : fv_Y := (yX0_partOf, cX0_partOf, 4, (some .long))
abbrev Y0_partOfProduct : fv_Y := (yX0_partOfProduct, cX0_partOfProduct, 5, (some .long))
abbrev Y0_partOfLeft : fv_Y := (yX0_partOfLeft, cX0_partOfLeft, 7, (some .long))
abbrev Y1_isShape : fv_Y := (yX1_isShape, cX1_isShape, 2, (some .boolean))
abbrev Y1_isBox : fv_Y := (yX1_isBox, cX1_isBox, 6, (some .boolean))
abbrev Y1_figure : fv_Y := (yX1_figure, cX1_figure, 3, (some .int))
abbrev Y1_places : fv_Y := (yX1_places, cX1_places, 4, (some .int))
abbrev Y1_stripAt : fv_Y := (yX1_stripAt, cX1_stripAt, 12, (some .int))
abbrev Y1_room : fv_Y := (yX1_room, cX1_room, 4, (some .int))
abbrev Y1_strips : fv_Y := (yX1_strips, cX1_strips, 8, (some .int))
abbrev Y1_toOrder : fv_Y := (yX1_toOrder, cX1_toOrder, 7, (some .int))
abbrev Y1_gather : fv_Y := (yX1_gather, cX1_gather, 7, (some .int))
abbrev Y2_init : fv_Y := (yX2_init, cX2_init, 1, none)
abbrev Y2_filler : fv_Y := (yX2_filler, cX2_filler, 1, (some (.object "MeetHouse$Filler")))
abbrev Y2_rows : fv_Y := (yX2_rows, cX2_rows, 1, (some .int))
abbrev Y2_columns : fv_Y := (yX2_columns, cX2_columns, 1, (some .int))
abbrev Y2_size : fv_Y := (yX2_size, cX2_size, 1, (some .int))
abbrev Y2_restart : fv_Y := (yX2_restart, cX2_restart, 4, (some .int))
abbrev Y2_append : fv_Y := (yX2_append, cX2_append, 2, (some .int))
abbrev Y2_total : fv_Y := (yX2_total, cX2_total, 3, (some .long))
abbrev Y2_putOn : fv_Y := (yX2_putOn, cX2_putOn, 5, none)
abbrev Y2_digestOn : fv_Y := (yX2_digestOn, cX2_digestOn, 6, (some .long))
abbrev Y3_at : fv_Y := (yX3_at, cX3_at, 4, (some .int))
abbrev Y3_power : fv_Y := (yX3_power, cX3_power, 4, (some .int))
abbrev Y4_init : fv_Y := (yX4_init, cX4_init, 1, none)
abbrev Y4_howMany : fv_Y := (yX4_howMany, cX4_howMany, 6, (some .int))
abbrev Y4_fill : fv_Y := (yX4_fill, cX4_fill, 9, (some .int))
abbrev Y5_init : fv_Y := (yX5_init, cX5_init, 1, none)
abbrev Y5_isThere : fv_Y := (yX5_isThere, cX5_isThere, 1, (some .boolean))
abbrev Y5_vanish : fv_Y := (yX5_vanish, cX5_vanish, 1, none)
abbrev Y5_span : fv_Y := (yX5_span, cX5_span, 7, (some .boolean))
abbrev Y5_normalize : fv_Y := (yX5_normalize, cX5_normalize, 5, (some .boolean))
abbrev Y5_copy : fv_Y := (yX5_copy, cX5_copy, 3, none)
abbrev Y5_isLike : fv_Y := (yX5_isLike, cX5_isLike, 3, (some .boolean))
abbrev Y5_crosses : fv_Y := (yX5_crosses, cX5_crosses, 6, (some .boolean))
abbrev Y5_holds : fv_Y := (yX5_holds, cX5_holds, 8, (some .boolean))
abbrev Y5_pair : fv_Y := (yX5_pair, cX5_pair, 4, (some .int))
abbrev Y5_rest : fv_Y := (yX5_rest, cX5_rest, 2, (some .int))
abbrev Y6_figures : fv_Y := (yX6_figures, cX6_figures, 4, (some .int))
abbrev Y6_figure : fv_Y := (yX6_figure, cX6_figure, 3, (some .int))
abbrev Y6_falls : fv_Y := (yX6_falls, cX6_falls, 5, (some .int))
abbrev Y6_swapped : fv_Y := (yX6_swapped, cX6_swapped, 5, (some .int))
abbrev Y6_inverted : fv_Y := (yX6_inverted, cX6_inverted, 4, (some .int))
abbrev Y6_firstStep : fv_Y := (yX6_firstStep, cX6_firstStep, 4, (some .int))
abbrev Y6_ofLength : fv_Y := (yX6_ofLength, cX6_ofLength, 4, (some .int))
abbrev Y6_risen : fv_Y := (yX6_risen, cX6_risen, 6, (some .int))
abbrev Y6_leastRisen : fv_Y := (yX6_leastRisen, cX6_leastRisen, 9, (some .int))
abbrev Y7_init : fv_Y := (yX7_init, cX7_init, 1, none)
abbrev Y7_size : fv_Y := (yX7_size, cX7_size, 1, (some .int))
abbrev Y7_isThere : fv_Y := (yX7_isThere, cX7_isThere, 1, (some .boolean))
abbrev Y7_vanish : fv_Y := (yX7_vanish, cX7_vanish, 1, none)
abbrev Y7_clear : fv_Y := (yX7_clear, cX7_clear, 1, none)
abbrev Y7_append : fv_Y := (yX7_append, cX7_append, 3, none)
abbrev Y7_exponentsAt : fv_Y := (yX7_exponentsAt, cX7_exponentsAt, 2, (some .int))
abbrev Y7_numberAt : fv_Y := (yX7_numberAt, cX7_numberAt, 2, (some .int))
abbrev Y7_numberOf : fv_Y := (yX7_numberOf, cX7_numberOf, 3, (some .int))
abbrev Y7_exponentAt : fv_Y := (yX7_exponentAt, cX7_exponentAt, 3, (some .int))
abbrev Y7_topExponent : fv_Y := (yX7_topExponent, cX7_topExponent, 4, (some .int))
abbrev Y7_isLike : fv_Y := (yX7_isLike, cX7_isLike, 3, (some .boolean))
abbrev Y7_copy : fv_Y := (yX7_copy, cX7_copy, 3, none)
abbrev Y7_digestOn : fv_Y := (yX7_digestOn, cX7_digestOn, 6, (some .long))
abbrev Y8_init : fv_Y := (yX8_init, cX8_init, 1, none)
abbrev Y8_pour : fv_Y := (yX8_pour, cX8_pour, 4, none)
abbrev Y8_pourAll : fv_Y := (yX8_pourAll, cX8_pourAll, 5, none)
abbrev Y8_settle : fv_Y := (yX8_settle, cX8_settle, 3, (some .int))
abbrev Y8_takeOut : fv_Y := (yX8_takeOut, cX8_takeOut, 4, none)
abbrev Y9_init : fv_Y := (yX9_init, cX9_init, 2, none)
abbrev Y9_isRod : fv_Y := (yX9_isRod, cX9_isRod, 1, (some .boolean))
abbrev Y9_areBits : fv_Y := (yX9_areBits, cX9_areBits, 1, (some .boolean))
abbrev Y9_figure : fv_Y := (yX9_figure, cX9_figure, 2, (some .int))
abbrev Y9_order : fv_Y := (yX9_order, cX9_order, 1, (some .int))
abbrev Y9_isPoint : fv_Y := (yX9_isPoint, cX9_isPoint, 3, (some .boolean))
abbrev Y9_change : fv_Y := (yX9_change, cX9_change, 4, (some .int))
abbrev Y9_lay : fv_Y := (yX9_lay, cX9_lay, 4, (some .boolean))
abbrev Y9_remove : fv_Y := (yX9_remove, cX9_remove, 2, (some .boolean))
abbrev Y9_howMet : fv_Y := (yX9_howMet, cX9_howMet, 3, (some .int))
abbrev Y9_rodsThere : fv_Y := (yX9_rodsThere, cX9_rodsThere, 3, (some .int))
abbrev Y9_areThere : fv_Y := (yX9_areThere, cX9_areThere, 3, (some .boolean))
abbrev Y9_isTold : fv_Y := (yX9_isTold, cX9_isTold, 2, (some .boolean))
abbrev Y9_linesMeeting : fv_Y := (yX9_linesMeeting, cX9_linesMeeting, 5, (some .int))
abbrev Y9_linesFrom : fv_Y := (yX9_linesFrom, cX9_linesFrom, 9, (some .int))
abbrev Y9_crossesAll : fv_Y := (yX9_crossesAll, cX9_crossesAll, 3, (some .boolean))
abbrev Y9_pointsOn : fv_Y := (yX9_pointsOn, cX9_pointsOn, 6, (some .int))
abbrev Y9_isOnOne : fv_Y := (yX9_isOnOne, cX9_isOnOne, 4, (some .boolean))
abbrev Y9_pointFrom : fv_Y := (yX9_pointFrom, cX9_pointFrom, 8, (some .int))
abbrev Y10_init : fv_Y := (yX10_init, cX10_init, 2, none)
abbrev Y10_length : fv_Y := (yX10_length, cX10_length, 3, (some .int))
abbrev Y10_exchange : fv_Y := (yX10_exchange, cX10_exchange, 4, (some .int))
abbrev Y10_inverse : fv_Y := (yX10_inverse, cX10_inverse, 3, (some .int))
abbrev Y10_orders : fv_Y := (yX10_orders, cX10_orders, 3, (some .int))
abbrev Y10_step : fv_Y := (yX10_step, cX10_step, 5, (some .int))
abbrev Y10_blank : fv_Y := (yX10_blank, cX10_blank, 2, (some .int))
abbrev Y10_lose : fv_Y := (yX10_lose, cX10_lose, 3, (some .int))
abbrev Y10_add : fv_Y := (yX10_add, cX10_add, 5, (some .int))
abbrev Y10_terms : fv_Y := (yX10_terms, cX10_terms, 2, (some .int))
abbrev Y10_exponents : fv_Y := (yX10_exponents, cX10_exponents, 3, (some .int))
abbrev Y10_number : fv_Y := (yX10_number, cX10_number, 3, (some .long))
abbrev Y10_sum : fv_Y := (yX10_sum, cX10_sum, 5, (some .int))
abbrev Y10_product : fv_Y := (yX10_product, cX10_product, 4, (some .int))
abbrev Y10_turned : fv_Y := (yX10_turned, cX10_turned, 4, (some .int))
abbrev Y10_difference : fv_Y := (yX10_difference, cX10_difference, 4, (some .int))
abbrev Y10_polynomial : fv_Y := (yX10_polynomial, cX10_polynomial, 4, (some .int))
abbrev Y10_part : fv_Y := (yX10_part, cX10_part, 4, (some .long))
abbrev Y10_constant : fv_Y := (yX10_constant, cX10_constant, 4, (some .long))
abbrev Y10_same : fv_Y := (yX10_same, cX10_same, 3, (some .int))
abbrev Y10_strip : fv_Y := (yX10_strip, cX10_strip, 6, (some .int))
abbrev Y10_fillings : fv_Y := (yX10_fillings, cX10_fillings, 6, (some .int))
abbrev Y10_orderOf : fv_Y := (yX10_orderOf, cX10_orderOf, 4, (some .int))
abbrev Y10_begin : fv_Y := (yX10_begin, cX10_begin, 3, (some .int))
abbrev Y10_condition : fv_Y := (yX10_condition, cX10_condition, 2, (some .int))
abbrev Y10_meeting : fv_Y := (yX10_meeting, cX10_meeting, 1, (some .long))
abbrev Y10_field : fv_Y := (yX10_field, cX10_field, 2, (some .int))
abbrev Y10_rod : fv_Y := (yX10_rod, cX10_rod, 4, (some .int))
abbrev Y10_drop : fv_Y := (yX10_drop, cX10_drop, 2, (some .int))
abbrev Y10_meet : fv_Y := (yX10_meet, cX10_meet, 3, (some .int))
abbrev Y10_lines : fv_Y := (yX10_lines, cX10_lines, 2, (some .int))
abbrev Y10_points : fv_Y := (yX10_points, cX10_points, 2, (some .int))
abbrev Y10_count : fv_Y := (yX10_count, cX10_count, 2, (some .int))
abbrev Y10_digest : fv_Y := (yX10_digest, cX10_digest, 4, (some .long))
abbrev Y10_isSheet : fv_Y := (yX10_isSheet, cX10_isSheet, 1, (some .boolean))
abbrev Y10_isLost : fv_Y := (yX10_isLost, cX10_isLost, 2, (some .boolean))
abbrev Y10_keptSheets : fv_Y := (yX10_keptSheets, cX10_keptSheets, 3, (some .int))
abbrev Y10_isBeyond : fv_Y := (yX10_isBeyond, cX10_isBeyond, 2, (some .boolean))
abbrev Y10_areExponents : fv_Y := (yX10_areExponents, cX10_areExponents, 2, (some .boolean))
abbrev Y10_refusal : fv_Y := (yX10_refusal, cX10_refusal, 1, (some .long))
abbrev Y11_init : fv_Y := (yX11_init, cX11_init, 1, none)
abbrev Y11_in : fv_Y := (yX11_in, cX11_in, 6, (some .boolean))
abbrev Y11_no : fv_Y := (yX11_no, cX11_no, 1, (some .long))
abbrev Y11_reads : fv_Y := (yX11_reads, cX11_reads, 5, (some .boolean))
abbrev Y11_told : fv_Y := (yX11_told, cX11_told, 3, (some .int))
abbrev Y11_lengthNow : fv_Y := (yX11_lengthNow, cX11_lengthNow, 4, (some .int))
abbrev Y11_change : fv_Y := (yX11_change, cX11_change, 4, none)
abbrev Y11_length : fv_Y := (yX11_length, cX11_length, 2, (some .int))
abbrev Y11_exchange : fv_Y := (yX11_exchange, cX11_exchange, 3, (some .int))
abbrev Y11_inverse : fv_Y := (yX11_inverse, cX11_inverse, 5, (some .int))
abbrev Y11_orders : fv_Y := (yX11_orders, cX11_orders, 6, (some .int))
abbrev Y11_step : fv_Y := (yX11_step, cX11_step, 9, (some .int))
abbrev Y11_isSheet : fv_Y := (yX11_isSheet, cX11_isSheet, 1, (some .boolean))
abbrev Y11_placeOf : fv_Y := (yX11_placeOf, cX11_placeOf, 5, (some .int))
abbrev Y11_toldOf : fv_Y := (yX11_toldOf, cX11_toldOf, 5, (some .int))
abbrev Y11_wipe : fv_Y := (yX11_wipe, cX11_wipe, 2, none)
abbrev Y11_takes : fv_Y := (yX11_takes, cX11_takes, 5, none)
abbrev Y11_tooMuch : fv_Y := (yX11_tooMuch, cX11_tooMuch, 4, (some .int))
abbrev Y11_lays : fv_Y := (yX11_lays, cX11_lays, 5, (some .int))
abbrev Y11_blank : fv_Y := (yX11_blank, cX11_blank, 2, (some .int))
abbrev Y11_lose : fv_Y := (yX11_lose, cX11_lose, 2, (some .int))
abbrev Y11_add : fv_Y := (yX11_add, cX11_add, 5, (some .int))
abbrev Y11_terms : fv_Y := (yX11_terms, cX11_terms, 2, (some .int))
abbrev Y11_exponents : fv_Y := (yX11_exponents, cX11_exponents, 3, (some .int))
abbrev Y11_number : fv_Y := (yX11_number, cX11_number, 4, (some .long))
abbrev Y11_sum : fv_Y := (yX11_sum, cX11_sum, 5, (some .int))
abbrev Y11_highest : fv_Y := (yX11_highest, cX11_highest, 7, (some .int))
abbrev Y11_product : fv_Y := (yX11_product, cX11_product, 6, (some .int))
abbrev Y11_nines : fv_Y := (yX11_nines, cX11_nines, 3, (some .int))
abbrev Y11_turned : fv_Y := (yX11_turned, cX11_turned, 10, (some .int))
abbrev Y11_differ : fv_Y := (yX11_differ, cX11_differ, 11, none)
abbrev Y11_difference : fv_Y := (yX11_difference, cX11_difference, 4, (some .int))
abbrev Y11_makes : fv_Y := (yX11_makes, cX11_makes, 7, none)
abbrev Y11_polynomial : fv_Y := (yX11_polynomial, cX11_polynomial, 3, (some .int))
abbrev Y11_parts : fv_Y := (yX11_parts, cX11_parts, 6, (some .long))
abbrev Y11_part : fv_Y := (yX11_part, cX11_part, 3, (some .long))
abbrev Y11_constant : fv_Y := (yX11_constant, cX11_constant, 6, (some .long))
abbrev Y11_same : fv_Y := (yX11_same, cX11_same, 5, (some .int))
abbrev Y11_isBox : fv_Y := (yX11_isBox, cX11_isBox, 6, (some .boolean))
abbrev Y11_areSides : fv_Y := (yX11_areSides, cX11_areSides, 2, (some .boolean))
abbrev Y11_tens : fv_Y := (yX11_tens, cX11_tens, 3, (some .int))
abbrev Y11_sizeOf : fv_Y := (yX11_sizeOf, cX11_sizeOf, 4, (some .int))
abbrev Y11_strip : fv_Y := (yX11_strip, cX11_strip, 10, (some .int))
abbrev Y11_mayStand : fv_Y := (yX11_mayStand, cX11_mayStand, 6, (some .boolean))
abbrev Y11_fills : fv_Y := (yX11_fills, cX11_fills, 6, (some .int))
abbrev Y11_fillings : fv_Y := (yX11_fillings, cX11_fillings, 7, (some .int))
abbrev Y11_orderOf : fv_Y := (yX11_orderOf, cX11_orderOf, 8, (some .int))
abbrev Y11_begin : fv_Y := (yX11_begin, cX11_begin, 4, (some .int))
abbrev Y11_condition : fv_Y := (yX11_condition, cX11_condition, 2, (some .int))
abbrev Y11_meeting : fv_Y := (yX11_meeting, cX11_meeting, 7, (some .long))
abbrev Y11_lookAtPoints : fv_Y := (yX11_lookAtPoints, cX11_lookAtPoints, 5, none)
abbrev Y11_pointOf : fv_Y := (yX11_pointOf, cX11_pointOf, 5, (some .int))
abbrev Y11_mixed : fv_Y := (yX11_mixed, cX11_mixed, 7, (some .int))
abbrev Y11_evened : fv_Y := (yX11_evened, cX11_evened, 2, (some .int))
abbrev Y11_onLine : fv_Y := (yX11_onLine, cX11_onLine, 4, (some .int))
abbrev Y11_drops : fv_Y := (yX11_drops, cX11_drops, 2, none)
abbrev Y11_field : fv_Y := (yX11_field, cX11_field, 3, (some .int))
abbrev Y11_rod : fv_Y := (yX11_rod, cX11_rod, 4, (some .int))
abbrev Y11_drop : fv_Y := (yX11_drop, cX11_drop, 2, (some .int))
abbrev Y11_marks : fv_Y := (yX11_marks, cX11_marks, 7, (some .int))
abbrev Y11_wipeMarks : fv_Y := (yX11_wipeMarks, cX11_wipeMarks, 3, none)
abbrev Y11_meet : fv_Y := (yX11_meet, cX11_meet, 7, (some .int))
abbrev Y11_areThere : fv_Y := (yX11_areThere, cX11_areThere, 4, (some .boolean))
abbrev Y11_lookAtRods : fv_Y := (yX11_lookAtRods, cX11_lookAtRods, 4, none)
abbrev Y11_areLeast : fv_Y := (yX11_areLeast, cX11_areLeast, 5, (some .boolean))
abbrev Y11_lines : fv_Y := (yX11_lines, cX11_lines, 6, (some .int))
abbrev Y11_points : fv_Y := (yX11_points, cX11_points, 4, (some .int))
abbrev Y11_count : fv_Y := (yX11_count, cX11_count, 4, (some .int))
abbrev Y11_digest : fv_Y := (yX11_digest, cX11_digest, 5, (some .long))
abbrev YJ9_floorMod : fv_Y := (yJ9_floorMod_7cf53, cJ9_floorMod_7cf53, 3, (some .int))
abbrev YJ9_max : fv_Y := (yJ9_max_7cf53, cJ9_max_7cf53, 2, (some .int))
abbrev YJ9_min : fv_Y := (yJ9_min_7cf53, cJ9_min_7cf53, 2, (some .int))
abbrev YL_law : fv_Y := (yL_law, cL_law, 4, some .boolean)
theorem kkY0_init : Cond.code Y0_init.1 Y0_init.2.1 Y0_init.2.2.1 Y0_init.2.2.2 ∈ fv_tbl := fv_at 65 (by decide +kernel) (by decide +kernel)
theorem kkY0_join : Cond.code Y0_join.1 Y0_join.2.1 Y0_join.2.2.1 Y0_join.2.2.2 ∈ fv_tbl := fv_at 325 (by decide +kernel) (by decide +kernel)
theorem kkY0_combine : Cond.code Y0_combine.1 Y0_combine.2.1 Y0_combine.2.2.1 Y0_combine.2.2.2 ∈ fv_tbl := fv_at 400 (by decide +kernel) (by decide +kernel)
theorem kkY0_multiply : Cond.code Y0_multiply.1 Y0_multiply.2.1 Y0_multiply.2.2.1 Y0_multiply.2.2.2 ∈ fv_tbl := fv_at 408 (by decide +kernel) (by decide +kernel)
theorem kkY0_isTooHigh : Cond.code Y0_isTooHigh.1 Y0_isTooHigh.2.1 Y0_isTooHigh.2.2.1 Y0_isTooHigh.2.2.2 ∈ fv_tbl := fv_at 411 (by decide +kernel) (by decide +kernel)
theorem kkY0_swapLetters : Cond.code Y0_swapLetters.1 Y0_swapLetters.2.1 Y0_swapLetters.2.2.1 Y0_swapLetters.2.2.2 ∈ fv_tbl := fv_at 434 (by decide +kernel) (by decide +kernel)
theorem kkY0_differ : Cond.code Y0_differ.1 Y0_differ.2.1 Y0_differ.2.2.1 Y0_differ.2.2.2 ∈ fv_tbl := fv_at 443 (by decide +kernel) (by decide +kernel)
theorem kkY0_pourDifference : Cond.code Y0_pourDifference.1 Y0_pourDifference.2.1 Y0_pourDifference.2.2.1 Y0_pourDifference.2.2.2 ∈ fv_tbl := fv_at 447 (by decide +kernel) (by decide +kernel)
theorem kkY0_compose : Cond.code Y0_compose.1 Y0_compose.2.1 Y0_compose.2.2.1 Y0_compose.2.2.2 ∈ fv_tbl := fv_at 459 (by decide +kernel) (by decide +kernel)
theorem kkY0_staircase : Cond.code Y0_staircase.1 Y0_staircase.2.1 Y0_staircase.2.2.1 Y0_staircase.2.2.2 ∈ fv_tbl := fv_at 467 (by decide +kernel) (by decide +kernel)
theorem kkY0_partOf : Cond.code Y0_partOf.1 Y0_partOf.2.1 Y0_partOf.2.2.1 Y0_partOf.2.2.2 ∈ fv_tbl := fv_at 477 (by decide +kernel) (by decide +kernel)
theorem kkY0_partOfProduct : Cond.code Y0_partOfProduct.1 Y0_partOfProduct.2.1 Y0_partOfProduct.2.2.1 Y0_partOfProduct.2.2.2 ∈ fv_tbl := fv_at 492 (by decide +kernel) (by decide +kernel)
theorem kkY0_partOfLeft : Cond.code Y0_partOfLeft.1 Y0_partOfLeft.2.1 Y0_partOfLeft.2.2.1 Y0_partOfLeft.2.2.2 ∈ fv_tbl := fv_at 482 (by decide +kernel) (by decide +kernel)
theorem kkY1_isShape : Cond.code Y1_isShape.1 Y1_isShape.2.1 Y1_isShape.2.2.1 Y1_isShape.2.2.2 ∈ fv_tbl := fv_at 513 (by decide +kernel) (by decide +kernel)
theorem kkY1_isBox : Cond.code Y1_isBox.1 Y1_isBox.2.1 Y1_isBox.2.2.1 Y1_isBox.2.2.2 ∈ fv_tbl := fv_at 510 (by decide +kernel) (by decide +kernel)
theorem kkY1_figure : Cond.code Y1_figure.1 Y1_figure.2.1 Y1_figure.2.2.1 Y1_figure.2.2.2 ∈ fv_tbl := fv_at 517 (by decide +kernel) (by decide +kernel)
theorem kkY1_places : Cond.code Y1_places.1 Y1_places.2.1 Y1_places.2.2.1 Y1_places.2.2.2 ∈ fv_tbl := fv_at 543 (by decide +kernel) (by decide +kernel)
theorem kkY1_stripAt : Cond.code Y1_stripAt.1 Y1_stripAt.2.1 Y1_stripAt.2.2.1 Y1_stripAt.2.2.2 ∈ fv_tbl := fv_at 521 (by decide +kernel) (by decide +kernel)
theorem kkY1_room : Cond.code Y1_room.1 Y1_room.2.1 Y1_room.2.2.1 Y1_room.2.2.2 ∈ fv_tbl := fv_at 527 (by decide +kernel) (by decide +kernel)
theorem kkY1_strips : Cond.code Y1_strips.1 Y1_strips.2.1 Y1_strips.2.2.1 Y1_strips.2.2.2 ∈ fv_tbl := fv_at 524 (by decide +kernel) (by decide +kernel)
theorem kkY1_toOrder : Cond.code Y1_toOrder.1 Y1_toOrder.2.1 Y1_toOrder.2.2.1 Y1_toOrder.2.2.2 ∈ fv_tbl := fv_at 556 (by decide +kernel) (by decide +kernel)
theorem kkY1_gather : Cond.code Y1_gather.1 Y1_gather.2.1 Y1_gather.2.2.1 Y1_gather.2.2.2 ∈ fv_tbl := fv_at 592 (by decide +kernel) (by decide +kernel)
theorem kkY2_init : Cond.code Y2_init.1 Y2_init.2.1 Y2_init.2.2.1 Y2_init.2.2.2 ∈ fv_tbl := fv_at 128 (by decide +kernel) (by decide +kernel)
theorem kkY2_filler : Cond.code Y2_filler.1 Y2_filler.2.1 Y2_filler.2.2.1 Y2_filler.2.2.2 ∈ fv_tbl := fv_at 536 (by decide +kernel) (by decide +kernel)
theorem kkY2_rows : Cond.code Y2_rows.1 Y2_rows.2.1 Y2_rows.2.2.1 Y2_rows.2.2.2 ∈ fv_tbl := fv_at 573 (by decide +kernel) (by decide +kernel)
theorem kkY2_columns : Cond.code Y2_columns.1 Y2_columns.2.1 Y2_columns.2.2.1 Y2_columns.2.2.2 ∈ fv_tbl := fv_at 577 (by decide +kernel) (by decide +kernel)
theorem kkY2_size : Cond.code Y2_size.1 Y2_size.2.1 Y2_size.2.2.1 Y2_size.2.2.2 ∈ fv_tbl := fv_at 741 (by decide +kernel) (by decide +kernel)
theorem kkY2_restart : Cond.code Y2_restart.1 Y2_restart.2.1 Y2_restart.2.2.1 Y2_restart.2.2.2 ∈ fv_tbl := fv_at 565 (by decide +kernel) (by decide +kernel)
theorem kkY2_append : Cond.code Y2_append.1 Y2_append.2.1 Y2_append.2.2.1 Y2_append.2.2.2 ∈ fv_tbl := fv_at 581 (by decide +kernel) (by decide +kernel)
theorem kkY2_total : Cond.code Y2_total.1 Y2_total.2.1 Y2_total.2.2.1 Y2_total.2.2.2 ∈ fv_tbl := fv_at 589 (by decide +kernel) (by decide +kernel)
theorem kkY2_putOn : Cond.code Y2_putOn.1 Y2_putOn.2.1 Y2_putOn.2.2.1 Y2_putOn.2.2.2 ∈ fv_tbl := fv_at 598 (by decide +kernel) (by decide +kernel)
theorem kkY2_digestOn : Cond.code Y2_digestOn.1 Y2_digestOn.2.1 Y2_digestOn.2.2.1 Y2_digestOn.2.2.2 ∈ fv_tbl := fv_at 765 (by decide +kernel) (by decide +kernel)
theorem kkY3_at : Cond.code Y3_at.1 Y3_at.2.1 Y3_at.2.2.1 Y3_at.2.2.2 ∈ fv_tbl := fv_at 239 (by decide +kernel) (by decide +kernel)
theorem kkY3_power : Cond.code Y3_power.1 Y3_power.2.1 Y3_power.2.2.1 Y3_power.2.2.2 ∈ fv_tbl := fv_at 249 (by decide +kernel) (by decide +kernel)
theorem kkY4_init : Cond.code Y4_init.1 Y4_init.2.1 Y4_init.2.2.1 Y4_init.2.2.2 ∈ fv_tbl := fv_at 134 (by decide +kernel) (by decide +kernel)
theorem kkY4_howMany : Cond.code Y4_howMany.1 Y4_howMany.2.1 Y4_howMany.2.2.1 Y4_howMany.2.2.2 ∈ fv_tbl := fv_at 540 (by decide +kernel) (by decide +kernel)
theorem kkY4_fill : Cond.code Y4_fill.1 Y4_fill.2.1 Y4_fill.2.2.1 Y4_fill.2.2.2 ∈ fv_tbl := fv_at 548 (by decide +kernel) (by decide +kernel)
theorem kkY5_init : Cond.code Y5_init.1 Y5_init.2.1 Y5_init.2.2.1 Y5_init.2.2.2 ∈ fv_tbl := fv_at 190 (by decide +kernel) (by decide +kernel)
theorem kkY5_isThere : Cond.code Y5_isThere.1 Y5_isThere.2.1 Y5_isThere.2.2.1 Y5_isThere.2.2.2 ∈ fv_tbl := fv_at 663 (by decide +kernel) (by decide +kernel)
theorem kkY5_vanish : Cond.code Y5_vanish.1 Y5_vanish.2.1 Y5_vanish.2.2.1 Y5_vanish.2.2.2 ∈ fv_tbl := fv_at 611 (by decide +kernel) (by decide +kernel)
theorem kkY5_span : Cond.code Y5_span.1 Y5_span.2.1 Y5_span.2.2.1 Y5_span.2.2.2 ∈ fv_tbl := fv_at 636 (by decide +kernel) (by decide +kernel)
theorem kkY5_normalize : Cond.code Y5_normalize.1 Y5_normalize.2.1 Y5_normalize.2.2.1 Y5_normalize.2.2.2 ∈ fv_tbl := fv_at 647 (by decide +kernel) (by decide +kernel)
theorem kkY5_copy : Cond.code Y5_copy.1 Y5_copy.2.1 Y5_copy.2.2.1 Y5_copy.2.2.2 ∈ fv_tbl := fv_at 651 (by decide +kernel) (by decide +kernel)
theorem kkY5_isLike : Cond.code Y5_isLike.1 Y5_isLike.2.1 Y5_isLike.2.2.1 Y5_isLike.2.2.2 ∈ fv_tbl := fv_at 675 (by decide +kernel) (by decide +kernel)
theorem kkY5_crosses : Cond.code Y5_crosses.1 Y5_crosses.2.1 Y5_crosses.2.2.1 Y5_crosses.2.2.2 ∈ fv_tbl := fv_at 679 (by decide +kernel) (by decide +kernel)
theorem kkY5_holds : Cond.code Y5_holds.1 Y5_holds.2.1 Y5_holds.2.2.1 Y5_holds.2.2.2 ∈ fv_tbl := fv_at 725 (by decide +kernel) (by decide +kernel)
theorem kkY5_pair : Cond.code Y5_pair.1 Y5_pair.2.1 Y5_pair.2.2.1 Y5_pair.2.2.2 ∈ fv_tbl := fv_at 729 (by decide +kernel) (by decide +kernel)
theorem kkY5_rest : Cond.code Y5_rest.1 Y5_rest.2.1 Y5_rest.2.2.1 Y5_rest.2.2.2 ∈ fv_tbl := fv_at 640 (by decide +kernel) (by decide +kernel)
theorem kkY6_figures : Cond.code Y6_figures.1 Y6_figures.2.1 Y6_figures.2.2.1 Y6_figures.2.2.2 ∈ fv_tbl := fv_at 229 (by decide +kernel) (by decide +kernel)
theorem kkY6_figure : Cond.code Y6_figure.1 Y6_figure.2.1 Y6_figure.2.2.1 Y6_figure.2.2.2 ∈ fv_tbl := fv_at 236 (by decide +kernel) (by decide +kernel)
theorem kkY6_falls : Cond.code Y6_falls.1 Y6_falls.2.1 Y6_falls.2.2.1 Y6_falls.2.2.2 ∈ fv_tbl := fv_at 233 (by decide +kernel) (by decide +kernel)
theorem kkY6_swapped : Cond.code Y6_swapped.1 Y6_swapped.2.1 Y6_swapped.2.2.1 Y6_swapped.2.2.2 ∈ fv_tbl := fv_at 246 (by decide +kernel) (by decide +kernel)
theorem kkY6_inverted : Cond.code Y6_inverted.1 Y6_inverted.2.1 Y6_inverted.2.2.1 Y6_inverted.2.2.2 ∈ fv_tbl := fv_at 256 (by decide +kernel) (by decide +kernel)
theorem kkY6_firstStep : Cond.code Y6_firstStep.1 Y6_firstStep.2.1 Y6_firstStep.2.2.1 Y6_firstStep.2.2.2 ∈ fv_tbl := fv_at 462 (by decide +kernel) (by decide +kernel)
theorem kkY6_ofLength : Cond.code Y6_ofLength.1 Y6_ofLength.2.1 Y6_ofLength.2.2.1 Y6_ofLength.2.2.2 ∈ fv_tbl := fv_at 263 (by decide +kernel) (by decide +kernel)
theorem kkY6_risen : Cond.code Y6_risen.1 Y6_risen.2.1 Y6_risen.2.2.1 Y6_risen.2.2.2 ∈ fv_tbl := fv_at 271 (by decide +kernel) (by decide +kernel)
theorem kkY6_leastRisen : Cond.code Y6_leastRisen.1 Y6_leastRisen.2.1 Y6_leastRisen.2.2.1 Y6_leastRisen.2.2.2 ∈ fv_tbl := fv_at 274 (by decide +kernel) (by decide +kernel)
theorem kkY7_init : Cond.code Y7_init.1 Y7_init.2.1 Y7_init.2.2.1 Y7_init.2.2.2 ∈ fv_tbl := fv_at 78 (by decide +kernel) (by decide +kernel)
theorem kkY7_size : Cond.code Y7_size.1 Y7_size.2.1 Y7_size.2.2.1 Y7_size.2.2.2 ∈ fv_tbl := fv_at 303 (by decide +kernel) (by decide +kernel)
theorem kkY7_isThere : Cond.code Y7_isThere.1 Y7_isThere.2.1 Y7_isThere.2.2.1 Y7_isThere.2.2.2 ∈ fv_tbl := fv_at 299 (by decide +kernel) (by decide +kernel)
theorem kkY7_vanish : Cond.code Y7_vanish.1 Y7_vanish.2.1 Y7_vanish.2.2.1 Y7_vanish.2.2.2 ∈ fv_tbl := fv_at 307 (by decide +kernel) (by decide +kernel)
theorem kkY7_clear : Cond.code Y7_clear.1 Y7_clear.2.1 Y7_clear.2.2.1 Y7_clear.2.2.2 ∈ fv_tbl := fv_at 287 (by decide +kernel) (by decide +kernel)
theorem kkY7_append : Cond.code Y7_append.1 Y7_append.2.1 Y7_append.2.2.1 Y7_append.2.2.2 ∈ fv_tbl := fv_at 361 (by decide +kernel) (by decide +kernel)
theorem kkY7_exponentsAt : Cond.code Y7_exponentsAt.1 Y7_exponentsAt.2.1 Y7_exponentsAt.2.2.1 Y7_exponentsAt.2.2.2 ∈ fv_tbl := fv_at 334 (by decide +kernel) (by decide +kernel)
theorem kkY7_numberAt : Cond.code Y7_numberAt.1 Y7_numberAt.2.1 Y7_numberAt.2.2.1 Y7_numberAt.2.2.2 ∈ fv_tbl := fv_at 338 (by decide +kernel) (by decide +kernel)
theorem kkY7_numberOf : Cond.code Y7_numberOf.1 Y7_numberOf.2.1 Y7_numberOf.2.2.1 Y7_numberOf.2.2.2 ∈ fv_tbl := fv_at 390 (by decide +kernel) (by decide +kernel)
theorem kkY7_exponentAt : Cond.code Y7_exponentAt.1 Y7_exponentAt.2.1 Y7_exponentAt.2.2.1 Y7_exponentAt.2.2.2 ∈ fv_tbl := fv_at 419 (by decide +kernel) (by decide +kernel)
theorem kkY7_topExponent : Cond.code Y7_topExponent.1 Y7_topExponent.2.1 Y7_topExponent.2.2.1 Y7_topExponent.2.2.2 ∈ fv_tbl := fv_at 415 (by decide +kernel) (by decide +kernel)
theorem kkY7_isLike : Cond.code Y7_isLike.1 Y7_isLike.2.1 Y7_isLike.2.2.1 Y7_isLike.2.2.2 ∈ fv_tbl := fv_at 503 (by decide +kernel) (by decide +kernel)
theorem kkY7_copy : Cond.code Y7_copy.1 Y7_copy.2.1 Y7_copy.2.2.1 Y7_copy.2.2.2 ∈ fv_tbl := fv_at 365 (by decide +kernel) (by decide +kernel)
theorem kkY7_digestOn : Cond.code Y7_digestOn.1 Y7_digestOn.2.1 Y7_digestOn.2.2.1 Y7_digestOn.2.2.2 ∈ fv_tbl := fv_at 760 (by decide +kernel) (by decide +kernel)
theorem kkY8_init : Cond.code Y8_init.1 Y8_init.2.1 Y8_init.2.2.1 Y8_init.2.2.2 ∈ fv_tbl := fv_at 71 (by decide +kernel) (by decide +kernel)
theorem kkY8_pour : Cond.code Y8_pour.1 Y8_pour.2.1 Y8_pour.2.2.1 Y8_pour.2.2.2 ∈ fv_tbl := fv_at 342 (by decide +kernel) (by decide +kernel)
theorem kkY8_pourAll : Cond.code Y8_pourAll.1 Y8_pourAll.2.1 Y8_pourAll.2.2.1 Y8_pourAll.2.2.2 ∈ fv_tbl := fv_at 329 (by decide +kernel) (by decide +kernel)
theorem kkY8_settle : Cond.code Y8_settle.1 Y8_settle.2.1 Y8_settle.2.2.1 Y8_settle.2.2.2 ∈ fv_tbl := fv_at 348 (by decide +kernel) (by decide +kernel)
theorem kkY8_takeOut : Cond.code Y8_takeOut.1 Y8_takeOut.2.1 Y8_takeOut.2.2.1 Y8_takeOut.2.2.2 ∈ fv_tbl := fv_at 353 (by decide +kernel) (by decide +kernel)
theorem kkY9_init : Cond.code Y9_init.1 Y9_init.2.1 Y9_init.2.2.1 Y9_init.2.2.2 ∈ fv_tbl := fv_at 183 (by decide +kernel) (by decide +kernel)
theorem kkY9_isRod : Cond.code Y9_isRod.1 Y9_isRod.2.1 Y9_isRod.2.2.1 Y9_isRod.2.2.2 ∈ fv_tbl := fv_at 618 (by decide +kernel) (by decide +kernel)
theorem kkY9_areBits : Cond.code Y9_areBits.1 Y9_areBits.2.1 Y9_areBits.2.2.1 Y9_areBits.2.2.2 ∈ fv_tbl := fv_at 686 (by decide +kernel) (by decide +kernel)
theorem kkY9_figure : Cond.code Y9_figure.1 Y9_figure.2.1 Y9_figure.2.2.1 Y9_figure.2.2.2 ∈ fv_tbl := fv_at 626 (by decide +kernel) (by decide +kernel)
theorem kkY9_order : Cond.code Y9_order.1 Y9_order.2.1 Y9_order.2.2.1 Y9_order.2.2.2 ∈ fv_tbl := fv_at 745 (by decide +kernel) (by decide +kernel)
theorem kkY9_isPoint : Cond.code Y9_isPoint.1 Y9_isPoint.2.1 Y9_isPoint.2.2.1 Y9_isPoint.2.2.2 ∈ fv_tbl := fv_at 622 (by decide +kernel) (by decide +kernel)
theorem kkY9_change : Cond.code Y9_change.1 Y9_change.2.1 Y9_change.2.2.1 Y9_change.2.2.2 ∈ fv_tbl := fv_at 607 (by decide +kernel) (by decide +kernel)
theorem kkY9_lay : Cond.code Y9_lay.1 Y9_lay.2.1 Y9_lay.2.2.1 Y9_lay.2.2.2 ∈ fv_tbl := fv_at 631 (by decide +kernel) (by decide +kernel)
theorem kkY9_remove : Cond.code Y9_remove.1 Y9_remove.2.1 Y9_remove.2.2.1 Y9_remove.2.2.2 ∈ fv_tbl := fv_at 659 (by decide +kernel) (by decide +kernel)
theorem kkY9_howMet : Cond.code Y9_howMet.1 Y9_howMet.2.1 Y9_howMet.2.2.1 Y9_howMet.2.2.2 ∈ fv_tbl := fv_at 671 (by decide +kernel) (by decide +kernel)
theorem kkY9_rodsThere : Cond.code Y9_rodsThere.1 Y9_rodsThere.2.1 Y9_rodsThere.2.2.1 Y9_rodsThere.2.2.2 ∈ fv_tbl := fv_at 749 (by decide +kernel) (by decide +kernel)
theorem kkY9_areThere : Cond.code Y9_areThere.1 Y9_areThere.2.1 Y9_areThere.2.2.1 Y9_areThere.2.2.2 ∈ fv_tbl := fv_at 690 (by decide +kernel) (by decide +kernel)
theorem kkY9_isTold : Cond.code Y9_isTold.1 Y9_isTold.2.1 Y9_isTold.2.2.1 Y9_isTold.2.2.2 ∈ fv_tbl := fv_at 693 (by decide +kernel) (by decide +kernel)
theorem kkY9_linesMeeting : Cond.code Y9_linesMeeting.1 Y9_linesMeeting.2.1 Y9_linesMeeting.2.2.1 Y9_linesMeeting.2.2.2 ∈ fv_tbl := fv_at 697 (by decide +kernel) (by decide +kernel)
theorem kkY9_linesFrom : Cond.code Y9_linesFrom.1 Y9_linesFrom.2.1 Y9_linesFrom.2.2.1 Y9_linesFrom.2.2.2 ∈ fv_tbl := fv_at 701 (by decide +kernel) (by decide +kernel)
theorem kkY9_crossesAll : Cond.code Y9_crossesAll.1 Y9_crossesAll.2.1 Y9_crossesAll.2.2.1 Y9_crossesAll.2.2.2 ∈ fv_tbl := fv_at 709 (by decide +kernel) (by decide +kernel)
theorem kkY9_pointsOn : Cond.code Y9_pointsOn.1 Y9_pointsOn.2.1 Y9_pointsOn.2.2.1 Y9_pointsOn.2.2.2 ∈ fv_tbl := fv_at 717 (by decide +kernel) (by decide +kernel)
theorem kkY9_isOnOne : Cond.code Y9_isOnOne.1 Y9_isOnOne.2.1 Y9_isOnOne.2.2.1 Y9_isOnOne.2.2.2 ∈ fv_tbl := fv_at 721 (by decide +kernel) (by decide +kernel)
theorem kkY9_pointFrom : Cond.code Y9_pointFrom.1 Y9_pointFrom.2.1 Y9_pointFrom.2.2.1 Y9_pointFrom.2.2.2 ∈ fv_tbl := fv_at 705 (by decide +kernel) (by decide +kernel)
theorem kkY10_init : Cond.code Y10_init.1 Y10_init.2.1 Y10_init.2.2.1 Y10_init.2.2.2 ∈ fv_tbl := fv_at 55 (by decide +kernel) (by decide +kernel)
theorem kkY10_length : Cond.code Y10_length.1 Y10_length.2.1 Y10_length.2.2.1 Y10_length.2.2.2 ∈ fv_tbl := fv_at 226 (by decide +kernel) (by decide +kernel)
theorem kkY10_exchange : Cond.code Y10_exchange.1 Y10_exchange.2.1 Y10_exchange.2.2.1 Y10_exchange.2.2.2 ∈ fv_tbl := fv_at 243 (by decide +kernel) (by decide +kernel)
theorem kkY10_inverse : Cond.code Y10_inverse.1 Y10_inverse.2.1 Y10_inverse.2.2.1 Y10_inverse.2.2.2 ∈ fv_tbl := fv_at 253 (by decide +kernel) (by decide +kernel)
theorem kkY10_orders : Cond.code Y10_orders.1 Y10_orders.2.1 Y10_orders.2.2.1 Y10_orders.2.2.2 ∈ fv_tbl := fv_at 260 (by decide +kernel) (by decide +kernel)
theorem kkY10_step : Cond.code Y10_step.1 Y10_step.2.1 Y10_step.2.2.1 Y10_step.2.2.2 ∈ fv_tbl := fv_at 268 (by decide +kernel) (by decide +kernel)
theorem kkY10_blank : Cond.code Y10_blank.1 Y10_blank.2.1 Y10_blank.2.2.1 Y10_blank.2.2.2 ∈ fv_tbl := fv_at 280 (by decide +kernel) (by decide +kernel)
theorem kkY10_lose : Cond.code Y10_lose.1 Y10_lose.2.1 Y10_lose.2.2.1 Y10_lose.2.2.2 ∈ fv_tbl := fv_at 291 (by decide +kernel) (by decide +kernel)
theorem kkY10_add : Cond.code Y10_add.1 Y10_add.2.1 Y10_add.2.2.1 Y10_add.2.2.2 ∈ fv_tbl := fv_at 311 (by decide +kernel) (by decide +kernel)
theorem kkY10_terms : Cond.code Y10_terms.1 Y10_terms.2.1 Y10_terms.2.2.1 Y10_terms.2.2.2 ∈ fv_tbl := fv_at 373 (by decide +kernel) (by decide +kernel)
theorem kkY10_exponents : Cond.code Y10_exponents.1 Y10_exponents.2.1 Y10_exponents.2.2.1 Y10_exponents.2.2.2 ∈ fv_tbl := fv_at 377 (by decide +kernel) (by decide +kernel)
theorem kkY10_number : Cond.code Y10_number.1 Y10_number.2.1 Y10_number.2.2.1 Y10_number.2.2.2 ∈ fv_tbl := fv_at 382 (by decide +kernel) (by decide +kernel)
theorem kkY10_sum : Cond.code Y10_sum.1 Y10_sum.2.1 Y10_sum.2.2.1 Y10_sum.2.2.2 ∈ fv_tbl := fv_at 394 (by decide +kernel) (by decide +kernel)
theorem kkY10_product : Cond.code Y10_product.1 Y10_product.2.1 Y10_product.2.2.1 Y10_product.2.2.2 ∈ fv_tbl := fv_at 404 (by decide +kernel) (by decide +kernel)
theorem kkY10_turned : Cond.code Y10_turned.1 Y10_turned.2.1 Y10_turned.2.2.1 Y10_turned.2.2.2 ∈ fv_tbl := fv_at 430 (by decide +kernel) (by decide +kernel)
theorem kkY10_difference : Cond.code Y10_difference.1 Y10_difference.2.1 Y10_difference.2.2.1 Y10_difference.2.2.2 ∈ fv_tbl := fv_at 439 (by decide +kernel) (by decide +kernel)
theorem kkY10_polynomial : Cond.code Y10_polynomial.1 Y10_polynomial.2.1 Y10_polynomial.2.2.1 Y10_polynomial.2.2.2 ∈ fv_tbl := fv_at 455 (by decide +kernel) (by decide +kernel)
theorem kkY10_part : Cond.code Y10_part.1 Y10_part.2.1 Y10_part.2.2.1 Y10_part.2.2.2 ∈ fv_tbl := fv_at 473 (by decide +kernel) (by decide +kernel)
theorem kkY10_constant : Cond.code Y10_constant.1 Y10_constant.2.1 Y10_constant.2.2.1 Y10_constant.2.2.2 ∈ fv_tbl := fv_at 488 (by decide +kernel) (by decide +kernel)
theorem kkY10_same : Cond.code Y10_same.1 Y10_same.2.1 Y10_same.2.2.1 Y10_same.2.2.2 ∈ fv_tbl := fv_at 499 (by decide +kernel) (by decide +kernel)
theorem kkY10_strip : Cond.code Y10_strip.1 Y10_strip.2.1 Y10_strip.2.2.1 Y10_strip.2.2.2 ∈ fv_tbl := fv_at 507 (by decide +kernel) (by decide +kernel)
theorem kkY10_fillings : Cond.code Y10_fillings.1 Y10_fillings.2.1 Y10_fillings.2.2.1 Y10_fillings.2.2.2 ∈ fv_tbl := fv_at 532 (by decide +kernel) (by decide +kernel)
theorem kkY10_orderOf : Cond.code Y10_orderOf.1 Y10_orderOf.2.1 Y10_orderOf.2.2.1 Y10_orderOf.2.2.2 ∈ fv_tbl := fv_at 553 (by decide +kernel) (by decide +kernel)
theorem kkY10_begin : Cond.code Y10_begin.1 Y10_begin.2.1 Y10_begin.2.2.1 Y10_begin.2.2.2 ∈ fv_tbl := fv_at 560 (by decide +kernel) (by decide +kernel)
theorem kkY10_condition : Cond.code Y10_condition.1 Y10_condition.2.1 Y10_condition.2.2.1 Y10_condition.2.2.2 ∈ fv_tbl := fv_at 569 (by decide +kernel) (by decide +kernel)
theorem kkY10_meeting : Cond.code Y10_meeting.1 Y10_meeting.2.1 Y10_meeting.2.2.1 Y10_meeting.2.2.2 ∈ fv_tbl := fv_at 585 (by decide +kernel) (by decide +kernel)
theorem kkY10_field : Cond.code Y10_field.1 Y10_field.2.1 Y10_field.2.2.1 Y10_field.2.2.2 ∈ fv_tbl := fv_at 603 (by decide +kernel) (by decide +kernel)
theorem kkY10_rod : Cond.code Y10_rod.1 Y10_rod.2.1 Y10_rod.2.2.1 Y10_rod.2.2.2 ∈ fv_tbl := fv_at 615 (by decide +kernel) (by decide +kernel)
theorem kkY10_drop : Cond.code Y10_drop.1 Y10_drop.2.1 Y10_drop.2.2.1 Y10_drop.2.2.2 ∈ fv_tbl := fv_at 655 (by decide +kernel) (by decide +kernel)
theorem kkY10_meet : Cond.code Y10_meet.1 Y10_meet.2.1 Y10_meet.2.2.1 Y10_meet.2.2.2 ∈ fv_tbl := fv_at 667 (by decide +kernel) (by decide +kernel)
theorem kkY10_lines : Cond.code Y10_lines.1 Y10_lines.2.1 Y10_lines.2.2.1 Y10_lines.2.2.2 ∈ fv_tbl := fv_at 683 (by decide +kernel) (by decide +kernel)
theorem kkY10_points : Cond.code Y10_points.1 Y10_points.2.1 Y10_points.2.2.1 Y10_points.2.2.2 ∈ fv_tbl := fv_at 713 (by decide +kernel) (by decide +kernel)
theorem kkY10_count : Cond.code Y10_count.1 Y10_count.2.1 Y10_count.2.2.1 Y10_count.2.2.2 ∈ fv_tbl := fv_at 733 (by decide +kernel) (by decide +kernel)
theorem kkY10_digest : Cond.code Y10_digest.1 Y10_digest.2.1 Y10_digest.2.2.1 Y10_digest.2.2.2 ∈ fv_tbl := fv_at 753 (by decide +kernel) (by decide +kernel)
theorem kkY10_isSheet : Cond.code Y10_isSheet.1 Y10_isSheet.2.1 Y10_isSheet.2.2.1 Y10_isSheet.2.2.2 ∈ fv_tbl := fv_at 283 (by decide +kernel) (by decide +kernel)
theorem kkY10_isLost : Cond.code Y10_isLost.1 Y10_isLost.2.1 Y10_isLost.2.2.1 Y10_isLost.2.2.2 ∈ fv_tbl := fv_at 295 (by decide +kernel) (by decide +kernel)
theorem kkY10_keptSheets : Cond.code Y10_keptSheets.1 Y10_keptSheets.2.1 Y10_keptSheets.2.2.1 Y10_keptSheets.2.2.2 ∈ fv_tbl := fv_at 737 (by decide +kernel) (by decide +kernel)
theorem kkY10_isBeyond : Cond.code Y10_isBeyond.1 Y10_isBeyond.2.1 Y10_isBeyond.2.2.1 Y10_isBeyond.2.2.2 ∈ fv_tbl := fv_at 314 (by decide +kernel) (by decide +kernel)
theorem kkY10_areExponents : Cond.code Y10_areExponents.1 Y10_areExponents.2.1 Y10_areExponents.2.2.1 Y10_areExponents.2.2.2 ∈ fv_tbl := fv_at 319 (by decide +kernel) (by decide +kernel)
theorem kkY10_refusal : Cond.code Y10_refusal.1 Y10_refusal.2.1 Y10_refusal.2.2.1 Y10_refusal.2.2.2 ∈ fv_tbl := fv_at 385 (by decide +kernel) (by decide +kernel)
theorem kkY11_init : Cond.code Y11_init.1 Y11_init.2.1 Y11_init.2.2.1 Y11_init.2.2.2 ∈ fv_tbl := fv_at 771 (by decide +kernel) (by decide +kernel)
theorem kkY11_in : Cond.code Y11_in.1 Y11_in.2.1 Y11_in.2.2.1 Y11_in.2.2.2 ∈ fv_tbl := fv_at 908 (by decide +kernel) (by decide +kernel)
theorem kkY11_no : Cond.code Y11_no.1 Y11_no.2.1 Y11_no.2.2.1 Y11_no.2.2.2 ∈ fv_tbl := fv_at 994 (by decide +kernel) (by decide +kernel)
theorem kkY11_reads : Cond.code Y11_reads.1 Y11_reads.2.1 Y11_reads.2.2.1 Y11_reads.2.2.2 ∈ fv_tbl := fv_at 904 (by decide +kernel) (by decide +kernel)
theorem kkY11_told : Cond.code Y11_told.1 Y11_told.2.1 Y11_told.2.2.1 Y11_told.2.2.2 ∈ fv_tbl := fv_at 924 (by decide +kernel) (by decide +kernel)
theorem kkY11_lengthNow : Cond.code Y11_lengthNow.1 Y11_lengthNow.2.1 Y11_lengthNow.2.2.1 Y11_lengthNow.2.2.2 ∈ fv_tbl := fv_at 912 (by decide +kernel) (by decide +kernel)
theorem kkY11_change : Cond.code Y11_change.1 Y11_change.2.1 Y11_change.2.2.1 Y11_change.2.2.2 ∈ fv_tbl := fv_at 920 (by decide +kernel) (by decide +kernel)
theorem kkY11_length : Cond.code Y11_length.1 Y11_length.2.1 Y11_length.2.2.1 Y11_length.2.2.2 ∈ fv_tbl := fv_at 900 (by decide +kernel) (by decide +kernel)
theorem kkY11_exchange : Cond.code Y11_exchange.1 Y11_exchange.2.1 Y11_exchange.2.2.1 Y11_exchange.2.2.2 ∈ fv_tbl := fv_at 916 (by decide +kernel) (by decide +kernel)
theorem kkY11_inverse : Cond.code Y11_inverse.1 Y11_inverse.2.1 Y11_inverse.2.2.1 Y11_inverse.2.2.2 ∈ fv_tbl := fv_at 928 (by decide +kernel) (by decide +kernel)
theorem kkY11_orders : Cond.code Y11_orders.1 Y11_orders.2.1 Y11_orders.2.2.1 Y11_orders.2.2.2 ∈ fv_tbl := fv_at 932 (by decide +kernel) (by decide +kernel)
theorem kkY11_step : Cond.code Y11_step.1 Y11_step.2.1 Y11_step.2.2.1 Y11_step.2.2.2 ∈ fv_tbl := fv_at 937 (by decide +kernel) (by decide +kernel)
theorem kkY11_isSheet : Cond.code Y11_isSheet.1 Y11_isSheet.2.1 Y11_isSheet.2.2.1 Y11_isSheet.2.2.2 ∈ fv_tbl := fv_at 944 (by decide +kernel) (by decide +kernel)
theorem kkY11_placeOf : Cond.code Y11_placeOf.1 Y11_placeOf.2.1 Y11_placeOf.2.2.1 Y11_placeOf.2.2.2 ∈ fv_tbl := fv_at 958 (by decide +kernel) (by decide +kernel)
theorem kkY11_toldOf : Cond.code Y11_toldOf.1 Y11_toldOf.2.1 Y11_toldOf.2.2.1 Y11_toldOf.2.2.2 ∈ fv_tbl := fv_at 979 (by decide +kernel) (by decide +kernel)
theorem kkY11_wipe : Cond.code Y11_wipe.1 Y11_wipe.2.1 Y11_wipe.2.2.1 Y11_wipe.2.2.2 ∈ fv_tbl := fv_at 963 (by decide +kernel) (by decide +kernel)
theorem kkY11_takes : Cond.code Y11_takes.1 Y11_takes.2.1 Y11_takes.2.2.1 Y11_takes.2.2.2 ∈ fv_tbl := fv_at 967 (by decide +kernel) (by decide +kernel)
theorem kkY11_tooMuch : Cond.code Y11_tooMuch.1 Y11_tooMuch.2.1 Y11_tooMuch.2.2.1 Y11_tooMuch.2.2.2 ∈ fv_tbl := fv_at 975 (by decide +kernel) (by decide +kernel)
theorem kkY11_lays : Cond.code Y11_lays.1 Y11_lays.2.1 Y11_lays.2.2.1 Y11_lays.2.2.2 ∈ fv_tbl := fv_at 971 (by decide +kernel) (by decide +kernel)
theorem kkY11_blank : Cond.code Y11_blank.1 Y11_blank.2.1 Y11_blank.2.2.1 Y11_blank.2.2.2 ∈ fv_tbl := fv_at 941 (by decide +kernel) (by decide +kernel)
theorem kkY11_lose : Cond.code Y11_lose.1 Y11_lose.2.1 Y11_lose.2.2.1 Y11_lose.2.2.2 ∈ fv_tbl := fv_at 949 (by decide +kernel) (by decide +kernel)
theorem kkY11_add : Cond.code Y11_add.1 Y11_add.2.1 Y11_add.2.2.1 Y11_add.2.2.2 ∈ fv_tbl := fv_at 953 (by decide +kernel) (by decide +kernel)
theorem kkY11_terms : Cond.code Y11_terms.1 Y11_terms.2.1 Y11_terms.2.2.1 Y11_terms.2.2.2 ∈ fv_tbl := fv_at 983 (by decide +kernel) (by decide +kernel)
theorem kkY11_exponents : Cond.code Y11_exponents.1 Y11_exponents.2.1 Y11_exponents.2.2.1 Y11_exponents.2.2.2 ∈ fv_tbl := fv_at 987 (by decide +kernel) (by decide +kernel)
theorem kkY11_number : Cond.code Y11_number.1 Y11_number.2.1 Y11_number.2.2.1 Y11_number.2.2.2 ∈ fv_tbl := fv_at 991 (by decide +kernel) (by decide +kernel)
theorem kkY11_sum : Cond.code Y11_sum.1 Y11_sum.2.1 Y11_sum.2.2.1 Y11_sum.2.2.2 ∈ fv_tbl := fv_at 999 (by decide +kernel) (by decide +kernel)
theorem kkY11_highest : Cond.code Y11_highest.1 Y11_highest.2.1 Y11_highest.2.2.1 Y11_highest.2.2.2 ∈ fv_tbl := fv_at 1009 (by decide +kernel) (by decide +kernel)
theorem kkY11_product : Cond.code Y11_product.1 Y11_product.2.1 Y11_product.2.2.1 Y11_product.2.2.2 ∈ fv_tbl := fv_at 1005 (by decide +kernel) (by decide +kernel)
theorem kkY11_nines : Cond.code Y11_nines.1 Y11_nines.2.1 Y11_nines.2.2.1 Y11_nines.2.2.2 ∈ fv_tbl := fv_at 1017 (by decide +kernel) (by decide +kernel)
theorem kkY11_turned : Cond.code Y11_turned.1 Y11_turned.2.1 Y11_turned.2.2.1 Y11_turned.2.2.2 ∈ fv_tbl := fv_at 1013 (by decide +kernel) (by decide +kernel)
theorem kkY11_differ : Cond.code Y11_differ.1 Y11_differ.2.1 Y11_differ.2.2.1 Y11_differ.2.2.2 ∈ fv_tbl := fv_at 1025 (by decide +kernel) (by decide +kernel)
theorem kkY11_difference : Cond.code Y11_difference.1 Y11_difference.2.1 Y11_difference.2.2.1 Y11_difference.2.2.2 ∈ fv_tbl := fv_at 1021 (by decide +kernel) (by decide +kernel)
theorem kkY11_makes : Cond.code Y11_makes.1 Y11_makes.2.1 Y11_makes.2.2.1 Y11_makes.2.2.2 ∈ fv_tbl := fv_at 1033 (by decide +kernel) (by decide +kernel)
theorem kkY11_polynomial : Cond.code Y11_polynomial.1 Y11_polynomial.2.1 Y11_polynomial.2.2.1 Y11_polynomial.2.2.2 ∈ fv_tbl := fv_at 1029 (by decide +kernel) (by decide +kernel)
theorem kkY11_parts : Cond.code Y11_parts.1 Y11_parts.2.1 Y11_parts.2.2.1 Y11_parts.2.2.2 ∈ fv_tbl := fv_at 1041 (by decide +kernel) (by decide +kernel)
theorem kkY11_part : Cond.code Y11_part.1 Y11_part.2.1 Y11_part.2.2.1 Y11_part.2.2.2 ∈ fv_tbl := fv_at 1037 (by decide +kernel) (by decide +kernel)
theorem kkY11_constant : Cond.code Y11_constant.1 Y11_constant.2.1 Y11_constant.2.2.1 Y11_constant.2.2.2 ∈ fv_tbl := fv_at 1045 (by decide +kernel) (by decide +kernel)
theorem kkY11_same : Cond.code Y11_same.1 Y11_same.2.1 Y11_same.2.2.1 Y11_same.2.2.2 ∈ fv_tbl := fv_at 1049 (by decide +kernel) (by decide +kernel)
theorem kkY11_isBox : Cond.code Y11_isBox.1 Y11_isBox.2.1 Y11_isBox.2.2.1 Y11_isBox.2.2.2 ∈ fv_tbl := fv_at 1059 (by decide +kernel) (by decide +kernel)
theorem kkY11_areSides : Cond.code Y11_areSides.1 Y11_areSides.2.1 Y11_areSides.2.2.1 Y11_areSides.2.2.2 ∈ fv_tbl := fv_at 1056 (by decide +kernel) (by decide +kernel)
theorem kkY11_tens : Cond.code Y11_tens.1 Y11_tens.2.1 Y11_tens.2.2.1 Y11_tens.2.2.2 ∈ fv_tbl := fv_at 1063 (by decide +kernel) (by decide +kernel)
theorem kkY11_sizeOf : Cond.code Y11_sizeOf.1 Y11_sizeOf.2.1 Y11_sizeOf.2.2.1 Y11_sizeOf.2.2.2 ∈ fv_tbl := fv_at 1066 (by decide +kernel) (by decide +kernel)
theorem kkY11_strip : Cond.code Y11_strip.1 Y11_strip.2.1 Y11_strip.2.2.1 Y11_strip.2.2.2 ∈ fv_tbl := fv_at 1053 (by decide +kernel) (by decide +kernel)
theorem kkY11_mayStand : Cond.code Y11_mayStand.1 Y11_mayStand.2.1 Y11_mayStand.2.2.1 Y11_mayStand.2.2.2 ∈ fv_tbl := fv_at 1078 (by decide +kernel) (by decide +kernel)
theorem kkY11_fills : Cond.code Y11_fills.1 Y11_fills.2.1 Y11_fills.2.2.1 Y11_fills.2.2.2 ∈ fv_tbl := fv_at 1074 (by decide +kernel) (by decide +kernel)
theorem kkY11_fillings : Cond.code Y11_fillings.1 Y11_fillings.2.1 Y11_fillings.2.2.1 Y11_fillings.2.2.2 ∈ fv_tbl := fv_at 1070 (by decide +kernel) (by decide +kernel)
theorem kkY11_orderOf : Cond.code Y11_orderOf.1 Y11_orderOf.2.1 Y11_orderOf.2.2.1 Y11_orderOf.2.2.2 ∈ fv_tbl := fv_at 1082 (by decide +kernel) (by decide +kernel)
theorem kkY11_begin : Cond.code Y11_begin.1 Y11_begin.2.1 Y11_begin.2.2.1 Y11_begin.2.2.2 ∈ fv_tbl := fv_at 1086 (by decide +kernel) (by decide +kernel)
theorem kkY11_condition : Cond.code Y11_condition.1 Y11_condition.2.1 Y11_condition.2.2.1 Y11_condition.2.2.2 ∈ fv_tbl := fv_at 1090 (by decide +kernel) (by decide +kernel)
theorem kkY11_meeting : Cond.code Y11_meeting.1 Y11_meeting.2.1 Y11_meeting.2.2.1 Y11_meeting.2.2.2 ∈ fv_tbl := fv_at 1094 (by decide +kernel) (by decide +kernel)
theorem kkY11_lookAtPoints : Cond.code Y11_lookAtPoints.1 Y11_lookAtPoints.2.1 Y11_lookAtPoints.2.2.1 Y11_lookAtPoints.2.2.2 ∈ fv_tbl := fv_at 777 (by decide +kernel) (by decide +kernel)
theorem kkY11_pointOf : Cond.code Y11_pointOf.1 Y11_pointOf.2.1 Y11_pointOf.2.2.1 Y11_pointOf.2.2.2 ∈ fv_tbl := fv_at 1111 (by decide +kernel) (by decide +kernel)
theorem kkY11_mixed : Cond.code Y11_mixed.1 Y11_mixed.2.1 Y11_mixed.2.2.1 Y11_mixed.2.2.2 ∈ fv_tbl := fv_at 781 (by decide +kernel) (by decide +kernel)
theorem kkY11_evened : Cond.code Y11_evened.1 Y11_evened.2.1 Y11_evened.2.2.1 Y11_evened.2.2.2 ∈ fv_tbl := fv_at 1116 (by decide +kernel) (by decide +kernel)
theorem kkY11_onLine : Cond.code Y11_onLine.1 Y11_onLine.2.1 Y11_onLine.2.2.1 Y11_onLine.2.2.2 ∈ fv_tbl := fv_at 1136 (by decide +kernel) (by decide +kernel)
theorem kkY11_drops : Cond.code Y11_drops.1 Y11_drops.2.1 Y11_drops.2.2.1 Y11_drops.2.2.2 ∈ fv_tbl := fv_at 1102 (by decide +kernel) (by decide +kernel)
theorem kkY11_field : Cond.code Y11_field.1 Y11_field.2.1 Y11_field.2.2.1 Y11_field.2.2.2 ∈ fv_tbl := fv_at 1098 (by decide +kernel) (by decide +kernel)
theorem kkY11_rod : Cond.code Y11_rod.1 Y11_rod.2.1 Y11_rod.2.2.1 Y11_rod.2.2.2 ∈ fv_tbl := fv_at 1106 (by decide +kernel) (by decide +kernel)
theorem kkY11_drop : Cond.code Y11_drop.1 Y11_drop.2.1 Y11_drop.2.2.1 Y11_drop.2.2.2 ∈ fv_tbl := fv_at 1120 (by decide +kernel) (by decide +kernel)
theorem kkY11_marks : Cond.code Y11_marks.1 Y11_marks.2.1 Y11_marks.2.2.1 Y11_marks.2.2.2 ∈ fv_tbl := fv_at 1132 (by decide +kernel) (by decide +kernel)
theorem kkY11_wipeMarks : Cond.code Y11_wipeMarks.1 Y11_wipeMarks.2.1 Y11_wipeMarks.2.2.1 Y11_wipeMarks.2.2.2 ∈ fv_tbl := fv_at 1128 (by decide +kernel) (by decide +kernel)
theorem kkY11_meet : Cond.code Y11_meet.1 Y11_meet.2.1 Y11_meet.2.2.1 Y11_meet.2.2.2 ∈ fv_tbl := fv_at 1124 (by decide +kernel) (by decide +kernel)
theorem kkY11_areThere : Cond.code Y11_areThere.1 Y11_areThere.2.1 Y11_areThere.2.2.1 Y11_areThere.2.2.2 ∈ fv_tbl := fv_at 1145 (by decide +kernel) (by decide +kernel)
theorem kkY11_lookAtRods : Cond.code Y11_lookAtRods.1 Y11_lookAtRods.2.1 Y11_lookAtRods.2.2.1 Y11_lookAtRods.2.2.2 ∈ fv_tbl := fv_at 1149 (by decide +kernel) (by decide +kernel)
theorem kkY11_areLeast : Cond.code Y11_areLeast.1 Y11_areLeast.2.1 Y11_areLeast.2.2.1 Y11_areLeast.2.2.2 ∈ fv_tbl := fv_at 1153 (by decide +kernel) (by decide +kernel)
theorem kkY11_lines : Cond.code Y11_lines.1 Y11_lines.2.1 Y11_lines.2.2.1 Y11_lines.2.2.2 ∈ fv_tbl := fv_at 1140 (by decide +kernel) (by decide +kernel)
theorem kkY11_points : Cond.code Y11_points.1 Y11_points.2.1 Y11_points.2.2.1 Y11_points.2.2.2 ∈ fv_tbl := fv_at 1157 (by decide +kernel) (by decide +kernel)
theorem kkY11_count : Cond.code Y11_count.1 Y11_count.2.1 Y11_count.2.2.1 Y11_count.2.2.2 ∈ fv_tbl := fv_at 1161 (by decide +kernel) (by decide +kernel)
theorem kkY11_digest : Cond.code Y11_digest.1 Y11_digest.2.1 Y11_digest.2.2.1 Y11_digest.2.2.2 ∈ fv_tbl := fv_at 1165 (by decide +kernel) (by decide +kernel)
theorem kkYJ9_floorMod : Cond.code YJ9_floorMod.1 YJ9_floorMod.2.1 YJ9_floorMod.2.2.1 YJ9_floorMod.2.2.2 ∈ fv_tbl := fv_at 643 (by decide +kernel) (by decide +kernel)
theorem kkYJ9_max : Cond.code YJ9_max.1 YJ9_max.2.1 YJ9_max.2.2.1 YJ9_max.2.2.2 ∈ fv_tbl := fv_at 423 (by decide +kernel) (by decide +kernel)
theorem kkYJ9_min : Cond.code YJ9_min.1 YJ9_min.2.1 YJ9_min.2.2.1 YJ9_min.2.2.2 ∈ fv_tbl := fv_at 356 (by decide +kernel) (by decide +kernel)
theorem lkL_9 : fv_mI RL 9 Y10_init 0 := ⟨⟨fv_at 53 (by decide +kernel) (by decide +kernel), fv_at 38 (by decide +kernel) (by decide +kernel), kkY10_init, by decide +kernel, by decide⟩, fv_at 54 (by decide +kernel) (by decide +kernel), rfl, rfl⟩
theorem lkL_12 : fv_mI RL 12 Y11_init 0 := ⟨⟨fv_at 769 (by decide +kernel) (by decide +kernel), fv_at 46 (by decide +kernel) (by decide +kernel), kkY11_init, by decide +kernel, by decide⟩, fv_at 770 (by decide +kernel) (by decide +kernel), rfl, rfl⟩
theorem lkL_13 : fv_mV RL 13 Y10_length 1 := ⟨⟨fv_at 223 (by decide +kernel) (by decide +kernel), fv_at 38 (by decide +kernel) (by decide +kernel), kkY10_length, by decide +kernel, by decide⟩, fv_at 224 (by decide +kernel) (by decide +kernel), fv_at 225 (by decide +kernel) (by decide +kernel)⟩
theorem lkL_17 : fv_mV RL 17 Y11_length 1 := ⟨⟨fv_at 897 (by decide +kernel) (by decide +kernel), fv_at 46 (by decide +kernel) (by decide +kernel), kkY11_length, by decide +kernel, by decide⟩, fv_at 898 (by decide +kernel) (by decide +kernel), fv_at 899 (by decide +kernel) (by decide +kernel)⟩
theorem lkL_18 : fv_mV RL 18 Y10_exchange 2 := ⟨⟨fv_at 240 (by decide +kernel) (by decide +kernel), fv_at 38 (by decide +kernel) (by decide +kernel), kkY10_exchange, by decide +kernel, by decide⟩, fv_at 241 (by decide +kernel) (by decide +kernel), fv_at 242 (by decide +kernel) (by decide +kernel)⟩
theorem lkL_22 : fv_mV RL 22 Y11_exchange 2 := ⟨⟨fv_at 913 (by decide +kernel) (by decide +kernel), fv_at 46 (by decide +kernel) (by decide +kernel), kkY11_exchange, by decide +kernel, by decide⟩, fv_at 914 (by decide +kernel) (by decide +kernel), fv_at 915 (by decide +kernel) (by decide +kernel)⟩
theorem lkL_23 : fv_mV RL 23 Y10_inverse 1 := ⟨⟨fv_at 250 (by decide +kernel) (by decide +kernel), fv_at 38 (by decide +kernel) (by decide +kernel), kkY10_inverse, by decide +kernel, by decide⟩, fv_at 251 (by decide +kernel) (by decide +kernel), fv_at 252 (by decide +kernel) (by decide +kernel)⟩
theorem lkL_26 : fv_mV RL 26 Y11_inverse 1 := ⟨⟨fv_at 925 (by decide +kernel) (by decide +kernel), fv_at 46 (by decide +kernel) (by decide +kernel), kkY11_inverse, by decide +kernel, by decide⟩, fv_at 926 (by decide +kernel) (by decide +kernel), fv_at 927 (by decide +kernel) (by decide +kernel)⟩
theorem lkL_27 : fv_mV RL 27 Y10_orders 2 := ⟨⟨fv_at 257 (by decide +kernel) (by decide +kernel), fv_at 38 (by decide +kernel) (by decide +kernel), kkY10_orders, by decide +kernel, by decide⟩, fv_at 258 (by decide +kernel) (by decide +kernel), fv_at 259 (by decide +kernel) (by decide +kernel)⟩
theorem lkL_30 : fv_mV RL 30 Y11_orders 2 := ⟨⟨fv_at 929 (by decide +kernel) (by decide +kernel), fv_at 46 (by decide +kernel) (by decide +kernel), kkY11_orders, by decide +kernel, by decide⟩, fv_at 930 (by decide +kernel) (by decide +kernel), fv_at 931 (by decide +kernel) (by decide +kernel)⟩
theorem lkL_31 : fv_mV RL 31 Y10_step 3 := ⟨⟨fv_at 265 (by decide +kernel) (by decide +kernel), fv_at 38 (by decide +kernel) (by decide +kernel), kkY10_step, by decide +kernel, by decide⟩, fv_at 266 (by decide +kernel) (by decide +kernel), fv_at 267 (by decide +kernel) (by decide +kernel)⟩
theorem lkL_35 : fv_mV RL 35 Y11_step 3 := ⟨⟨fv_at 934 (by decide +kernel) (by decide +kernel), fv_at 46 (by decide +kernel) (by decide +kernel), kkY11_step, by decide +kernel, by decide⟩, fv_at 935 (by decide +kernel) (by decide +kernel), fv_at 936 (by decide +kernel) (by decide +kernel)⟩
theorem lkL_36 : fv_mV RL 36 Y10_blank 1 := ⟨⟨fv_at 277 (by decide +kernel) (by decide +kernel), fv_at 38 (by decide +kernel) (by decide +kernel), kkY10_blank, by decide +kernel, by decide⟩, fv_at 278 (by decide +kernel) (by decide +kernel), fv_at 279 (by decide +kernel) (by decide +kernel)⟩
theorem lkL_39 : fv_mV RL 39 Y11_blank 1 := ⟨⟨fv_at 938 (by decide +kernel) (by decide +kernel), fv_at 46 (by decide +kernel) (by decide +kernel), kkY11_blank, by decide +kernel, by decide⟩, fv_at 939 (by decide +kernel) (by decide +kernel), fv_at 940 (by decide +kernel) (by decide +kernel)⟩
theorem lkL_40 : fv_mV RL 40 Y10_lose 1 := ⟨⟨fv_at 288 (by decide +kernel) (by decide +kernel), fv_at 38 (by decide +kernel) (by decide +kernel), kkY10_lose, by decide +kernel, by decide⟩, fv_at 289 (by decide +kernel) (by decide +kernel), fv_at 290 (by decide +kernel) (by decide +kernel)⟩
theorem lkL_43 : fv_mV RL 43 Y11_lose 1 := ⟨⟨fv_at 946 (by decide +kernel) (by decide +kernel), fv_at 46 (by decide +kernel) (by decide +kernel), kkY11_lose, by decide +kernel, by decide⟩, fv_at 947 (by decide +kernel) (by decide +kernel), fv_at 948 (by decide +kernel) (by decide +kernel)⟩
theorem lkL_46 : fv_mV RL 46 Y10_add 3 := ⟨⟨fv_at 308 (by decide +kernel) (by decide +kernel), fv_at 38 (by decide +kernel) (by decide +kernel), kkY10_add, by decide +kernel, by decide⟩, fv_at 309 (by decide +kernel) (by decide +kernel), fv_at 310 (by decide +kernel) (by decide +kernel)⟩
theorem lkL_50 : fv_mV RL 50 Y11_add 3 := ⟨⟨fv_at 950 (by decide +kernel) (by decide +kernel), fv_at 46 (by decide +kernel) (by decide +kernel), kkY11_add, by decide +kernel, by decide⟩, fv_at 951 (by decide +kernel) (by decide +kernel), fv_at 952 (by decide +kernel) (by decide +kernel)⟩
theorem lkL_51 : fv_mV RL 51 Y10_terms 1 := ⟨⟨fv_at 370 (by decide +kernel) (by decide +kernel), fv_at 38 (by decide +kernel) (by decide +kernel), kkY10_terms, by decide +kernel, by decide⟩, fv_at 371 (by decide +kernel) (by decide +kernel), fv_at 372 (by decide +kernel) (by decide +kernel)⟩
theorem lkL_54 : fv_mV RL 54 Y11_terms 1 := ⟨⟨fv_at 980 (by decide +kernel) (by decide +kernel), fv_at 46 (by decide +kernel) (by decide +kernel), kkY11_terms, by decide +kernel, by decide⟩, fv_at 981 (by decide +kernel) (by decide +kernel), fv_at 982 (by decide +kernel) (by decide +kernel)⟩
theorem lkL_55 : fv_mV RL 55 Y10_exponents 2 := ⟨⟨fv_at 374 (by decide +kernel) (by decide +kernel), fv_at 38 (by decide +kernel) (by decide +kernel), kkY10_exponents, by decide +kernel, by decide⟩, fv_at 375 (by decide +kernel) (by decide +kernel), fv_at 376 (by decide +kernel) (by decide +kernel)⟩
theorem lkL_58 : fv_mV RL 58 Y11_exponents 2 := ⟨⟨fv_at 984 (by decide +kernel) (by decide +kernel), fv_at 46 (by decide +kernel) (by decide +kernel), kkY11_exponents, by decide +kernel, by decide⟩, fv_at 985 (by decide +kernel) (by decide +kernel), fv_at 986 (by decide +kernel) (by decide +kernel)⟩
theorem lkL_59 : fv_mV RL 59 Y10_number 2 := ⟨⟨fv_at 379 (by decide +kernel) (by decide +kernel), fv_at 38 (by decide +kernel) (by decide +kernel), kkY10_number, by decide +kernel, by decide⟩, fv_at 380 (by decide +kernel) (by decide +kernel), fv_at 381 (by decide +kernel) (by decide +kernel)⟩
theorem lkL_63 : fv_mV RL 63 Y11_number 2 := ⟨⟨fv_at 988 (by decide +kernel) (by decide +kernel), fv_at 46 (by decide +kernel) (by decide +kernel), kkY11_number, by decide +kernel, by decide⟩, fv_at 989 (by decide +kernel) (by decide +kernel), fv_at 990 (by decide +kernel) (by decide +kernel)⟩
theorem lkL_64 : fv_mV RL 64 Y10_sum 4 := ⟨⟨fv_at 391 (by decide +kernel) (by decide +kernel), fv_at 38 (by decide +kernel) (by decide +kernel), kkY10_sum, by decide +kernel, by decide⟩, fv_at 392 (by decide +kernel) (by decide +kernel), fv_at 393 (by decide +kernel) (by decide +kernel)⟩
theorem lkL_68 : fv_mV RL 68 Y11_sum 4 := ⟨⟨fv_at 996 (by decide +kernel) (by decide +kernel), fv_at 46 (by decide +kernel) (by decide +kernel), kkY11_sum, by decide +kernel, by decide⟩, fv_at 997 (by decide +kernel) (by decide +kernel), fv_at 998 (by decide +kernel) (by decide +kernel)⟩
theorem lkL_69 : fv_mV RL 69 Y10_product 3 := ⟨⟨fv_at 401 (by decide +kernel) (by decide +kernel), fv_at 38 (by decide +kernel) (by decide +kernel), kkY10_product, by decide +kernel, by decide⟩, fv_at 402 (by decide +kernel) (by decide +kernel), fv_at 403 (by decide +kernel) (by decide +kernel)⟩
theorem lkL_72 : fv_mV RL 72 Y11_product 3 := ⟨⟨fv_at 1002 (by decide +kernel) (by decide +kernel), fv_at 46 (by decide +kernel) (by decide +kernel), kkY11_product, by decide +kernel, by decide⟩, fv_at 1003 (by decide +kernel) (by decide +kernel), fv_at 1004 (by decide +kernel) (by decide +kernel)⟩
theorem lkL_73 : fv_mV RL 73 Y10_turned 3 := ⟨⟨fv_at 427 (by decide +kernel) (by decide +kernel), fv_at 38 (by decide +kernel) (by decide +kernel), kkY10_turned, by decide +kernel, by decide⟩, fv_at 428 (by decide +kernel) (by decide +kernel), fv_at 429 (by decide +kernel) (by decide +kernel)⟩
theorem lkL_76 : fv_mV RL 76 Y11_turned 3 := ⟨⟨fv_at 1010 (by decide +kernel) (by decide +kernel), fv_at 46 (by decide +kernel) (by decide +kernel), kkY11_turned, by decide +kernel, by decide⟩, fv_at 1011 (by decide +kernel) (by decide +kernel), fv_at 1012 (by decide +kernel) (by decide +kernel)⟩
theorem lkL_77 : fv_mV RL 77 Y10_difference 3 := ⟨⟨fv_at 436 (by decide +kernel) (by decide +kernel), fv_at 38 (by decide +kernel) (by decide +kernel), kkY10_difference, by decide +kernel, by decide⟩, fv_at 437 (by decide +kernel) (by decide +kernel), fv_at 438 (by decide +kernel) (by decide +kernel)⟩
theorem lkL_80 : fv_mV RL 80 Y11_difference 3 := ⟨⟨fv_at 1018 (by decide +kernel) (by decide +kernel), fv_at 46 (by decide +kernel) (by decide +kernel), kkY11_difference, by decide +kernel, by decide⟩, fv_at 1019 (by decide +kernel) (by decide +kernel), fv_at 1020 (by decide +kernel) (by decide +kernel)⟩
theorem lkL_81 : fv_mV RL 81 Y10_polynomial 2 := ⟨⟨fv_at 452 (by decide +kernel) (by decide +kernel), fv_at 38 (by decide +kernel) (by decide +kernel), kkY10_polynomial, by decide +kernel, by decide⟩, fv_at 453 (by decide +kernel) (by decide +kernel), fv_at 454 (by decide +kernel) (by decide +kernel)⟩
theorem lkL_84 : fv_mV RL 84 Y11_polynomial 2 := ⟨⟨fv_at 1026 (by decide +kernel) (by decide +kernel), fv_at 46 (by decide +kernel) (by decide +kernel), kkY11_polynomial, by decide +kernel, by decide⟩, fv_at 1027 (by decide +kernel) (by decide +kernel), fv_at 1028 (by decide +kernel) (by decide +kernel)⟩
theorem lkL_85 : fv_mV RL 85 Y10_part 2 := ⟨⟨fv_at 470 (by decide +kernel) (by decide +kernel), fv_at 38 (by decide +kernel) (by decide +kernel), kkY10_part, by decide +kernel, by decide⟩, fv_at 471 (by decide +kernel) (by decide +kernel), fv_at 472 (by decide +kernel) (by decide +kernel)⟩
theorem lkL_88 : fv_mV RL 88 Y11_part 2 := ⟨⟨fv_at 1034 (by decide +kernel) (by decide +kernel), fv_at 46 (by decide +kernel) (by decide +kernel), kkY11_part, by decide +kernel, by decide⟩, fv_at 1035 (by decide +kernel) (by decide +kernel), fv_at 1036 (by decide +kernel) (by decide +kernel)⟩
theorem lkL_89 : fv_mV RL 89 Y10_constant 3 := ⟨⟨fv_at 485 (by decide +kernel) (by decide +kernel), fv_at 38 (by decide +kernel) (by decide +kernel), kkY10_constant, by decide +kernel, by decide⟩, fv_at 486 (by decide +kernel) (by decide +kernel), fv_at 487 (by decide +kernel) (by decide +kernel)⟩
theorem lkL_93 : fv_mV RL 93 Y11_constant 3 := ⟨⟨fv_at 1042 (by decide +kernel) (by decide +kernel), fv_at 46 (by decide +kernel) (by decide +kernel), kkY11_constant, by decide +kernel, by decide⟩, fv_at 1043 (by decide +kernel) (by decide +kernel), fv_at 1044 (by decide +kernel) (by decide +kernel)⟩
theorem lkL_94 : fv_mV RL 94 Y10_same 2 := ⟨⟨fv_at 496 (by decide +kernel) (by decide +kernel), fv_at 38 (by decide +kernel) (by decide +kernel), kkY10_same, by decide +kernel, by decide⟩, fv_at 497 (by decide +kernel) (by decide +kernel), fv_at 498 (by decide +kernel) (by decide +kernel)⟩
theorem lkL_97 : fv_mV RL 97 Y11_same 2 := ⟨⟨fv_at 1046 (by decide +kernel) (by decide +kernel), fv_at 46 (by decide +kernel) (by decide +kernel), kkY11_same, by decide +kernel, by decide⟩, fv_at 1047 (by decide +kernel) (by decide +kernel), fv_at 1048 (by decide +kernel) (by decide +kernel)⟩
theorem lkL_98 : fv_mV RL 98 Y10_strip 5 := ⟨⟨fv_at 504 (by decide +kernel) (by decide +kernel), fv_at 38 (by decide +kernel) (by decide +kernel), kkY10_strip, by decide +kernel, by decide⟩, fv_at 505 (by decide +kernel) (by decide +kernel), fv_at 506 (by decide +kernel) (by decide +kernel)⟩
theorem lkL_102 : fv_mV RL 102 Y11_strip 5 := ⟨⟨fv_at 1050 (by decide +kernel) (by decide +kernel), fv_at 46 (by decide +kernel) (by decide +kernel), kkY11_strip, by decide +kernel, by decide⟩, fv_at 1051 (by decide +kernel) (by decide +kernel), fv_at 1052 (by decide +kernel) (by decide +kernel)⟩
theorem lkL_103 : fv_mV RL 103 Y10_fillings 5 := ⟨⟨fv_at 529 (by decide +kernel) (by decide +kernel), fv_at 38 (by decide +kernel) (by decide +kernel), kkY10_fillings, by decide +kernel, by decide⟩, fv_at 530 (by decide +kernel) (by decide +kernel), fv_at 531 (by decide +kernel) (by decide +kernel)⟩
theorem lkL_106 : fv_mV RL 106 Y11_fillings 5 := ⟨⟨fv_at 1067 (by decide +kernel) (by decide +kernel), fv_at 46 (by decide +kernel) (by decide +kernel), kkY11_fillings, by decide +kernel, by decide⟩, fv_at 1068 (by decide +kernel) (by decide +kernel), fv_at 1069 (by decide +kernel) (by decide +kernel)⟩
theorem lkL_107 : fv_mV RL 107 Y10_orderOf 3 := ⟨⟨fv_at 550 (by decide +kernel) (by decide +kernel), fv_at 38 (by decide +kernel) (by decide +kernel), kkY10_orderOf, by decide +kernel, by decide⟩, fv_at 551 (by decide +kernel) (by decide +kernel), fv_at 552 (by decide +kernel) (by decide +kernel)⟩
theorem lkL_110 : fv_mV RL 110 Y11_orderOf 3 := ⟨⟨fv_at 1079 (by decide +kernel) (by decide +kernel), fv_at 46 (by decide +kernel) (by decide +kernel), kkY11_orderOf, by decide +kernel, by decide⟩, fv_at 1080 (by decide +kernel) (by decide +kernel), fv_at 1081 (by decide +kernel) (by decide +kernel)⟩
theorem lkL_111 : fv_mV RL 111 Y10_begin 2 := ⟨⟨fv_at 557 (by decide +kernel) (by decide +kernel), fv_at 38 (by decide +kernel) (by decide +kernel), kkY10_begin, by decide +kernel, by decide⟩, fv_at 558 (by decide +kernel) (by decide +kernel), fv_at 559 (by decide +kernel) (by decide +kernel)⟩
theorem lkL_114 : fv_mV RL 114 Y11_begin 2 := ⟨⟨fv_at 1083 (by decide +kernel) (by decide +kernel), fv_at 46 (by decide +kernel) (by decide +kernel), kkY11_begin, by decide +kernel, by decide⟩, fv_at 1084 (by decide +kernel) (by decide +kernel), fv_at 1085 (by decide +kernel) (by decide +kernel)⟩
theorem lkL_115 : fv_mV RL 115 Y10_condition 1 := ⟨⟨fv_at 566 (by decide +kernel) (by decide +kernel), fv_at 38 (by decide +kernel) (by decide +kernel), kkY10_condition, by decide +kernel, by decide⟩, fv_at 567 (by decide +kernel) (by decide +kernel), fv_at 568 (by decide +kernel) (by decide +kernel)⟩
theorem lkL_118 : fv_mV RL 118 Y11_condition 1 := ⟨⟨fv_at 1087 (by decide +kernel) (by decide +kernel), fv_at 46 (by decide +kernel) (by decide +kernel), kkY11_condition, by decide +kernel, by decide⟩, fv_at 1088 (by decide +kernel) (by decide +kernel), fv_at 1089 (by decide +kernel) (by decide +kernel)⟩
theorem lkL_119 : fv_mV RL 119 Y10_meeting 0 := ⟨⟨fv_at 582 (by decide +kernel) (by decide +kernel), fv_at 38 (by decide +kernel) (by decide +kernel), kkY10_meeting, by decide +kernel, by decide⟩, fv_at 583 (by decide +kernel) (by decide +kernel), fv_at 584 (by decide +kernel) (by decide +kernel)⟩
theorem lkL_123 : fv_mV RL 123 Y11_meeting 0 := ⟨⟨fv_at 1091 (by decide +kernel) (by decide +kernel), fv_at 46 (by decide +kernel) (by decide +kernel), kkY11_meeting, by decide +kernel, by decide⟩, fv_at 1092 (by decide +kernel) (by decide +kernel), fv_at 1093 (by decide +kernel) (by decide +kernel)⟩
theorem lkL_124 : fv_mV RL 124 Y10_field 1 := ⟨⟨fv_at 600 (by decide +kernel) (by decide +kernel), fv_at 38 (by decide +kernel) (by decide +kernel), kkY10_field, by decide +kernel, by decide⟩, fv_at 601 (by decide +kernel) (by decide +kernel), fv_at 602 (by decide +kernel) (by decide +kernel)⟩
theorem lkL_127 : fv_mV RL 127 Y11_field 1 := ⟨⟨fv_at 1095 (by decide +kernel) (by decide +kernel), fv_at 46 (by decide +kernel) (by decide +kernel), kkY11_field, by decide +kernel, by decide⟩, fv_at 1096 (by decide +kernel) (by decide +kernel), fv_at 1097 (by decide +kernel) (by decide +kernel)⟩
theorem lkL_128 : fv_mV RL 128 Y10_rod 3 := ⟨⟨fv_at 612 (by decide +kernel) (by decide +kernel), fv_at 38 (by decide +kernel) (by decide +kernel), kkY10_rod, by decide +kernel, by decide⟩, fv_at 613 (by decide +kernel) (by decide +kernel), fv_at 614 (by decide +kernel) (by decide +kernel)⟩
theorem lkL_131 : fv_mV RL 131 Y11_rod 3 := ⟨⟨fv_at 1103 (by decide +kernel) (by decide +kernel), fv_at 46 (by decide +kernel) (by decide +kernel), kkY11_rod, by decide +kernel, by decide⟩, fv_at 1104 (by decide +kernel) (by decide +kernel), fv_at 1105 (by decide +kernel) (by decide +kernel)⟩
theorem lkL_132 : fv_mV RL 132 Y10_drop 1 := ⟨⟨fv_at 652 (by decide +kernel) (by decide +kernel), fv_at 38 (by decide +kernel) (by decide +kernel), kkY10_drop, by decide +kernel, by decide⟩, fv_at 653 (by decide +kernel) (by decide +kernel), fv_at 654 (by decide +kernel) (by decide +kernel)⟩
theorem lkL_135 : fv_mV RL 135 Y11_drop 1 := ⟨⟨fv_at 1117 (by decide +kernel) (by decide +kernel), fv_at 46 (by decide +kernel) (by decide +kernel), kkY11_drop, by decide +kernel, by decide⟩, fv_at 1118 (by decide +kernel) (by decide +kernel), fv_at 1119 (by decide +kernel) (by decide +kernel)⟩
theorem lkL_136 : fv_mV RL 136 Y10_meet 2 := ⟨⟨fv_at 664 (by decide +kernel) (by decide +kernel), fv_at 38 (by decide +kernel) (by decide +kernel), kkY10_meet, by decide +kernel, by decide⟩, fv_at 665 (by decide +kernel) (by decide +kernel), fv_at 666 (by decide +kernel) (by decide +kernel)⟩
theorem lkL_139 : fv_mV RL 139 Y11_meet 2 := ⟨⟨fv_at 1121 (by decide +kernel) (by decide +kernel), fv_at 46 (by decide +kernel) (by decide +kernel), kkY11_meet, by decide +kernel, by decide⟩, fv_at 1122 (by decide +kernel) (by decide +kernel), fv_at 1123 (by decide +kernel) (by decide +kernel)⟩
theorem lkL_140 : fv_mV RL 140 Y10_lines 1 := ⟨⟨fv_at 680 (by decide +kernel) (by decide +kernel), fv_at 38 (by decide +kernel) (by decide +kernel), kkY10_lines, by decide +kernel, by decide⟩, fv_at 681 (by decide +kernel) (by decide +kernel), fv_at 682 (by decide +kernel) (by decide +kernel)⟩
theorem lkL_143 : fv_mV RL 143 Y11_lines 1 := ⟨⟨fv_at 1137 (by decide +kernel) (by decide +kernel), fv_at 46 (by decide +kernel) (by decide +kernel), kkY11_lines, by decide +kernel, by decide⟩, fv_at 1138 (by decide +kernel) (by decide +kernel), fv_at 1139 (by decide +kernel) (by decide +kernel)⟩
theorem lkL_144 : fv_mV RL 144 Y10_points 1 := ⟨⟨fv_at 710 (by decide +kernel) (by decide +kernel), fv_at 38 (by decide +kernel) (by decide +kernel), kkY10_points, by decide +kernel, by decide⟩, fv_at 711 (by decide +kernel) (by decide +kernel), fv_at 712 (by decide +kernel) (by decide +kernel)⟩
theorem lkL_147 : fv_mV RL 147 Y11_points 1 := ⟨⟨fv_at 1154 (by decide +kernel) (by decide +kernel), fv_at 46 (by decide +kernel) (by decide +kernel), kkY11_points, by decide +kernel, by decide⟩, fv_at 1155 (by decide +kernel) (by decide +kernel), fv_at 1156 (by decide +kernel) (by decide +kernel)⟩
theorem lkL_148 : fv_mV RL 148 Y10_count 1 := ⟨⟨fv_at 730 (by decide +kernel) (by decide +kernel), fv_at 38 (by decide +kernel) (by decide +kernel), kkY10_count, by decide +kernel, by decide⟩, fv_at 731 (by decide +kernel) (by decide +kernel), fv_at 732 (by decide +kernel) (by decide +kernel)⟩
theorem lkL_151 : fv_mV RL 151 Y11_count 1 := ⟨⟨fv_at 1158 (by decide +kernel) (by decide +kernel), fv_at 46 (by decide +kernel) (by decide +kernel), kkY11_count, by decide +kernel, by decide⟩, fv_at 1159 (by decide +kernel) (by decide +kernel), fv_at 1160 (by decide +kernel) (by decide +kernel)⟩
theorem lkL_152 : fv_mV RL 152 Y10_digest 0 := ⟨⟨fv_at 750 (by decide +kernel) (by decide +kernel), fv_at 38 (by decide +kernel) (by decide +kernel), kkY10_digest, by decide +kernel, by decide⟩, fv_at 751 (by decide +kernel) (by decide +kernel), fv_at 752 (by decide +kernel) (by decide +kernel)⟩
theorem lkL_155 : fv_mV RL 155 Y11_digest 0 := ⟨⟨fv_at 1162 (by decide +kernel) (by decide +kernel), fv_at 46 (by decide +kernel) (by decide +kernel), kkY11_digest, by decide +kernel, by decide⟩, fv_at 1163 (by decide +kernel) (by decide +kernel), fv_at 1164 (by decide +kernel) (by decide +kernel)⟩
theorem lk0_11 : fv_mIN RX0 11 Y8_init 0 := ⟨⟨by decide +kernel, fv_at 40 (by decide +kernel) (by decide +kernel), kkY8_init, by decide +kernel, by decide⟩, fv_at 70 (by decide +kernel) (by decide +kernel), rfl, rfl⟩
theorem lk0_20 : fv_mIN RX0 20 Y7_init 0 := ⟨⟨by decide +kernel, fv_at 41 (by decide +kernel) (by decide +kernel), kkY7_init, by decide +kernel, by decide⟩, fv_at 77 (by decide +kernel) (by decide +kernel), rfl, rfl⟩
theorem lk0_28 : fv_mV RX0 28 Y8_pourAll 2 := ⟨⟨fv_at 326 (by decide +kernel) (by decide +kernel), fv_at 40 (by decide +kernel) (by decide +kernel), kkY8_pourAll, by decide +kernel, by decide⟩, fv_at 327 (by decide +kernel) (by decide +kernel), fv_at 328 (by decide +kernel) (by decide +kernel)⟩
theorem lk0_32 : fv_mV RX0 32 Y8_pour 2 := ⟨⟨fv_at 344 (by decide +kernel) (by decide +kernel), fv_at 40 (by decide +kernel) (by decide +kernel), kkY8_pour, by decide +kernel, by decide⟩, fv_at 340 (by decide +kernel) (by decide +kernel), fv_at 341 (by decide +kernel) (by decide +kernel)⟩
theorem lk0_36 : fv_mV RX0 36 Y8_settle 1 := ⟨⟨fv_at 345 (by decide +kernel) (by decide +kernel), fv_at 40 (by decide +kernel) (by decide +kernel), kkY8_settle, by decide +kernel, by decide⟩, fv_at 346 (by decide +kernel) (by decide +kernel), fv_at 347 (by decide +kernel) (by decide +kernel)⟩
theorem lk0_40 : fv_mS RX0 40 Y0_isTooHigh 2 := ⟨⟨fv_at 409 (by decide +kernel) (by decide +kernel), fv_at 39 (by decide +kernel) (by decide +kernel), kkY0_isTooHigh, by decide +kernel, by decide⟩, fv_at 410 (by decide +kernel) (by decide +kernel)⟩
theorem lk0_44 : fv_mV RX0 44 Y7_size 0 := ⟨⟨fv_at 424 (by decide +kernel) (by decide +kernel), fv_at 41 (by decide +kernel) (by decide +kernel), kkY7_size, by decide +kernel, by decide⟩, fv_at 301 (by decide +kernel) (by decide +kernel), fv_at 302 (by decide +kernel) (by decide +kernel)⟩
theorem lk0_48 : fv_mV RX0 48 Y7_numberAt 1 := ⟨⟨fv_at 425 (by decide +kernel) (by decide +kernel), fv_at 41 (by decide +kernel) (by decide +kernel), kkY7_numberAt, by decide +kernel, by decide⟩, fv_at 336 (by decide +kernel) (by decide +kernel), fv_at 337 (by decide +kernel) (by decide +kernel)⟩
theorem lk0_52 : fv_mV RX0 52 Y7_exponentsAt 1 := ⟨⟨fv_at 426 (by decide +kernel) (by decide +kernel), fv_at 41 (by decide +kernel) (by decide +kernel), kkY7_exponentsAt, by decide +kernel, by decide⟩, fv_at 332 (by decide +kernel) (by decide +kernel), fv_at 333 (by decide +kernel) (by decide +kernel)⟩
theorem lk0_55 : fv_mV RX0 55 Y7_topExponent 1 := ⟨⟨fv_at 412 (by decide +kernel) (by decide +kernel), fv_at 41 (by decide +kernel) (by decide +kernel), kkY7_topExponent, by decide +kernel, by decide⟩, fv_at 413 (by decide +kernel) (by decide +kernel), fv_at 414 (by decide +kernel) (by decide +kernel)⟩
theorem lk0_58 : fv_mS RX0 58 Y6_swapped 4 := ⟨⟨fv_at 435 (by decide +kernel) (by decide +kernel), fv_at 47 (by decide +kernel) (by decide +kernel), kkY6_swapped, by decide +kernel, by decide⟩, fv_at 245 (by decide +kernel) (by decide +kernel)⟩
theorem lk0_64 : fv_mV RX0 64 Y0_pourDifference 3 := ⟨⟨fv_at 444 (by decide +kernel) (by decide +kernel), fv_at 39 (by decide +kernel) (by decide +kernel), kkY0_pourDifference, by decide +kernel, by decide⟩, fv_at 446 (by decide +kernel) (by decide +kernel), fv_at 2 (by decide +kernel) (by decide +kernel)⟩
theorem lk0_68 : fv_mV RX0 68 Y7_exponentAt 2 := ⟨⟨fv_at 448 (by decide +kernel) (by decide +kernel), fv_at 41 (by decide +kernel) (by decide +kernel), kkY7_exponentAt, by decide +kernel, by decide⟩, fv_at 417 (by decide +kernel) (by decide +kernel), fv_at 418 (by decide +kernel) (by decide +kernel)⟩
theorem lk0_72 : fv_mS RX0 72 Y3_power 2 := ⟨⟨fv_at 449 (by decide +kernel) (by decide +kernel), fv_at 48 (by decide +kernel) (by decide +kernel), kkY3_power, by decide +kernel, by decide⟩, fv_at 248 (by decide +kernel) (by decide +kernel)⟩
theorem lk0_77 : fv_mS RX0 77 YJ9_min 2 := ⟨⟨fv_at 450 (by decide +kernel) (by decide +kernel), fv_at 49 (by decide +kernel) (by decide +kernel), kkYJ9_min, by decide +kernel, by decide⟩, fv_at 355 (by decide +kernel) (by decide +kernel)⟩
theorem lk0_82 : fv_mS RX0 82 YJ9_max 2 := ⟨⟨fv_at 451 (by decide +kernel) (by decide +kernel), fv_at 49 (by decide +kernel) (by decide +kernel), kkYJ9_max, by decide +kernel, by decide⟩, fv_at 422 (by decide +kernel) (by decide +kernel)⟩
theorem lk0_85 : fv_mS RX0 85 Y6_firstStep 3 := ⟨⟨fv_at 460 (by decide +kernel) (by decide +kernel), fv_at 47 (by decide +kernel) (by decide +kernel), kkY6_firstStep, by decide +kernel, by decide⟩, fv_at 461 (by decide +kernel) (by decide +kernel)⟩
theorem lk0_91 : fv_mV RX0 91 Y7_clear 0 := ⟨⟨fv_at 464 (by decide +kernel) (by decide +kernel), fv_at 41 (by decide +kernel) (by decide +kernel), kkY7_clear, by decide +kernel, by decide⟩, fv_at 285 (by decide +kernel) (by decide +kernel), fv_at 286 (by decide +kernel) (by decide +kernel)⟩
theorem lk0_94 : fv_mS RX0 94 Y0_staircase 1 := ⟨⟨fv_at 465 (by decide +kernel) (by decide +kernel), fv_at 39 (by decide +kernel) (by decide +kernel), kkY0_staircase, by decide +kernel, by decide⟩, fv_at 466 (by decide +kernel) (by decide +kernel)⟩
theorem lk0_97 : fv_mV RX0 97 Y7_append 2 := ⟨⟨fv_at 468 (by decide +kernel) (by decide +kernel), fv_at 41 (by decide +kernel) (by decide +kernel), kkY7_append, by decide +kernel, by decide⟩, fv_at 359 (by decide +kernel) (by decide +kernel), fv_at 360 (by decide +kernel) (by decide +kernel)⟩
theorem lk0_101 : fv_mV RX0 101 Y0_differ 3 := ⟨⟨fv_at 469 (by decide +kernel) (by decide +kernel), fv_at 39 (by decide +kernel) (by decide +kernel), kkY0_differ, by decide +kernel, by decide⟩, fv_at 441 (by decide +kernel) (by decide +kernel), fv_at 442 (by decide +kernel) (by decide +kernel)⟩
theorem lk0_105 : fv_mV RX0 105 Y7_copy 1 := ⟨⟨fv_at 478 (by decide +kernel) (by decide +kernel), fv_at 41 (by decide +kernel) (by decide +kernel), kkY7_copy, by decide +kernel, by decide⟩, fv_at 363 (by decide +kernel) (by decide +kernel), fv_at 364 (by decide +kernel) (by decide +kernel)⟩
theorem lk0_109 : fv_mV RX0 109 Y0_partOfLeft 2 := ⟨⟨fv_at 479 (by decide +kernel) (by decide +kernel), fv_at 39 (by decide +kernel) (by decide +kernel), kkY0_partOfLeft, by decide +kernel, by decide⟩, fv_at 481 (by decide +kernel) (by decide +kernel), fv_at 3 (by decide +kernel) (by decide +kernel)⟩
theorem lk0_113 : fv_mS RX0 113 Y6_figures 1 := ⟨⟨fv_at 493 (by decide +kernel) (by decide +kernel), fv_at 47 (by decide +kernel) (by decide +kernel), kkY6_figures, by decide +kernel, by decide⟩, fv_at 228 (by decide +kernel) (by decide +kernel)⟩
theorem lk0_116 : fv_mV RX0 116 Y0_compose 3 := ⟨⟨fv_at 494 (by decide +kernel) (by decide +kernel), fv_at 39 (by decide +kernel) (by decide +kernel), kkY0_compose, by decide +kernel, by decide⟩, fv_at 457 (by decide +kernel) (by decide +kernel), fv_at 458 (by decide +kernel) (by decide +kernel)⟩
theorem lk0_120 : fv_mV RX0 120 Y0_multiply 3 := ⟨⟨fv_at 495 (by decide +kernel) (by decide +kernel), fv_at 39 (by decide +kernel) (by decide +kernel), kkY0_multiply, by decide +kernel, by decide⟩, fv_at 406 (by decide +kernel) (by decide +kernel), fv_at 407 (by decide +kernel) (by decide +kernel)⟩
theorem lk0_124 : fv_mSN RX0 124 Y10_refusal 1 := ⟨⟨by decide +kernel, fv_at 38 (by decide +kernel) (by decide +kernel), kkY10_refusal, by decide +kernel, by decide⟩, fv_at 384 (by decide +kernel) (by decide +kernel)⟩
theorem lk0_128 : fv_mV RX0 128 Y7_numberOf 1 := ⟨⟨fv_at 484 (by decide +kernel) (by decide +kernel), fv_at 41 (by decide +kernel) (by decide +kernel), kkY7_numberOf, by decide +kernel, by decide⟩, fv_at 388 (by decide +kernel) (by decide +kernel), fv_at 389 (by decide +kernel) (by decide +kernel)⟩
theorem lk1_9 : fv_mS RX1 9 Y1_isShape 2 := ⟨⟨fv_at 511 (by decide +kernel) (by decide +kernel), fv_at 50 (by decide +kernel) (by decide +kernel), kkY1_isShape, by decide +kernel, by decide⟩, fv_at 512 (by decide +kernel) (by decide +kernel)⟩
theorem lk1_15 : fv_mS RX1 15 Y3_power 2 := ⟨⟨fv_at 514 (by decide +kernel) (by decide +kernel), fv_at 48 (by decide +kernel) (by decide +kernel), kkY3_power, by decide +kernel, by decide⟩, fv_at 248 (by decide +kernel) (by decide +kernel)⟩
theorem lk1_21 : fv_mS RX1 21 Y1_figure 3 := ⟨⟨fv_at 515 (by decide +kernel) (by decide +kernel), fv_at 50 (by decide +kernel) (by decide +kernel), kkY1_figure, by decide +kernel, by decide⟩, fv_at 516 (by decide +kernel) (by decide +kernel)⟩
theorem lk1_25 : fv_mS RX1 25 Y3_at 2 := ⟨⟨fv_at 518 (by decide +kernel) (by decide +kernel), fv_at 48 (by decide +kernel) (by decide +kernel), kkY3_at, by decide +kernel, by decide⟩, fv_at 238 (by decide +kernel) (by decide +kernel)⟩
theorem lk1_28 : fv_mS RX1 28 Y1_strips 5 := ⟨⟨fv_at 522 (by decide +kernel) (by decide +kernel), fv_at 50 (by decide +kernel) (by decide +kernel), kkY1_strips, by decide +kernel, by decide⟩, fv_at 523 (by decide +kernel) (by decide +kernel)⟩
theorem lk1_32 : fv_mS RX1 32 Y1_room 4 := ⟨⟨fv_at 525 (by decide +kernel) (by decide +kernel), fv_at 50 (by decide +kernel) (by decide +kernel), kkY1_room, by decide +kernel, by decide⟩, fv_at 526 (by decide +kernel) (by decide +kernel)⟩
theorem lk1_36 : fv_mS RX1 36 YJ9_min 2 := ⟨⟨fv_at 528 (by decide +kernel) (by decide +kernel), fv_at 49 (by decide +kernel) (by decide +kernel), kkYJ9_min, by decide +kernel, by decide⟩, fv_at 355 (by decide +kernel) (by decide +kernel)⟩
theorem lk1_41 : fv_mS RX1 41 Y1_gather 5 := ⟨⟨fv_at 593 (by decide +kernel) (by decide +kernel), fv_at 50 (by decide +kernel) (by decide +kernel), kkY1_gather, by decide +kernel, by decide⟩, fv_at 591 (by decide +kernel) (by decide +kernel)⟩
theorem lk10_17 : fv_mIN RX10 17 Y0_init 0 := ⟨⟨by decide +kernel, fv_at 39 (by decide +kernel) (by decide +kernel), kkY0_init, by decide +kernel, by decide⟩, fv_at 64 (by decide +kernel) (by decide +kernel), rfl, rfl⟩
theorem lk10_24 : fv_mIN RX10 24 Y2_init 0 := ⟨⟨by decide +kernel, fv_at 42 (by decide +kernel) (by decide +kernel), kkY2_init, by decide +kernel, by decide⟩, fv_at 127 (by decide +kernel) (by decide +kernel), rfl, rfl⟩
theorem lk10_31 : fv_mI RX10 31 Y9_init 0 := ⟨⟨fv_at 181 (by decide +kernel) (by decide +kernel), fv_at 44 (by decide +kernel) (by decide +kernel), kkY9_init, by decide +kernel, by decide⟩, fv_at 182 (by decide +kernel) (by decide +kernel), rfl, rfl⟩
theorem lk10_36 : fv_mIN RX10 36 Y7_init 0 := ⟨⟨by decide +kernel, fv_at 41 (by decide +kernel) (by decide +kernel), kkY7_init, by decide +kernel, by decide⟩, fv_at 77 (by decide +kernel) (by decide +kernel), rfl, rfl⟩
theorem lk10_37 : fv_mS RX10 37 Y6_figures 1 := ⟨⟨fv_at 227 (by decide +kernel) (by decide +kernel), fv_at 47 (by decide +kernel) (by decide +kernel), kkY6_figures, by decide +kernel, by decide⟩, fv_at 228 (by decide +kernel) (by decide +kernel)⟩
theorem lk10_43 : fv_mS RX10 43 Y6_falls 2 := ⟨⟨fv_at 231 (by decide +kernel) (by decide +kernel), fv_at 47 (by decide +kernel) (by decide +kernel), kkY6_falls, by decide +kernel, by decide⟩, fv_at 232 (by decide +kernel) (by decide +kernel)⟩
theorem lk10_47 : fv_mS RX10 47 Y6_swapped 4 := ⟨⟨fv_at 244 (by decide +kernel) (by decide +kernel), fv_at 47 (by decide +kernel) (by decide +kernel), kkY6_swapped, by decide +kernel, by decide⟩, fv_at 245 (by decide +kernel) (by decide +kernel)⟩
theorem lk10_51 : fv_mS RX10 51 Y6_inverted 2 := ⟨⟨fv_at 254 (by decide +kernel) (by decide +kernel), fv_at 47 (by decide +kernel) (by decide +kernel), kkY6_inverted, by decide +kernel, by decide⟩, fv_at 255 (by decide +kernel) (by decide +kernel)⟩
theorem lk10_54 : fv_mSN RX10 54 Y6_ofLength 2 := ⟨⟨by decide +kernel, fv_at 47 (by decide +kernel) (by decide +kernel), kkY6_ofLength, by decide +kernel, by decide⟩, fv_at 262 (by decide +kernel) (by decide +kernel)⟩
theorem lk10_57 : fv_mS RX10 57 Y6_risen 4 := ⟨⟨fv_at 269 (by decide +kernel) (by decide +kernel), fv_at 47 (by decide +kernel) (by decide +kernel), kkY6_risen, by decide +kernel, by decide⟩, fv_at 270 (by decide +kernel) (by decide +kernel)⟩
theorem lk10_60 : fv_mS RX10 60 Y10_isSheet 1 := ⟨⟨fv_at 281 (by decide +kernel) (by decide +kernel), fv_at 38 (by decide +kernel) (by decide +kernel), kkY10_isSheet, by decide +kernel, by decide⟩, fv_at 282 (by decide +kernel) (by decide +kernel)⟩
theorem lk10_64 : fv_mV RX10 64 Y7_clear 0 := ⟨⟨fv_at 284 (by decide +kernel) (by decide +kernel), fv_at 41 (by decide +kernel) (by decide +kernel), kkY7_clear, by decide +kernel, by decide⟩, fv_at 285 (by decide +kernel) (by decide +kernel), fv_at 286 (by decide +kernel) (by decide +kernel)⟩
theorem lk10_67 : fv_mV RX10 67 Y10_isLost 1 := ⟨⟨fv_at 292 (by decide +kernel) (by decide +kernel), fv_at 38 (by decide +kernel) (by decide +kernel), kkY10_isLost, by decide +kernel, by decide⟩, fv_at 294 (by decide +kernel) (by decide +kernel), fv_at 0 (by decide +kernel) (by decide +kernel)⟩
theorem lk10_70 : fv_mV RX10 70 Y7_size 0 := ⟨⟨fv_at 300 (by decide +kernel) (by decide +kernel), fv_at 41 (by decide +kernel) (by decide +kernel), kkY7_size, by decide +kernel, by decide⟩, fv_at 301 (by decide +kernel) (by decide +kernel), fv_at 302 (by decide +kernel) (by decide +kernel)⟩
theorem lk10_74 : fv_mV RX10 74 Y7_vanish 0 := ⟨⟨fv_at 304 (by decide +kernel) (by decide +kernel), fv_at 41 (by decide +kernel) (by decide +kernel), kkY7_vanish, by decide +kernel, by decide⟩, fv_at 305 (by decide +kernel) (by decide +kernel), fv_at 306 (by decide +kernel) (by decide +kernel)⟩
theorem lk10_77 : fv_mS RX10 77 Y10_isBeyond 1 := ⟨⟨fv_at 312 (by decide +kernel) (by decide +kernel), fv_at 38 (by decide +kernel) (by decide +kernel), kkY10_isBeyond, by decide +kernel, by decide⟩, fv_at 313 (by decide +kernel) (by decide +kernel)⟩
theorem lk10_81 : fv_mS RX10 81 Y10_areExponents 1 := ⟨⟨fv_at 317 (by decide +kernel) (by decide +kernel), fv_at 38 (by decide +kernel) (by decide +kernel), kkY10_areExponents, by decide +kernel, by decide⟩, fv_at 318 (by decide +kernel) (by decide +kernel)⟩
theorem lk10_84 : fv_mV RX10 84 Y0_join 3 := ⟨⟨fv_at 322 (by decide +kernel) (by decide +kernel), fv_at 39 (by decide +kernel) (by decide +kernel), kkY0_join, by decide +kernel, by decide⟩, fv_at 323 (by decide +kernel) (by decide +kernel), fv_at 324 (by decide +kernel) (by decide +kernel)⟩
theorem lk10_88 : fv_mV RX10 88 Y7_exponentsAt 1 := ⟨⟨fv_at 378 (by decide +kernel) (by decide +kernel), fv_at 41 (by decide +kernel) (by decide +kernel), kkY7_exponentsAt, by decide +kernel, by decide⟩, fv_at 332 (by decide +kernel) (by decide +kernel), fv_at 333 (by decide +kernel) (by decide +kernel)⟩
theorem lk10_91 : fv_mS RX10 91 Y10_refusal 1 := ⟨⟨fv_at 383 (by decide +kernel) (by decide +kernel), fv_at 38 (by decide +kernel) (by decide +kernel), kkY10_refusal, by decide +kernel, by decide⟩, fv_at 384 (by decide +kernel) (by decide +kernel)⟩
theorem lk10_95 : fv_mV RX10 95 Y7_numberOf 1 := ⟨⟨fv_at 387 (by decide +kernel) (by decide +kernel), fv_at 41 (by decide +kernel) (by decide +kernel), kkY7_numberOf, by decide +kernel, by decide⟩, fv_at 388 (by decide +kernel) (by decide +kernel), fv_at 389 (by decide +kernel) (by decide +kernel)⟩
theorem lk10_100 : fv_mV RX10 100 Y0_combine 4 := ⟨⟨fv_at 397 (by decide +kernel) (by decide +kernel), fv_at 39 (by decide +kernel) (by decide +kernel), kkY0_combine, by decide +kernel, by decide⟩, fv_at 398 (by decide +kernel) (by decide +kernel), fv_at 399 (by decide +kernel) (by decide +kernel)⟩
theorem lk10_104 : fv_mV RX10 104 Y0_multiply 3 := ⟨⟨fv_at 405 (by decide +kernel) (by decide +kernel), fv_at 39 (by decide +kernel) (by decide +kernel), kkY0_multiply, by decide +kernel, by decide⟩, fv_at 406 (by decide +kernel) (by decide +kernel), fv_at 407 (by decide +kernel) (by decide +kernel)⟩
theorem lk10_108 : fv_mV RX10 108 Y0_swapLetters 3 := ⟨⟨fv_at 431 (by decide +kernel) (by decide +kernel), fv_at 39 (by decide +kernel) (by decide +kernel), kkY0_swapLetters, by decide +kernel, by decide⟩, fv_at 432 (by decide +kernel) (by decide +kernel), fv_at 433 (by decide +kernel) (by decide +kernel)⟩
theorem lk10_112 : fv_mV RX10 112 Y0_differ 3 := ⟨⟨fv_at 440 (by decide +kernel) (by decide +kernel), fv_at 39 (by decide +kernel) (by decide +kernel), kkY0_differ, by decide +kernel, by decide⟩, fv_at 441 (by decide +kernel) (by decide +kernel), fv_at 442 (by decide +kernel) (by decide +kernel)⟩
theorem lk10_115 : fv_mV RX10 115 Y0_compose 3 := ⟨⟨fv_at 456 (by decide +kernel) (by decide +kernel), fv_at 39 (by decide +kernel) (by decide +kernel), kkY0_compose, by decide +kernel, by decide⟩, fv_at 457 (by decide +kernel) (by decide +kernel), fv_at 458 (by decide +kernel) (by decide +kernel)⟩
theorem lk10_119 : fv_mV RX10 119 Y0_partOf 3 := ⟨⟨fv_at 474 (by decide +kernel) (by decide +kernel), fv_at 39 (by decide +kernel) (by decide +kernel), kkY0_partOf, by decide +kernel, by decide⟩, fv_at 475 (by decide +kernel) (by decide +kernel), fv_at 476 (by decide +kernel) (by decide +kernel)⟩
theorem lk10_123 : fv_mV RX10 123 Y0_partOfProduct 3 := ⟨⟨fv_at 489 (by decide +kernel) (by decide +kernel), fv_at 39 (by decide +kernel) (by decide +kernel), kkY0_partOfProduct, by decide +kernel, by decide⟩, fv_at 490 (by decide +kernel) (by decide +kernel), fv_at 491 (by decide +kernel) (by decide +kernel)⟩
theorem lk10_127 : fv_mV RX10 127 Y7_isLike 1 := ⟨⟨fv_at 500 (by decide +kernel) (by decide +kernel), fv_at 41 (by decide +kernel) (by decide +kernel), kkY7_isLike, by decide +kernel, by decide⟩, fv_at 501 (by decide +kernel) (by decide +kernel), fv_at 502 (by decide +kernel) (by decide +kernel)⟩
theorem lk10_131 : fv_mS RX10 131 Y1_isBox 3 := ⟨⟨fv_at 508 (by decide +kernel) (by decide +kernel), fv_at 50 (by decide +kernel) (by decide +kernel), kkY1_isBox, by decide +kernel, by decide⟩, fv_at 509 (by decide +kernel) (by decide +kernel)⟩
theorem lk10_137 : fv_mS RX10 137 Y1_stripAt 5 := ⟨⟨fv_at 519 (by decide +kernel) (by decide +kernel), fv_at 50 (by decide +kernel) (by decide +kernel), kkY1_stripAt, by decide +kernel, by decide⟩, fv_at 520 (by decide +kernel) (by decide +kernel)⟩
theorem lk10_141 : fv_mV RX10 141 Y2_filler 0 := ⟨⟨fv_at 533 (by decide +kernel) (by decide +kernel), fv_at 42 (by decide +kernel) (by decide +kernel), kkY2_filler, by decide +kernel, by decide⟩, fv_at 534 (by decide +kernel) (by decide +kernel), fv_at 535 (by decide +kernel) (by decide +kernel)⟩
theorem lk10_145 : fv_mV RX10 145 Y4_howMany 4 := ⟨⟨fv_at 537 (by decide +kernel) (by decide +kernel), fv_at 43 (by decide +kernel) (by decide +kernel), kkY4_howMany, by decide +kernel, by decide⟩, fv_at 538 (by decide +kernel) (by decide +kernel), fv_at 539 (by decide +kernel) (by decide +kernel)⟩
theorem lk10_150 : fv_mS RX10 150 Y1_toOrder 3 := ⟨⟨fv_at 554 (by decide +kernel) (by decide +kernel), fv_at 50 (by decide +kernel) (by decide +kernel), kkY1_toOrder, by decide +kernel, by decide⟩, fv_at 555 (by decide +kernel) (by decide +kernel)⟩
theorem lk10_154 : fv_mS RX10 154 Y1_isShape 2 := ⟨⟨fv_at 561 (by decide +kernel) (by decide +kernel), fv_at 50 (by decide +kernel) (by decide +kernel), kkY1_isShape, by decide +kernel, by decide⟩, fv_at 512 (by decide +kernel) (by decide +kernel)⟩
theorem lk10_158 : fv_mV RX10 158 Y2_restart 2 := ⟨⟨fv_at 562 (by decide +kernel) (by decide +kernel), fv_at 42 (by decide +kernel) (by decide +kernel), kkY2_restart, by decide +kernel, by decide⟩, fv_at 563 (by decide +kernel) (by decide +kernel), fv_at 564 (by decide +kernel) (by decide +kernel)⟩
theorem lk10_161 : fv_mV RX10 161 Y2_rows 0 := ⟨⟨fv_at 570 (by decide +kernel) (by decide +kernel), fv_at 42 (by decide +kernel) (by decide +kernel), kkY2_rows, by decide +kernel, by decide⟩, fv_at 571 (by decide +kernel) (by decide +kernel), fv_at 572 (by decide +kernel) (by decide +kernel)⟩
theorem lk10_164 : fv_mV RX10 164 Y2_columns 0 := ⟨⟨fv_at 574 (by decide +kernel) (by decide +kernel), fv_at 42 (by decide +kernel) (by decide +kernel), kkY2_columns, by decide +kernel, by decide⟩, fv_at 575 (by decide +kernel) (by decide +kernel), fv_at 576 (by decide +kernel) (by decide +kernel)⟩
theorem lk10_167 : fv_mV RX10 167 Y2_append 1 := ⟨⟨fv_at 578 (by decide +kernel) (by decide +kernel), fv_at 42 (by decide +kernel) (by decide +kernel), kkY2_append, by decide +kernel, by decide⟩, fv_at 579 (by decide +kernel) (by decide +kernel), fv_at 580 (by decide +kernel) (by decide +kernel)⟩
theorem lk10_170 : fv_mV RX10 170 Y2_total 0 := ⟨⟨fv_at 586 (by decide +kernel) (by decide +kernel), fv_at 42 (by decide +kernel) (by decide +kernel), kkY2_total, by decide +kernel, by decide⟩, fv_at 587 (by decide +kernel) (by decide +kernel), fv_at 588 (by decide +kernel) (by decide +kernel)⟩
theorem lk10_174 : fv_mV RX10 174 Y9_change 1 := ⟨⟨fv_at 604 (by decide +kernel) (by decide +kernel), fv_at 44 (by decide +kernel) (by decide +kernel), kkY9_change, by decide +kernel, by decide⟩, fv_at 605 (by decide +kernel) (by decide +kernel), fv_at 606 (by decide +kernel) (by decide +kernel)⟩
theorem lk10_177 : fv_mS RX10 177 Y9_isRod 1 := ⟨⟨fv_at 616 (by decide +kernel) (by decide +kernel), fv_at 44 (by decide +kernel) (by decide +kernel), kkY9_isRod, by decide +kernel, by decide⟩, fv_at 617 (by decide +kernel) (by decide +kernel)⟩
theorem lk10_180 : fv_mV RX10 180 Y9_isPoint 1 := ⟨⟨fv_at 619 (by decide +kernel) (by decide +kernel), fv_at 44 (by decide +kernel) (by decide +kernel), kkY9_isPoint, by decide +kernel, by decide⟩, fv_at 620 (by decide +kernel) (by decide +kernel), fv_at 621 (by decide +kernel) (by decide +kernel)⟩
theorem lk10_183 : fv_mV RX10 183 Y9_lay 3 := ⟨⟨fv_at 628 (by decide +kernel) (by decide +kernel), fv_at 44 (by decide +kernel) (by decide +kernel), kkY9_lay, by decide +kernel, by decide⟩, fv_at 629 (by decide +kernel) (by decide +kernel), fv_at 630 (by decide +kernel) (by decide +kernel)⟩
theorem lk10_186 : fv_mV RX10 186 Y9_remove 1 := ⟨⟨fv_at 656 (by decide +kernel) (by decide +kernel), fv_at 44 (by decide +kernel) (by decide +kernel), kkY9_remove, by decide +kernel, by decide⟩, fv_at 657 (by decide +kernel) (by decide +kernel), fv_at 658 (by decide +kernel) (by decide +kernel)⟩
theorem lk10_189 : fv_mV RX10 189 Y9_howMet 2 := ⟨⟨fv_at 668 (by decide +kernel) (by decide +kernel), fv_at 44 (by decide +kernel) (by decide +kernel), kkY9_howMet, by decide +kernel, by decide⟩, fv_at 669 (by decide +kernel) (by decide +kernel), fv_at 670 (by decide +kernel) (by decide +kernel)⟩
theorem lk10_192 : fv_mS RX10 192 Y9_areBits 1 := ⟨⟨fv_at 684 (by decide +kernel) (by decide +kernel), fv_at 44 (by decide +kernel) (by decide +kernel), kkY9_areBits, by decide +kernel, by decide⟩, fv_at 685 (by decide +kernel) (by decide +kernel)⟩
theorem lk10_195 : fv_mV RX10 195 Y9_areThere 1 := ⟨⟨fv_at 687 (by decide +kernel) (by decide +kernel), fv_at 44 (by decide +kernel) (by decide +kernel), kkY9_areThere, by decide +kernel, by decide⟩, fv_at 688 (by decide +kernel) (by decide +kernel), fv_at 689 (by decide +kernel) (by decide +kernel)⟩
theorem lk10_198 : fv_mV RX10 198 Y9_linesMeeting 1 := ⟨⟨fv_at 694 (by decide +kernel) (by decide +kernel), fv_at 44 (by decide +kernel) (by decide +kernel), kkY9_linesMeeting, by decide +kernel, by decide⟩, fv_at 695 (by decide +kernel) (by decide +kernel), fv_at 696 (by decide +kernel) (by decide +kernel)⟩
theorem lk10_201 : fv_mV RX10 201 Y9_pointsOn 1 := ⟨⟨fv_at 714 (by decide +kernel) (by decide +kernel), fv_at 44 (by decide +kernel) (by decide +kernel), kkY9_pointsOn, by decide +kernel, by decide⟩, fv_at 715 (by decide +kernel) (by decide +kernel), fv_at 716 (by decide +kernel) (by decide +kernel)⟩
theorem lk10_204 : fv_mV RX10 204 Y10_keptSheets 0 := ⟨⟨fv_at 734 (by decide +kernel) (by decide +kernel), fv_at 38 (by decide +kernel) (by decide +kernel), kkY10_keptSheets, by decide +kernel, by decide⟩, fv_at 736 (by decide +kernel) (by decide +kernel), fv_at 11 (by decide +kernel) (by decide +kernel)⟩
theorem lk10_207 : fv_mV RX10 207 Y2_size 0 := ⟨⟨fv_at 738 (by decide +kernel) (by decide +kernel), fv_at 42 (by decide +kernel) (by decide +kernel), kkY2_size, by decide +kernel, by decide⟩, fv_at 739 (by decide +kernel) (by decide +kernel), fv_at 740 (by decide +kernel) (by decide +kernel)⟩
theorem lk10_208 : fv_mV RX10 208 Y9_order 0 := ⟨⟨fv_at 742 (by decide +kernel) (by decide +kernel), fv_at 44 (by decide +kernel) (by decide +kernel), kkY9_order, by decide +kernel, by decide⟩, fv_at 743 (by decide +kernel) (by decide +kernel), fv_at 744 (by decide +kernel) (by decide +kernel)⟩
theorem lk10_211 : fv_mV RX10 211 Y9_rodsThere 0 := ⟨⟨fv_at 746 (by decide +kernel) (by decide +kernel), fv_at 44 (by decide +kernel) (by decide +kernel), kkY9_rodsThere, by decide +kernel, by decide⟩, fv_at 747 (by decide +kernel) (by decide +kernel), fv_at 748 (by decide +kernel) (by decide +kernel)⟩
theorem lk10_218 : fv_mV RX10 218 Y10_count 1 := ⟨⟨fv_at 756 (by decide +kernel) (by decide +kernel), fv_at 38 (by decide +kernel) (by decide +kernel), kkY10_count, by decide +kernel, by decide⟩, fv_at 731 (by decide +kernel) (by decide +kernel), fv_at 732 (by decide +kernel) (by decide +kernel)⟩
theorem lk10_221 : fv_mV RX10 221 Y7_digestOn 1 := ⟨⟨fv_at 757 (by decide +kernel) (by decide +kernel), fv_at 41 (by decide +kernel) (by decide +kernel), kkY7_digestOn, by decide +kernel, by decide⟩, fv_at 758 (by decide +kernel) (by decide +kernel), fv_at 759 (by decide +kernel) (by decide +kernel)⟩
theorem lk10_225 : fv_mV RX10 225 Y2_digestOn 1 := ⟨⟨fv_at 762 (by decide +kernel) (by decide +kernel), fv_at 42 (by decide +kernel) (by decide +kernel), kkY2_digestOn, by decide +kernel, by decide⟩, fv_at 763 (by decide +kernel) (by decide +kernel), fv_at 764 (by decide +kernel) (by decide +kernel)⟩
theorem lk10_226 : fv_mV RX10 226 Y7_isThere 0 := ⟨⟨fv_at 296 (by decide +kernel) (by decide +kernel), fv_at 41 (by decide +kernel) (by decide +kernel), kkY7_isThere, by decide +kernel, by decide⟩, fv_at 297 (by decide +kernel) (by decide +kernel), fv_at 298 (by decide +kernel) (by decide +kernel)⟩
theorem lk10_235 : fv_mS RX10 235 Y3_at 2 := ⟨⟨fv_at 321 (by decide +kernel) (by decide +kernel), fv_at 48 (by decide +kernel) (by decide +kernel), kkY3_at, by decide +kernel, by decide⟩, fv_at 238 (by decide +kernel) (by decide +kernel)⟩
theorem lk11_119 : fv_mV RX11 119 Y11_lookAtPoints 0 := ⟨⟨fv_at 774 (by decide +kernel) (by decide +kernel), fv_at 46 (by decide +kernel) (by decide +kernel), kkY11_lookAtPoints, by decide +kernel, by decide⟩, fv_at 776 (by decide +kernel) (by decide +kernel), fv_at 12 (by decide +kernel) (by decide +kernel)⟩
theorem lk11_126 : fv_mS RX11 126 Y11_in 3 := ⟨⟨fv_at 906 (by decide +kernel) (by decide +kernel), fv_at 46 (by decide +kernel) (by decide +kernel), kkY11_in, by decide +kernel, by decide⟩, fv_at 907 (by decide +kernel) (by decide +kernel)⟩
theorem lk11_133 : fv_mV RX11 133 Y11_reads 1 := ⟨⟨fv_at 901 (by decide +kernel) (by decide +kernel), fv_at 46 (by decide +kernel) (by decide +kernel), kkY11_reads, by decide +kernel, by decide⟩, fv_at 903 (by decide +kernel) (by decide +kernel), fv_at 14 (by decide +kernel) (by decide +kernel)⟩
theorem lk11_137 : fv_mV RX11 137 Y11_lengthNow 0 := ⟨⟨fv_at 909 (by decide +kernel) (by decide +kernel), fv_at 46 (by decide +kernel) (by decide +kernel), kkY11_lengthNow, by decide +kernel, by decide⟩, fv_at 911 (by decide +kernel) (by decide +kernel), fv_at 15 (by decide +kernel) (by decide +kernel)⟩
theorem lk11_141 : fv_mV RX11 141 Y11_change 2 := ⟨⟨fv_at 917 (by decide +kernel) (by decide +kernel), fv_at 46 (by decide +kernel) (by decide +kernel), kkY11_change, by decide +kernel, by decide⟩, fv_at 919 (by decide +kernel) (by decide +kernel), fv_at 16 (by decide +kernel) (by decide +kernel)⟩
theorem lk11_145 : fv_mV RX11 145 Y11_told 0 := ⟨⟨fv_at 921 (by decide +kernel) (by decide +kernel), fv_at 46 (by decide +kernel) (by decide +kernel), kkY11_told, by decide +kernel, by decide⟩, fv_at 923 (by decide +kernel) (by decide +kernel), fv_at 17 (by decide +kernel) (by decide +kernel)⟩
theorem lk11_154 : fv_mS RX11 154 Y11_placeOf 1 := ⟨⟨fv_at 956 (by decide +kernel) (by decide +kernel), fv_at 46 (by decide +kernel) (by decide +kernel), kkY11_placeOf, by decide +kernel, by decide⟩, fv_at 957 (by decide +kernel) (by decide +kernel)⟩
theorem lk11_162 : fv_mV RX11 162 Y11_tooMuch 0 := ⟨⟨fv_at 972 (by decide +kernel) (by decide +kernel), fv_at 46 (by decide +kernel) (by decide +kernel), kkY11_tooMuch, by decide +kernel, by decide⟩, fv_at 974 (by decide +kernel) (by decide +kernel), fv_at 21 (by decide +kernel) (by decide +kernel)⟩
theorem lk11_166 : fv_mS RX11 166 Y11_toldOf 1 := ⟨⟨fv_at 977 (by decide +kernel) (by decide +kernel), fv_at 46 (by decide +kernel) (by decide +kernel), kkY11_toldOf, by decide +kernel, by decide⟩, fv_at 978 (by decide +kernel) (by decide +kernel)⟩
theorem lk11_169 : fv_mS RX11 169 Y11_isSheet 1 := ⟨⟨fv_at 942 (by decide +kernel) (by decide +kernel), fv_at 46 (by decide +kernel) (by decide +kernel), kkY11_isSheet, by decide +kernel, by decide⟩, fv_at 943 (by decide +kernel) (by decide +kernel)⟩
theorem lk11_172 : fv_mV RX11 172 Y11_wipe 0 := ⟨⟨fv_at 960 (by decide +kernel) (by decide +kernel), fv_at 46 (by decide +kernel) (by decide +kernel), kkY11_wipe, by decide +kernel, by decide⟩, fv_at 962 (by decide +kernel) (by decide +kernel), fv_at 18 (by decide +kernel) (by decide +kernel)⟩
theorem lk11_175 : fv_mV RX11 175 Y11_takes 2 := ⟨⟨fv_at 964 (by decide +kernel) (by decide +kernel), fv_at 46 (by decide +kernel) (by decide +kernel), kkY11_takes, by decide +kernel, by decide⟩, fv_at 966 (by decide +kernel) (by decide +kernel), fv_at 19 (by decide +kernel) (by decide +kernel)⟩
theorem lk11_179 : fv_mV RX11 179 Y11_lays 1 := ⟨⟨fv_at 968 (by decide +kernel) (by decide +kernel), fv_at 46 (by decide +kernel) (by decide +kernel), kkY11_lays, by decide +kernel, by decide⟩, fv_at 970 (by decide +kernel) (by decide +kernel), fv_at 20 (by decide +kernel) (by decide +kernel)⟩
theorem lk11_182 : fv_mS RX11 182 Y11_no 1 := ⟨⟨fv_at 992 (by decide +kernel) (by decide +kernel), fv_at 46 (by decide +kernel) (by decide +kernel), kkY11_no, by decide +kernel, by decide⟩, fv_at 993 (by decide +kernel) (by decide +kernel)⟩
theorem lk11_190 : fv_mV RX11 190 Y11_highest 2 := ⟨⟨fv_at 1006 (by decide +kernel) (by decide +kernel), fv_at 46 (by decide +kernel) (by decide +kernel), kkY11_highest, by decide +kernel, by decide⟩, fv_at 1008 (by decide +kernel) (by decide +kernel), fv_at 22 (by decide +kernel) (by decide +kernel)⟩
theorem lk11_196 : fv_mS RX11 196 Y11_nines 1 := ⟨⟨fv_at 1015 (by decide +kernel) (by decide +kernel), fv_at 46 (by decide +kernel) (by decide +kernel), kkY11_nines, by decide +kernel, by decide⟩, fv_at 1016 (by decide +kernel) (by decide +kernel)⟩
theorem lk11_199 : fv_mV RX11 199 Y11_differ 1 := ⟨⟨fv_at 1022 (by decide +kernel) (by decide +kernel), fv_at 46 (by decide +kernel) (by decide +kernel), kkY11_differ, by decide +kernel, by decide⟩, fv_at 1024 (by decide +kernel) (by decide +kernel), fv_at 23 (by decide +kernel) (by decide +kernel)⟩
theorem lk11_203 : fv_mV RX11 203 Y11_makes 1 := ⟨⟨fv_at 1030 (by decide +kernel) (by decide +kernel), fv_at 46 (by decide +kernel) (by decide +kernel), kkY11_makes, by decide +kernel, by decide⟩, fv_at 1032 (by decide +kernel) (by decide +kernel), fv_at 24 (by decide +kernel) (by decide +kernel)⟩
theorem lk11_206 : fv_mV RX11 206 Y11_parts 2 := ⟨⟨fv_at 1038 (by decide +kernel) (by decide +kernel), fv_at 46 (by decide +kernel) (by decide +kernel), kkY11_parts, by decide +kernel, by decide⟩, fv_at 1040 (by decide +kernel) (by decide +kernel), fv_at 25 (by decide +kernel) (by decide +kernel)⟩
theorem lk11_210 : fv_mS RX11 210 Y11_areSides 2 := ⟨⟨fv_at 1054 (by decide +kernel) (by decide +kernel), fv_at 46 (by decide +kernel) (by decide +kernel), kkY11_areSides, by decide +kernel, by decide⟩, fv_at 1055 (by decide +kernel) (by decide +kernel)⟩
theorem lk11_214 : fv_mS RX11 214 Y11_isBox 4 := ⟨⟨fv_at 1057 (by decide +kernel) (by decide +kernel), fv_at 46 (by decide +kernel) (by decide +kernel), kkY11_isBox, by decide +kernel, by decide⟩, fv_at 1058 (by decide +kernel) (by decide +kernel)⟩
theorem lk11_220 : fv_mS RX11 220 Y11_tens 1 := ⟨⟨fv_at 1061 (by decide +kernel) (by decide +kernel), fv_at 46 (by decide +kernel) (by decide +kernel), kkY11_tens, by decide +kernel, by decide⟩, fv_at 1062 (by decide +kernel) (by decide +kernel)⟩
theorem lk11_223 : fv_mS RX11 223 Y11_sizeOf 2 := ⟨⟨fv_at 1064 (by decide +kernel) (by decide +kernel), fv_at 46 (by decide +kernel) (by decide +kernel), kkY11_sizeOf, by decide +kernel, by decide⟩, fv_at 1065 (by decide +kernel) (by decide +kernel)⟩
theorem lk11_227 : fv_mV RX11 227 Y11_mayStand 3 := ⟨⟨fv_at 1075 (by decide +kernel) (by decide +kernel), fv_at 46 (by decide +kernel) (by decide +kernel), kkY11_mayStand, by decide +kernel, by decide⟩, fv_at 1077 (by decide +kernel) (by decide +kernel), fv_at 27 (by decide +kernel) (by decide +kernel)⟩
theorem lk11_231 : fv_mV RX11 231 Y11_fills 1 := ⟨⟨fv_at 1071 (by decide +kernel) (by decide +kernel), fv_at 46 (by decide +kernel) (by decide +kernel), kkY11_fills, by decide +kernel, by decide⟩, fv_at 1073 (by decide +kernel) (by decide +kernel), fv_at 26 (by decide +kernel) (by decide +kernel)⟩
theorem lk11_237 : fv_mV RX11 237 Y11_mixed 4 := ⟨⟨fv_at 778 (by decide +kernel) (by decide +kernel), fv_at 46 (by decide +kernel) (by decide +kernel), kkY11_mixed, by decide +kernel, by decide⟩, fv_at 780 (by decide +kernel) (by decide +kernel), fv_at 13 (by decide +kernel) (by decide +kernel)⟩
theorem lk11_243 : fv_mV RX11 243 Y11_drops 0 := ⟨⟨fv_at 1099 (by decide +kernel) (by decide +kernel), fv_at 46 (by decide +kernel) (by decide +kernel), kkY11_drops, by decide +kernel, by decide⟩, fv_at 1101 (by decide +kernel) (by decide +kernel), fv_at 28 (by decide +kernel) (by decide +kernel)⟩
theorem lk11_248 : fv_mV RX11 248 Y11_pointOf 1 := ⟨⟨fv_at 1108 (by decide +kernel) (by decide +kernel), fv_at 46 (by decide +kernel) (by decide +kernel), kkY11_pointOf, by decide +kernel, by decide⟩, fv_at 1110 (by decide +kernel) (by decide +kernel), fv_at 29 (by decide +kernel) (by decide +kernel)⟩
theorem lk11_251 : fv_mV RX11 251 Y11_evened 1 := ⟨⟨fv_at 1113 (by decide +kernel) (by decide +kernel), fv_at 46 (by decide +kernel) (by decide +kernel), kkY11_evened, by decide +kernel, by decide⟩, fv_at 1115 (by decide +kernel) (by decide +kernel), fv_at 30 (by decide +kernel) (by decide +kernel)⟩
theorem lk11_254 : fv_mV RX11 254 Y11_onLine 3 := ⟨⟨fv_at 1133 (by decide +kernel) (by decide +kernel), fv_at 46 (by decide +kernel) (by decide +kernel), kkY11_onLine, by decide +kernel, by decide⟩, fv_at 1135 (by decide +kernel) (by decide +kernel), fv_at 33 (by decide +kernel) (by decide +kernel)⟩
theorem lk11_258 : fv_mV RX11 258 Y11_wipeMarks 1 := ⟨⟨fv_at 1125 (by decide +kernel) (by decide +kernel), fv_at 46 (by decide +kernel) (by decide +kernel), kkY11_wipeMarks, by decide +kernel, by decide⟩, fv_at 1127 (by decide +kernel) (by decide +kernel), fv_at 31 (by decide +kernel) (by decide +kernel)⟩
theorem lk11_262 : fv_mV RX11 262 Y11_marks 3 := ⟨⟨fv_at 1129 (by decide +kernel) (by decide +kernel), fv_at 46 (by decide +kernel) (by decide +kernel), kkY11_marks, by decide +kernel, by decide⟩, fv_at 1131 (by decide +kernel) (by decide +kernel), fv_at 32 (by decide +kernel) (by decide +kernel)⟩
theorem lk11_271 : fv_mV RX11 271 Y11_areThere 1 := ⟨⟨fv_at 1142 (by decide +kernel) (by decide +kernel), fv_at 46 (by decide +kernel) (by decide +kernel), kkY11_areThere, by decide +kernel, by decide⟩, fv_at 1144 (by decide +kernel) (by decide +kernel), fv_at 34 (by decide +kernel) (by decide +kernel)⟩
theorem lk11_274 : fv_mV RX11 274 Y11_lookAtRods 1 := ⟨⟨fv_at 1146 (by decide +kernel) (by decide +kernel), fv_at 46 (by decide +kernel) (by decide +kernel), kkY11_lookAtRods, by decide +kernel, by decide⟩, fv_at 1148 (by decide +kernel) (by decide +kernel), fv_at 35 (by decide +kernel) (by decide +kernel)⟩
theorem lk11_277 : fv_mV RX11 277 Y11_areLeast 2 := ⟨⟨fv_at 1150 (by decide +kernel) (by decide +kernel), fv_at 46 (by decide +kernel) (by decide +kernel), kkY11_areLeast, by decide +kernel, by decide⟩, fv_at 1152 (by decide +kernel) (by decide +kernel), fv_at 36 (by decide +kernel) (by decide +kernel)⟩
theorem lk11_284 : fv_mV RX11 284 Y11_count 1 := ⟨⟨fv_at 1168 (by decide +kernel) (by decide +kernel), fv_at 46 (by decide +kernel) (by decide +kernel), kkY11_count, by decide +kernel, by decide⟩, fv_at 1159 (by decide +kernel) (by decide +kernel), fv_at 1160 (by decide +kernel) (by decide +kernel)⟩
theorem lk2_11 : fv_mIN RX2 11 Y4_init 0 := ⟨⟨by decide +kernel, fv_at 43 (by decide +kernel) (by decide +kernel), kkY4_init, by decide +kernel, by decide⟩, fv_at 133 (by decide +kernel) (by decide +kernel), rfl, rfl⟩
theorem lk2_42 : fv_mSN RX2 42 Y1_gather 5 := ⟨⟨by decide +kernel, fv_at 50 (by decide +kernel) (by decide +kernel), kkY1_gather, by decide +kernel, by decide⟩, fv_at 591 (by decide +kernel) (by decide +kernel)⟩
theorem lk2_48 : fv_mS RX2 48 YJ9_min 2 := ⟨⟨fv_at 594 (by decide +kernel) (by decide +kernel), fv_at 49 (by decide +kernel) (by decide +kernel), kkYJ9_min, by decide +kernel, by decide⟩, fv_at 355 (by decide +kernel) (by decide +kernel)⟩
theorem lk2_54 : fv_mV RX2 54 Y2_putOn 2 := ⟨⟨fv_at 595 (by decide +kernel) (by decide +kernel), fv_at 42 (by decide +kernel) (by decide +kernel), kkY2_putOn, by decide +kernel, by decide⟩, fv_at 597 (by decide +kernel) (by decide +kernel), fv_at 4 (by decide +kernel) (by decide +kernel)⟩
theorem lk2_58 : fv_mV RX2 58 Y4_howMany 4 := ⟨⟨fv_at 599 (by decide +kernel) (by decide +kernel), fv_at 43 (by decide +kernel) (by decide +kernel), kkY4_howMany, by decide +kernel, by decide⟩, fv_at 538 (by decide +kernel) (by decide +kernel), fv_at 539 (by decide +kernel) (by decide +kernel)⟩
theorem lk4_29 : fv_mS RX4 29 Y1_places 2 := ⟨⟨fv_at 541 (by decide +kernel) (by decide +kernel), fv_at 50 (by decide +kernel) (by decide +kernel), kkY1_places, by decide +kernel, by decide⟩, fv_at 542 (by decide +kernel) (by decide +kernel)⟩
theorem lk4_35 : fv_mS RX4 35 Y1_figure 3 := ⟨⟨fv_at 544 (by decide +kernel) (by decide +kernel), fv_at 50 (by decide +kernel) (by decide +kernel), kkY1_figure, by decide +kernel, by decide⟩, fv_at 516 (by decide +kernel) (by decide +kernel)⟩
theorem lk4_39 : fv_mS RX4 39 YJ9_min 2 := ⟨⟨fv_at 545 (by decide +kernel) (by decide +kernel), fv_at 49 (by decide +kernel) (by decide +kernel), kkYJ9_min, by decide +kernel, by decide⟩, fv_at 355 (by decide +kernel) (by decide +kernel)⟩
theorem lk4_44 : fv_mS RX4 44 Y4_fill 4 := ⟨⟨fv_at 546 (by decide +kernel) (by decide +kernel), fv_at 43 (by decide +kernel) (by decide +kernel), kkY4_fill, by decide +kernel, by decide⟩, fv_at 547 (by decide +kernel) (by decide +kernel)⟩
theorem lk4_48 : fv_mS RX4 48 YJ9_max 2 := ⟨⟨fv_at 549 (by decide +kernel) (by decide +kernel), fv_at 49 (by decide +kernel) (by decide +kernel), kkYJ9_max, by decide +kernel, by decide⟩, fv_at 422 (by decide +kernel) (by decide +kernel)⟩
theorem lk5_17 : fv_mS RX5 17 Y9_figure 2 := ⟨⟨fv_at 637 (by decide +kernel) (by decide +kernel), fv_at 44 (by decide +kernel) (by decide +kernel), kkY9_figure, by decide +kernel, by decide⟩, fv_at 625 (by decide +kernel) (by decide +kernel)⟩
theorem lk5_23 : fv_mS RX5 23 Y5_rest 2 := ⟨⟨fv_at 638 (by decide +kernel) (by decide +kernel), fv_at 45 (by decide +kernel) (by decide +kernel), kkY5_rest, by decide +kernel, by decide⟩, fv_at 639 (by decide +kernel) (by decide +kernel)⟩
theorem lk5_26 : fv_mV RX5 26 Y5_normalize 1 := ⟨⟨fv_at 644 (by decide +kernel) (by decide +kernel), fv_at 45 (by decide +kernel) (by decide +kernel), kkY5_normalize, by decide +kernel, by decide⟩, fv_at 646 (by decide +kernel) (by decide +kernel), fv_at 5 (by decide +kernel) (by decide +kernel)⟩
theorem lk5_30 : fv_mV RX5 30 Y5_pair 2 := ⟨⟨fv_at 726 (by decide +kernel) (by decide +kernel), fv_at 45 (by decide +kernel) (by decide +kernel), kkY5_pair, by decide +kernel, by decide⟩, fv_at 728 (by decide +kernel) (by decide +kernel), fv_at 10 (by decide +kernel) (by decide +kernel)⟩
theorem lk5_33 : fv_mS RX5 33 YJ9_floorMod 2 := ⟨⟨fv_at 641 (by decide +kernel) (by decide +kernel), fv_at 49 (by decide +kernel) (by decide +kernel), kkYJ9_floorMod, by decide +kernel, by decide⟩, fv_at 642 (by decide +kernel) (by decide +kernel)⟩
theorem lk6_10 : fv_mS RX6 10 Y3_at 2 := ⟨⟨fv_at 237 (by decide +kernel) (by decide +kernel), fv_at 48 (by decide +kernel) (by decide +kernel), kkY3_at, by decide +kernel, by decide⟩, fv_at 238 (by decide +kernel) (by decide +kernel)⟩
theorem lk6_16 : fv_mS RX6 16 Y6_figure 3 := ⟨⟨fv_at 234 (by decide +kernel) (by decide +kernel), fv_at 47 (by decide +kernel) (by decide +kernel), kkY6_figure, by decide +kernel, by decide⟩, fv_at 235 (by decide +kernel) (by decide +kernel)⟩
theorem lk6_22 : fv_mS RX6 22 Y3_power 2 := ⟨⟨fv_at 247 (by decide +kernel) (by decide +kernel), fv_at 48 (by decide +kernel) (by decide +kernel), kkY3_power, by decide +kernel, by decide⟩, fv_at 248 (by decide +kernel) (by decide +kernel)⟩
theorem lk6_25 : fv_mS RX6 25 Y6_ofLength 2 := ⟨⟨fv_at 264 (by decide +kernel) (by decide +kernel), fv_at 47 (by decide +kernel) (by decide +kernel), kkY6_ofLength, by decide +kernel, by decide⟩, fv_at 262 (by decide +kernel) (by decide +kernel)⟩
theorem lk6_28 : fv_mS RX6 28 Y6_leastRisen 4 := ⟨⟨fv_at 272 (by decide +kernel) (by decide +kernel), fv_at 47 (by decide +kernel) (by decide +kernel), kkY6_leastRisen, by decide +kernel, by decide⟩, fv_at 273 (by decide +kernel) (by decide +kernel)⟩
theorem lk6_32 : fv_mS RX6 32 Y6_falls 2 := ⟨⟨fv_at 275 (by decide +kernel) (by decide +kernel), fv_at 47 (by decide +kernel) (by decide +kernel), kkY6_falls, by decide +kernel, by decide⟩, fv_at 232 (by decide +kernel) (by decide +kernel)⟩
theorem lk6_35 : fv_mS RX6 35 Y6_swapped 4 := ⟨⟨fv_at 276 (by decide +kernel) (by decide +kernel), fv_at 47 (by decide +kernel) (by decide +kernel), kkY6_swapped, by decide +kernel, by decide⟩, fv_at 245 (by decide +kernel) (by decide +kernel)⟩
theorem lk7_26 : fv_mV RX7 26 Y7_exponentsAt 1 := ⟨⟨fv_at 367 (by decide +kernel) (by decide +kernel), fv_at 41 (by decide +kernel) (by decide +kernel), kkY7_exponentsAt, by decide +kernel, by decide⟩, fv_at 332 (by decide +kernel) (by decide +kernel), fv_at 333 (by decide +kernel) (by decide +kernel)⟩
theorem lk7_30 : fv_mV RX7 30 Y7_numberAt 1 := ⟨⟨fv_at 368 (by decide +kernel) (by decide +kernel), fv_at 41 (by decide +kernel) (by decide +kernel), kkY7_numberAt, by decide +kernel, by decide⟩, fv_at 336 (by decide +kernel) (by decide +kernel), fv_at 337 (by decide +kernel) (by decide +kernel)⟩
theorem lk7_33 : fv_mS RX7 33 Y3_at 2 := ⟨⟨fv_at 420 (by decide +kernel) (by decide +kernel), fv_at 48 (by decide +kernel) (by decide +kernel), kkY3_at, by decide +kernel, by decide⟩, fv_at 238 (by decide +kernel) (by decide +kernel)⟩
theorem lk7_39 : fv_mV RX7 39 Y7_exponentAt 2 := ⟨⟨fv_at 416 (by decide +kernel) (by decide +kernel), fv_at 41 (by decide +kernel) (by decide +kernel), kkY7_exponentAt, by decide +kernel, by decide⟩, fv_at 417 (by decide +kernel) (by decide +kernel), fv_at 418 (by decide +kernel) (by decide +kernel)⟩
theorem lk7_42 : fv_mS RX7 42 YJ9_max 2 := ⟨⟨fv_at 421 (by decide +kernel) (by decide +kernel), fv_at 49 (by decide +kernel) (by decide +kernel), kkYJ9_max, by decide +kernel, by decide⟩, fv_at 422 (by decide +kernel) (by decide +kernel)⟩
theorem lk7_47 : fv_mV RX7 47 Y7_clear 0 := ⟨⟨fv_at 366 (by decide +kernel) (by decide +kernel), fv_at 41 (by decide +kernel) (by decide +kernel), kkY7_clear, by decide +kernel, by decide⟩, fv_at 285 (by decide +kernel) (by decide +kernel), fv_at 286 (by decide +kernel) (by decide +kernel)⟩
theorem lk7_50 : fv_mV RX7 50 Y7_append 2 := ⟨⟨fv_at 369 (by decide +kernel) (by decide +kernel), fv_at 41 (by decide +kernel) (by decide +kernel), kkY7_append, by decide +kernel, by decide⟩, fv_at 359 (by decide +kernel) (by decide +kernel), fv_at 360 (by decide +kernel) (by decide +kernel)⟩
theorem lk8_22 : fv_mIN RX8 22 Y7_init 0 := ⟨⟨by decide +kernel, fv_at 41 (by decide +kernel) (by decide +kernel), kkY7_init, by decide +kernel, by decide⟩, fv_at 77 (by decide +kernel) (by decide +kernel), rfl, rfl⟩
theorem lk8_36 : fv_mV RX8 36 Y7_size 0 := ⟨⟨fv_at 330 (by decide +kernel) (by decide +kernel), fv_at 41 (by decide +kernel) (by decide +kernel), kkY7_size, by decide +kernel, by decide⟩, fv_at 301 (by decide +kernel) (by decide +kernel), fv_at 302 (by decide +kernel) (by decide +kernel)⟩
theorem lk8_40 : fv_mV RX8 40 Y7_exponentsAt 1 := ⟨⟨fv_at 331 (by decide +kernel) (by decide +kernel), fv_at 41 (by decide +kernel) (by decide +kernel), kkY7_exponentsAt, by decide +kernel, by decide⟩, fv_at 332 (by decide +kernel) (by decide +kernel), fv_at 333 (by decide +kernel) (by decide +kernel)⟩
theorem lk8_44 : fv_mV RX8 44 Y7_numberAt 1 := ⟨⟨fv_at 335 (by decide +kernel) (by decide +kernel), fv_at 41 (by decide +kernel) (by decide +kernel), kkY7_numberAt, by decide +kernel, by decide⟩, fv_at 336 (by decide +kernel) (by decide +kernel), fv_at 337 (by decide +kernel) (by decide +kernel)⟩
theorem lk8_47 : fv_mV RX8 47 Y8_pour 2 := ⟨⟨fv_at 339 (by decide +kernel) (by decide +kernel), fv_at 40 (by decide +kernel) (by decide +kernel), kkY8_pour, by decide +kernel, by decide⟩, fv_at 340 (by decide +kernel) (by decide +kernel), fv_at 341 (by decide +kernel) (by decide +kernel)⟩
theorem lk8_51 : fv_mV RX8 51 Y7_clear 0 := ⟨⟨fv_at 349 (by decide +kernel) (by decide +kernel), fv_at 41 (by decide +kernel) (by decide +kernel), kkY7_clear, by decide +kernel, by decide⟩, fv_at 285 (by decide +kernel) (by decide +kernel), fv_at 286 (by decide +kernel) (by decide +kernel)⟩
theorem lk8_54 : fv_mV RX8 54 Y8_takeOut 1 := ⟨⟨fv_at 350 (by decide +kernel) (by decide +kernel), fv_at 40 (by decide +kernel) (by decide +kernel), kkY8_takeOut, by decide +kernel, by decide⟩, fv_at 352 (by decide +kernel) (by decide +kernel), fv_at 1 (by decide +kernel) (by decide +kernel)⟩
theorem lk8_58 : fv_mV RX8 58 Y7_copy 1 := ⟨⟨fv_at 362 (by decide +kernel) (by decide +kernel), fv_at 41 (by decide +kernel) (by decide +kernel), kkY7_copy, by decide +kernel, by decide⟩, fv_at 363 (by decide +kernel) (by decide +kernel), fv_at 364 (by decide +kernel) (by decide +kernel)⟩
theorem lk8_62 : fv_mS RX8 62 YJ9_min 2 := ⟨⟨fv_at 354 (by decide +kernel) (by decide +kernel), fv_at 49 (by decide +kernel) (by decide +kernel), kkYJ9_min, by decide +kernel, by decide⟩, fv_at 355 (by decide +kernel) (by decide +kernel)⟩
theorem lk8_68 : fv_mSN RX8 68 Y10_isBeyond 1 := ⟨⟨by decide +kernel, fv_at 38 (by decide +kernel) (by decide +kernel), kkY10_isBeyond, by decide +kernel, by decide⟩, fv_at 313 (by decide +kernel) (by decide +kernel)⟩
theorem lk8_72 : fv_mV RX8 72 Y7_append 2 := ⟨⟨fv_at 358 (by decide +kernel) (by decide +kernel), fv_at 41 (by decide +kernel) (by decide +kernel), kkY7_append, by decide +kernel, by decide⟩, fv_at 359 (by decide +kernel) (by decide +kernel), fv_at 360 (by decide +kernel) (by decide +kernel)⟩
theorem lk9_17 : fv_mIN RX9 17 Y5_init 0 := ⟨⟨by decide +kernel, fv_at 45 (by decide +kernel) (by decide +kernel), kkY5_init, by decide +kernel, by decide⟩, fv_at 189 (by decide +kernel) (by decide +kernel), rfl, rfl⟩
theorem lk9_26 : fv_mS RX9 26 Y3_at 2 := ⟨⟨fv_at 627 (by decide +kernel) (by decide +kernel), fv_at 48 (by decide +kernel) (by decide +kernel), kkY3_at, by decide +kernel, by decide⟩, fv_at 238 (by decide +kernel) (by decide +kernel)⟩
theorem lk9_32 : fv_mS RX9 32 Y3_power 2 := ⟨⟨fv_at 623 (by decide +kernel) (by decide +kernel), fv_at 48 (by decide +kernel) (by decide +kernel), kkY3_power, by decide +kernel, by decide⟩, fv_at 248 (by decide +kernel) (by decide +kernel)⟩
theorem lk9_35 : fv_mS RX9 35 Y9_figure 2 := ⟨⟨fv_at 624 (by decide +kernel) (by decide +kernel), fv_at 44 (by decide +kernel) (by decide +kernel), kkY9_figure, by decide +kernel, by decide⟩, fv_at 625 (by decide +kernel) (by decide +kernel)⟩
theorem lk9_38 : fv_mV RX9 38 Y5_vanish 0 := ⟨⟨fv_at 608 (by decide +kernel) (by decide +kernel), fv_at 45 (by decide +kernel) (by decide +kernel), kkY5_vanish, by decide +kernel, by decide⟩, fv_at 609 (by decide +kernel) (by decide +kernel), fv_at 610 (by decide +kernel) (by decide +kernel)⟩
theorem lk9_41 : fv_mS RX9 41 Y9_isRod 1 := ⟨⟨fv_at 632 (by decide +kernel) (by decide +kernel), fv_at 44 (by decide +kernel) (by decide +kernel), kkY9_isRod, by decide +kernel, by decide⟩, fv_at 617 (by decide +kernel) (by decide +kernel)⟩
theorem lk9_45 : fv_mV RX9 45 Y5_span 3 := ⟨⟨fv_at 633 (by decide +kernel) (by decide +kernel), fv_at 45 (by decide +kernel) (by decide +kernel), kkY5_span, by decide +kernel, by decide⟩, fv_at 634 (by decide +kernel) (by decide +kernel), fv_at 635 (by decide +kernel) (by decide +kernel)⟩
theorem lk9_49 : fv_mV RX9 49 Y5_copy 1 := ⟨⟨fv_at 648 (by decide +kernel) (by decide +kernel), fv_at 45 (by decide +kernel) (by decide +kernel), kkY5_copy, by decide +kernel, by decide⟩, fv_at 649 (by decide +kernel) (by decide +kernel), fv_at 650 (by decide +kernel) (by decide +kernel)⟩
theorem lk9_53 : fv_mV RX9 53 Y5_isThere 0 := ⟨⟨fv_at 660 (by decide +kernel) (by decide +kernel), fv_at 45 (by decide +kernel) (by decide +kernel), kkY5_isThere, by decide +kernel, by decide⟩, fv_at 661 (by decide +kernel) (by decide +kernel), fv_at 662 (by decide +kernel) (by decide +kernel)⟩
theorem lk9_57 : fv_mV RX9 57 Y5_isLike 1 := ⟨⟨fv_at 672 (by decide +kernel) (by decide +kernel), fv_at 45 (by decide +kernel) (by decide +kernel), kkY5_isLike, by decide +kernel, by decide⟩, fv_at 673 (by decide +kernel) (by decide +kernel), fv_at 674 (by decide +kernel) (by decide +kernel)⟩
theorem lk9_61 : fv_mV RX9 61 Y5_crosses 2 := ⟨⟨fv_at 676 (by decide +kernel) (by decide +kernel), fv_at 45 (by decide +kernel) (by decide +kernel), kkY5_crosses, by decide +kernel, by decide⟩, fv_at 677 (by decide +kernel) (by decide +kernel), fv_at 678 (by decide +kernel) (by decide +kernel)⟩
theorem lk9_65 : fv_mS RX9 65 Y9_isTold 2 := ⟨⟨fv_at 691 (by decide +kernel) (by decide +kernel), fv_at 44 (by decide +kernel) (by decide +kernel), kkY9_isTold, by decide +kernel, by decide⟩, fv_at 692 (by decide +kernel) (by decide +kernel)⟩
theorem lk9_69 : fv_mV RX9 69 Y9_linesFrom 3 := ⟨⟨fv_at 698 (by decide +kernel) (by decide +kernel), fv_at 44 (by decide +kernel) (by decide +kernel), kkY9_linesFrom, by decide +kernel, by decide⟩, fv_at 700 (by decide +kernel) (by decide +kernel), fv_at 6 (by decide +kernel) (by decide +kernel)⟩
theorem lk9_73 : fv_mV RX9 73 Y9_pointFrom 3 := ⟨⟨fv_at 702 (by decide +kernel) (by decide +kernel), fv_at 44 (by decide +kernel) (by decide +kernel), kkY9_pointFrom, by decide +kernel, by decide⟩, fv_at 704 (by decide +kernel) (by decide +kernel), fv_at 7 (by decide +kernel) (by decide +kernel)⟩
theorem lk9_76 : fv_mV RX9 76 Y9_crossesAll 1 := ⟨⟨fv_at 706 (by decide +kernel) (by decide +kernel), fv_at 44 (by decide +kernel) (by decide +kernel), kkY9_crossesAll, by decide +kernel, by decide⟩, fv_at 708 (by decide +kernel) (by decide +kernel), fv_at 8 (by decide +kernel) (by decide +kernel)⟩
theorem lk9_79 : fv_mV RX9 79 Y9_isOnOne 2 := ⟨⟨fv_at 718 (by decide +kernel) (by decide +kernel), fv_at 44 (by decide +kernel) (by decide +kernel), kkY9_isOnOne, by decide +kernel, by decide⟩, fv_at 720 (by decide +kernel) (by decide +kernel), fv_at 9 (by decide +kernel) (by decide +kernel)⟩
theorem lk9_82 : fv_mV RX9 82 Y5_holds 2 := ⟨⟨fv_at 722 (by decide +kernel) (by decide +kernel), fv_at 45 (by decide +kernel) (by decide +kernel), kkY5_holds, by decide +kernel, by decide⟩, fv_at 723 (by decide +kernel) (by decide +kernel), fv_at 724 (by decide +kernel) (by decide +kernel)⟩
theorem fd0_12 : fv_fd RX0 12 0 0 true (.object "MeetHouse$Pot") := ⟨_, _, _, _, fv_c0, by decide, fv_at 114 (by decide +kernel) (by decide +kernel), rfl, rfl, fun _ => rfl⟩
theorem fd0_21 : fv_fd RX0 21 0 1 true (.object "MeetHouse$Polynomial") := ⟨_, _, _, _, fv_c0, by decide, fv_at 115 (by decide +kernel) (by decide +kernel), rfl, rfl, fun _ => rfl⟩
theorem fd0_25 : fv_fd RX0 25 0 2 true (.object "MeetHouse$Polynomial") := ⟨_, _, _, _, fv_c0, by decide, fv_at 116 (by decide +kernel) (by decide +kernel), rfl, rfl, fun _ => rfl⟩
theorem fd10_11 : fv_fd RX10 11 7 0 true (.array (.object "MeetHouse$Polynomial")) := ⟨_, _, _, _, fv_c7, by decide, fv_at 210 (by decide +kernel) (by decide +kernel), rfl, rfl, fun _ => rfl⟩
theorem fd10_18 : fv_fd RX10 18 7 1 true (.object "MeetHouse$Algebra") := ⟨_, _, _, _, fv_c7, by decide, fv_at 211 (by decide +kernel) (by decide +kernel), rfl, rfl, fun _ => rfl⟩
theorem fd10_25 : fv_fd RX10 25 7 2 true (.object "MeetHouse$Conditions") := ⟨_, _, _, _, fv_c7, by decide, fv_at 212 (by decide +kernel) (by decide +kernel), rfl, rfl, fun _ => rfl⟩
theorem fd10_32 : fv_fd RX10 32 7 3 true (.object "MeetHouse$Space") := ⟨_, _, _, _, fv_c7, by decide, fv_at 213 (by decide +kernel) (by decide +kernel), rfl, rfl, fun _ => rfl⟩
theorem fd11_7 : fv_fd RX11 7 8 0 true (.array (.int)) := ⟨_, _, _, _, fv_c8, by decide, fv_at 782 (by decide +kernel) (by decide +kernel), rfl, rfl, fun _ => rfl⟩
theorem fd11_13 : fv_fd RX11 13 8 2 true (.array (.int)) := ⟨_, _, _, _, fv_c8, by decide, fv_at 784 (by decide +kernel) (by decide +kernel), rfl, rfl, fun _ => rfl⟩
theorem fd11_16 : fv_fd RX11 16 8 3 true (.array (.boolean)) := ⟨_, _, _, _, fv_c8, by decide, fv_at 785 (by decide +kernel) (by decide +kernel), rfl, rfl, fun _ => rfl⟩
theorem fd11_20 : fv_fd RX11 20 8 4 true (.array (.int)) := ⟨_, _, _, _, fv_c8, by decide, fv_at 786 (by decide +kernel) (by decide +kernel), rfl, rfl, fun _ => rfl⟩
theorem fd11_23 : fv_fd RX11 23 8 5 true (.array (.int)) := ⟨_, _, _, _, fv_c8, by decide, fv_at 787 (by decide +kernel) (by decide +kernel), rfl, rfl, fun _ => rfl⟩
theorem fd11_26 : fv_fd RX11 26 8 6 true (.array (.long)) := ⟨_, _, _, _, fv_c8, by decide, fv_at 788 (by decide +kernel) (by decide +kernel), rfl, rfl, fun _ => rfl⟩
theorem fd11_31 : fv_fd RX11 31 8 7 true (.array (.long)) := ⟨_, _, _, _, fv_c8, by decide, fv_at 789 (by decide +kernel) (by decide +kernel), rfl, rfl, fun _ => rfl⟩
theorem fd11_34 : fv_fd RX11 34 8 8 true (.array (.long)) := ⟨_, _, _, _, fv_c8, by decide, fv_at 790 (by decide +kernel) (by decide +kernel), rfl, rfl, fun _ => rfl⟩
theorem fd11_37 : fv_fd RX11 37 8 9 true (.array (.int)) := ⟨_, _, _, _, fv_c8, by decide, fv_at 791 (by decide +kernel) (by decide +kernel), rfl, rfl, fun _ => rfl⟩
theorem fd11_40 : fv_fd RX11 40 8 10 true (.array (.long)) := ⟨_, _, _, _, fv_c8, by decide, fv_at 792 (by decide +kernel) (by decide +kernel), rfl, rfl, fun _ => rfl⟩
theorem fd11_43 : fv_fd RX11 43 8 11 true (.array (.long)) := ⟨_, _, _, _, fv_c8, by decide, fv_at 793 (by decide +kernel) (by decide +kernel), rfl, rfl, fun _ => rfl⟩
theorem fd11_46 : fv_fd RX11 46 8 12 true (.array (.int)) := ⟨_, _, _, _, fv_c8, by decide, fv_at 794 (by decide +kernel) (by decide +kernel), rfl, rfl, fun _ => rfl⟩
theorem fd11_49 : fv_fd RX11 49 8 13 true (.array (.int)) := ⟨_, _, _, _, fv_c8, by decide, fv_at 795 (by decide +kernel) (by decide +kernel), rfl, rfl, fun _ => rfl⟩
theorem fd11_52 : fv_fd RX11 52 8 14 true (.array (.int)) := ⟨_, _, _, _, fv_c8, by decide, fv_at 796 (by decide +kernel) (by decide +kernel), rfl, rfl, fun _ => rfl⟩
theorem fd11_55 : fv_fd RX11 55 8 15 true (.array (.int)) := ⟨_, _, _, _, fv_c8, by decide, fv_at 797 (by decide +kernel) (by decide +kernel), rfl, rfl, fun _ => rfl⟩
theorem fd11_58 : fv_fd RX11 58 8 16 true (.array (.int)) := ⟨_, _, _, _, fv_c8, by decide, fv_at 798 (by decide +kernel) (by decide +kernel), rfl, rfl, fun _ => rfl⟩
theorem fd11_61 : fv_fd RX11 61 8 17 true (.array (.int)) := ⟨_, _, _, _, fv_c8, by decide, fv_at 799 (by decide +kernel) (by decide +kernel), rfl, rfl, fun _ => rfl⟩
theorem fd11_64 : fv_fd RX11 64 8 18 true (.array (.int)) := ⟨_, _, _, _, fv_c8, by decide, fv_at 800 (by decide +kernel) (by decide +kernel), rfl, rfl, fun _ => rfl⟩
theorem fd11_67 : fv_fd RX11 67 8 19 true (.array (.int)) := ⟨_, _, _, _, fv_c8, by decide, fv_at 801 (by decide +kernel) (by decide +kernel), rfl, rfl, fun _ => rfl⟩
theorem fd11_70 : fv_fd RX11 70 8 23 true (.array (.int)) := ⟨_, _, _, _, fv_c8, by decide, fv_at 805 (by decide +kernel) (by decide +kernel), rfl, rfl, fun _ => rfl⟩
theorem fd11_73 : fv_fd RX11 73 8 24 true (.array (.int)) := ⟨_, _, _, _, fv_c8, by decide, fv_at 806 (by decide +kernel) (by decide +kernel), rfl, rfl, fun _ => rfl⟩
theorem fd11_76 : fv_fd RX11 76 8 25 true (.array (.long)) := ⟨_, _, _, _, fv_c8, by decide, fv_at 807 (by decide +kernel) (by decide +kernel), rfl, rfl, fun _ => rfl⟩
theorem fd11_79 : fv_fd RX11 79 8 26 true (.array (.long)) := ⟨_, _, _, _, fv_c8, by decide, fv_at 808 (by decide +kernel) (by decide +kernel), rfl, rfl, fun _ => rfl⟩
theorem fd11_82 : fv_fd RX11 82 8 28 true (.array (.boolean)) := ⟨_, _, _, _, fv_c8, by decide, fv_at 810 (by decide +kernel) (by decide +kernel), rfl, rfl, fun _ => rfl⟩
theorem fd11_85 : fv_fd RX11 85 8 29 true (.array (.int)) := ⟨_, _, _, _, fv_c8, by decide, fv_at 811 (by decide +kernel) (by decide +kernel), rfl, rfl, fun _ => rfl⟩
theorem fd11_88 : fv_fd RX11 88 8 30 true (.array (.int)) := ⟨_, _, _, _, fv_c8, by decide, fv_at 812 (by decide +kernel) (by decide +kernel), rfl, rfl, fun _ => rfl⟩
theorem fd11_91 : fv_fd RX11 91 8 31 true (.array (.boolean)) := ⟨_, _, _, _, fv_c8, by decide, fv_at 813 (by decide +kernel) (by decide +kernel), rfl, rfl, fun _ => rfl⟩
theorem fd11_94 : fv_fd RX11 94 8 32 true (.array (.boolean)) := ⟨_, _, _, _, fv_c8, by decide, fv_at 814 (by decide +kernel) (by decide +kernel), rfl, rfl, fun _ => rfl⟩
theorem fd11_97 : fv_fd RX11 97 8 33 true (.array (.int)) := ⟨_, _, _, _, fv_c8, by decide, fv_at 815 (by decide +kernel) (by decide +kernel), rfl, rfl, fun _ => rfl⟩
theorem fd11_100 : fv_fd RX11 100 8 34 true (.array (.int)) := ⟨_, _, _, _, fv_c8, by decide, fv_at 816 (by decide +kernel) (by decide +kernel), rfl, rfl, fun _ => rfl⟩
theorem fd11_103 : fv_fd RX11 103 8 35 true (.array (.int)) := ⟨_, _, _, _, fv_c8, by decide, fv_at 817 (by decide +kernel) (by decide +kernel), rfl, rfl, fun _ => rfl⟩
theorem fd11_106 : fv_fd RX11 106 8 37 true (.array (.int)) := ⟨_, _, _, _, fv_c8, by decide, fv_at 819 (by decide +kernel) (by decide +kernel), rfl, rfl, fun _ => rfl⟩
theorem fd11_109 : fv_fd RX11 109 8 20 false (.int) := ⟨_, _, _, _, fv_c8, by decide, fv_at 802 (by decide +kernel) (by decide +kernel), rfl, rfl, fun h => nomatch h⟩
theorem fd11_113 : fv_fd RX11 113 8 21 false (.int) := ⟨_, _, _, _, fv_c8, by decide, fv_at 803 (by decide +kernel) (by decide +kernel), rfl, rfl, fun h => nomatch h⟩
theorem fd11_116 : fv_fd RX11 116 8 27 false (.int) := ⟨_, _, _, _, fv_c8, by decide, fv_at 809 (by decide +kernel) (by decide +kernel), rfl, rfl, fun h => nomatch h⟩
theorem fd11_130 : fv_fd RX11 130 8 1 false (.int) := ⟨_, _, _, _, fv_c8, by decide, fv_at 783 (by decide +kernel) (by decide +kernel), rfl, rfl, fun h => nomatch h⟩
theorem fd11_234 : fv_fd RX11 234 8 22 false (.int) := ⟨_, _, _, _, fv_c8, by decide, fv_at 804 (by decide +kernel) (by decide +kernel), rfl, rfl, fun h => nomatch h⟩
theorem fd11_266 : fv_fd RX11 266 8 36 false (.int) := ⟨_, _, _, _, fv_c8, by decide, fv_at 818 (by decide +kernel) (by decide +kernel), rfl, rfl, fun h => nomatch h⟩
theorem fd2_12 : fv_fd RX2 12 1 0 true (.object "MeetHouse$Filler") := ⟨_, _, _, _, fv_c1, by decide, fv_at 154 (by decide +kernel) (by decide +kernel), rfl, rfl, fun _ => rfl⟩
theorem fd2_18 : fv_fd RX2 18 1 1 true (.array (.int)) := ⟨_, _, _, _, fv_c1, by decide, fv_at 155 (by decide +kernel) (by decide +kernel), rfl, rfl, fun _ => rfl⟩
theorem fd2_22 : fv_fd RX2 22 1 2 true (.array (.int)) := ⟨_, _, _, _, fv_c1, by decide, fv_at 156 (by decide +kernel) (by decide +kernel), rfl, rfl, fun _ => rfl⟩
theorem fd2_25 : fv_fd RX2 25 1 3 true (.array (.long)) := ⟨_, _, _, _, fv_c1, by decide, fv_at 157 (by decide +kernel) (by decide +kernel), rfl, rfl, fun _ => rfl⟩
theorem fd2_29 : fv_fd RX2 29 1 4 true (.array (.long)) := ⟨_, _, _, _, fv_c1, by decide, fv_at 158 (by decide +kernel) (by decide +kernel), rfl, rfl, fun _ => rfl⟩
theorem fd2_32 : fv_fd RX2 32 1 5 false (.int) := ⟨_, _, _, _, fv_c1, by decide, fv_at 159 (by decide +kernel) (by decide +kernel), rfl, rfl, fun h => nomatch h⟩
theorem fd2_36 : fv_fd RX2 36 1 6 false (.int) := ⟨_, _, _, _, fv_c1, by decide, fv_at 160 (by decide +kernel) (by decide +kernel), rfl, rfl, fun h => nomatch h⟩
theorem fd2_39 : fv_fd RX2 39 1 7 false (.int) := ⟨_, _, _, _, fv_c1, by decide, fv_at 161 (by decide +kernel) (by decide +kernel), rfl, rfl, fun h => nomatch h⟩
theorem fd4_9 : fv_fd RX4 9 2 0 true (.array (.int)) := ⟨_, _, _, _, fv_c2, by decide, fv_at 138 (by decide +kernel) (by decide +kernel), rfl, rfl, fun _ => rfl⟩
theorem fd4_15 : fv_fd RX4 15 2 1 true (.array (.int)) := ⟨_, _, _, _, fv_c2, by decide, fv_at 139 (by decide +kernel) (by decide +kernel), rfl, rfl, fun _ => rfl⟩
theorem fd4_18 : fv_fd RX4 18 2 2 true (.array (.int)) := ⟨_, _, _, _, fv_c2, by decide, fv_at 140 (by decide +kernel) (by decide +kernel), rfl, rfl, fun _ => rfl⟩
theorem fd4_21 : fv_fd RX4 21 2 3 true (.array (.int)) := ⟨_, _, _, _, fv_c2, by decide, fv_at 141 (by decide +kernel) (by decide +kernel), rfl, rfl, fun _ => rfl⟩
theorem fd4_26 : fv_fd RX4 26 2 4 true (.array (.array (.int))) := ⟨_, _, _, _, fv_c2, by decide, fv_at 142 (by decide +kernel) (by decide +kernel), rfl, rfl, fun _ => rfl⟩
theorem fd5_9 : fv_fd RX5 9 3 0 true (.array (.int)) := ⟨_, _, _, _, fv_c3, by decide, fv_at 192 (by decide +kernel) (by decide +kernel), rfl, rfl, fun _ => rfl⟩
theorem fd5_13 : fv_fd RX5 13 3 1 false (.boolean) := ⟨_, _, _, _, fv_c3, by decide, fv_at 193 (by decide +kernel) (by decide +kernel), rfl, rfl, fun h => nomatch h⟩
theorem fd7_9 : fv_fd RX7 9 4 0 true (.array (.int)) := ⟨_, _, _, _, fv_c4, by decide, fv_at 80 (by decide +kernel) (by decide +kernel), rfl, rfl, fun _ => rfl⟩
theorem fd7_15 : fv_fd RX7 15 4 1 true (.array (.int)) := ⟨_, _, _, _, fv_c4, by decide, fv_at 81 (by decide +kernel) (by decide +kernel), rfl, rfl, fun _ => rfl⟩
theorem fd7_18 : fv_fd RX7 18 4 2 false (.int) := ⟨_, _, _, _, fv_c4, by decide, fv_at 82 (by decide +kernel) (by decide +kernel), rfl, rfl, fun h => nomatch h⟩
theorem fd7_22 : fv_fd RX7 22 4 3 false (.boolean) := ⟨_, _, _, _, fv_c4, by decide, fv_at 83 (by decide +kernel) (by decide +kernel), rfl, rfl, fun h => nomatch h⟩
theorem fd8_10 : fv_fd RX8 10 5 0 true (.array (.long)) := ⟨_, _, _, _, fv_c5, by decide, fv_at 96 (by decide +kernel) (by decide +kernel), rfl, rfl, fun _ => rfl⟩
theorem fd8_16 : fv_fd RX8 16 5 1 true (.array (.boolean)) := ⟨_, _, _, _, fv_c5, by decide, fv_at 97 (by decide +kernel) (by decide +kernel), rfl, rfl, fun _ => rfl⟩
theorem fd8_23 : fv_fd RX8 23 5 2 true (.object "MeetHouse$Polynomial") := ⟨_, _, _, _, fv_c5, by decide, fv_at 98 (by decide +kernel) (by decide +kernel), rfl, rfl, fun _ => rfl⟩
theorem fd8_27 : fv_fd RX8 27 5 3 false (.int) := ⟨_, _, _, _, fv_c5, by decide, fv_at 99 (by decide +kernel) (by decide +kernel), rfl, rfl, fun h => nomatch h⟩
theorem fd8_31 : fv_fd RX8 31 5 4 false (.boolean) := ⟨_, _, _, _, fv_c5, by decide, fv_at 100 (by decide +kernel) (by decide +kernel), rfl, rfl, fun h => nomatch h⟩
theorem fd9_13 : fv_fd RX9 13 6 0 true (.array (.object "MeetHouse$Line")) := ⟨_, _, _, _, fv_c6, by decide, fv_at 199 (by decide +kernel) (by decide +kernel), rfl, rfl, fun _ => rfl⟩
theorem fd9_18 : fv_fd RX9 18 6 1 true (.object "MeetHouse$Line") := ⟨_, _, _, _, fv_c6, by decide, fv_at 200 (by decide +kernel) (by decide +kernel), rfl, rfl, fun _ => rfl⟩
theorem fd9_22 : fv_fd RX9 22 6 2 false (.int) := ⟨_, _, _, _, fv_c6, by decide, fv_at 201 (by decide +kernel) (by decide +kernel), rfl, rfl, fun h => nomatch h⟩
