/-! ===== methods, and what the tables say at each reference ===== -/
abbrev mX0_init : aM := (yX0_init, cX0_init, 7, none)
abbrev mX0_kind : aM := (yX0_kind, cX0_kind, 1, some .int)
abbrev mX0_asked : aM := (yX0_asked, cX0_asked, 5, some .long)
abbrev mX1_init : aM := (yX1_init, cX1_init, 5, none)
abbrev mX1_kind : aM := (yX1_kind, cX1_kind, 1, some .int)
abbrev mX1_asked : aM := (yX1_asked, cX1_asked, 3, some .long)
abbrev mX1_amount : aM := (yX1_amount, cX1_amount, 4, some .long)
abbrev mX1_gainIn : aM := (yX1_gainIn, cX1_gainIn, 2, some .long)
abbrev mX1_sharedByGainAndStep : aM := (yX1_sharedByGainAndStep, cX1_sharedByGainAndStep, 2, some .int)
abbrev mX1_firstReaching : aM := (yX1_firstReaching, cX1_firstReaching, 7, some .int)
abbrev mX1_isClosed : aM := (yX1_isClosed, cX1_isClosed, 3, some .boolean)
abbrev mX2_init : aM := (yX2_init, cX2_init, 5, none)
abbrev mX2_kind : aM := (yX2_kind, cX2_kind, 1, some .int)
abbrev mX2_asked : aM := (yX2_asked, cX2_asked, 3, some .long)
abbrev mX3_init : aM := (yX3_init, cX3_init, 1, none)
abbrev mX3_fromRow : aM := (yX3_fromRow, cX3_fromRow, 7, some (.object "FlowCurves$Curve"))
abbrev mX3_straight : aM := (yX3_straight, cX3_straight, 2, some (.object "FlowCurves$Curve"))
abbrev mX3_multiplied : aM := (yX3_multiplied, cX3_multiplied, 5, some (.object "FlowCurves$Curve"))
abbrev mX3_delayed : aM := (yX3_delayed, cX3_delayed, 5, some (.object "FlowCurves$Curve"))
abbrev mX3_fromBoth : aM := (yX3_fromBoth, cX3_fromBoth, 7, some (.object "FlowCurves$Curve"))
abbrev mX3_gainOf : aM := (yX3_gainOf, cX3_gainOf, 5, some .long)
abbrev mX3_spread : aM := (yX3_spread, cX3_spread, 3, none)
abbrev mX3_laySideBySide : aM := (yX3_laySideBySide, cX3_laySideBySide, 4, none)
abbrev mX3_layRest : aM := (yX3_layRest, cX3_layRest, 5, none)
abbrev mX3_layBoth : aM := (yX3_layBoth, cX3_layBoth, 5, none)
abbrev mX3_leastTogether : aM := (yX3_leastTogether, cX3_leastTogether, 8, some .long)
abbrev mX3_layOff : aM := (yX3_layOff, cX3_layOff, 7, none)
abbrev mX3_comesRound : aM := (yX3_comesRound, cX3_comesRound, 6, some .boolean)
abbrev mX3_settled : aM := (yX3_settled, cX3_settled, 8, some (.object "FlowCurves$Curve"))
abbrev mX3_leastStep : aM := (yX3_leastStep, cX3_leastStep, 4, some .int)
abbrev mX3_alsoComesRoundBy : aM := (yX3_alsoComesRoundBy, cX3_alsoComesRoundBy, 7, some .boolean)
abbrev mX3_ofItsKind : aM := (yX3_ofItsKind, cX3_ofItsKind, 6, some (.object "FlowCurves$Curve"))
abbrev mX4_commonStep : aM := (yX4_commonStep, cX4_commonStep, 3, some .int)
abbrev mX4_outruns : aM := (yX4_outruns, cX4_outruns, 3, some .boolean)
abbrev mX4_settledSpan : aM := (yX4_settledSpan, cX4_settledSpan, 3, some .int)
abbrev mX4_firstUnlike : aM := (yX4_firstUnlike, cX4_firstUnlike, 5, some .int)
abbrev mX4_greatestLead : aM := (yX4_greatestLead, cX4_greatestLead, 7, some .long)
abbrev mX4_longestWait : aM := (yX4_longestWait, cX4_longestWait, 9, some .int)
abbrev mX5_init : aM := (yX5_init, cX5_init, 5, none)
abbrev mX5_kind : aM := (yX5_kind, cX5_kind, 1, some .int)
abbrev mX5_asked : aM := (yX5_asked, cX5_asked, 3, some .long)
abbrev mX6_init : aM := (yX6_init, cX6_init, 1, none)
abbrev mX6_isFull : aM := (yX6_isFull, cX6_isFull, 1, some .boolean)
abbrev mX6_add : aM := (yX6_add, cX6_add, 3, none)
abbrev mX6_hardestStep : aM := (yX6_hardestStep, cX6_hardestStep, 2, some .long)
abbrev mX6_canFollow : aM := (yX6_canFollow, cX6_canFollow, 3, some .boolean)
abbrev mX6_follow : aM := (yX6_follow, cX6_follow, 4, none)
abbrev mX6_arrived : aM := (yX6_arrived, cX6_arrived, 3, some .long)
abbrev mX6_passed : aM := (yX6_passed, cX6_passed, 6, some .long)
abbrev mX6_held : aM := (yX6_held, cX6_held, 3, some .long)
abbrev mX6_lateness : aM := (yX6_lateness, cX6_lateness, 8, some .int)
abbrev mX6_greatestHeld : aM := (yX6_greatestHeld, cX6_greatestHeld, 5, some .long)
abbrev mX6_greatestLateness : aM := (yX6_greatestLateness, cX6_greatestLateness, 5, some .int)
abbrev mX6_staysWithin : aM := (yX6_staysWithin, cX6_staysWithin, 4, some .boolean)
abbrev mX7_init : aM := (yX7_init, cX7_init, 5, none)
abbrev mX7_kind : aM := (yX7_kind, cX7_kind, 1, some .int)
abbrev mX7_asked : aM := (yX7_asked, cX7_asked, 3, some .long)
abbrev mX8_init : aM := (yX8_init, cX8_init, 1, none)
abbrev mX8_mark : aM := (yX8_mark, cX8_mark, 2, none)
abbrev mX8_marks : aM := (yX8_marks, cX8_marks, 2, some .int)
abbrev mX9_init : aM := (yX9_init, cX9_init, 1, none)
abbrev mX9_put : aM := (yX9_put, cX9_put, 3, some .int)
abbrev mX9_draw : aM := (yX9_draw, cX9_draw, 9, some .int)
abbrev mX9_drop : aM := (yX9_drop, cX9_drop, 2, some .int)
abbrev mX9_curve : aM := (yX9_curve, cX9_curve, 4, some .int)
abbrev mX9_ray : aM := (yX9_ray, cX9_ray, 2, some .int)
abbrev mX9_of : aM := (yX9_of, cX9_of, 7, some .int)
abbrev mX9_times : aM := (yX9_times, cX9_times, 4, some .int)
abbrev mX9_shift : aM := (yX9_shift, cX9_shift, 4, some .int)
abbrev mX9_undo : aM := (yX9_undo, cX9_undo, 1, some .int)
abbrev mX9_at : aM := (yX9_at, cX9_at, 4, some .long)
abbrev mX9_about : aM := (yX9_about, cX9_about, 4, some .int)
abbrev mX9_rate : aM := (yX9_rate, cX9_rate, 6, some .int)
abbrev mX9_unlike : aM := (yX9_unlike, cX9_unlike, 6, some .int)
abbrev mX9_below : aM := (yX9_below, cX9_below, 7, some .int)
abbrev mX9_first : aM := (yX9_first, cX9_first, 6, some .int)
abbrev mX9_heap : aM := (yX9_heap, cX9_heap, 6, some .long)
abbrev mX9_wait : aM := (yX9_wait, cX9_wait, 7, some .int)
abbrev mX9_come : aM := (yX9_come, cX9_come, 2, some .int)
abbrev mX9_hardest : aM := (yX9_hardest, cX9_hardest, 4, some .int)
abbrev mX9_stop : aM := (yX9_stop, cX9_stop, 2, some .int)
abbrev mX9_serve : aM := (yX9_serve, cX9_serve, 2, some .int)
abbrev mX9_moved : aM := (yX9_moved, cX9_moved, 4, some .long)
abbrev mX9_late : aM := (yX9_late, cX9_late, 4, some .int)
abbrev mX9_mostHeld : aM := (yX9_mostHeld, cX9_mostHeld, 2, some .long)
abbrev mX9_mostLate : aM := (yX9_mostLate, cX9_mostLate, 3, some .int)
abbrev mX9_keeps : aM := (yX9_keeps, cX9_keeps, 3, some .int)
abbrev mX9_count : aM := (yX9_count, cX9_count, 2, some .int)
abbrev mX9_trace : aM := (yX9_trace, cX9_trace, 2, some .int)
abbrev mX9_status : aM := (yX9_status, cX9_status, 1, some .int)
abbrev mX9_clear : aM := (yX9_clear, cX9_clear, 2, some .int)
abbrev mX9_refused : aM := (yX9_refused, cX9_refused, 2, some .int)
abbrev mX9_refusedAmount : aM := (yX9_refusedAmount, cX9_refusedAmount, 2, some .long)
abbrev mX9_granted : aM := (yX9_granted, cX9_granted, 2, some .int)
abbrev mX9_grantedAmount : aM := (yX9_grantedAmount, cX9_grantedAmount, 3, some .long)
abbrev mX9_curveNumbered : aM := (yX9_curveNumbered, cX9_curveNumbered, 2, some (.object "FlowCurves$Curve"))
abbrev mX9_kept : aM := (yX9_kept, cX9_kept, 2, some .int)
abbrev mX9_rowComesRound : aM := (yX9_rowComesRound, cX9_rowComesRound, 5, some .boolean)
abbrev mX10_init : aM := (yX10_init, cX10_init, 1, none)
abbrev mX10_in : aM := (yX10_in, cX10_in, 6, some .boolean)
abbrev mX10_refuse : aM := (yX10_refuse, cX10_refuse, 2, some .int)
abbrev mX10_fine : aM := (yX10_fine, cX10_fine, 2, some .int)
abbrev mX10_fineLong : aM := (yX10_fineLong, cX10_fineLong, 3, some .long)
abbrev mX10_none : aM := (yX10_none, cX10_none, 2, some .long)
abbrev mX10_isCurve : aM := (yX10_isCurve, cX10_isCurve, 2, some .boolean)
abbrev mX10_value : aM := (yX10_value, cX10_value, 6, some .long)
abbrev mX10_comesRound : aM := (yX10_comesRound, cX10_comesRound, 7, some .boolean)
abbrev mX10_kindOf : aM := (yX10_kindOf, cX10_kindOf, 8, some .int)
abbrev mX10_settle : aM := (yX10_settle, cX10_settle, 11, some .int)
abbrev mX10_put : aM := (yX10_put, cX10_put, 3, some .int)
abbrev mX10_draw : aM := (yX10_draw, cX10_draw, 6, some .int)
abbrev mX10_drop : aM := (yX10_drop, cX10_drop, 2, some .int)
abbrev mX10_curve : aM := (yX10_curve, cX10_curve, 5, some .int)
abbrev mX10_ray : aM := (yX10_ray, cX10_ray, 3, some .int)
abbrev mX10_divisor : aM := (yX10_divisor, cX10_divisor, 5, some .int)
abbrev mX10_together : aM := (yX10_together, cX10_together, 3, some .int)
abbrev mX10_gainIn : aM := (yX10_gainIn, cX10_gainIn, 3, some .long)
abbrev mX10_least : aM := (yX10_least, cX10_least, 9, some .long)
abbrev mX10_most : aM := (yX10_most, cX10_most, 11, some .long)
abbrev mX10_make : aM := (yX10_make, cX10_make, 12, none)
abbrev mX10_of : aM := (yX10_of, cX10_of, 11, some .int)
abbrev mX10_times : aM := (yX10_times, cX10_times, 4, some .int)
abbrev mX10_shift : aM := (yX10_shift, cX10_shift, 4, some .int)
abbrev mX10_undo : aM := (yX10_undo, cX10_undo, 1, some .int)
abbrev mX10_at : aM := (yX10_at, cX10_at, 3, some .long)
abbrev mX10_isClosed : aM := (yX10_isClosed, cX10_isClosed, 6, some .boolean)
abbrev mX10_about : aM := (yX10_about, cX10_about, 3, some .int)
abbrev mX10_rate : aM := (yX10_rate, cX10_rate, 4, some .int)
abbrev mX10_latest : aM := (yX10_latest, cX10_latest, 3, some .int)
abbrev mX10_unlike : aM := (yX10_unlike, cX10_unlike, 6, some .int)
abbrev mX10_below : aM := (yX10_below, cX10_below, 6, some .int)
abbrev mX10_spanOf : aM := (yX10_spanOf, cX10_spanOf, 12, some .long)
abbrev mX10_first : aM := (yX10_first, cX10_first, 4, some .int)
abbrev mX10_heap : aM := (yX10_heap, cX10_heap, 4, some .long)
abbrev mX10_wait : aM := (yX10_wait, cX10_wait, 9, some .int)
abbrev mX10_come : aM := (yX10_come, cX10_come, 2, some .int)
abbrev mX10_hardest : aM := (yX10_hardest, cX10_hardest, 4, some .int)
abbrev mX10_stop : aM := (yX10_stop, cX10_stop, 2, some .int)
abbrev mX10_serve : aM := (yX10_serve, cX10_serve, 2, some .int)
abbrev mX10_came : aM := (yX10_came, cX10_came, 5, some .long)
abbrev mX10_served : aM := (yX10_served, cX10_served, 9, some .long)
abbrev mX10_moved : aM := (yX10_moved, cX10_moved, 3, some .long)
abbrev mX10_lateAt : aM := (yX10_lateAt, cX10_lateAt, 5, some .int)
abbrev mX10_late : aM := (yX10_late, cX10_late, 3, some .int)
abbrev mX10_mostHeld : aM := (yX10_mostHeld, cX10_mostHeld, 6, some .long)
abbrev mX10_mostLate : aM := (yX10_mostLate, cX10_mostLate, 4, some .int)
abbrev mX10_keeps : aM := (yX10_keeps, cX10_keeps, 5, some .int)
abbrev mX10_count : aM := (yX10_count, cX10_count, 2, some .int)
abbrev mX10_trace : aM := (yX10_trace, cX10_trace, 2, some .int)
abbrev mX10_status : aM := (yX10_status, cX10_status, 1, some .int)
abbrev mX10_clear : aM := (yX10_clear, cX10_clear, 1, some .int)
abbrev mJ9_max_7cf53 : aM := (yJ9_max_7cf53, cJ9_max_7cf53, 2, some .int)
abbrev mJ9_max_f86c9 : aM := (yJ9_max_f86c9, cJ9_max_f86c9, 4, some .long)
abbrev mJ9_min_7cf53 : aM := (yJ9_min_7cf53, cJ9_min_7cf53, 2, some .int)
abbrev mJ9_min_f86c9 : aM := (yJ9_min_f86c9, cJ9_min_f86c9, 4, some .long)
abbrev mJ7_copyOf_c38d5 : aM := (yJ7_copyOf_c38d5, cJ7_copyOf_c38d5, 3, some (.array .long))
theorem cal_X0_init : aCal mX0_init := ⟨lw_okI 209 (by decide +kernel) (by decide +kernel), lw_okI 47 (by decide +kernel) (by decide +kernel), ⟨by decide +kernel, by decide +kernel⟩, by decide⟩
theorem cal_X0_kind : aCal mX0_kind := ⟨lw_okI 447 (by decide +kernel) (by decide +kernel), lw_okI 47 (by decide +kernel) (by decide +kernel), ⟨by decide +kernel, by decide +kernel⟩, by decide⟩
theorem cal_X0_asked : aCal mX0_asked := ⟨lw_okI 412 (by decide +kernel) (by decide +kernel), lw_okI 47 (by decide +kernel) (by decide +kernel), ⟨by decide +kernel, by decide +kernel⟩, by decide⟩
theorem cal_X1_init : aCal mX1_init := ⟨lw_okI 215 (by decide +kernel) (by decide +kernel), lw_okI 45 (by decide +kernel) (by decide +kernel), ⟨by decide +kernel, by decide +kernel⟩, by decide⟩
theorem cal_X1_kind : aCal mX1_kind := ⟨lw_okI 457 (by decide +kernel) (by decide +kernel), lw_okI 45 (by decide +kernel) (by decide +kernel), ⟨by decide +kernel, by decide +kernel⟩, by decide⟩
theorem cal_X1_asked : aCal mX1_asked := ⟨lw_okI 430 (by decide +kernel) (by decide +kernel), lw_okI 45 (by decide +kernel) (by decide +kernel), ⟨by decide +kernel, by decide +kernel⟩, by decide⟩
theorem cal_X1_amount : aCal mX1_amount := ⟨lw_okI 341 (by decide +kernel) (by decide +kernel), lw_okI 45 (by decide +kernel) (by decide +kernel), ⟨by decide +kernel, by decide +kernel⟩, by decide⟩
theorem cal_X1_gainIn : aCal mX1_gainIn := ⟨lw_okI 322 (by decide +kernel) (by decide +kernel), lw_okI 45 (by decide +kernel) (by decide +kernel), ⟨by decide +kernel, by decide +kernel⟩, by decide⟩
theorem cal_X1_sharedByGainAndStep : aCal mX1_sharedByGainAndStep := ⟨lw_okI 479 (by decide +kernel) (by decide +kernel), lw_okI 45 (by decide +kernel) (by decide +kernel), ⟨by decide +kernel, by decide +kernel⟩, by decide⟩
theorem cal_X1_firstReaching : aCal mX1_firstReaching := ⟨lw_okI 512 (by decide +kernel) (by decide +kernel), lw_okI 45 (by decide +kernel) (by decide +kernel), ⟨by decide +kernel, by decide +kernel⟩, by decide⟩
theorem cal_X1_isClosed : aCal mX1_isClosed := ⟨lw_okI 466 (by decide +kernel) (by decide +kernel), lw_okI 45 (by decide +kernel) (by decide +kernel), ⟨by decide +kernel, by decide +kernel⟩, by decide⟩
theorem cal_X2_init : aCal mX2_init := ⟨lw_okI 262 (by decide +kernel) (by decide +kernel), lw_okI 48 (by decide +kernel) (by decide +kernel), ⟨by decide +kernel, by decide +kernel⟩, by decide⟩
theorem cal_X2_kind : aCal mX2_kind := ⟨lw_okI 450 (by decide +kernel) (by decide +kernel), lw_okI 48 (by decide +kernel) (by decide +kernel), ⟨by decide +kernel, by decide +kernel⟩, by decide⟩
theorem cal_X2_asked : aCal mX2_asked := ⟨lw_okI 423 (by decide +kernel) (by decide +kernel), lw_okI 48 (by decide +kernel) (by decide +kernel), ⟨by decide +kernel, by decide +kernel⟩, by decide⟩
theorem cal_X3_init : aCal mX3_init := ⟨lw_okI 91 (by decide +kernel) (by decide +kernel), lw_okI 40 (by decide +kernel) (by decide +kernel), ⟨by decide +kernel, by decide +kernel⟩, by decide⟩
theorem cal_X3_fromRow : aCal mX3_fromRow := ⟨lw_okI 171 (by decide +kernel) (by decide +kernel), lw_okI 40 (by decide +kernel) (by decide +kernel), ⟨by decide +kernel, by decide +kernel⟩, by decide⟩
theorem cal_X3_straight : aCal mX3_straight := ⟨lw_okI 299 (by decide +kernel) (by decide +kernel), lw_okI 40 (by decide +kernel) (by decide +kernel), ⟨by decide +kernel, by decide +kernel⟩, by decide⟩
theorem cal_X3_multiplied : aCal mX3_multiplied := ⟨lw_okI 384 (by decide +kernel) (by decide +kernel), lw_okI 40 (by decide +kernel) (by decide +kernel), ⟨by decide +kernel, by decide +kernel⟩, by decide⟩
theorem cal_X3_delayed : aCal mX3_delayed := ⟨lw_okI 392 (by decide +kernel) (by decide +kernel), lw_okI 40 (by decide +kernel) (by decide +kernel), ⟨by decide +kernel, by decide +kernel⟩, by decide⟩
theorem cal_X3_fromBoth : aCal mX3_fromBoth := ⟨lw_okI 326 (by decide +kernel) (by decide +kernel), lw_okI 40 (by decide +kernel) (by decide +kernel), ⟨by decide +kernel, by decide +kernel⟩, by decide⟩
theorem cal_X3_gainOf : aCal mX3_gainOf := ⟨lw_okI 372 (by decide +kernel) (by decide +kernel), lw_okI 40 (by decide +kernel) (by decide +kernel), ⟨by decide +kernel, by decide +kernel⟩, by decide⟩
theorem cal_X3_spread : aCal mX3_spread := ⟨lw_okI 332 (by decide +kernel) (by decide +kernel), lw_okI 40 (by decide +kernel) (by decide +kernel), ⟨by decide +kernel, by decide +kernel⟩, by decide⟩
theorem cal_X3_laySideBySide : aCal mX3_laySideBySide := ⟨lw_okI 345 (by decide +kernel) (by decide +kernel), lw_okI 40 (by decide +kernel) (by decide +kernel), ⟨by decide +kernel, by decide +kernel⟩, by decide⟩
theorem cal_X3_layRest : aCal mX3_layRest := ⟨lw_okI 355 (by decide +kernel) (by decide +kernel), lw_okI 40 (by decide +kernel) (by decide +kernel), ⟨by decide +kernel, by decide +kernel⟩, by decide⟩
theorem cal_X3_layBoth : aCal mX3_layBoth := ⟨lw_okI 359 (by decide +kernel) (by decide +kernel), lw_okI 40 (by decide +kernel) (by decide +kernel), ⟨by decide +kernel, by decide +kernel⟩, by decide⟩
theorem cal_X3_leastTogether : aCal mX3_leastTogether := ⟨lw_okI 363 (by decide +kernel) (by decide +kernel), lw_okI 40 (by decide +kernel) (by decide +kernel), ⟨by decide +kernel, by decide +kernel⟩, by decide⟩
theorem cal_X3_layOff : aCal mX3_layOff := ⟨lw_okI 368 (by decide +kernel) (by decide +kernel), lw_okI 40 (by decide +kernel) (by decide +kernel), ⟨by decide +kernel, by decide +kernel⟩, by decide⟩
theorem cal_X3_comesRound : aCal mX3_comesRound := ⟨lw_okI 376 (by decide +kernel) (by decide +kernel), lw_okI 40 (by decide +kernel) (by decide +kernel), ⟨by decide +kernel, by decide +kernel⟩, by decide⟩
theorem cal_X3_settled : aCal mX3_settled := ⟨lw_okI 175 (by decide +kernel) (by decide +kernel), lw_okI 40 (by decide +kernel) (by decide +kernel), ⟨by decide +kernel, by decide +kernel⟩, by decide⟩
theorem cal_X3_leastStep : aCal mX3_leastStep := ⟨lw_okI 179 (by decide +kernel) (by decide +kernel), lw_okI 40 (by decide +kernel) (by decide +kernel), ⟨by decide +kernel, by decide +kernel⟩, by decide⟩
theorem cal_X3_alsoComesRoundBy : aCal mX3_alsoComesRoundBy := ⟨lw_okI 183 (by decide +kernel) (by decide +kernel), lw_okI 40 (by decide +kernel) (by decide +kernel), ⟨by decide +kernel, by decide +kernel⟩, by decide⟩
theorem cal_X3_ofItsKind : aCal mX3_ofItsKind := ⟨lw_okI 204 (by decide +kernel) (by decide +kernel), lw_okI 40 (by decide +kernel) (by decide +kernel), ⟨by decide +kernel, by decide +kernel⟩, by decide⟩
theorem cal_X4_commonStep : aCal mX4_commonStep := ⟨lw_okI 310 (by decide +kernel) (by decide +kernel), lw_okI 50 (by decide +kernel) (by decide +kernel), ⟨by decide +kernel, by decide +kernel⟩, by decide⟩
theorem cal_X4_outruns : aCal mX4_outruns := ⟨lw_okI 313 (by decide +kernel) (by decide +kernel), lw_okI 50 (by decide +kernel) (by decide +kernel), ⟨by decide +kernel, by decide +kernel⟩, by decide⟩
theorem cal_X4_settledSpan : aCal mX4_settledSpan := ⟨lw_okI 489 (by decide +kernel) (by decide +kernel), lw_okI 50 (by decide +kernel) (by decide +kernel), ⟨by decide +kernel, by decide +kernel⟩, by decide⟩
theorem cal_X4_firstUnlike : aCal mX4_firstUnlike := ⟨lw_okI 486 (by decide +kernel) (by decide +kernel), lw_okI 50 (by decide +kernel) (by decide +kernel), ⟨by decide +kernel, by decide +kernel⟩, by decide⟩
theorem cal_X4_greatestLead : aCal mX4_greatestLead := ⟨lw_okI 498 (by decide +kernel) (by decide +kernel), lw_okI 50 (by decide +kernel) (by decide +kernel), ⟨by decide +kernel, by decide +kernel⟩, by decide⟩
theorem cal_X4_longestWait : aCal mX4_longestWait := ⟨lw_okI 523 (by decide +kernel) (by decide +kernel), lw_okI 50 (by decide +kernel) (by decide +kernel), ⟨by decide +kernel, by decide +kernel⟩, by decide⟩
theorem cal_X5_init : aCal mX5_init := ⟨lw_okI 212 (by decide +kernel) (by decide +kernel), lw_okI 46 (by decide +kernel) (by decide +kernel), ⟨by decide +kernel, by decide +kernel⟩, by decide⟩
theorem cal_X5_kind : aCal mX5_kind := ⟨lw_okI 453 (by decide +kernel) (by decide +kernel), lw_okI 46 (by decide +kernel) (by decide +kernel), ⟨by decide +kernel, by decide +kernel⟩, by decide⟩
theorem cal_X5_asked : aCal mX5_asked := ⟨lw_okI 419 (by decide +kernel) (by decide +kernel), lw_okI 46 (by decide +kernel) (by decide +kernel), ⟨by decide +kernel, by decide +kernel⟩, by decide⟩
theorem cal_X6_init : aCal mX6_init := ⟨lw_okI 65 (by decide +kernel) (by decide +kernel), lw_okI 38 (by decide +kernel) (by decide +kernel), ⟨by decide +kernel, by decide +kernel⟩, by decide⟩
theorem cal_X6_isFull : aCal mX6_isFull := ⟨lw_okI 533 (by decide +kernel) (by decide +kernel), lw_okI 38 (by decide +kernel) (by decide +kernel), ⟨by decide +kernel, by decide +kernel⟩, by decide⟩
theorem cal_X6_add : aCal mX6_add := ⟨lw_okI 537 (by decide +kernel) (by decide +kernel), lw_okI 38 (by decide +kernel) (by decide +kernel), ⟨by decide +kernel, by decide +kernel⟩, by decide⟩
theorem cal_X6_hardestStep : aCal mX6_hardestStep := ⟨lw_okI 548 (by decide +kernel) (by decide +kernel), lw_okI 38 (by decide +kernel) (by decide +kernel), ⟨by decide +kernel, by decide +kernel⟩, by decide⟩
theorem cal_X6_canFollow : aCal mX6_canFollow := ⟨lw_okI 545 (by decide +kernel) (by decide +kernel), lw_okI 38 (by decide +kernel) (by decide +kernel), ⟨by decide +kernel, by decide +kernel⟩, by decide⟩
theorem cal_X6_follow : aCal mX6_follow := ⟨lw_okI 554 (by decide +kernel) (by decide +kernel), lw_okI 38 (by decide +kernel) (by decide +kernel), ⟨by decide +kernel, by decide +kernel⟩, by decide⟩
theorem cal_X6_arrived : aCal mX6_arrived := ⟨lw_okI 571 (by decide +kernel) (by decide +kernel), lw_okI 38 (by decide +kernel) (by decide +kernel), ⟨by decide +kernel, by decide +kernel⟩, by decide⟩
theorem cal_X6_passed : aCal mX6_passed := ⟨lw_okI 576 (by decide +kernel) (by decide +kernel), lw_okI 38 (by decide +kernel) (by decide +kernel), ⟨by decide +kernel, by decide +kernel⟩, by decide⟩
theorem cal_X6_held : aCal mX6_held := ⟨lw_okI 582 (by decide +kernel) (by decide +kernel), lw_okI 38 (by decide +kernel) (by decide +kernel), ⟨by decide +kernel, by decide +kernel⟩, by decide⟩
theorem cal_X6_lateness : aCal mX6_lateness := ⟨lw_okI 591 (by decide +kernel) (by decide +kernel), lw_okI 38 (by decide +kernel) (by decide +kernel), ⟨by decide +kernel, by decide +kernel⟩, by decide⟩
theorem cal_X6_greatestHeld : aCal mX6_greatestHeld := ⟨lw_okI 599 (by decide +kernel) (by decide +kernel), lw_okI 38 (by decide +kernel) (by decide +kernel), ⟨by decide +kernel, by decide +kernel⟩, by decide⟩
theorem cal_X6_greatestLateness : aCal mX6_greatestLateness := ⟨lw_okI 609 (by decide +kernel) (by decide +kernel), lw_okI 38 (by decide +kernel) (by decide +kernel), ⟨by decide +kernel, by decide +kernel⟩, by decide⟩
theorem cal_X6_staysWithin : aCal mX6_staysWithin := ⟨lw_okI 619 (by decide +kernel) (by decide +kernel), lw_okI 38 (by decide +kernel) (by decide +kernel), ⟨by decide +kernel, by decide +kernel⟩, by decide⟩
theorem cal_X7_init : aCal mX7_init := ⟨lw_okI 273 (by decide +kernel) (by decide +kernel), lw_okI 49 (by decide +kernel) (by decide +kernel), ⟨by decide +kernel, by decide +kernel⟩, by decide⟩
theorem cal_X7_kind : aCal mX7_kind := ⟨lw_okI 456 (by decide +kernel) (by decide +kernel), lw_okI 49 (by decide +kernel) (by decide +kernel), ⟨by decide +kernel, by decide +kernel⟩, by decide⟩
theorem cal_X7_asked : aCal mX7_asked := ⟨lw_okI 428 (by decide +kernel) (by decide +kernel), lw_okI 49 (by decide +kernel) (by decide +kernel), ⟨by decide +kernel, by decide +kernel⟩, by decide⟩
theorem cal_X8_init : aCal mX8_init := ⟨lw_okI 80 (by decide +kernel) (by decide +kernel), lw_okI 39 (by decide +kernel) (by decide +kernel), ⟨by decide +kernel, by decide +kernel⟩, by decide⟩
theorem cal_X8_mark : aCal mX8_mark := ⟨lw_okI 416 (by decide +kernel) (by decide +kernel), lw_okI 39 (by decide +kernel) (by decide +kernel), ⟨by decide +kernel, by decide +kernel⟩, by decide⟩
theorem cal_X8_marks : aCal mX8_marks := ⟨lw_okI 631 (by decide +kernel) (by decide +kernel), lw_okI 39 (by decide +kernel) (by decide +kernel), ⟨by decide +kernel, by decide +kernel⟩, by decide⟩
theorem cal_X9_init : aCal mX9_init := ⟨lw_okI 55 (by decide +kernel) (by decide +kernel), lw_okI 37 (by decide +kernel) (by decide +kernel), ⟨by decide +kernel, by decide +kernel⟩, by decide⟩
theorem cal_X9_put : aCal mX9_put := ⟨lw_okI 137 (by decide +kernel) (by decide +kernel), lw_okI 37 (by decide +kernel) (by decide +kernel), ⟨by decide +kernel, by decide +kernel⟩, by decide⟩
theorem cal_X9_draw : aCal mX9_draw := ⟨lw_okI 150 (by decide +kernel) (by decide +kernel), lw_okI 37 (by decide +kernel) (by decide +kernel), ⟨by decide +kernel, by decide +kernel⟩, by decide⟩
theorem cal_X9_drop : aCal mX9_drop := ⟨lw_okI 158 (by decide +kernel) (by decide +kernel), lw_okI 37 (by decide +kernel) (by decide +kernel), ⟨by decide +kernel, by decide +kernel⟩, by decide⟩
theorem cal_X9_curve : aCal mX9_curve := ⟨lw_okI 162 (by decide +kernel) (by decide +kernel), lw_okI 37 (by decide +kernel) (by decide +kernel), ⟨by decide +kernel, by decide +kernel⟩, by decide⟩
theorem cal_X9_ray : aCal mX9_ray := ⟨lw_okI 295 (by decide +kernel) (by decide +kernel), lw_okI 37 (by decide +kernel) (by decide +kernel), ⟨by decide +kernel, by decide +kernel⟩, by decide⟩
theorem cal_X9_of : aCal mX9_of := ⟨lw_okI 303 (by decide +kernel) (by decide +kernel), lw_okI 37 (by decide +kernel) (by decide +kernel), ⟨by decide +kernel, by decide +kernel⟩, by decide⟩
theorem cal_X9_times : aCal mX9_times := ⟨lw_okI 380 (by decide +kernel) (by decide +kernel), lw_okI 37 (by decide +kernel) (by decide +kernel), ⟨by decide +kernel, by decide +kernel⟩, by decide⟩
theorem cal_X9_shift : aCal mX9_shift := ⟨lw_okI 388 (by decide +kernel) (by decide +kernel), lw_okI 37 (by decide +kernel) (by decide +kernel), ⟨by decide +kernel, by decide +kernel⟩, by decide⟩
theorem cal_X9_undo : aCal mX9_undo := ⟨lw_okI 396 (by decide +kernel) (by decide +kernel), lw_okI 37 (by decide +kernel) (by decide +kernel), ⟨by decide +kernel, by decide +kernel⟩, by decide⟩
theorem cal_X9_at : aCal mX9_at := ⟨lw_okI 400 (by decide +kernel) (by decide +kernel), lw_okI 37 (by decide +kernel) (by decide +kernel), ⟨by decide +kernel, by decide +kernel⟩, by decide⟩
theorem cal_X9_about : aCal mX9_about := ⟨lw_okI 440 (by decide +kernel) (by decide +kernel), lw_okI 37 (by decide +kernel) (by decide +kernel), ⟨by decide +kernel, by decide +kernel⟩, by decide⟩
theorem cal_X9_rate : aCal mX9_rate := ⟨lw_okI 470 (by decide +kernel) (by decide +kernel), lw_okI 37 (by decide +kernel) (by decide +kernel), ⟨by decide +kernel, by decide +kernel⟩, by decide⟩
theorem cal_X9_unlike : aCal mX9_unlike := ⟨lw_okI 483 (by decide +kernel) (by decide +kernel), lw_okI 37 (by decide +kernel) (by decide +kernel), ⟨by decide +kernel, by decide +kernel⟩, by decide⟩
theorem cal_X9_below : aCal mX9_below := ⟨lw_okI 495 (by decide +kernel) (by decide +kernel), lw_okI 37 (by decide +kernel) (by decide +kernel), ⟨by decide +kernel, by decide +kernel⟩, by decide⟩
theorem cal_X9_first : aCal mX9_first := ⟨lw_okI 503 (by decide +kernel) (by decide +kernel), lw_okI 37 (by decide +kernel) (by decide +kernel), ⟨by decide +kernel, by decide +kernel⟩, by decide⟩
theorem cal_X9_heap : aCal mX9_heap := ⟨lw_okI 516 (by decide +kernel) (by decide +kernel), lw_okI 37 (by decide +kernel) (by decide +kernel), ⟨by decide +kernel, by decide +kernel⟩, by decide⟩
theorem cal_X9_wait : aCal mX9_wait := ⟨lw_okI 520 (by decide +kernel) (by decide +kernel), lw_okI 37 (by decide +kernel) (by decide +kernel), ⟨by decide +kernel, by decide +kernel⟩, by decide⟩
theorem cal_X9_come : aCal mX9_come := ⟨lw_okI 529 (by decide +kernel) (by decide +kernel), lw_okI 37 (by decide +kernel) (by decide +kernel), ⟨by decide +kernel, by decide +kernel⟩, by decide⟩
theorem cal_X9_hardest : aCal mX9_hardest := ⟨lw_okI 542 (by decide +kernel) (by decide +kernel), lw_okI 37 (by decide +kernel) (by decide +kernel), ⟨by decide +kernel, by decide +kernel⟩, by decide⟩
theorem cal_X9_stop : aCal mX9_stop := ⟨lw_okI 559 (by decide +kernel) (by decide +kernel), lw_okI 37 (by decide +kernel) (by decide +kernel), ⟨by decide +kernel, by decide +kernel⟩, by decide⟩
theorem cal_X9_serve : aCal mX9_serve := ⟨lw_okI 563 (by decide +kernel) (by decide +kernel), lw_okI 37 (by decide +kernel) (by decide +kernel), ⟨by decide +kernel, by decide +kernel⟩, by decide⟩
theorem cal_X9_moved : aCal mX9_moved := ⟨lw_okI 567 (by decide +kernel) (by decide +kernel), lw_okI 37 (by decide +kernel) (by decide +kernel), ⟨by decide +kernel, by decide +kernel⟩, by decide⟩
theorem cal_X9_late : aCal mX9_late := ⟨lw_okI 587 (by decide +kernel) (by decide +kernel), lw_okI 37 (by decide +kernel) (by decide +kernel), ⟨by decide +kernel, by decide +kernel⟩, by decide⟩
theorem cal_X9_mostHeld : aCal mX9_mostHeld := ⟨lw_okI 595 (by decide +kernel) (by decide +kernel), lw_okI 37 (by decide +kernel) (by decide +kernel), ⟨by decide +kernel, by decide +kernel⟩, by decide⟩
theorem cal_X9_mostLate : aCal mX9_mostLate := ⟨lw_okI 605 (by decide +kernel) (by decide +kernel), lw_okI 37 (by decide +kernel) (by decide +kernel), ⟨by decide +kernel, by decide +kernel⟩, by decide⟩
theorem cal_X9_keeps : aCal mX9_keeps := ⟨lw_okI 615 (by decide +kernel) (by decide +kernel), lw_okI 37 (by decide +kernel) (by decide +kernel), ⟨by decide +kernel, by decide +kernel⟩, by decide⟩
theorem cal_X9_count : aCal mX9_count := ⟨lw_okI 623 (by decide +kernel) (by decide +kernel), lw_okI 37 (by decide +kernel) (by decide +kernel), ⟨by decide +kernel, by decide +kernel⟩, by decide⟩
theorem cal_X9_trace : aCal mX9_trace := ⟨lw_okI 627 (by decide +kernel) (by decide +kernel), lw_okI 37 (by decide +kernel) (by decide +kernel), ⟨by decide +kernel, by decide +kernel⟩, by decide⟩
theorem cal_X9_status : aCal mX9_status := ⟨lw_okI 635 (by decide +kernel) (by decide +kernel), lw_okI 37 (by decide +kernel) (by decide +kernel), ⟨by decide +kernel, by decide +kernel⟩, by decide⟩
theorem cal_X9_clear : aCal mX9_clear := ⟨lw_okI 639 (by decide +kernel) (by decide +kernel), lw_okI 37 (by decide +kernel) (by decide +kernel), ⟨by decide +kernel, by decide +kernel⟩, by decide⟩
theorem cal_X9_refused : aCal mX9_refused := ⟨lw_okI 142 (by decide +kernel) (by decide +kernel), lw_okI 37 (by decide +kernel) (by decide +kernel), ⟨by decide +kernel, by decide +kernel⟩, by decide⟩
theorem cal_X9_refusedAmount : aCal mX9_refusedAmount := ⟨lw_okI 404 (by decide +kernel) (by decide +kernel), lw_okI 37 (by decide +kernel) (by decide +kernel), ⟨by decide +kernel, by decide +kernel⟩, by decide⟩
theorem cal_X9_granted : aCal mX9_granted := ⟨lw_okI 146 (by decide +kernel) (by decide +kernel), lw_okI 37 (by decide +kernel) (by decide +kernel), ⟨by decide +kernel, by decide +kernel⟩, by decide⟩
theorem cal_X9_grantedAmount : aCal mX9_grantedAmount := ⟨lw_okI 436 (by decide +kernel) (by decide +kernel), lw_okI 37 (by decide +kernel) (by decide +kernel), ⟨by decide +kernel, by decide +kernel⟩, by decide⟩
theorem cal_X9_curveNumbered : aCal mX9_curveNumbered := ⟨lw_okI 307 (by decide +kernel) (by decide +kernel), lw_okI 37 (by decide +kernel) (by decide +kernel), ⟨by decide +kernel, by decide +kernel⟩, by decide⟩
theorem cal_X9_kept : aCal mX9_kept := ⟨lw_okI 291 (by decide +kernel) (by decide +kernel), lw_okI 37 (by decide +kernel) (by decide +kernel), ⟨by decide +kernel, by decide +kernel⟩, by decide⟩
theorem cal_X9_rowComesRound : aCal mX9_rowComesRound := ⟨lw_okI 167 (by decide +kernel) (by decide +kernel), lw_okI 37 (by decide +kernel) (by decide +kernel), ⟨by decide +kernel, by decide +kernel⟩, by decide⟩
theorem cal_X10_init : aCal mX10_init := ⟨lw_okI 644 (by decide +kernel) (by decide +kernel), lw_okI 41 (by decide +kernel) (by decide +kernel), ⟨by decide +kernel, by decide +kernel⟩, by decide⟩
theorem cal_X10_in : aCal mX10_in := ⟨lw_okI 699 (by decide +kernel) (by decide +kernel), lw_okI 41 (by decide +kernel) (by decide +kernel), ⟨by decide +kernel, by decide +kernel⟩, by decide⟩
theorem cal_X10_refuse : aCal mX10_refuse := ⟨lw_okI 703 (by decide +kernel) (by decide +kernel), lw_okI 41 (by decide +kernel) (by decide +kernel), ⟨by decide +kernel, by decide +kernel⟩, by decide⟩
theorem cal_X10_fine : aCal mX10_fine := ⟨lw_okI 707 (by decide +kernel) (by decide +kernel), lw_okI 41 (by decide +kernel) (by decide +kernel), ⟨by decide +kernel, by decide +kernel⟩, by decide⟩
theorem cal_X10_fineLong : aCal mX10_fineLong := ⟨lw_okI 804 (by decide +kernel) (by decide +kernel), lw_okI 41 (by decide +kernel) (by decide +kernel), ⟨by decide +kernel, by decide +kernel⟩, by decide⟩
theorem cal_X10_none : aCal mX10_none := ⟨lw_okI 799 (by decide +kernel) (by decide +kernel), lw_okI 41 (by decide +kernel) (by decide +kernel), ⟨by decide +kernel, by decide +kernel⟩, by decide⟩
theorem cal_X10_isCurve : aCal mX10_isCurve := ⟨lw_okI 750 (by decide +kernel) (by decide +kernel), lw_okI 41 (by decide +kernel) (by decide +kernel), ⟨by decide +kernel, by decide +kernel⟩, by decide⟩
theorem cal_X10_value : aCal mX10_value := ⟨lw_okI 769 (by decide +kernel) (by decide +kernel), lw_okI 41 (by decide +kernel) (by decide +kernel), ⟨by decide +kernel, by decide +kernel⟩, by decide⟩
theorem cal_X10_comesRound : aCal mX10_comesRound := ⟨lw_okI 733 (by decide +kernel) (by decide +kernel), lw_okI 41 (by decide +kernel) (by decide +kernel), ⟨by decide +kernel, by decide +kernel⟩, by decide⟩
theorem cal_X10_kindOf : aCal mX10_kindOf := ⟨lw_okI 737 (by decide +kernel) (by decide +kernel), lw_okI 41 (by decide +kernel) (by decide +kernel), ⟨by decide +kernel, by decide +kernel⟩, by decide⟩
theorem cal_X10_settle : aCal mX10_settle := ⟨lw_okI 729 (by decide +kernel) (by decide +kernel), lw_okI 41 (by decide +kernel) (by decide +kernel), ⟨by decide +kernel, by decide +kernel⟩, by decide⟩
theorem cal_X10_put : aCal mX10_put := ⟨lw_okI 695 (by decide +kernel) (by decide +kernel), lw_okI 41 (by decide +kernel) (by decide +kernel), ⟨by decide +kernel, by decide +kernel⟩, by decide⟩
theorem cal_X10_draw : aCal mX10_draw := ⟨lw_okI 711 (by decide +kernel) (by decide +kernel), lw_okI 41 (by decide +kernel) (by decide +kernel), ⟨by decide +kernel, by decide +kernel⟩, by decide⟩
theorem cal_X10_drop : aCal mX10_drop := ⟨lw_okI 719 (by decide +kernel) (by decide +kernel), lw_okI 41 (by decide +kernel) (by decide +kernel), ⟨by decide +kernel, by decide +kernel⟩, by decide⟩
theorem cal_X10_curve : aCal mX10_curve := ⟨lw_okI 723 (by decide +kernel) (by decide +kernel), lw_okI 41 (by decide +kernel) (by decide +kernel), ⟨by decide +kernel, by decide +kernel⟩, by decide⟩
theorem cal_X10_ray : aCal mX10_ray := ⟨lw_okI 741 (by decide +kernel) (by decide +kernel), lw_okI 41 (by decide +kernel) (by decide +kernel), ⟨by decide +kernel, by decide +kernel⟩, by decide⟩
theorem cal_X10_divisor : aCal mX10_divisor := ⟨lw_okI 757 (by decide +kernel) (by decide +kernel), lw_okI 41 (by decide +kernel) (by decide +kernel), ⟨by decide +kernel, by decide +kernel⟩, by decide⟩
theorem cal_X10_together : aCal mX10_together := ⟨lw_okI 754 (by decide +kernel) (by decide +kernel), lw_okI 41 (by decide +kernel) (by decide +kernel), ⟨by decide +kernel, by decide +kernel⟩, by decide⟩
theorem cal_X10_gainIn : aCal mX10_gainIn := ⟨lw_okI 761 (by decide +kernel) (by decide +kernel), lw_okI 41 (by decide +kernel) (by decide +kernel), ⟨by decide +kernel, by decide +kernel⟩, by decide⟩
theorem cal_X10_least : aCal mX10_least := ⟨lw_okI 773 (by decide +kernel) (by decide +kernel), lw_okI 41 (by decide +kernel) (by decide +kernel), ⟨by decide +kernel, by decide +kernel⟩, by decide⟩
theorem cal_X10_most : aCal mX10_most := ⟨lw_okI 777 (by decide +kernel) (by decide +kernel), lw_okI 41 (by decide +kernel) (by decide +kernel), ⟨by decide +kernel, by decide +kernel⟩, by decide⟩
theorem cal_X10_make : aCal mX10_make := ⟨lw_okI 765 (by decide +kernel) (by decide +kernel), lw_okI 41 (by decide +kernel) (by decide +kernel), ⟨by decide +kernel, by decide +kernel⟩, by decide⟩
theorem cal_X10_of : aCal mX10_of := ⟨lw_okI 745 (by decide +kernel) (by decide +kernel), lw_okI 41 (by decide +kernel) (by decide +kernel), ⟨by decide +kernel, by decide +kernel⟩, by decide⟩
theorem cal_X10_times : aCal mX10_times := ⟨lw_okI 781 (by decide +kernel) (by decide +kernel), lw_okI 41 (by decide +kernel) (by decide +kernel), ⟨by decide +kernel, by decide +kernel⟩, by decide⟩
theorem cal_X10_shift : aCal mX10_shift := ⟨lw_okI 786 (by decide +kernel) (by decide +kernel), lw_okI 41 (by decide +kernel) (by decide +kernel), ⟨by decide +kernel, by decide +kernel⟩, by decide⟩
theorem cal_X10_undo : aCal mX10_undo := ⟨lw_okI 791 (by decide +kernel) (by decide +kernel), lw_okI 41 (by decide +kernel) (by decide +kernel), ⟨by decide +kernel, by decide +kernel⟩, by decide⟩
theorem cal_X10_at : aCal mX10_at := ⟨lw_okI 795 (by decide +kernel) (by decide +kernel), lw_okI 41 (by decide +kernel) (by decide +kernel), ⟨by decide +kernel, by decide +kernel⟩, by decide⟩
theorem cal_X10_isClosed : aCal mX10_isClosed := ⟨lw_okI 813 (by decide +kernel) (by decide +kernel), lw_okI 41 (by decide +kernel) (by decide +kernel), ⟨by decide +kernel, by decide +kernel⟩, by decide⟩
theorem cal_X10_about : aCal mX10_about := ⟨lw_okI 808 (by decide +kernel) (by decide +kernel), lw_okI 41 (by decide +kernel) (by decide +kernel), ⟨by decide +kernel, by decide +kernel⟩, by decide⟩
theorem cal_X10_rate : aCal mX10_rate := ⟨lw_okI 817 (by decide +kernel) (by decide +kernel), lw_okI 41 (by decide +kernel) (by decide +kernel), ⟨by decide +kernel, by decide +kernel⟩, by decide⟩
theorem cal_X10_latest : aCal mX10_latest := ⟨lw_okI 825 (by decide +kernel) (by decide +kernel), lw_okI 41 (by decide +kernel) (by decide +kernel), ⟨by decide +kernel, by decide +kernel⟩, by decide⟩
theorem cal_X10_unlike : aCal mX10_unlike := ⟨lw_okI 821 (by decide +kernel) (by decide +kernel), lw_okI 41 (by decide +kernel) (by decide +kernel), ⟨by decide +kernel, by decide +kernel⟩, by decide⟩
theorem cal_X10_below : aCal mX10_below := ⟨lw_okI 829 (by decide +kernel) (by decide +kernel), lw_okI 41 (by decide +kernel) (by decide +kernel), ⟨by decide +kernel, by decide +kernel⟩, by decide⟩
theorem cal_X10_spanOf : aCal mX10_spanOf := ⟨lw_okI 837 (by decide +kernel) (by decide +kernel), lw_okI 41 (by decide +kernel) (by decide +kernel), ⟨by decide +kernel, by decide +kernel⟩, by decide⟩
theorem cal_X10_first : aCal mX10_first := ⟨lw_okI 833 (by decide +kernel) (by decide +kernel), lw_okI 41 (by decide +kernel) (by decide +kernel), ⟨by decide +kernel, by decide +kernel⟩, by decide⟩
theorem cal_X10_heap : aCal mX10_heap := ⟨lw_okI 841 (by decide +kernel) (by decide +kernel), lw_okI 41 (by decide +kernel) (by decide +kernel), ⟨by decide +kernel, by decide +kernel⟩, by decide⟩
theorem cal_X10_wait : aCal mX10_wait := ⟨lw_okI 845 (by decide +kernel) (by decide +kernel), lw_okI 41 (by decide +kernel) (by decide +kernel), ⟨by decide +kernel, by decide +kernel⟩, by decide⟩
theorem cal_X10_come : aCal mX10_come := ⟨lw_okI 849 (by decide +kernel) (by decide +kernel), lw_okI 41 (by decide +kernel) (by decide +kernel), ⟨by decide +kernel, by decide +kernel⟩, by decide⟩
theorem cal_X10_hardest : aCal mX10_hardest := ⟨lw_okI 853 (by decide +kernel) (by decide +kernel), lw_okI 41 (by decide +kernel) (by decide +kernel), ⟨by decide +kernel, by decide +kernel⟩, by decide⟩
theorem cal_X10_stop : aCal mX10_stop := ⟨lw_okI 857 (by decide +kernel) (by decide +kernel), lw_okI 41 (by decide +kernel) (by decide +kernel), ⟨by decide +kernel, by decide +kernel⟩, by decide⟩
theorem cal_X10_serve : aCal mX10_serve := ⟨lw_okI 861 (by decide +kernel) (by decide +kernel), lw_okI 41 (by decide +kernel) (by decide +kernel), ⟨by decide +kernel, by decide +kernel⟩, by decide⟩
theorem cal_X10_came : aCal mX10_came := ⟨lw_okI 871 (by decide +kernel) (by decide +kernel), lw_okI 41 (by decide +kernel) (by decide +kernel), ⟨by decide +kernel, by decide +kernel⟩, by decide⟩
theorem cal_X10_served : aCal mX10_served := ⟨lw_okI 875 (by decide +kernel) (by decide +kernel), lw_okI 41 (by decide +kernel) (by decide +kernel), ⟨by decide +kernel, by decide +kernel⟩, by decide⟩
theorem cal_X10_moved : aCal mX10_moved := ⟨lw_okI 865 (by decide +kernel) (by decide +kernel), lw_okI 41 (by decide +kernel) (by decide +kernel), ⟨by decide +kernel, by decide +kernel⟩, by decide⟩
theorem cal_X10_lateAt : aCal mX10_lateAt := ⟨lw_okI 883 (by decide +kernel) (by decide +kernel), lw_okI 41 (by decide +kernel) (by decide +kernel), ⟨by decide +kernel, by decide +kernel⟩, by decide⟩
theorem cal_X10_late : aCal mX10_late := ⟨lw_okI 879 (by decide +kernel) (by decide +kernel), lw_okI 41 (by decide +kernel) (by decide +kernel), ⟨by decide +kernel, by decide +kernel⟩, by decide⟩
theorem cal_X10_mostHeld : aCal mX10_mostHeld := ⟨lw_okI 887 (by decide +kernel) (by decide +kernel), lw_okI 41 (by decide +kernel) (by decide +kernel), ⟨by decide +kernel, by decide +kernel⟩, by decide⟩
theorem cal_X10_mostLate : aCal mX10_mostLate := ⟨lw_okI 891 (by decide +kernel) (by decide +kernel), lw_okI 41 (by decide +kernel) (by decide +kernel), ⟨by decide +kernel, by decide +kernel⟩, by decide⟩
theorem cal_X10_keeps : aCal mX10_keeps := ⟨lw_okI 895 (by decide +kernel) (by decide +kernel), lw_okI 41 (by decide +kernel) (by decide +kernel), ⟨by decide +kernel, by decide +kernel⟩, by decide⟩
theorem cal_X10_count : aCal mX10_count := ⟨lw_okI 899 (by decide +kernel) (by decide +kernel), lw_okI 41 (by decide +kernel) (by decide +kernel), ⟨by decide +kernel, by decide +kernel⟩, by decide⟩
theorem cal_X10_trace : aCal mX10_trace := ⟨lw_okI 903 (by decide +kernel) (by decide +kernel), lw_okI 41 (by decide +kernel) (by decide +kernel), ⟨by decide +kernel, by decide +kernel⟩, by decide⟩
theorem cal_X10_status : aCal mX10_status := ⟨lw_okI 907 (by decide +kernel) (by decide +kernel), lw_okI 41 (by decide +kernel) (by decide +kernel), ⟨by decide +kernel, by decide +kernel⟩, by decide⟩
theorem cal_X10_clear : aCal mX10_clear := ⟨lw_okI 911 (by decide +kernel) (by decide +kernel), lw_okI 41 (by decide +kernel) (by decide +kernel), ⟨by decide +kernel, by decide +kernel⟩, by decide⟩
theorem cal_J9_max_7cf53 : aCal mJ9_max_7cf53 := ⟨lw_okI 329 (by decide +kernel) (by decide +kernel), lw_okI 43 (by decide +kernel) (by decide +kernel), ⟨by decide +kernel, by decide +kernel⟩, by decide⟩
theorem cal_J9_max_f86c9 : aCal mJ9_max_f86c9 := ⟨lw_okI 351 (by decide +kernel) (by decide +kernel), lw_okI 43 (by decide +kernel) (by decide +kernel), ⟨by decide +kernel, by decide +kernel⟩, by decide⟩
theorem cal_J9_min_7cf53 : aCal mJ9_min_7cf53 := ⟨lw_okI 198 (by decide +kernel) (by decide +kernel), lw_okI 43 (by decide +kernel) (by decide +kernel), ⟨by decide +kernel, by decide +kernel⟩, by decide⟩
theorem cal_J9_min_f86c9 : aCal mJ9_min_f86c9 := ⟨lw_okI 348 (by decide +kernel) (by decide +kernel), lw_okI 43 (by decide +kernel) (by decide +kernel), ⟨by decide +kernel, by decide +kernel⟩, by decide⟩
theorem cal_J7_copyOf_c38d5 : aCal mJ7_copyOf_c38d5 := ⟨lw_okI 188 (by decide +kernel) (by decide +kernel), lw_okI 42 (by decide +kernel) (by decide +kernel), ⟨by decide +kernel, by decide +kernel⟩, by decide⟩
theorem cl_L_7 : Cond.classLink RL 7 RX9 ∈ lw_ok := lw_okI 51 (by decide +kernel) (by decide +kernel)
theorem cl_X9_9 : Cond.classLink RX9 9 RX1 ∈ lw_ok := lw_okI 59 (by decide +kernel) (by decide +kernel)
theorem nw_X9_30 : aNew RX9 30 5 [vN, vI 0] := ⟨RX6, TX6, 2, tyX6, rfl, rfl, inX6, tyX6_ok, lw_okI 61 (by decide +kernel) (by decide +kernel), lw_okI 62 (by decide +kernel) (by decide +kernel), lw_okI 38 (by decide +kernel) (by decide +kernel), fun j hj => by rcases (show j = 0 ∨ j = 1 by omega) with rfl | rfl <;> rfl, by intro v hv; simp only [List.mem_cons, List.not_mem_nil, or_false] at hv; rcases hv with rfl | rfl <;> first | trivial | exact okI_0 | exact okJ_0⟩
theorem fl_X6_9 : aFld RX6 9 5 0 := ⟨RX6, "FlowCurves$Run", TX6, 2, rfl, by decide, inX6, lw_okI 67 (by decide +kernel) (by decide +kernel), Or.inl rfl⟩
theorem pu_X6_9 : aPut RX6 9 5 0 (.array .long) true := ⟨RX6, "FlowCurves$Run", TX6, 2, tyX6, rfl, by decide, inX6, lw_okI 67 (by decide +kernel) (by decide +kernel), rfl, tyX6_ok, nmX6, by decide +kernel, rfl, fun _ => rfl⟩
theorem fl_X6_15 : aFld RX6 15 5 1 := ⟨RX6, "FlowCurves$Run", TX6, 2, rfl, by decide, inX6, lw_okI 68 (by decide +kernel) (by decide +kernel), Or.inl rfl⟩
theorem pu_X6_15 : aPut RX6 15 5 1 .int false := ⟨RX6, "FlowCurves$Run", TX6, 2, tyX6, rfl, by decide, inX6, lw_okI 68 (by decide +kernel) (by decide +kernel), rfl, tyX6_ok, nmX6, by decide +kernel, rfl, fun h => absurd h (by decide)⟩
theorem fl_X9_168 : aFldN RX9 168 5 1 := ⟨RX6, "FlowCurves$Run", "FlowCurves", TX6, 2, rfl, by decide, inX6, by decide +kernel, rfl⟩
theorem pu_X9_168 : aPutN RX9 168 5 1 .int := ⟨RX6, "FlowCurves$Run", "FlowCurves", TX6, 2, tyX6, rfl, by decide, inX6, by decide +kernel, rfl, tyX6_ok, nmX6, by decide +kernel, rfl⟩
theorem nw_X9_40 : aNew RX9 40 7 [vN] := ⟨RX8, TX8, 1, tyX8, rfl, rfl, inX8, tyX8_ok, lw_okI 76 (by decide +kernel) (by decide +kernel), lw_okI 77 (by decide +kernel) (by decide +kernel), lw_okI 39 (by decide +kernel) (by decide +kernel), fun j hj => by rcases (show j = 0 by omega) with rfl <;> rfl, by intro v hv; simp only [List.mem_cons, List.not_mem_nil, or_false] at hv; rcases hv with rfl <;> first | trivial | exact okI_0 | exact okJ_0⟩
theorem fl_X8_9 : aFld RX8 9 7 0 := ⟨RX8, "FlowCurves$Tally", TX8, 1, rfl, by decide, inX8, lw_okI 82 (by decide +kernel) (by decide +kernel), Or.inl rfl⟩
theorem pu_X8_9 : aPut RX8 9 7 0 (.array .int) true := ⟨RX8, "FlowCurves$Tally", TX8, 1, tyX8, rfl, by decide, inX8, lw_okI 82 (by decide +kernel) (by decide +kernel), rfl, tyX8_ok, nmX8, by decide +kernel, rfl, fun _ => rfl⟩
theorem nw_X9_47 : aNew RX9 47 3 [vN, vN, vN] := ⟨RX3, TX3, 3, tyX3, rfl, rfl, inX3, tyX3_ok, lw_okI 87 (by decide +kernel) (by decide +kernel), lw_okI 88 (by decide +kernel) (by decide +kernel), lw_okI 40 (by decide +kernel) (by decide +kernel), fun j hj => by rcases (show j = 0 ∨ j = 1 ∨ j = 2 by omega) with rfl | rfl | rfl <;> rfl, by intro v hv; simp only [List.mem_cons, List.not_mem_nil, or_false] at hv; rcases hv with rfl | rfl | rfl <;> first | trivial | exact okI_0 | exact okJ_0⟩
theorem fl_X3_11 : aFld RX3 11 3 0 := ⟨RX3, "FlowCurves$Maker", TX3, 3, rfl, by decide, inX3, lw_okI 93 (by decide +kernel) (by decide +kernel), Or.inl rfl⟩
theorem pu_X3_11 : aPut RX3 11 3 0 (.array .long) true := ⟨RX3, "FlowCurves$Maker", TX3, 3, tyX3, rfl, by decide, inX3, lw_okI 93 (by decide +kernel) (by decide +kernel), rfl, tyX3_ok, nmX3, by decide +kernel, rfl, fun _ => rfl⟩
theorem fl_X3_15 : aFld RX3 15 3 1 := ⟨RX3, "FlowCurves$Maker", TX3, 3, rfl, by decide, inX3, lw_okI 94 (by decide +kernel) (by decide +kernel), Or.inl rfl⟩
theorem pu_X3_15 : aPut RX3 15 3 1 (.array .long) true := ⟨RX3, "FlowCurves$Maker", TX3, 3, tyX3, rfl, by decide, inX3, lw_okI 94 (by decide +kernel) (by decide +kernel), rfl, tyX3_ok, nmX3, by decide +kernel, rfl, fun _ => rfl⟩
theorem fl_X3_18 : aFld RX3 18 3 2 := ⟨RX3, "FlowCurves$Maker", TX3, 3, rfl, by decide, inX3, lw_okI 95 (by decide +kernel) (by decide +kernel), Or.inl rfl⟩
theorem pu_X3_18 : aPut RX3 18 3 2 (.array .long) true := ⟨RX3, "FlowCurves$Maker", TX3, 3, tyX3, rfl, by decide, inX3, lw_okI 95 (by decide +kernel) (by decide +kernel), rfl, tyX3_ok, nmX3, by decide +kernel, rfl, fun _ => rfl⟩
theorem fl_X9_11 : aFld RX9 11 8 0 := ⟨RX9, "FlowCurves", TX9, 10, rfl, by decide, inX9, lw_okI 103 (by decide +kernel) (by decide +kernel), Or.inl rfl⟩
theorem pu_X9_11 : aPut RX9 11 8 0 (.array (.object "FlowCurves$Curve")) true := ⟨RX9, "FlowCurves", TX9, 10, tyX9, rfl, by decide, inX9, lw_okI 103 (by decide +kernel) (by decide +kernel), rfl, tyX9_ok, nmX9, by decide +kernel, rfl, fun _ => rfl⟩
theorem fl_X9_15 : aFld RX9 15 8 1 := ⟨RX9, "FlowCurves", TX9, 10, rfl, by decide, inX9, lw_okI 104 (by decide +kernel) (by decide +kernel), Or.inl rfl⟩
theorem pu_X9_15 : aPut RX9 15 8 1 .int false := ⟨RX9, "FlowCurves", TX9, 10, tyX9, rfl, by decide, inX9, lw_okI 104 (by decide +kernel) (by decide +kernel), rfl, tyX9_ok, nmX9, by decide +kernel, rfl, fun h => absurd h (by decide)⟩
theorem fl_X9_19 : aFld RX9 19 8 2 := ⟨RX9, "FlowCurves", TX9, 10, rfl, by decide, inX9, lw_okI 105 (by decide +kernel) (by decide +kernel), Or.inl rfl⟩
theorem pu_X9_19 : aPut RX9 19 8 2 .boolean false := ⟨RX9, "FlowCurves", TX9, 10, tyX9, rfl, by decide, inX9, lw_okI 105 (by decide +kernel) (by decide +kernel), rfl, tyX9_ok, nmX9, by decide +kernel, rfl, fun h => absurd h (by decide)⟩
theorem fl_X9_23 : aFld RX9 23 8 3 := ⟨RX9, "FlowCurves", TX9, 10, rfl, by decide, inX9, lw_okI 106 (by decide +kernel) (by decide +kernel), Or.inl rfl⟩
theorem pu_X9_23 : aPut RX9 23 8 3 (.array .long) true := ⟨RX9, "FlowCurves", TX9, 10, tyX9, rfl, by decide, inX9, lw_okI 106 (by decide +kernel) (by decide +kernel), rfl, tyX9_ok, nmX9, by decide +kernel, rfl, fun _ => rfl⟩
theorem fl_X9_27 : aFld RX9 27 8 4 := ⟨RX9, "FlowCurves", TX9, 10, rfl, by decide, inX9, lw_okI 107 (by decide +kernel) (by decide +kernel), Or.inl rfl⟩
theorem pu_X9_27 : aPut RX9 27 8 4 .int false := ⟨RX9, "FlowCurves", TX9, 10, tyX9, rfl, by decide, inX9, lw_okI 107 (by decide +kernel) (by decide +kernel), rfl, tyX9_ok, nmX9, by decide +kernel, rfl, fun h => absurd h (by decide)⟩
theorem fl_X9_33 : aFld RX9 33 8 5 := ⟨RX9, "FlowCurves", TX9, 10, rfl, by decide, inX9, lw_okI 108 (by decide +kernel) (by decide +kernel), Or.inl rfl⟩
theorem pu_X9_33 : aPut RX9 33 8 5 (.object "FlowCurves$Run") true := ⟨RX9, "FlowCurves", TX9, 10, tyX9, rfl, by decide, inX9, lw_okI 108 (by decide +kernel) (by decide +kernel), rfl, tyX9_ok, nmX9, by decide +kernel, rfl, fun _ => rfl⟩
theorem fl_X9_37 : aFld RX9 37 8 6 := ⟨RX9, "FlowCurves", TX9, 10, rfl, by decide, inX9, lw_okI 109 (by decide +kernel) (by decide +kernel), Or.inl rfl⟩
theorem pu_X9_37 : aPut RX9 37 8 6 .int false := ⟨RX9, "FlowCurves", TX9, 10, tyX9, rfl, by decide, inX9, lw_okI 109 (by decide +kernel) (by decide +kernel), rfl, tyX9_ok, nmX9, by decide +kernel, rfl, fun h => absurd h (by decide)⟩
theorem fl_X9_43 : aFld RX9 43 8 7 := ⟨RX9, "FlowCurves", TX9, 10, rfl, by decide, inX9, lw_okI 110 (by decide +kernel) (by decide +kernel), Or.inl rfl⟩
theorem pu_X9_43 : aPut RX9 43 8 7 (.object "FlowCurves$Tally") true := ⟨RX9, "FlowCurves", TX9, 10, tyX9, rfl, by decide, inX9, lw_okI 110 (by decide +kernel) (by decide +kernel), rfl, tyX9_ok, nmX9, by decide +kernel, rfl, fun _ => rfl⟩
theorem fl_X9_50 : aFld RX9 50 8 8 := ⟨RX9, "FlowCurves", TX9, 10, rfl, by decide, inX9, lw_okI 111 (by decide +kernel) (by decide +kernel), Or.inl rfl⟩
theorem pu_X9_50 : aPut RX9 50 8 8 (.object "FlowCurves$Maker") true := ⟨RX9, "FlowCurves", TX9, 10, tyX9, rfl, by decide, inX9, lw_okI 111 (by decide +kernel) (by decide +kernel), rfl, tyX9_ok, nmX9, by decide +kernel, rfl, fun _ => rfl⟩
theorem fl_X9_54 : aFld RX9 54 8 9 := ⟨RX9, "FlowCurves", TX9, 10, rfl, by decide, inX9, lw_okI 112 (by decide +kernel) (by decide +kernel), Or.inl rfl⟩
theorem pu_X9_54 : aPut RX9 54 8 9 .int false := ⟨RX9, "FlowCurves", TX9, 10, tyX9, rfl, by decide, inX9, lw_okI 112 (by decide +kernel) (by decide +kernel), rfl, tyX9_ok, nmX9, by decide +kernel, rfl, fun h => absurd h (by decide)⟩
theorem kc_X9_57 : Cond.constantLong RX9 57 (Int64.ofInt (1000000000000)) ∈ lw_ok := lw_okI 138 (by decide +kernel) (by decide +kernel)
theorem kc_X9_66 : Cond.constant RX9 66 (Int32.ofInt (1000000)) ∈ lw_ok := lw_okI 151 (by decide +kernel) (by decide +kernel)
theorem kc_X9_67 : Cond.constantLong RX9 67 (Int64.ofInt (1103515245)) ∈ lw_ok := lw_okI 152 (by decide +kernel) (by decide +kernel)
theorem kc_X9_69 : Cond.constantLong RX9 69 (Int64.ofInt (12345)) ∈ lw_ok := lw_okI 153 (by decide +kernel) (by decide +kernel)
theorem kc_X9_71 : Cond.constantLong RX9 71 (Int64.ofInt (2147483647)) ∈ lw_ok := lw_okI 154 (by decide +kernel) (by decide +kernel)
theorem kc_X9_73 : Cond.constant RX9 73 (Int32.ofInt (1000000000)) ∈ lw_ok := lw_okI 163 (by decide +kernel) (by decide +kernel)
theorem kc_X3_89 : Cond.constantLong RX3 89 (Int64.ofInt (1000000000)) ∈ lw_ok := lw_okI 184 (by decide +kernel) (by decide +kernel)
theorem kc_X3_91 : Cond.constantLong RX3 91 (Int64.ofInt (1000000000000)) ∈ lw_ok := lw_okI 185 (by decide +kernel) (by decide +kernel)
-- classLink java/util/Arrays 320 [J
theorem nw_X3_107 : aNew RX3 107 0 [vI 0, vI 0, vI 0, vN, vJ 0] := ⟨RX0, TX0, 5, tyX0, rfl, rfl, inX0, tyX0_ok, lw_okI 205 (by decide +kernel) (by decide +kernel), lw_okI 206 (by decide +kernel) (by decide +kernel), lw_okI 47 (by decide +kernel) (by decide +kernel), fun j hj => by rcases (show j = 0 ∨ j = 1 ∨ j = 2 ∨ j = 3 ∨ j = 4 by omega) with rfl | rfl | rfl | rfl | rfl <;> rfl, by intro v hv; simp only [List.mem_cons, List.not_mem_nil, or_false] at hv; rcases hv with rfl | rfl | rfl | rfl | rfl <;> first | trivial | exact okI_0 | exact okJ_0⟩
theorem fl_X0_9 : aFld RX0 9 0 4 := ⟨RX0, "FlowCurves$Burst", TX0, 5, rfl, by decide, inX0, lw_okI 217 (by decide +kernel) (by decide +kernel), Or.inl rfl⟩
theorem pu_X0_9 : aPut RX0 9 0 4 .long true := ⟨RX0, "FlowCurves$Burst", TX0, 5, tyX0, rfl, by decide, inX0, lw_okI 217 (by decide +kernel) (by decide +kernel), rfl, tyX0_ok, nmX0, by decide +kernel, rfl, fun _ => rfl⟩
theorem fl_X1_9 : ∀ ci, ci ∈ [0, 1, 2, 4, 6] → aFld RX1 9 ci 0 := by
  intro ci h
  simp only [List.mem_cons, List.not_mem_nil, or_false] at h
  rcases h with rfl | rfl | rfl | rfl | rfl
  · exact ⟨RX0, "FlowCurves$Curve", TX0, 5, rfl, by decide, inX0, lw_okI 218 (by decide +kernel) (by decide +kernel), Or.inl rfl⟩
  · exact ⟨RX1, "FlowCurves$Curve", TX1, 4, rfl, by decide, inX1, lw_okI 218 (by decide +kernel) (by decide +kernel), Or.inl rfl⟩
  · exact ⟨RX2, "FlowCurves$Curve", TX2, 4, rfl, by decide, inX2, lw_okI 218 (by decide +kernel) (by decide +kernel), Or.inl rfl⟩
  · exact ⟨RX5, "FlowCurves$Curve", TX5, 4, rfl, by decide, inX5, lw_okI 218 (by decide +kernel) (by decide +kernel), Or.inl rfl⟩
  · exact ⟨RX7, "FlowCurves$Curve", TX7, 4, rfl, by decide, inX7, lw_okI 218 (by decide +kernel) (by decide +kernel), Or.inl rfl⟩
theorem pu_X1_9 : ∀ ci, ci ∈ [0, 1, 2, 4, 6] → aPut RX1 9 ci 0 .int true := by
  intro ci h
  simp only [List.mem_cons, List.not_mem_nil, or_false] at h
  rcases h with rfl | rfl | rfl | rfl | rfl
  · exact ⟨RX0, "FlowCurves$Curve", TX0, 5, tyX0, rfl, by decide, inX0, lw_okI 218 (by decide +kernel) (by decide +kernel), rfl, tyX0_ok, nmX0, by decide +kernel, rfl, fun _ => rfl⟩
  · exact ⟨RX1, "FlowCurves$Curve", TX1, 4, tyX1, rfl, by decide, inX1, lw_okI 218 (by decide +kernel) (by decide +kernel), rfl, tyX1_ok, nmX1, by decide +kernel, rfl, fun _ => rfl⟩
  · exact ⟨RX2, "FlowCurves$Curve", TX2, 4, tyX2, rfl, by decide, inX2, lw_okI 218 (by decide +kernel) (by decide +kernel), rfl, tyX2_ok, nmX2, by decide +kernel, rfl, fun _ => rfl⟩
  · exact ⟨RX5, "FlowCurves$Curve", TX5, 4, tyX5, rfl, by decide, inX5, lw_okI 218 (by decide +kernel) (by decide +kernel), rfl, tyX5_ok, nmX5, by decide +kernel, rfl, fun _ => rfl⟩
  · exact ⟨RX7, "FlowCurves$Curve", TX7, 4, tyX7, rfl, by decide, inX7, lw_okI 218 (by decide +kernel) (by decide +kernel), rfl, tyX7_ok, nmX7, by decide +kernel, rfl, fun _ => rfl⟩
theorem fl_X2_15 : aFld RX2 15 2 0 := ⟨RX2, "FlowCurves$Late", TX2, 4, rfl, by decide, inX2, lw_okI 219 (by decide +kernel) (by decide +kernel), Or.inr (lw_okI 220 (by decide +kernel) (by decide +kernel))⟩
theorem fl_X3_25 : ∀ ci, ci ∈ [0, 1, 2, 4, 6] → aFld RX3 25 ci 0 := by
  intro ci h
  simp only [List.mem_cons, List.not_mem_nil, or_false] at h
  rcases h with rfl | rfl | rfl | rfl | rfl
  · exact ⟨RX0, "FlowCurves$Curve", TX0, 5, rfl, by decide, inX0, lw_okI 221 (by decide +kernel) (by decide +kernel), Or.inl rfl⟩
  · exact ⟨RX1, "FlowCurves$Curve", TX1, 4, rfl, by decide, inX1, lw_okI 221 (by decide +kernel) (by decide +kernel), Or.inl rfl⟩
  · exact ⟨RX2, "FlowCurves$Curve", TX2, 4, rfl, by decide, inX2, lw_okI 221 (by decide +kernel) (by decide +kernel), Or.inl rfl⟩
  · exact ⟨RX5, "FlowCurves$Curve", TX5, 4, rfl, by decide, inX5, lw_okI 221 (by decide +kernel) (by decide +kernel), Or.inl rfl⟩
  · exact ⟨RX7, "FlowCurves$Curve", TX7, 4, rfl, by decide, inX7, lw_okI 221 (by decide +kernel) (by decide +kernel), Or.inl rfl⟩
theorem fl_X4_19 : ∀ ci, ci ∈ [0, 1, 2, 4, 6] → aFld RX4 19 ci 0 := by
  intro ci h
  simp only [List.mem_cons, List.not_mem_nil, or_false] at h
  rcases h with rfl | rfl | rfl | rfl | rfl
  · exact ⟨RX0, "FlowCurves$Curve", TX0, 5, rfl, by decide, inX0, lw_okI 222 (by decide +kernel) (by decide +kernel), Or.inl rfl⟩
  · exact ⟨RX1, "FlowCurves$Curve", TX1, 4, rfl, by decide, inX1, lw_okI 222 (by decide +kernel) (by decide +kernel), Or.inl rfl⟩
  · exact ⟨RX2, "FlowCurves$Curve", TX2, 4, rfl, by decide, inX2, lw_okI 222 (by decide +kernel) (by decide +kernel), Or.inl rfl⟩
  · exact ⟨RX5, "FlowCurves$Curve", TX5, 4, rfl, by decide, inX5, lw_okI 222 (by decide +kernel) (by decide +kernel), Or.inl rfl⟩
  · exact ⟨RX7, "FlowCurves$Curve", TX7, 4, rfl, by decide, inX7, lw_okI 222 (by decide +kernel) (by decide +kernel), Or.inl rfl⟩
theorem fl_X9_126 : ∀ ci, ci ∈ [0, 1, 2, 4, 6] → aFld RX9 126 ci 0 := by
  intro ci h
  simp only [List.mem_cons, List.not_mem_nil, or_false] at h
  rcases h with rfl | rfl | rfl | rfl | rfl
  · exact ⟨RX0, "FlowCurves$Curve", TX0, 5, rfl, by decide, inX0, lw_okI 223 (by decide +kernel) (by decide +kernel), Or.inl rfl⟩
  · exact ⟨RX1, "FlowCurves$Curve", TX1, 4, rfl, by decide, inX1, lw_okI 223 (by decide +kernel) (by decide +kernel), Or.inl rfl⟩
  · exact ⟨RX2, "FlowCurves$Curve", TX2, 4, rfl, by decide, inX2, lw_okI 223 (by decide +kernel) (by decide +kernel), Or.inl rfl⟩
  · exact ⟨RX5, "FlowCurves$Curve", TX5, 4, rfl, by decide, inX5, lw_okI 223 (by decide +kernel) (by decide +kernel), Or.inl rfl⟩
  · exact ⟨RX7, "FlowCurves$Curve", TX7, 4, rfl, by decide, inX7, lw_okI 223 (by decide +kernel) (by decide +kernel), Or.inl rfl⟩
theorem fl_X1_15 : ∀ ci, ci ∈ [0, 1, 2, 4, 6] → aFld RX1 15 ci 1 := by
  intro ci h
  simp only [List.mem_cons, List.not_mem_nil, or_false] at h
  rcases h with rfl | rfl | rfl | rfl | rfl
  · exact ⟨RX0, "FlowCurves$Curve", TX0, 5, rfl, by decide, inX0, lw_okI 224 (by decide +kernel) (by decide +kernel), Or.inl rfl⟩
  · exact ⟨RX1, "FlowCurves$Curve", TX1, 4, rfl, by decide, inX1, lw_okI 224 (by decide +kernel) (by decide +kernel), Or.inl rfl⟩
  · exact ⟨RX2, "FlowCurves$Curve", TX2, 4, rfl, by decide, inX2, lw_okI 224 (by decide +kernel) (by decide +kernel), Or.inl rfl⟩
  · exact ⟨RX5, "FlowCurves$Curve", TX5, 4, rfl, by decide, inX5, lw_okI 224 (by decide +kernel) (by decide +kernel), Or.inl rfl⟩
  · exact ⟨RX7, "FlowCurves$Curve", TX7, 4, rfl, by decide, inX7, lw_okI 224 (by decide +kernel) (by decide +kernel), Or.inl rfl⟩
theorem pu_X1_15 : ∀ ci, ci ∈ [0, 1, 2, 4, 6] → aPut RX1 15 ci 1 .int true := by
  intro ci h
  simp only [List.mem_cons, List.not_mem_nil, or_false] at h
  rcases h with rfl | rfl | rfl | rfl | rfl
  · exact ⟨RX0, "FlowCurves$Curve", TX0, 5, tyX0, rfl, by decide, inX0, lw_okI 224 (by decide +kernel) (by decide +kernel), rfl, tyX0_ok, nmX0, by decide +kernel, rfl, fun _ => rfl⟩
  · exact ⟨RX1, "FlowCurves$Curve", TX1, 4, tyX1, rfl, by decide, inX1, lw_okI 224 (by decide +kernel) (by decide +kernel), rfl, tyX1_ok, nmX1, by decide +kernel, rfl, fun _ => rfl⟩
  · exact ⟨RX2, "FlowCurves$Curve", TX2, 4, tyX2, rfl, by decide, inX2, lw_okI 224 (by decide +kernel) (by decide +kernel), rfl, tyX2_ok, nmX2, by decide +kernel, rfl, fun _ => rfl⟩
  · exact ⟨RX5, "FlowCurves$Curve", TX5, 4, tyX5, rfl, by decide, inX5, lw_okI 224 (by decide +kernel) (by decide +kernel), rfl, tyX5_ok, nmX5, by decide +kernel, rfl, fun _ => rfl⟩
  · exact ⟨RX7, "FlowCurves$Curve", TX7, 4, tyX7, rfl, by decide, inX7, lw_okI 224 (by decide +kernel) (by decide +kernel), rfl, tyX7_ok, nmX7, by decide +kernel, rfl, fun _ => rfl⟩
theorem fl_X4_9 : ∀ ci, ci ∈ [0, 1, 2, 4, 6] → aFld RX4 9 ci 1 := by
  intro ci h
  simp only [List.mem_cons, List.not_mem_nil, or_false] at h
  rcases h with rfl | rfl | rfl | rfl | rfl
  · exact ⟨RX0, "FlowCurves$Curve", TX0, 5, rfl, by decide, inX0, lw_okI 225 (by decide +kernel) (by decide +kernel), Or.inl rfl⟩
  · exact ⟨RX1, "FlowCurves$Curve", TX1, 4, rfl, by decide, inX1, lw_okI 225 (by decide +kernel) (by decide +kernel), Or.inl rfl⟩
  · exact ⟨RX2, "FlowCurves$Curve", TX2, 4, rfl, by decide, inX2, lw_okI 225 (by decide +kernel) (by decide +kernel), Or.inl rfl⟩
  · exact ⟨RX5, "FlowCurves$Curve", TX5, 4, rfl, by decide, inX5, lw_okI 225 (by decide +kernel) (by decide +kernel), Or.inl rfl⟩
  · exact ⟨RX7, "FlowCurves$Curve", TX7, 4, rfl, by decide, inX7, lw_okI 225 (by decide +kernel) (by decide +kernel), Or.inl rfl⟩
theorem fl_X7_15 : aFld RX7 15 6 1 := ⟨RX7, "FlowCurves$Stair", TX7, 4, rfl, by decide, inX7, lw_okI 226 (by decide +kernel) (by decide +kernel), Or.inr (lw_okI 227 (by decide +kernel) (by decide +kernel))⟩
theorem fl_X3_31 : ∀ ci, ci ∈ [0, 1, 2, 4, 6] → aFld RX3 31 ci 1 := by
  intro ci h
  simp only [List.mem_cons, List.not_mem_nil, or_false] at h
  rcases h with rfl | rfl | rfl | rfl | rfl
  · exact ⟨RX0, "FlowCurves$Curve", TX0, 5, rfl, by decide, inX0, lw_okI 228 (by decide +kernel) (by decide +kernel), Or.inl rfl⟩
  · exact ⟨RX1, "FlowCurves$Curve", TX1, 4, rfl, by decide, inX1, lw_okI 228 (by decide +kernel) (by decide +kernel), Or.inl rfl⟩
  · exact ⟨RX2, "FlowCurves$Curve", TX2, 4, rfl, by decide, inX2, lw_okI 228 (by decide +kernel) (by decide +kernel), Or.inl rfl⟩
  · exact ⟨RX5, "FlowCurves$Curve", TX5, 4, rfl, by decide, inX5, lw_okI 228 (by decide +kernel) (by decide +kernel), Or.inl rfl⟩
  · exact ⟨RX7, "FlowCurves$Curve", TX7, 4, rfl, by decide, inX7, lw_okI 228 (by decide +kernel) (by decide +kernel), Or.inl rfl⟩
theorem fl_X9_129 : ∀ ci, ci ∈ [0, 1, 2, 4, 6] → aFld RX9 129 ci 1 := by
  intro ci h
  simp only [List.mem_cons, List.not_mem_nil, or_false] at h
  rcases h with rfl | rfl | rfl | rfl | rfl
  · exact ⟨RX0, "FlowCurves$Curve", TX0, 5, rfl, by decide, inX0, lw_okI 229 (by decide +kernel) (by decide +kernel), Or.inl rfl⟩
  · exact ⟨RX1, "FlowCurves$Curve", TX1, 4, rfl, by decide, inX1, lw_okI 229 (by decide +kernel) (by decide +kernel), Or.inl rfl⟩
  · exact ⟨RX2, "FlowCurves$Curve", TX2, 4, rfl, by decide, inX2, lw_okI 229 (by decide +kernel) (by decide +kernel), Or.inl rfl⟩
  · exact ⟨RX5, "FlowCurves$Curve", TX5, 4, rfl, by decide, inX5, lw_okI 229 (by decide +kernel) (by decide +kernel), Or.inl rfl⟩
  · exact ⟨RX7, "FlowCurves$Curve", TX7, 4, rfl, by decide, inX7, lw_okI 229 (by decide +kernel) (by decide +kernel), Or.inl rfl⟩
theorem fl_X1_18 : ∀ ci, ci ∈ [0, 1, 2, 4, 6] → aFld RX1 18 ci 2 := by
  intro ci h
  simp only [List.mem_cons, List.not_mem_nil, or_false] at h
  rcases h with rfl | rfl | rfl | rfl | rfl
  · exact ⟨RX0, "FlowCurves$Curve", TX0, 5, rfl, by decide, inX0, lw_okI 230 (by decide +kernel) (by decide +kernel), Or.inl rfl⟩
  · exact ⟨RX1, "FlowCurves$Curve", TX1, 4, rfl, by decide, inX1, lw_okI 230 (by decide +kernel) (by decide +kernel), Or.inl rfl⟩
  · exact ⟨RX2, "FlowCurves$Curve", TX2, 4, rfl, by decide, inX2, lw_okI 230 (by decide +kernel) (by decide +kernel), Or.inl rfl⟩
  · exact ⟨RX5, "FlowCurves$Curve", TX5, 4, rfl, by decide, inX5, lw_okI 230 (by decide +kernel) (by decide +kernel), Or.inl rfl⟩
  · exact ⟨RX7, "FlowCurves$Curve", TX7, 4, rfl, by decide, inX7, lw_okI 230 (by decide +kernel) (by decide +kernel), Or.inl rfl⟩
theorem pu_X1_18 : ∀ ci, ci ∈ [0, 1, 2, 4, 6] → aPut RX1 18 ci 2 .int true := by
  intro ci h
  simp only [List.mem_cons, List.not_mem_nil, or_false] at h
  rcases h with rfl | rfl | rfl | rfl | rfl
  · exact ⟨RX0, "FlowCurves$Curve", TX0, 5, tyX0, rfl, by decide, inX0, lw_okI 230 (by decide +kernel) (by decide +kernel), rfl, tyX0_ok, nmX0, by decide +kernel, rfl, fun _ => rfl⟩
  · exact ⟨RX1, "FlowCurves$Curve", TX1, 4, tyX1, rfl, by decide, inX1, lw_okI 230 (by decide +kernel) (by decide +kernel), rfl, tyX1_ok, nmX1, by decide +kernel, rfl, fun _ => rfl⟩
  · exact ⟨RX2, "FlowCurves$Curve", TX2, 4, tyX2, rfl, by decide, inX2, lw_okI 230 (by decide +kernel) (by decide +kernel), rfl, tyX2_ok, nmX2, by decide +kernel, rfl, fun _ => rfl⟩
  · exact ⟨RX5, "FlowCurves$Curve", TX5, 4, tyX5, rfl, by decide, inX5, lw_okI 230 (by decide +kernel) (by decide +kernel), rfl, tyX5_ok, nmX5, by decide +kernel, rfl, fun _ => rfl⟩
  · exact ⟨RX7, "FlowCurves$Curve", TX7, 4, tyX7, rfl, by decide, inX7, lw_okI 230 (by decide +kernel) (by decide +kernel), rfl, tyX7_ok, nmX7, by decide +kernel, rfl, fun _ => rfl⟩
theorem fl_X5_15 : ∀ ci, ci ∈ [0, 4] → aFld RX5 15 ci 2 := by
  intro ci h
  simp only [List.mem_cons, List.not_mem_nil, or_false] at h
  rcases h with rfl | rfl
  · exact ⟨RX0, "FlowCurves$Ray", TX0, 5, rfl, by decide, inX0, lw_okI 231 (by decide +kernel) (by decide +kernel), Or.inr (lw_okI 232 (by decide +kernel) (by decide +kernel))⟩
  · exact ⟨RX5, "FlowCurves$Ray", TX5, 4, rfl, by decide, inX5, lw_okI 231 (by decide +kernel) (by decide +kernel), Or.inr (lw_okI 232 (by decide +kernel) (by decide +kernel))⟩
theorem fl_X2_21 : aFld RX2 21 2 2 := ⟨RX2, "FlowCurves$Late", TX2, 4, rfl, by decide, inX2, lw_okI 233 (by decide +kernel) (by decide +kernel), Or.inr (lw_okI 234 (by decide +kernel) (by decide +kernel))⟩
theorem fl_X7_21 : aFld RX7 21 6 2 := ⟨RX7, "FlowCurves$Stair", TX7, 4, rfl, by decide, inX7, lw_okI 235 (by decide +kernel) (by decide +kernel), Or.inr (lw_okI 236 (by decide +kernel) (by decide +kernel))⟩
theorem fl_X9_132 : ∀ ci, ci ∈ [0, 1, 2, 4, 6] → aFld RX9 132 ci 2 := by
  intro ci h
  simp only [List.mem_cons, List.not_mem_nil, or_false] at h
  rcases h with rfl | rfl | rfl | rfl | rfl
  · exact ⟨RX0, "FlowCurves$Curve", TX0, 5, rfl, by decide, inX0, lw_okI 237 (by decide +kernel) (by decide +kernel), Or.inl rfl⟩
  · exact ⟨RX1, "FlowCurves$Curve", TX1, 4, rfl, by decide, inX1, lw_okI 237 (by decide +kernel) (by decide +kernel), Or.inl rfl⟩
  · exact ⟨RX2, "FlowCurves$Curve", TX2, 4, rfl, by decide, inX2, lw_okI 237 (by decide +kernel) (by decide +kernel), Or.inl rfl⟩
  · exact ⟨RX5, "FlowCurves$Curve", TX5, 4, rfl, by decide, inX5, lw_okI 237 (by decide +kernel) (by decide +kernel), Or.inl rfl⟩
  · exact ⟨RX7, "FlowCurves$Curve", TX7, 4, rfl, by decide, inX7, lw_okI 237 (by decide +kernel) (by decide +kernel), Or.inl rfl⟩
theorem fl_X1_21 : ∀ ci, ci ∈ [0, 1, 2, 4, 6] → aFld RX1 21 ci 3 := by
  intro ci h
  simp only [List.mem_cons, List.not_mem_nil, or_false] at h
  rcases h with rfl | rfl | rfl | rfl | rfl
  · exact ⟨RX0, "FlowCurves$Curve", TX0, 5, rfl, by decide, inX0, lw_okI 238 (by decide +kernel) (by decide +kernel), Or.inl rfl⟩
  · exact ⟨RX1, "FlowCurves$Curve", TX1, 4, rfl, by decide, inX1, lw_okI 238 (by decide +kernel) (by decide +kernel), Or.inl rfl⟩
  · exact ⟨RX2, "FlowCurves$Curve", TX2, 4, rfl, by decide, inX2, lw_okI 238 (by decide +kernel) (by decide +kernel), Or.inl rfl⟩
  · exact ⟨RX5, "FlowCurves$Curve", TX5, 4, rfl, by decide, inX5, lw_okI 238 (by decide +kernel) (by decide +kernel), Or.inl rfl⟩
  · exact ⟨RX7, "FlowCurves$Curve", TX7, 4, rfl, by decide, inX7, lw_okI 238 (by decide +kernel) (by decide +kernel), Or.inl rfl⟩
theorem pu_X1_21 : ∀ ci, ci ∈ [0, 1, 2, 4, 6] → aPut RX1 21 ci 3 (.array .long) true := by
  intro ci h
  simp only [List.mem_cons, List.not_mem_nil, or_false] at h
  rcases h with rfl | rfl | rfl | rfl | rfl
  · exact ⟨RX0, "FlowCurves$Curve", TX0, 5, tyX0, rfl, by decide, inX0, lw_okI 238 (by decide +kernel) (by decide +kernel), rfl, tyX0_ok, nmX0, by decide +kernel, rfl, fun _ => rfl⟩
  · exact ⟨RX1, "FlowCurves$Curve", TX1, 4, tyX1, rfl, by decide, inX1, lw_okI 238 (by decide +kernel) (by decide +kernel), rfl, tyX1_ok, nmX1, by decide +kernel, rfl, fun _ => rfl⟩
  · exact ⟨RX2, "FlowCurves$Curve", TX2, 4, tyX2, rfl, by decide, inX2, lw_okI 238 (by decide +kernel) (by decide +kernel), rfl, tyX2_ok, nmX2, by decide +kernel, rfl, fun _ => rfl⟩
  · exact ⟨RX5, "FlowCurves$Curve", TX5, 4, tyX5, rfl, by decide, inX5, lw_okI 238 (by decide +kernel) (by decide +kernel), rfl, tyX5_ok, nmX5, by decide +kernel, rfl, fun _ => rfl⟩
  · exact ⟨RX7, "FlowCurves$Curve", TX7, 4, tyX7, rfl, by decide, inX7, lw_okI 238 (by decide +kernel) (by decide +kernel), rfl, tyX7_ok, nmX7, by decide +kernel, rfl, fun _ => rfl⟩
theorem nw_X3_112 : aNew RX3 112 4 [vI 0, vI 0, vI 0, vN] := ⟨RX5, TX5, 4, tyX5, rfl, rfl, inX5, tyX5_ok, lw_okI 250 (by decide +kernel) (by decide +kernel), lw_okI 251 (by decide +kernel) (by decide +kernel), lw_okI 46 (by decide +kernel) (by decide +kernel), fun j hj => by rcases (show j = 0 ∨ j = 1 ∨ j = 2 ∨ j = 3 by omega) with rfl | rfl | rfl | rfl <;> rfl, by intro v hv; simp only [List.mem_cons, List.not_mem_nil, or_false] at hv; rcases hv with rfl | rfl | rfl | rfl <;> first | trivial | exact okI_0 | exact okJ_0⟩
theorem nw_X3_117 : aNew RX3 117 2 [vI 0, vI 0, vI 0, vN] := ⟨RX2, TX2, 4, tyX2, rfl, rfl, inX2, tyX2_ok, lw_okI 258 (by decide +kernel) (by decide +kernel), lw_okI 259 (by decide +kernel) (by decide +kernel), lw_okI 48 (by decide +kernel) (by decide +kernel), fun j hj => by rcases (show j = 0 ∨ j = 1 ∨ j = 2 ∨ j = 3 by omega) with rfl | rfl | rfl | rfl <;> rfl, by intro v hv; simp only [List.mem_cons, List.not_mem_nil, or_false] at hv; rcases hv with rfl | rfl | rfl | rfl <;> first | trivial | exact okI_0 | exact okJ_0⟩
theorem nw_X3_120 : aNew RX3 120 6 [vI 0, vI 0, vI 0, vN] := ⟨RX7, TX7, 4, tyX7, rfl, rfl, inX7, tyX7_ok, lw_okI 269 (by decide +kernel) (by decide +kernel), lw_okI 270 (by decide +kernel) (by decide +kernel), lw_okI 49 (by decide +kernel) (by decide +kernel), fun j hj => by rcases (show j = 0 ∨ j = 1 ∨ j = 2 ∨ j = 3 by omega) with rfl | rfl | rfl | rfl <;> rfl, by intro v hv; simp only [List.mem_cons, List.not_mem_nil, or_false] at hv; rcases hv with rfl | rfl | rfl | rfl <;> first | trivial | exact okI_0 | exact okJ_0⟩
theorem nw_X3_26 : aNew RX3 26 1 [vI 0, vI 0, vI 0, vN] := ⟨RX1, TX1, 4, tyX1, rfl, rfl, inX1, tyX1_ok, lw_okI 280 (by decide +kernel) (by decide +kernel), lw_okI 281 (by decide +kernel) (by decide +kernel), lw_okI 45 (by decide +kernel) (by decide +kernel), fun j hj => by rcases (show j = 0 ∨ j = 1 ∨ j = 2 ∨ j = 3 by omega) with rfl | rfl | rfl | rfl <;> rfl, by intro v hv; simp only [List.mem_cons, List.not_mem_nil, or_false] at hv; rcases hv with rfl | rfl | rfl | rfl <;> first | trivial | exact okI_0 | exact okJ_0⟩
theorem kc_X9_207 : Cond.constantLong RX9 207 (Int64.ofInt (-1)) ∈ lw_ok := lw_okI 405 (by decide +kernel) (by decide +kernel)
theorem kc_X4_40 : Cond.constant RX4 40 (Int32.ofInt (1000000000)) ∈ lw_ok := lw_okI 524 (by decide +kernel) (by decide +kernel)
theorem kc_X6_33 : Cond.constantLong RX6 33 (Int64.ofInt (1000000000)) ∈ lw_ok := lw_okI 550 (by decide +kernel) (by decide +kernel)
theorem cl_L_10 : Cond.classLink RL 10 RX10 ∈ lw_ok := lw_okI 640 (by decide +kernel) (by decide +kernel)
theorem fl_X10_47 : aFld RX10 47 9 0 := ⟨RX10, "FlowCurvesModel", TX10, 15, rfl, by decide, inX10, lw_okI 646 (by decide +kernel) (by decide +kernel), Or.inl rfl⟩
theorem pu_X10_47 : aPut RX10 47 9 0 .int false := ⟨RX10, "FlowCurvesModel", TX10, 15, tyX10, rfl, by decide, inX10, lw_okI 646 (by decide +kernel) (by decide +kernel), rfl, tyX10_ok, nmX10, by decide +kernel, rfl, fun h => absurd h (by decide)⟩
theorem fl_X10_7 : aFld RX10 7 9 1 := ⟨RX10, "FlowCurvesModel", TX10, 15, rfl, by decide, inX10, lw_okI 647 (by decide +kernel) (by decide +kernel), Or.inl rfl⟩
theorem pu_X10_7 : aPut RX10 7 9 1 (.array .int) true := ⟨RX10, "FlowCurvesModel", TX10, 15, tyX10, rfl, by decide, inX10, lw_okI 647 (by decide +kernel) (by decide +kernel), rfl, tyX10_ok, nmX10, by decide +kernel, rfl, fun _ => rfl⟩
theorem fl_X10_13 : aFld RX10 13 9 2 := ⟨RX10, "FlowCurvesModel", TX10, 15, rfl, by decide, inX10, lw_okI 648 (by decide +kernel) (by decide +kernel), Or.inl rfl⟩
theorem pu_X10_13 : aPut RX10 13 9 2 (.array .int) true := ⟨RX10, "FlowCurvesModel", TX10, 15, tyX10, rfl, by decide, inX10, lw_okI 648 (by decide +kernel) (by decide +kernel), rfl, tyX10_ok, nmX10, by decide +kernel, rfl, fun _ => rfl⟩
theorem fl_X10_16 : aFld RX10 16 9 3 := ⟨RX10, "FlowCurvesModel", TX10, 15, rfl, by decide, inX10, lw_okI 649 (by decide +kernel) (by decide +kernel), Or.inl rfl⟩
theorem pu_X10_16 : aPut RX10 16 9 3 (.array .long) true := ⟨RX10, "FlowCurvesModel", TX10, 15, tyX10, rfl, by decide, inX10, lw_okI 649 (by decide +kernel) (by decide +kernel), rfl, tyX10_ok, nmX10, by decide +kernel, rfl, fun _ => rfl⟩
theorem fl_X10_20 : aFld RX10 20 9 4 := ⟨RX10, "FlowCurvesModel", TX10, 15, rfl, by decide, inX10, lw_okI 650 (by decide +kernel) (by decide +kernel), Or.inl rfl⟩
theorem pu_X10_20 : aPut RX10 20 9 4 (.array .int) true := ⟨RX10, "FlowCurvesModel", TX10, 15, tyX10, rfl, by decide, inX10, lw_okI 650 (by decide +kernel) (by decide +kernel), rfl, tyX10_ok, nmX10, by decide +kernel, rfl, fun _ => rfl⟩
theorem fl_X10_23 : aFld RX10 23 9 5 := ⟨RX10, "FlowCurvesModel", TX10, 15, rfl, by decide, inX10, lw_okI 651 (by decide +kernel) (by decide +kernel), Or.inl rfl⟩
theorem pu_X10_23 : aPut RX10 23 9 5 (.array .long) true := ⟨RX10, "FlowCurvesModel", TX10, 15, tyX10, rfl, by decide, inX10, lw_okI 651 (by decide +kernel) (by decide +kernel), rfl, tyX10_ok, nmX10, by decide +kernel, rfl, fun _ => rfl⟩
theorem fl_X10_69 : aFld RX10 69 9 6 := ⟨RX10, "FlowCurvesModel", TX10, 15, rfl, by decide, inX10, lw_okI 652 (by decide +kernel) (by decide +kernel), Or.inl rfl⟩
theorem pu_X10_69 : aPut RX10 69 9 6 .boolean false := ⟨RX10, "FlowCurvesModel", TX10, 15, tyX10, rfl, by decide, inX10, lw_okI 652 (by decide +kernel) (by decide +kernel), rfl, tyX10_ok, nmX10, by decide +kernel, rfl, fun h => absurd h (by decide)⟩
theorem fl_X10_26 : aFld RX10 26 9 7 := ⟨RX10, "FlowCurvesModel", TX10, 15, rfl, by decide, inX10, lw_okI 653 (by decide +kernel) (by decide +kernel), Or.inl rfl⟩
theorem pu_X10_26 : aPut RX10 26 9 7 (.array .long) true := ⟨RX10, "FlowCurvesModel", TX10, 15, tyX10, rfl, by decide, inX10, lw_okI 653 (by decide +kernel) (by decide +kernel), rfl, tyX10_ok, nmX10, by decide +kernel, rfl, fun _ => rfl⟩
theorem fl_X10_76 : aFld RX10 76 9 8 := ⟨RX10, "FlowCurvesModel", TX10, 15, rfl, by decide, inX10, lw_okI 654 (by decide +kernel) (by decide +kernel), Or.inl rfl⟩
theorem pu_X10_76 : aPut RX10 76 9 8 .int false := ⟨RX10, "FlowCurvesModel", TX10, 15, tyX10, rfl, by decide, inX10, lw_okI 654 (by decide +kernel) (by decide +kernel), rfl, tyX10_ok, nmX10, by decide +kernel, rfl, fun h => absurd h (by decide)⟩
theorem fl_X10_29 : aFld RX10 29 9 9 := ⟨RX10, "FlowCurvesModel", TX10, 15, rfl, by decide, inX10, lw_okI 655 (by decide +kernel) (by decide +kernel), Or.inl rfl⟩
theorem pu_X10_29 : aPut RX10 29 9 9 (.array .long) true := ⟨RX10, "FlowCurvesModel", TX10, 15, tyX10, rfl, by decide, inX10, lw_okI 655 (by decide +kernel) (by decide +kernel), rfl, tyX10_ok, nmX10, by decide +kernel, rfl, fun _ => rfl⟩
theorem fl_X10_147 : aFld RX10 147 9 10 := ⟨RX10, "FlowCurvesModel", TX10, 15, rfl, by decide, inX10, lw_okI 656 (by decide +kernel) (by decide +kernel), Or.inl rfl⟩
theorem pu_X10_147 : aPut RX10 147 9 10 .int false := ⟨RX10, "FlowCurvesModel", TX10, 15, tyX10, rfl, by decide, inX10, lw_okI 656 (by decide +kernel) (by decide +kernel), rfl, tyX10_ok, nmX10, by decide +kernel, rfl, fun h => absurd h (by decide)⟩
theorem fl_X10_32 : aFld RX10 32 9 11 := ⟨RX10, "FlowCurvesModel", TX10, 15, rfl, by decide, inX10, lw_okI 657 (by decide +kernel) (by decide +kernel), Or.inl rfl⟩
theorem pu_X10_32 : aPut RX10 32 9 11 .int false := ⟨RX10, "FlowCurvesModel", TX10, 15, tyX10, rfl, by decide, inX10, lw_okI 657 (by decide +kernel) (by decide +kernel), rfl, tyX10_ok, nmX10, by decide +kernel, rfl, fun h => absurd h (by decide)⟩
theorem fl_X10_36 : aFld RX10 36 9 12 := ⟨RX10, "FlowCurvesModel", TX10, 15, rfl, by decide, inX10, lw_okI 658 (by decide +kernel) (by decide +kernel), Or.inl rfl⟩
theorem pu_X10_36 : aPut RX10 36 9 12 (.array .int) true := ⟨RX10, "FlowCurvesModel", TX10, 15, tyX10, rfl, by decide, inX10, lw_okI 658 (by decide +kernel) (by decide +kernel), rfl, tyX10_ok, nmX10, by decide +kernel, rfl, fun _ => rfl⟩
theorem fl_X10_42 : aFld RX10 42 9 13 := ⟨RX10, "FlowCurvesModel", TX10, 15, rfl, by decide, inX10, lw_okI 659 (by decide +kernel) (by decide +kernel), Or.inl rfl⟩
theorem pu_X10_42 : aPut RX10 42 9 13 .int false := ⟨RX10, "FlowCurvesModel", TX10, 15, tyX10, rfl, by decide, inX10, lw_okI 659 (by decide +kernel) (by decide +kernel), rfl, tyX10_ok, nmX10, by decide +kernel, rfl, fun h => absurd h (by decide)⟩
theorem fl_X10_39 : aFld RX10 39 9 14 := ⟨RX10, "FlowCurvesModel", TX10, 15, rfl, by decide, inX10, lw_okI 660 (by decide +kernel) (by decide +kernel), Or.inl rfl⟩
theorem pu_X10_39 : aPut RX10 39 9 14 (.array .long) true := ⟨RX10, "FlowCurvesModel", TX10, 15, tyX10, rfl, by decide, inX10, lw_okI 660 (by decide +kernel) (by decide +kernel), rfl, tyX10_ok, nmX10, by decide +kernel, rfl, fun _ => rfl⟩
theorem kc_X10_64 : Cond.constantLong RX10 64 (Int64.ofInt (1000000000000)) ∈ lw_ok := lw_okI 696 (by decide +kernel) (by decide +kernel)
theorem kc_X10_79 : Cond.constantLong RX10 79 (Int64.ofInt (300)) ∈ lw_ok := lw_okI 712 (by decide +kernel) (by decide +kernel)
theorem kc_X10_81 : Cond.constantLong RX10 81 (Int64.ofInt (1000000)) ∈ lw_ok := lw_okI 713 (by decide +kernel) (by decide +kernel)
theorem kc_X10_83 : Cond.constant RX10 83 (Int32.ofInt (1103515245)) ∈ lw_ok := lw_okI 714 (by decide +kernel) (by decide +kernel)
theorem kc_X10_84 : Cond.constant RX10 84 (Int32.ofInt (2147483647)) ∈ lw_ok := lw_okI 715 (by decide +kernel) (by decide +kernel)
theorem kc_X10_85 : Cond.constantLong RX10 85 (Int64.ofInt (60)) ∈ lw_ok := lw_okI 724 (by decide +kernel) (by decide +kernel)
theorem kc_X10_62 : Cond.constantLong RX10 62 (Int64.ofInt (1000000000)) ∈ lw_ok := lw_okI 725 (by decide +kernel) (by decide +kernel)
theorem kc_X10_107 : Cond.constantLong RX10 107 (Int64.ofInt (5)) ∈ lw_ok := lw_okI 746 (by decide +kernel) (by decide +kernel)
theorem kc_X10_124 : Cond.constantLong RX10 124 (Int64.ofInt (1000)) ∈ lw_ok := lw_okI 782 (by decide +kernel) (by decide +kernel)
theorem kc_X10_126 : Cond.constantLong RX10 126 (Int64.ofInt (200)) ∈ lw_ok := lw_okI 787 (by decide +kernel) (by decide +kernel)
theorem kc_X10_45 : Cond.constantLong RX10 45 (Int64.ofInt (-1)) ∈ lw_ok := lw_okI 800 (by decide +kernel) (by decide +kernel)
theorem kc_X10_136 : Cond.constantLong RX10 136 (Int64.ofInt (4)) ∈ lw_ok := lw_okI 809 (by decide +kernel) (by decide +kernel)
theorem kc_X10_153 : Cond.constantLong RX10 153 (Int64.ofInt (2)) ∈ lw_ok := lw_okI 866 (by decide +kernel) (by decide +kernel)
theorem kc_X10_155 : Cond.constantLong RX10 155 (Int64.ofInt (600)) ∈ lw_ok := lw_okI 867 (by decide +kernel) (by decide +kernel)
theorem kc_L_13 : Cond.constantLong RL 13 (Int64.ofInt (4294967295)) ∈ lw_ok := lw_okI 912 (by decide +kernel) (by decide +kernel)
theorem ki_L_9 : aLkI RL 9 mX9_init 0 := ⟨cal_X9_init, rfl, lw_okI 53 (by decide +kernel) (by decide +kernel), lw_okI 54 (by decide +kernel) (by decide +kernel), rfl, by decide +kernel⟩
theorem ko_X9_1 : Cond.methodLink RX9 1 Lib.objectInit ∈ lw_ok := lw_okI 56 (by decide +kernel) (by decide +kernel)
theorem kn_X9_32 : aLkIN RX9 32 mX6_init 0 := ⟨cal_X6_init, rfl, ⟨"FlowCurves", by decide +kernel⟩, lw_okI 64 (by decide +kernel) (by decide +kernel), rfl, by decide +kernel⟩
theorem ko_X6_3 : Cond.methodLink RX6 3 Lib.objectInit ∈ lw_ok := lw_okI 66 (by decide +kernel) (by decide +kernel)
theorem kn_X9_42 : aLkIN RX9 42 mX8_init 0 := ⟨cal_X8_init, rfl, ⟨"FlowCurves", by decide +kernel⟩, lw_okI 79 (by decide +kernel) (by decide +kernel), rfl, by decide +kernel⟩
theorem ko_X8_3 : Cond.methodLink RX8 3 Lib.objectInit ∈ lw_ok := lw_okI 81 (by decide +kernel) (by decide +kernel)
theorem kn_X9_49 : aLkIN RX9 49 mX3_init 0 := ⟨cal_X3_init, rfl, ⟨"FlowCurves", by decide +kernel⟩, lw_okI 90 (by decide +kernel) (by decide +kernel), rfl, by decide +kernel⟩
theorem ko_X3_3 : Cond.methodLink RX3 3 Lib.objectInit ∈ lw_ok := lw_okI 92 (by decide +kernel) (by decide +kernel)
theorem kv_L_15 : aLkV RL 15 8 mX9_put 1 := ⟨cal_X9_put, RX9, TX9, 10, rfl, lw_okI 134 (by decide +kernel) (by decide +kernel), lw_okI 135 (by decide +kernel) (by decide +kernel), lw_okI 136 (by decide +kernel) (by decide +kernel), by decide +kernel⟩
theorem kv_X9_59 : aLkV RX9 59 8 mX9_refused 1 := ⟨cal_X9_refused, RX9, TX9, 10, rfl, lw_okI 139 (by decide +kernel) (by decide +kernel), lw_okI 141 (by decide +kernel) (by decide +kernel), lw_okI 0 (by decide +kernel) (by decide +kernel), by decide +kernel⟩
theorem kv_X9_63 : aLkV RX9 63 8 mX9_granted 1 := ⟨cal_X9_granted, RX9, TX9, 10, rfl, lw_okI 143 (by decide +kernel) (by decide +kernel), lw_okI 145 (by decide +kernel) (by decide +kernel), lw_okI 1 (by decide +kernel) (by decide +kernel), by decide +kernel⟩
theorem kv_L_20 : aLkV RL 20 8 mX9_draw 3 := ⟨cal_X9_draw, RX9, TX9, 10, rfl, lw_okI 147 (by decide +kernel) (by decide +kernel), lw_okI 148 (by decide +kernel) (by decide +kernel), lw_okI 149 (by decide +kernel) (by decide +kernel), by decide +kernel⟩
theorem kv_L_25 : aLkV RL 25 8 mX9_drop 0 := ⟨cal_X9_drop, RX9, TX9, 10, rfl, lw_okI 155 (by decide +kernel) (by decide +kernel), lw_okI 156 (by decide +kernel) (by decide +kernel), lw_okI 157 (by decide +kernel) (by decide +kernel), by decide +kernel⟩
theorem kv_L_30 : aLkV RL 30 8 mX9_curve 2 := ⟨cal_X9_curve, RX9, TX9, 10, rfl, lw_okI 159 (by decide +kernel) (by decide +kernel), lw_okI 160 (by decide +kernel) (by decide +kernel), lw_okI 161 (by decide +kernel) (by decide +kernel), by decide +kernel⟩
theorem kv_X9_74 : aLkV RX9 74 8 mX9_rowComesRound 2 := ⟨cal_X9_rowComesRound, RX9, TX9, 10, rfl, lw_okI 164 (by decide +kernel) (by decide +kernel), lw_okI 166 (by decide +kernel) (by decide +kernel), lw_okI 2 (by decide +kernel) (by decide +kernel), by decide +kernel⟩
theorem kv_X9_78 : aLkV RX9 78 3 mX3_fromRow 4 := ⟨cal_X3_fromRow, RX3, TX3, 3, rfl, lw_okI 168 (by decide +kernel) (by decide +kernel), lw_okI 169 (by decide +kernel) (by decide +kernel), lw_okI 170 (by decide +kernel) (by decide +kernel), by decide +kernel⟩
theorem kv_X3_21 : aLkV RX3 21 3 mX3_settled 2 := ⟨cal_X3_settled, RX3, TX3, 3, rfl, lw_okI 172 (by decide +kernel) (by decide +kernel), lw_okI 174 (by decide +kernel) (by decide +kernel), lw_okI 3 (by decide +kernel) (by decide +kernel), by decide +kernel⟩
theorem kv_X3_86 : aLkV RX3 86 3 mX3_leastStep 2 := ⟨cal_X3_leastStep, RX3, TX3, 3, rfl, lw_okI 176 (by decide +kernel) (by decide +kernel), lw_okI 178 (by decide +kernel) (by decide +kernel), lw_okI 4 (by decide +kernel) (by decide +kernel), by decide +kernel⟩
theorem kv_X3_103 : aLkV RX3 103 3 mX3_alsoComesRoundBy 3 := ⟨cal_X3_alsoComesRoundBy, RX3, TX3, 3, rfl, lw_okI 180 (by decide +kernel) (by decide +kernel), lw_okI 182 (by decide +kernel) (by decide +kernel), lw_okI 5 (by decide +kernel) (by decide +kernel), by decide +kernel⟩
theorem ks_X3_93 : aLkS RX3 93 mJ7_copyOf_c38d5 2 := ⟨cal_J7_copyOf_c38d5, lw_okI 186 (by decide +kernel) (by decide +kernel), lw_okI 187 (by decide +kernel) (by decide +kernel), by decide +kernel⟩
theorem km_J7_304 : Cond.methodLink RJ7 304 ⟨"java/lang/Math", "min", "(II)I"⟩ ∈ lw_ok := lw_okI 196 (by decide +kernel) (by decide +kernel)
theorem km_J7_150 : Cond.methodLink RJ7 150 ⟨"java/lang/System", "arraycopy", "(Ljava/lang/Object;ILjava/lang/Object;II)V"⟩ ∈ lw_ok := lw_okI 199 (by decide +kernel) (by decide +kernel)
theorem ks_X3_99 : aLkS RX3 99 mX3_ofItsKind 4 := ⟨cal_X3_ofItsKind, lw_okI 202 (by decide +kernel) (by decide +kernel), lw_okI 203 (by decide +kernel) (by decide +kernel), by decide +kernel⟩
theorem ki_X3_109 : aLkI RX3 109 mX0_init 5 := ⟨cal_X0_init, rfl, lw_okI 207 (by decide +kernel) (by decide +kernel), lw_okI 208 (by decide +kernel) (by decide +kernel), rfl, by decide +kernel⟩
theorem ki_X0_3 : aLkI RX0 3 mX5_init 4 := ⟨cal_X5_init, rfl, lw_okI 210 (by decide +kernel) (by decide +kernel), lw_okI 211 (by decide +kernel) (by decide +kernel), rfl, by decide +kernel⟩
theorem ki_X5_3 : aLkI RX5 3 mX1_init 4 := ⟨cal_X1_init, rfl, lw_okI 213 (by decide +kernel) (by decide +kernel), lw_okI 214 (by decide +kernel) (by decide +kernel), rfl, by decide +kernel⟩
theorem ko_X1_3 : Cond.methodLink RX1 3 Lib.objectInit ∈ lw_ok := lw_okI 216 (by decide +kernel) (by decide +kernel)
theorem ki_X3_114 : aLkI RX3 114 mX5_init 4 := ⟨cal_X5_init, rfl, lw_okI 252 (by decide +kernel) (by decide +kernel), lw_okI 211 (by decide +kernel) (by decide +kernel), rfl, by decide +kernel⟩
theorem ki_X3_119 : aLkI RX3 119 mX2_init 4 := ⟨cal_X2_init, rfl, lw_okI 260 (by decide +kernel) (by decide +kernel), lw_okI 261 (by decide +kernel) (by decide +kernel), rfl, by decide +kernel⟩
theorem ki_X2_3 : aLkI RX2 3 mX1_init 4 := ⟨cal_X1_init, rfl, lw_okI 263 (by decide +kernel) (by decide +kernel), lw_okI 214 (by decide +kernel) (by decide +kernel), rfl, by decide +kernel⟩
theorem ki_X3_122 : aLkI RX3 122 mX7_init 4 := ⟨cal_X7_init, rfl, lw_okI 271 (by decide +kernel) (by decide +kernel), lw_okI 272 (by decide +kernel) (by decide +kernel), rfl, by decide +kernel⟩
theorem ki_X7_3 : aLkI RX7 3 mX1_init 4 := ⟨cal_X1_init, rfl, lw_okI 274 (by decide +kernel) (by decide +kernel), lw_okI 214 (by decide +kernel) (by decide +kernel), rfl, by decide +kernel⟩
theorem ki_X3_123 : aLkI RX3 123 mX1_init 4 := ⟨cal_X1_init, rfl, lw_okI 282 (by decide +kernel) (by decide +kernel), lw_okI 214 (by decide +kernel) (by decide +kernel), rfl, by decide +kernel⟩
theorem kv_X9_82 : aLkV RX9 82 8 mX9_kept 1 := ⟨cal_X9_kept, RX9, TX9, 10, rfl, lw_okI 288 (by decide +kernel) (by decide +kernel), lw_okI 290 (by decide +kernel) (by decide +kernel), lw_okI 6 (by decide +kernel) (by decide +kernel), by decide +kernel⟩
theorem kv_L_35 : aLkV RL 35 8 mX9_ray 1 := ⟨cal_X9_ray, RX9, TX9, 10, rfl, lw_okI 292 (by decide +kernel) (by decide +kernel), lw_okI 293 (by decide +kernel) (by decide +kernel), lw_okI 294 (by decide +kernel) (by decide +kernel), by decide +kernel⟩
theorem kv_X9_86 : aLkV RX9 86 3 mX3_straight 1 := ⟨cal_X3_straight, RX3, TX3, 3, rfl, lw_okI 296 (by decide +kernel) (by decide +kernel), lw_okI 297 (by decide +kernel) (by decide +kernel), lw_okI 298 (by decide +kernel) (by decide +kernel), by decide +kernel⟩
theorem kv_L_40 : aLkV RL 40 8 mX9_of 3 := ⟨cal_X9_of, RX9, TX9, 10, rfl, lw_okI 300 (by decide +kernel) (by decide +kernel), lw_okI 301 (by decide +kernel) (by decide +kernel), lw_okI 302 (by decide +kernel) (by decide +kernel), by decide +kernel⟩
theorem kv_X9_90 : aLkV RX9 90 8 mX9_curveNumbered 1 := ⟨cal_X9_curveNumbered, RX9, TX9, 10, rfl, lw_okI 304 (by decide +kernel) (by decide +kernel), lw_okI 306 (by decide +kernel) (by decide +kernel), lw_okI 7 (by decide +kernel) (by decide +kernel), by decide +kernel⟩
theorem ks_X9_93 : aLkS RX9 93 mX4_commonStep 2 := ⟨cal_X4_commonStep, lw_okI 308 (by decide +kernel) (by decide +kernel), lw_okI 309 (by decide +kernel) (by decide +kernel), by decide +kernel⟩
theorem ks_X9_99 : aLkS RX9 99 mX4_outruns 3 := ⟨cal_X4_outruns, lw_okI 311 (by decide +kernel) (by decide +kernel), lw_okI 312 (by decide +kernel) (by decide +kernel), by decide +kernel⟩
theorem ku_X4_15 : ∀ ci, ci ∈ [0, 1, 2, 4, 6] → aLkU RX4 15 ci yX1_gainIn mX1_gainIn 1 := by
  intro ci h
  simp only [List.mem_cons, List.not_mem_nil, or_false] at h
  rcases h with rfl | rfl | rfl | rfl | rfl
  · exact ⟨cal_X1_gainIn, RX0, "FlowCurves$Curve", TX0, 5, mX1_gainIn.2.1, mX1_gainIn.2.2.1, mX1_gainIn.2.2.2, rfl, lw_okI 314 (by decide +kernel) (by decide +kernel), lw_okI 317 (by decide +kernel) (by decide +kernel), lw_okI 315 (by decide +kernel) (by decide +kernel), cal_X1_gainIn.1, lw_okI 318 (by decide +kernel) (by decide +kernel), lw_okI 315 (by decide +kernel) (by decide +kernel), ⟨by decide +kernel, by decide +kernel⟩, by decide +kernel⟩
  · exact ⟨cal_X1_gainIn, RX1, "FlowCurves$Curve", TX1, 4, mX1_gainIn.2.1, mX1_gainIn.2.2.1, mX1_gainIn.2.2.2, rfl, lw_okI 314 (by decide +kernel) (by decide +kernel), lw_okI 317 (by decide +kernel) (by decide +kernel), lw_okI 315 (by decide +kernel) (by decide +kernel), cal_X1_gainIn.1, lw_okI 316 (by decide +kernel) (by decide +kernel), lw_okI 315 (by decide +kernel) (by decide +kernel), ⟨by decide +kernel, by decide +kernel⟩, by decide +kernel⟩
  · exact ⟨cal_X1_gainIn, RX2, "FlowCurves$Curve", TX2, 4, mX1_gainIn.2.1, mX1_gainIn.2.2.1, mX1_gainIn.2.2.2, rfl, lw_okI 314 (by decide +kernel) (by decide +kernel), lw_okI 317 (by decide +kernel) (by decide +kernel), lw_okI 315 (by decide +kernel) (by decide +kernel), cal_X1_gainIn.1, lw_okI 319 (by decide +kernel) (by decide +kernel), lw_okI 315 (by decide +kernel) (by decide +kernel), ⟨by decide +kernel, by decide +kernel⟩, by decide +kernel⟩
  · exact ⟨cal_X1_gainIn, RX5, "FlowCurves$Curve", TX5, 4, mX1_gainIn.2.1, mX1_gainIn.2.2.1, mX1_gainIn.2.2.2, rfl, lw_okI 314 (by decide +kernel) (by decide +kernel), lw_okI 317 (by decide +kernel) (by decide +kernel), lw_okI 315 (by decide +kernel) (by decide +kernel), cal_X1_gainIn.1, lw_okI 320 (by decide +kernel) (by decide +kernel), lw_okI 315 (by decide +kernel) (by decide +kernel), ⟨by decide +kernel, by decide +kernel⟩, by decide +kernel⟩
  · exact ⟨cal_X1_gainIn, RX7, "FlowCurves$Curve", TX7, 4, mX1_gainIn.2.1, mX1_gainIn.2.2.1, mX1_gainIn.2.2.2, rfl, lw_okI 314 (by decide +kernel) (by decide +kernel), lw_okI 317 (by decide +kernel) (by decide +kernel), lw_okI 315 (by decide +kernel) (by decide +kernel), cal_X1_gainIn.1, lw_okI 321 (by decide +kernel) (by decide +kernel), lw_okI 315 (by decide +kernel) (by decide +kernel), ⟨by decide +kernel, by decide +kernel⟩, by decide +kernel⟩
theorem kv_X9_103 : aLkV RX9 103 3 mX3_fromBoth 4 := ⟨cal_X3_fromBoth, RX3, TX3, 3, rfl, lw_okI 323 (by decide +kernel) (by decide +kernel), lw_okI 324 (by decide +kernel) (by decide +kernel), lw_okI 325 (by decide +kernel) (by decide +kernel), by decide +kernel⟩
theorem km_X3_44 : Cond.methodLink RX3 44 ⟨"java/lang/Math", "max", "(II)I"⟩ ∈ lw_ok := lw_okI 327 (by decide +kernel) (by decide +kernel)
theorem ks_X3_47 : aLkS RX3 47 mX3_spread 2 := ⟨cal_X3_spread, lw_okI 330 (by decide +kernel) (by decide +kernel), lw_okI 331 (by decide +kernel) (by decide +kernel), by decide +kernel⟩
theorem ku_X3_40 : ∀ ci, ci ∈ [0, 1, 2, 4, 6] → aLkU RX3 40 ci yX1_amount mX1_amount 1 := by
  intro ci h
  simp only [List.mem_cons, List.not_mem_nil, or_false] at h
  rcases h with rfl | rfl | rfl | rfl | rfl
  · exact ⟨cal_X1_amount, RX0, "FlowCurves$Curve", TX0, 5, mX1_amount.2.1, mX1_amount.2.2.1, mX1_amount.2.2.2, rfl, lw_okI 333 (by decide +kernel) (by decide +kernel), lw_okI 336 (by decide +kernel) (by decide +kernel), lw_okI 334 (by decide +kernel) (by decide +kernel), cal_X1_amount.1, lw_okI 337 (by decide +kernel) (by decide +kernel), lw_okI 334 (by decide +kernel) (by decide +kernel), ⟨by decide +kernel, by decide +kernel⟩, by decide +kernel⟩
  · exact ⟨cal_X1_amount, RX1, "FlowCurves$Curve", TX1, 4, mX1_amount.2.1, mX1_amount.2.2.1, mX1_amount.2.2.2, rfl, lw_okI 333 (by decide +kernel) (by decide +kernel), lw_okI 336 (by decide +kernel) (by decide +kernel), lw_okI 334 (by decide +kernel) (by decide +kernel), cal_X1_amount.1, lw_okI 335 (by decide +kernel) (by decide +kernel), lw_okI 334 (by decide +kernel) (by decide +kernel), ⟨by decide +kernel, by decide +kernel⟩, by decide +kernel⟩
  · exact ⟨cal_X1_amount, RX2, "FlowCurves$Curve", TX2, 4, mX1_amount.2.1, mX1_amount.2.2.1, mX1_amount.2.2.2, rfl, lw_okI 333 (by decide +kernel) (by decide +kernel), lw_okI 336 (by decide +kernel) (by decide +kernel), lw_okI 334 (by decide +kernel) (by decide +kernel), cal_X1_amount.1, lw_okI 338 (by decide +kernel) (by decide +kernel), lw_okI 334 (by decide +kernel) (by decide +kernel), ⟨by decide +kernel, by decide +kernel⟩, by decide +kernel⟩
  · exact ⟨cal_X1_amount, RX5, "FlowCurves$Curve", TX5, 4, mX1_amount.2.1, mX1_amount.2.2.1, mX1_amount.2.2.2, rfl, lw_okI 333 (by decide +kernel) (by decide +kernel), lw_okI 336 (by decide +kernel) (by decide +kernel), lw_okI 334 (by decide +kernel) (by decide +kernel), cal_X1_amount.1, lw_okI 339 (by decide +kernel) (by decide +kernel), lw_okI 334 (by decide +kernel) (by decide +kernel), ⟨by decide +kernel, by decide +kernel⟩, by decide +kernel⟩
  · exact ⟨cal_X1_amount, RX7, "FlowCurves$Curve", TX7, 4, mX1_amount.2.1, mX1_amount.2.2.1, mX1_amount.2.2.2, rfl, lw_okI 333 (by decide +kernel) (by decide +kernel), lw_okI 336 (by decide +kernel) (by decide +kernel), lw_okI 334 (by decide +kernel) (by decide +kernel), cal_X1_amount.1, lw_okI 340 (by decide +kernel) (by decide +kernel), lw_okI 334 (by decide +kernel) (by decide +kernel), ⟨by decide +kernel, by decide +kernel⟩, by decide +kernel⟩
theorem kv_X3_51 : aLkV RX3 51 3 mX3_laySideBySide 2 := ⟨cal_X3_laySideBySide, RX3, TX3, 3, rfl, lw_okI 342 (by decide +kernel) (by decide +kernel), lw_okI 344 (by decide +kernel) (by decide +kernel), lw_okI 8 (by decide +kernel) (by decide +kernel), by decide +kernel⟩
theorem km_X3_80 : Cond.methodLink RX3 80 ⟨"java/lang/Math", "min", "(JJ)J"⟩ ∈ lw_ok := lw_okI 346 (by decide +kernel) (by decide +kernel)
theorem km_X3_77 : Cond.methodLink RX3 77 ⟨"java/lang/Math", "max", "(JJ)J"⟩ ∈ lw_ok := lw_okI 349 (by decide +kernel) (by decide +kernel)
theorem kv_X3_55 : aLkV RX3 55 3 mX3_layRest 1 := ⟨cal_X3_layRest, RX3, TX3, 3, rfl, lw_okI 352 (by decide +kernel) (by decide +kernel), lw_okI 354 (by decide +kernel) (by decide +kernel), lw_okI 9 (by decide +kernel) (by decide +kernel), by decide +kernel⟩
theorem kv_X3_59 : aLkV RX3 59 3 mX3_layBoth 3 := ⟨cal_X3_layBoth, RX3, TX3, 3, rfl, lw_okI 356 (by decide +kernel) (by decide +kernel), lw_okI 358 (by decide +kernel) (by decide +kernel), lw_okI 10 (by decide +kernel) (by decide +kernel), by decide +kernel⟩
theorem kv_X3_82 : aLkV RX3 82 3 mX3_leastTogether 3 := ⟨cal_X3_leastTogether, RX3, TX3, 3, rfl, lw_okI 360 (by decide +kernel) (by decide +kernel), lw_okI 362 (by decide +kernel) (by decide +kernel), lw_okI 11 (by decide +kernel) (by decide +kernel), by decide +kernel⟩
theorem km_X3_34 : Cond.methodLink RX3 34 ⟨"java/lang/Math", "min", "(II)I"⟩ ∈ lw_ok := lw_okI 364 (by decide +kernel) (by decide +kernel)
theorem kv_X3_63 : aLkV RX3 63 3 mX3_layOff 2 := ⟨cal_X3_layOff, RX3, TX3, 3, rfl, lw_okI 365 (by decide +kernel) (by decide +kernel), lw_okI 367 (by decide +kernel) (by decide +kernel), lw_okI 12 (by decide +kernel) (by decide +kernel), by decide +kernel⟩
theorem ku_X3_66 : ∀ ci, ci ∈ [0, 1, 2, 4, 6] → aLkU RX3 66 ci yX1_gainIn mX1_gainIn 1 := by
  intro ci h
  simp only [List.mem_cons, List.not_mem_nil, or_false] at h
  rcases h with rfl | rfl | rfl | rfl | rfl
  · exact ⟨cal_X1_gainIn, RX0, "FlowCurves$Curve", TX0, 5, mX1_gainIn.2.1, mX1_gainIn.2.2.1, mX1_gainIn.2.2.2, rfl, lw_okI 369 (by decide +kernel) (by decide +kernel), lw_okI 317 (by decide +kernel) (by decide +kernel), lw_okI 315 (by decide +kernel) (by decide +kernel), cal_X1_gainIn.1, lw_okI 318 (by decide +kernel) (by decide +kernel), lw_okI 315 (by decide +kernel) (by decide +kernel), ⟨by decide +kernel, by decide +kernel⟩, by decide +kernel⟩
  · exact ⟨cal_X1_gainIn, RX1, "FlowCurves$Curve", TX1, 4, mX1_gainIn.2.1, mX1_gainIn.2.2.1, mX1_gainIn.2.2.2, rfl, lw_okI 369 (by decide +kernel) (by decide +kernel), lw_okI 317 (by decide +kernel) (by decide +kernel), lw_okI 315 (by decide +kernel) (by decide +kernel), cal_X1_gainIn.1, lw_okI 316 (by decide +kernel) (by decide +kernel), lw_okI 315 (by decide +kernel) (by decide +kernel), ⟨by decide +kernel, by decide +kernel⟩, by decide +kernel⟩
  · exact ⟨cal_X1_gainIn, RX2, "FlowCurves$Curve", TX2, 4, mX1_gainIn.2.1, mX1_gainIn.2.2.1, mX1_gainIn.2.2.2, rfl, lw_okI 369 (by decide +kernel) (by decide +kernel), lw_okI 317 (by decide +kernel) (by decide +kernel), lw_okI 315 (by decide +kernel) (by decide +kernel), cal_X1_gainIn.1, lw_okI 319 (by decide +kernel) (by decide +kernel), lw_okI 315 (by decide +kernel) (by decide +kernel), ⟨by decide +kernel, by decide +kernel⟩, by decide +kernel⟩
  · exact ⟨cal_X1_gainIn, RX5, "FlowCurves$Curve", TX5, 4, mX1_gainIn.2.1, mX1_gainIn.2.2.1, mX1_gainIn.2.2.2, rfl, lw_okI 369 (by decide +kernel) (by decide +kernel), lw_okI 317 (by decide +kernel) (by decide +kernel), lw_okI 315 (by decide +kernel) (by decide +kernel), cal_X1_gainIn.1, lw_okI 320 (by decide +kernel) (by decide +kernel), lw_okI 315 (by decide +kernel) (by decide +kernel), ⟨by decide +kernel, by decide +kernel⟩, by decide +kernel⟩
  · exact ⟨cal_X1_gainIn, RX7, "FlowCurves$Curve", TX7, 4, mX1_gainIn.2.1, mX1_gainIn.2.2.1, mX1_gainIn.2.2.2, rfl, lw_okI 369 (by decide +kernel) (by decide +kernel), lw_okI 317 (by decide +kernel) (by decide +kernel), lw_okI 315 (by decide +kernel) (by decide +kernel), cal_X1_gainIn.1, lw_okI 321 (by decide +kernel) (by decide +kernel), lw_okI 315 (by decide +kernel) (by decide +kernel), ⟨by decide +kernel, by decide +kernel⟩, by decide +kernel⟩
theorem ks_X3_69 : aLkS RX3 69 mX3_gainOf 3 := ⟨cal_X3_gainOf, lw_okI 370 (by decide +kernel) (by decide +kernel), lw_okI 371 (by decide +kernel) (by decide +kernel), by decide +kernel⟩
theorem kv_X3_73 : aLkV RX3 73 3 mX3_comesRound 3 := ⟨cal_X3_comesRound, RX3, TX3, 3, rfl, lw_okI 373 (by decide +kernel) (by decide +kernel), lw_okI 375 (by decide +kernel) (by decide +kernel), lw_okI 13 (by decide +kernel) (by decide +kernel), by decide +kernel⟩
theorem kv_L_44 : aLkV RL 44 8 mX9_times 2 := ⟨cal_X9_times, RX9, TX9, 10, rfl, lw_okI 377 (by decide +kernel) (by decide +kernel), lw_okI 378 (by decide +kernel) (by decide +kernel), lw_okI 379 (by decide +kernel) (by decide +kernel), by decide +kernel⟩
theorem kv_X9_107 : aLkV RX9 107 3 mX3_multiplied 2 := ⟨cal_X3_multiplied, RX3, TX3, 3, rfl, lw_okI 381 (by decide +kernel) (by decide +kernel), lw_okI 382 (by decide +kernel) (by decide +kernel), lw_okI 383 (by decide +kernel) (by decide +kernel), by decide +kernel⟩
theorem kv_L_48 : aLkV RL 48 8 mX9_shift 2 := ⟨cal_X9_shift, RX9, TX9, 10, rfl, lw_okI 385 (by decide +kernel) (by decide +kernel), lw_okI 386 (by decide +kernel) (by decide +kernel), lw_okI 387 (by decide +kernel) (by decide +kernel), by decide +kernel⟩
theorem kv_X9_111 : aLkV RX9 111 3 mX3_delayed 2 := ⟨cal_X3_delayed, RX3, TX3, 3, rfl, lw_okI 389 (by decide +kernel) (by decide +kernel), lw_okI 390 (by decide +kernel) (by decide +kernel), lw_okI 391 (by decide +kernel) (by decide +kernel), by decide +kernel⟩
theorem kv_L_52 : aLkV RL 52 8 mX9_undo 0 := ⟨cal_X9_undo, RX9, TX9, 10, rfl, lw_okI 393 (by decide +kernel) (by decide +kernel), lw_okI 394 (by decide +kernel) (by decide +kernel), lw_okI 395 (by decide +kernel) (by decide +kernel), by decide +kernel⟩
theorem kv_L_56 : aLkV RL 56 8 mX9_at 2 := ⟨cal_X9_at, RX9, TX9, 10, rfl, lw_okI 397 (by decide +kernel) (by decide +kernel), lw_okI 398 (by decide +kernel) (by decide +kernel), lw_okI 399 (by decide +kernel) (by decide +kernel), by decide +kernel⟩
theorem kv_X9_114 : aLkV RX9 114 8 mX9_refusedAmount 1 := ⟨cal_X9_refusedAmount, RX9, TX9, 10, rfl, lw_okI 401 (by decide +kernel) (by decide +kernel), lw_okI 403 (by decide +kernel) (by decide +kernel), lw_okI 14 (by decide +kernel) (by decide +kernel), by decide +kernel⟩
theorem ku_X9_118_0 : aLkU RX9 118 0 yX1_asked mX0_asked 2 := ⟨cal_X0_asked, RX0, "FlowCurves$Curve", TX0, 5, mX1_asked.2.1, mX1_asked.2.2.1, mX1_asked.2.2.2, rfl, lw_okI 406 (by decide +kernel) (by decide +kernel), lw_okI 409 (by decide +kernel) (by decide +kernel), lw_okI 407 (by decide +kernel) (by decide +kernel), cal_X1_asked.1, lw_okI 410 (by decide +kernel) (by decide +kernel), lw_okI 411 (by decide +kernel) (by decide +kernel), ⟨by decide +kernel, by decide +kernel⟩, by decide +kernel⟩
theorem ku_X9_118_1 : aLkU RX9 118 1 yX1_asked mX1_asked 2 := ⟨cal_X1_asked, RX1, "FlowCurves$Curve", TX1, 4, mX1_asked.2.1, mX1_asked.2.2.1, mX1_asked.2.2.2, rfl, lw_okI 406 (by decide +kernel) (by decide +kernel), lw_okI 409 (by decide +kernel) (by decide +kernel), lw_okI 407 (by decide +kernel) (by decide +kernel), cal_X1_asked.1, lw_okI 408 (by decide +kernel) (by decide +kernel), lw_okI 407 (by decide +kernel) (by decide +kernel), ⟨by decide +kernel, by decide +kernel⟩, by decide +kernel⟩
theorem ku_X9_118_2 : aLkU RX9 118 2 yX1_asked mX2_asked 2 := ⟨cal_X2_asked, RX2, "FlowCurves$Curve", TX2, 4, mX1_asked.2.1, mX1_asked.2.2.1, mX1_asked.2.2.2, rfl, lw_okI 406 (by decide +kernel) (by decide +kernel), lw_okI 409 (by decide +kernel) (by decide +kernel), lw_okI 407 (by decide +kernel) (by decide +kernel), cal_X1_asked.1, lw_okI 421 (by decide +kernel) (by decide +kernel), lw_okI 422 (by decide +kernel) (by decide +kernel), ⟨by decide +kernel, by decide +kernel⟩, by decide +kernel⟩
theorem ku_X9_118_4 : aLkU RX9 118 4 yX1_asked mX5_asked 2 := ⟨cal_X5_asked, RX5, "FlowCurves$Curve", TX5, 4, mX1_asked.2.1, mX1_asked.2.2.1, mX1_asked.2.2.2, rfl, lw_okI 406 (by decide +kernel) (by decide +kernel), lw_okI 409 (by decide +kernel) (by decide +kernel), lw_okI 407 (by decide +kernel) (by decide +kernel), cal_X1_asked.1, lw_okI 425 (by decide +kernel) (by decide +kernel), lw_okI 418 (by decide +kernel) (by decide +kernel), ⟨by decide +kernel, by decide +kernel⟩, by decide +kernel⟩
theorem ku_X9_118_6 : aLkU RX9 118 6 yX1_asked mX7_asked 2 := ⟨cal_X7_asked, RX7, "FlowCurves$Curve", TX7, 4, mX1_asked.2.1, mX1_asked.2.2.1, mX1_asked.2.2.2, rfl, lw_okI 406 (by decide +kernel) (by decide +kernel), lw_okI 409 (by decide +kernel) (by decide +kernel), lw_okI 407 (by decide +kernel) (by decide +kernel), cal_X1_asked.1, lw_okI 426 (by decide +kernel) (by decide +kernel), lw_okI 427 (by decide +kernel) (by decide +kernel), ⟨by decide +kernel, by decide +kernel⟩, by decide +kernel⟩
theorem kv_X0_15 : aLkV RX0 15 7 mX8_mark 1 := ⟨cal_X8_mark, RX8, TX8, 1, rfl, lw_okI 413 (by decide +kernel) (by decide +kernel), lw_okI 414 (by decide +kernel) (by decide +kernel), lw_okI 415 (by decide +kernel) (by decide +kernel), by decide +kernel⟩
theorem kz_X0_21 : aLkSU RX0 21 0 mX5_asked 2 := ⟨cal_X5_asked, RX0, TX0, 5, rfl, lw_okI 417 (by decide +kernel) (by decide +kernel), lw_okI 913 (by decide +kernel) (by decide +kernel), lw_okI 249 (by decide +kernel) (by decide +kernel), lw_okI 418 (by decide +kernel) (by decide +kernel), by decide +kernel, by decide +kernel⟩
theorem kv_X5_9 : aLkV RX5 9 7 mX8_mark 1 := ⟨cal_X8_mark, RX8, TX8, 1, rfl, lw_okI 420 (by decide +kernel) (by decide +kernel), lw_okI 414 (by decide +kernel) (by decide +kernel), lw_okI 415 (by decide +kernel) (by decide +kernel), by decide +kernel⟩
theorem kv_X2_9 : aLkV RX2 9 7 mX8_mark 1 := ⟨cal_X8_mark, RX8, TX8, 1, rfl, lw_okI 424 (by decide +kernel) (by decide +kernel), lw_okI 414 (by decide +kernel) (by decide +kernel), lw_okI 415 (by decide +kernel) (by decide +kernel), by decide +kernel⟩
theorem kv_X7_9 : aLkV RX7 9 7 mX8_mark 1 := ⟨cal_X8_mark, RX8, TX8, 1, rfl, lw_okI 429 (by decide +kernel) (by decide +kernel), lw_okI 414 (by decide +kernel) (by decide +kernel), lw_okI 415 (by decide +kernel) (by decide +kernel), by decide +kernel⟩
theorem kv_X1_25 : aLkV RX1 25 7 mX8_mark 1 := ⟨cal_X8_mark, RX8, TX8, 1, rfl, lw_okI 431 (by decide +kernel) (by decide +kernel), lw_okI 414 (by decide +kernel) (by decide +kernel), lw_okI 415 (by decide +kernel) (by decide +kernel), by decide +kernel⟩
theorem ku_X1_31 : ∀ ci, ci ∈ [0, 1, 2, 4, 6] → aLkU RX1 31 ci yX1_amount mX1_amount 1 := by
  intro ci h
  simp only [List.mem_cons, List.not_mem_nil, or_false] at h
  rcases h with rfl | rfl | rfl | rfl | rfl
  · exact ⟨cal_X1_amount, RX0, "FlowCurves$Curve", TX0, 5, mX1_amount.2.1, mX1_amount.2.2.1, mX1_amount.2.2.2, rfl, lw_okI 432 (by decide +kernel) (by decide +kernel), lw_okI 336 (by decide +kernel) (by decide +kernel), lw_okI 334 (by decide +kernel) (by decide +kernel), cal_X1_amount.1, lw_okI 337 (by decide +kernel) (by decide +kernel), lw_okI 334 (by decide +kernel) (by decide +kernel), ⟨by decide +kernel, by decide +kernel⟩, by decide +kernel⟩
  · exact ⟨cal_X1_amount, RX1, "FlowCurves$Curve", TX1, 4, mX1_amount.2.1, mX1_amount.2.2.1, mX1_amount.2.2.2, rfl, lw_okI 432 (by decide +kernel) (by decide +kernel), lw_okI 336 (by decide +kernel) (by decide +kernel), lw_okI 334 (by decide +kernel) (by decide +kernel), cal_X1_amount.1, lw_okI 335 (by decide +kernel) (by decide +kernel), lw_okI 334 (by decide +kernel) (by decide +kernel), ⟨by decide +kernel, by decide +kernel⟩, by decide +kernel⟩
  · exact ⟨cal_X1_amount, RX2, "FlowCurves$Curve", TX2, 4, mX1_amount.2.1, mX1_amount.2.2.1, mX1_amount.2.2.2, rfl, lw_okI 432 (by decide +kernel) (by decide +kernel), lw_okI 336 (by decide +kernel) (by decide +kernel), lw_okI 334 (by decide +kernel) (by decide +kernel), cal_X1_amount.1, lw_okI 338 (by decide +kernel) (by decide +kernel), lw_okI 334 (by decide +kernel) (by decide +kernel), ⟨by decide +kernel, by decide +kernel⟩, by decide +kernel⟩
  · exact ⟨cal_X1_amount, RX5, "FlowCurves$Curve", TX5, 4, mX1_amount.2.1, mX1_amount.2.2.1, mX1_amount.2.2.2, rfl, lw_okI 432 (by decide +kernel) (by decide +kernel), lw_okI 336 (by decide +kernel) (by decide +kernel), lw_okI 334 (by decide +kernel) (by decide +kernel), cal_X1_amount.1, lw_okI 339 (by decide +kernel) (by decide +kernel), lw_okI 334 (by decide +kernel) (by decide +kernel), ⟨by decide +kernel, by decide +kernel⟩, by decide +kernel⟩
  · exact ⟨cal_X1_amount, RX7, "FlowCurves$Curve", TX7, 4, mX1_amount.2.1, mX1_amount.2.2.1, mX1_amount.2.2.2, rfl, lw_okI 432 (by decide +kernel) (by decide +kernel), lw_okI 336 (by decide +kernel) (by decide +kernel), lw_okI 334 (by decide +kernel) (by decide +kernel), cal_X1_amount.1, lw_okI 340 (by decide +kernel) (by decide +kernel), lw_okI 334 (by decide +kernel) (by decide +kernel), ⟨by decide +kernel, by decide +kernel⟩, by decide +kernel⟩
theorem kv_X9_122 : aLkV RX9 122 8 mX9_grantedAmount 1 := ⟨cal_X9_grantedAmount, RX9, TX9, 10, rfl, lw_okI 433 (by decide +kernel) (by decide +kernel), lw_okI 435 (by decide +kernel) (by decide +kernel), lw_okI 15 (by decide +kernel) (by decide +kernel), by decide +kernel⟩
theorem kv_L_61 : aLkV RL 61 8 mX9_about 2 := ⟨cal_X9_about, RX9, TX9, 10, rfl, lw_okI 437 (by decide +kernel) (by decide +kernel), lw_okI 438 (by decide +kernel) (by decide +kernel), lw_okI 439 (by decide +kernel) (by decide +kernel), by decide +kernel⟩
theorem ku_X9_135_0 : aLkU RX9 135 0 yX1_kind mX0_kind 0 := ⟨cal_X0_kind, RX0, "FlowCurves$Curve", TX0, 5, mX1_kind.2.1, mX1_kind.2.2.1, mX1_kind.2.2.2, rfl, lw_okI 441 (by decide +kernel) (by decide +kernel), lw_okI 444 (by decide +kernel) (by decide +kernel), lw_okI 442 (by decide +kernel) (by decide +kernel), cal_X1_kind.1, lw_okI 445 (by decide +kernel) (by decide +kernel), lw_okI 446 (by decide +kernel) (by decide +kernel), ⟨by decide +kernel, by decide +kernel⟩, by decide +kernel⟩
theorem ku_X9_135_1 : aLkU RX9 135 1 yX1_kind mX1_kind 0 := ⟨cal_X1_kind, RX1, "FlowCurves$Curve", TX1, 4, mX1_kind.2.1, mX1_kind.2.2.1, mX1_kind.2.2.2, rfl, lw_okI 441 (by decide +kernel) (by decide +kernel), lw_okI 444 (by decide +kernel) (by decide +kernel), lw_okI 442 (by decide +kernel) (by decide +kernel), cal_X1_kind.1, lw_okI 443 (by decide +kernel) (by decide +kernel), lw_okI 442 (by decide +kernel) (by decide +kernel), ⟨by decide +kernel, by decide +kernel⟩, by decide +kernel⟩
theorem ku_X9_135_2 : aLkU RX9 135 2 yX1_kind mX2_kind 0 := ⟨cal_X2_kind, RX2, "FlowCurves$Curve", TX2, 4, mX1_kind.2.1, mX1_kind.2.2.1, mX1_kind.2.2.2, rfl, lw_okI 441 (by decide +kernel) (by decide +kernel), lw_okI 444 (by decide +kernel) (by decide +kernel), lw_okI 442 (by decide +kernel) (by decide +kernel), cal_X1_kind.1, lw_okI 448 (by decide +kernel) (by decide +kernel), lw_okI 449 (by decide +kernel) (by decide +kernel), ⟨by decide +kernel, by decide +kernel⟩, by decide +kernel⟩
theorem ku_X9_135_4 : aLkU RX9 135 4 yX1_kind mX5_kind 0 := ⟨cal_X5_kind, RX5, "FlowCurves$Curve", TX5, 4, mX1_kind.2.1, mX1_kind.2.2.1, mX1_kind.2.2.2, rfl, lw_okI 441 (by decide +kernel) (by decide +kernel), lw_okI 444 (by decide +kernel) (by decide +kernel), lw_okI 442 (by decide +kernel) (by decide +kernel), cal_X1_kind.1, lw_okI 451 (by decide +kernel) (by decide +kernel), lw_okI 452 (by decide +kernel) (by decide +kernel), ⟨by decide +kernel, by decide +kernel⟩, by decide +kernel⟩
theorem ku_X9_135_6 : aLkU RX9 135 6 yX1_kind mX7_kind 0 := ⟨cal_X7_kind, RX7, "FlowCurves$Curve", TX7, 4, mX1_kind.2.1, mX1_kind.2.2.1, mX1_kind.2.2.2, rfl, lw_okI 441 (by decide +kernel) (by decide +kernel), lw_okI 444 (by decide +kernel) (by decide +kernel), lw_okI 442 (by decide +kernel) (by decide +kernel), cal_X1_kind.1, lw_okI 454 (by decide +kernel) (by decide +kernel), lw_okI 455 (by decide +kernel) (by decide +kernel), ⟨by decide +kernel, by decide +kernel⟩, by decide +kernel⟩
theorem ku_X9_139 : ∀ ci, ci ∈ [0, 1, 2, 4, 6] → aLkU RX9 139 ci yX1_isClosed mX1_isClosed 0 := by
  intro ci h
  simp only [List.mem_cons, List.not_mem_nil, or_false] at h
  rcases h with rfl | rfl | rfl | rfl | rfl
  · exact ⟨cal_X1_isClosed, RX0, "FlowCurves$Curve", TX0, 5, mX1_isClosed.2.1, mX1_isClosed.2.2.1, mX1_isClosed.2.2.2, rfl, lw_okI 458 (by decide +kernel) (by decide +kernel), lw_okI 461 (by decide +kernel) (by decide +kernel), lw_okI 459 (by decide +kernel) (by decide +kernel), cal_X1_isClosed.1, lw_okI 462 (by decide +kernel) (by decide +kernel), lw_okI 459 (by decide +kernel) (by decide +kernel), ⟨by decide +kernel, by decide +kernel⟩, by decide +kernel⟩
  · exact ⟨cal_X1_isClosed, RX1, "FlowCurves$Curve", TX1, 4, mX1_isClosed.2.1, mX1_isClosed.2.2.1, mX1_isClosed.2.2.2, rfl, lw_okI 458 (by decide +kernel) (by decide +kernel), lw_okI 461 (by decide +kernel) (by decide +kernel), lw_okI 459 (by decide +kernel) (by decide +kernel), cal_X1_isClosed.1, lw_okI 460 (by decide +kernel) (by decide +kernel), lw_okI 459 (by decide +kernel) (by decide +kernel), ⟨by decide +kernel, by decide +kernel⟩, by decide +kernel⟩
  · exact ⟨cal_X1_isClosed, RX2, "FlowCurves$Curve", TX2, 4, mX1_isClosed.2.1, mX1_isClosed.2.2.1, mX1_isClosed.2.2.2, rfl, lw_okI 458 (by decide +kernel) (by decide +kernel), lw_okI 461 (by decide +kernel) (by decide +kernel), lw_okI 459 (by decide +kernel) (by decide +kernel), cal_X1_isClosed.1, lw_okI 463 (by decide +kernel) (by decide +kernel), lw_okI 459 (by decide +kernel) (by decide +kernel), ⟨by decide +kernel, by decide +kernel⟩, by decide +kernel⟩
  · exact ⟨cal_X1_isClosed, RX5, "FlowCurves$Curve", TX5, 4, mX1_isClosed.2.1, mX1_isClosed.2.2.1, mX1_isClosed.2.2.2, rfl, lw_okI 458 (by decide +kernel) (by decide +kernel), lw_okI 461 (by decide +kernel) (by decide +kernel), lw_okI 459 (by decide +kernel) (by decide +kernel), cal_X1_isClosed.1, lw_okI 464 (by decide +kernel) (by decide +kernel), lw_okI 459 (by decide +kernel) (by decide +kernel), ⟨by decide +kernel, by decide +kernel⟩, by decide +kernel⟩
  · exact ⟨cal_X1_isClosed, RX7, "FlowCurves$Curve", TX7, 4, mX1_isClosed.2.1, mX1_isClosed.2.2.1, mX1_isClosed.2.2.2, rfl, lw_okI 458 (by decide +kernel) (by decide +kernel), lw_okI 461 (by decide +kernel) (by decide +kernel), lw_okI 459 (by decide +kernel) (by decide +kernel), cal_X1_isClosed.1, lw_okI 465 (by decide +kernel) (by decide +kernel), lw_okI 459 (by decide +kernel) (by decide +kernel), ⟨by decide +kernel, by decide +kernel⟩, by decide +kernel⟩
theorem kv_L_65 : aLkV RL 65 8 mX9_rate 2 := ⟨cal_X9_rate, RX9, TX9, 10, rfl, lw_okI 467 (by decide +kernel) (by decide +kernel), lw_okI 468 (by decide +kernel) (by decide +kernel), lw_okI 469 (by decide +kernel) (by decide +kernel), by decide +kernel⟩
theorem ku_X9_143 : ∀ ci, ci ∈ [0, 1, 2, 4, 6] → aLkU RX9 143 ci yX1_sharedByGainAndStep mX1_sharedByGainAndStep 0 := by
  intro ci h
  simp only [List.mem_cons, List.not_mem_nil, or_false] at h
  rcases h with rfl | rfl | rfl | rfl | rfl
  · exact ⟨cal_X1_sharedByGainAndStep, RX0, "FlowCurves$Curve", TX0, 5, mX1_sharedByGainAndStep.2.1, mX1_sharedByGainAndStep.2.2.1, mX1_sharedByGainAndStep.2.2.2, rfl, lw_okI 471 (by decide +kernel) (by decide +kernel), lw_okI 474 (by decide +kernel) (by decide +kernel), lw_okI 472 (by decide +kernel) (by decide +kernel), cal_X1_sharedByGainAndStep.1, lw_okI 475 (by decide +kernel) (by decide +kernel), lw_okI 472 (by decide +kernel) (by decide +kernel), ⟨by decide +kernel, by decide +kernel⟩, by decide +kernel⟩
  · exact ⟨cal_X1_sharedByGainAndStep, RX1, "FlowCurves$Curve", TX1, 4, mX1_sharedByGainAndStep.2.1, mX1_sharedByGainAndStep.2.2.1, mX1_sharedByGainAndStep.2.2.2, rfl, lw_okI 471 (by decide +kernel) (by decide +kernel), lw_okI 474 (by decide +kernel) (by decide +kernel), lw_okI 472 (by decide +kernel) (by decide +kernel), cal_X1_sharedByGainAndStep.1, lw_okI 473 (by decide +kernel) (by decide +kernel), lw_okI 472 (by decide +kernel) (by decide +kernel), ⟨by decide +kernel, by decide +kernel⟩, by decide +kernel⟩
  · exact ⟨cal_X1_sharedByGainAndStep, RX2, "FlowCurves$Curve", TX2, 4, mX1_sharedByGainAndStep.2.1, mX1_sharedByGainAndStep.2.2.1, mX1_sharedByGainAndStep.2.2.2, rfl, lw_okI 471 (by decide +kernel) (by decide +kernel), lw_okI 474 (by decide +kernel) (by decide +kernel), lw_okI 472 (by decide +kernel) (by decide +kernel), cal_X1_sharedByGainAndStep.1, lw_okI 476 (by decide +kernel) (by decide +kernel), lw_okI 472 (by decide +kernel) (by decide +kernel), ⟨by decide +kernel, by decide +kernel⟩, by decide +kernel⟩
  · exact ⟨cal_X1_sharedByGainAndStep, RX5, "FlowCurves$Curve", TX5, 4, mX1_sharedByGainAndStep.2.1, mX1_sharedByGainAndStep.2.2.1, mX1_sharedByGainAndStep.2.2.2, rfl, lw_okI 471 (by decide +kernel) (by decide +kernel), lw_okI 474 (by decide +kernel) (by decide +kernel), lw_okI 472 (by decide +kernel) (by decide +kernel), cal_X1_sharedByGainAndStep.1, lw_okI 477 (by decide +kernel) (by decide +kernel), lw_okI 472 (by decide +kernel) (by decide +kernel), ⟨by decide +kernel, by decide +kernel⟩, by decide +kernel⟩
  · exact ⟨cal_X1_sharedByGainAndStep, RX7, "FlowCurves$Curve", TX7, 4, mX1_sharedByGainAndStep.2.1, mX1_sharedByGainAndStep.2.2.1, mX1_sharedByGainAndStep.2.2.2, rfl, lw_okI 471 (by decide +kernel) (by decide +kernel), lw_okI 474 (by decide +kernel) (by decide +kernel), lw_okI 472 (by decide +kernel) (by decide +kernel), cal_X1_sharedByGainAndStep.1, lw_okI 478 (by decide +kernel) (by decide +kernel), lw_okI 472 (by decide +kernel) (by decide +kernel), ⟨by decide +kernel, by decide +kernel⟩, by decide +kernel⟩
theorem kv_L_69 : aLkV RL 69 8 mX9_unlike 2 := ⟨cal_X9_unlike, RX9, TX9, 10, rfl, lw_okI 480 (by decide +kernel) (by decide +kernel), lw_okI 481 (by decide +kernel) (by decide +kernel), lw_okI 482 (by decide +kernel) (by decide +kernel), by decide +kernel⟩
theorem ks_X9_146 : aLkS RX9 146 mX4_firstUnlike 3 := ⟨cal_X4_firstUnlike, lw_okI 484 (by decide +kernel) (by decide +kernel), lw_okI 485 (by decide +kernel) (by decide +kernel), by decide +kernel⟩
theorem ks_X4_28 : aLkS RX4 28 mX4_settledSpan 3 := ⟨cal_X4_settledSpan, lw_okI 487 (by decide +kernel) (by decide +kernel), lw_okI 488 (by decide +kernel) (by decide +kernel), by decide +kernel⟩
theorem km_X4_22 : Cond.methodLink RX4 22 ⟨"java/lang/Math", "max", "(II)I"⟩ ∈ lw_ok := lw_okI 490 (by decide +kernel) (by decide +kernel)
theorem ku_X4_34 : ∀ ci, ci ∈ [0, 1, 2, 4, 6] → aLkU RX4 34 ci yX1_amount mX1_amount 1 := by
  intro ci h
  simp only [List.mem_cons, List.not_mem_nil, or_false] at h
  rcases h with rfl | rfl | rfl | rfl | rfl
  · exact ⟨cal_X1_amount, RX0, "FlowCurves$Curve", TX0, 5, mX1_amount.2.1, mX1_amount.2.2.1, mX1_amount.2.2.2, rfl, lw_okI 491 (by decide +kernel) (by decide +kernel), lw_okI 336 (by decide +kernel) (by decide +kernel), lw_okI 334 (by decide +kernel) (by decide +kernel), cal_X1_amount.1, lw_okI 337 (by decide +kernel) (by decide +kernel), lw_okI 334 (by decide +kernel) (by decide +kernel), ⟨by decide +kernel, by decide +kernel⟩, by decide +kernel⟩
  · exact ⟨cal_X1_amount, RX1, "FlowCurves$Curve", TX1, 4, mX1_amount.2.1, mX1_amount.2.2.1, mX1_amount.2.2.2, rfl, lw_okI 491 (by decide +kernel) (by decide +kernel), lw_okI 336 (by decide +kernel) (by decide +kernel), lw_okI 334 (by decide +kernel) (by decide +kernel), cal_X1_amount.1, lw_okI 335 (by decide +kernel) (by decide +kernel), lw_okI 334 (by decide +kernel) (by decide +kernel), ⟨by decide +kernel, by decide +kernel⟩, by decide +kernel⟩
  · exact ⟨cal_X1_amount, RX2, "FlowCurves$Curve", TX2, 4, mX1_amount.2.1, mX1_amount.2.2.1, mX1_amount.2.2.2, rfl, lw_okI 491 (by decide +kernel) (by decide +kernel), lw_okI 336 (by decide +kernel) (by decide +kernel), lw_okI 334 (by decide +kernel) (by decide +kernel), cal_X1_amount.1, lw_okI 338 (by decide +kernel) (by decide +kernel), lw_okI 334 (by decide +kernel) (by decide +kernel), ⟨by decide +kernel, by decide +kernel⟩, by decide +kernel⟩
  · exact ⟨cal_X1_amount, RX5, "FlowCurves$Curve", TX5, 4, mX1_amount.2.1, mX1_amount.2.2.1, mX1_amount.2.2.2, rfl, lw_okI 491 (by decide +kernel) (by decide +kernel), lw_okI 336 (by decide +kernel) (by decide +kernel), lw_okI 334 (by decide +kernel) (by decide +kernel), cal_X1_amount.1, lw_okI 339 (by decide +kernel) (by decide +kernel), lw_okI 334 (by decide +kernel) (by decide +kernel), ⟨by decide +kernel, by decide +kernel⟩, by decide +kernel⟩
  · exact ⟨cal_X1_amount, RX7, "FlowCurves$Curve", TX7, 4, mX1_amount.2.1, mX1_amount.2.2.1, mX1_amount.2.2.2, rfl, lw_okI 491 (by decide +kernel) (by decide +kernel), lw_okI 336 (by decide +kernel) (by decide +kernel), lw_okI 334 (by decide +kernel) (by decide +kernel), cal_X1_amount.1, lw_okI 340 (by decide +kernel) (by decide +kernel), lw_okI 334 (by decide +kernel) (by decide +kernel), ⟨by decide +kernel, by decide +kernel⟩, by decide +kernel⟩
theorem kv_L_73 : aLkV RL 73 8 mX9_below 2 := ⟨cal_X9_below, RX9, TX9, 10, rfl, lw_okI 492 (by decide +kernel) (by decide +kernel), lw_okI 493 (by decide +kernel) (by decide +kernel), lw_okI 494 (by decide +kernel) (by decide +kernel), by decide +kernel⟩
theorem ks_X9_150 : aLkS RX9 150 mX4_greatestLead 3 := ⟨cal_X4_greatestLead, lw_okI 496 (by decide +kernel) (by decide +kernel), lw_okI 497 (by decide +kernel) (by decide +kernel), by decide +kernel⟩
theorem km_X4_37 : Cond.methodLink RX4 37 ⟨"java/lang/Math", "max", "(JJ)J"⟩ ∈ lw_ok := lw_okI 499 (by decide +kernel) (by decide +kernel)
theorem kv_L_77 : aLkV RL 77 8 mX9_first 2 := ⟨cal_X9_first, RX9, TX9, 10, rfl, lw_okI 500 (by decide +kernel) (by decide +kernel), lw_okI 501 (by decide +kernel) (by decide +kernel), lw_okI 502 (by decide +kernel) (by decide +kernel), by decide +kernel⟩
theorem ku_X9_154 : ∀ ci, ci ∈ [0, 1, 2, 4, 6] → aLkU RX9 154 ci yX1_firstReaching mX1_firstReaching 2 := by
  intro ci h
  simp only [List.mem_cons, List.not_mem_nil, or_false] at h
  rcases h with rfl | rfl | rfl | rfl | rfl
  · exact ⟨cal_X1_firstReaching, RX0, "FlowCurves$Curve", TX0, 5, mX1_firstReaching.2.1, mX1_firstReaching.2.2.1, mX1_firstReaching.2.2.2, rfl, lw_okI 504 (by decide +kernel) (by decide +kernel), lw_okI 507 (by decide +kernel) (by decide +kernel), lw_okI 505 (by decide +kernel) (by decide +kernel), cal_X1_firstReaching.1, lw_okI 508 (by decide +kernel) (by decide +kernel), lw_okI 505 (by decide +kernel) (by decide +kernel), ⟨by decide +kernel, by decide +kernel⟩, by decide +kernel⟩
  · exact ⟨cal_X1_firstReaching, RX1, "FlowCurves$Curve", TX1, 4, mX1_firstReaching.2.1, mX1_firstReaching.2.2.1, mX1_firstReaching.2.2.2, rfl, lw_okI 504 (by decide +kernel) (by decide +kernel), lw_okI 507 (by decide +kernel) (by decide +kernel), lw_okI 505 (by decide +kernel) (by decide +kernel), cal_X1_firstReaching.1, lw_okI 506 (by decide +kernel) (by decide +kernel), lw_okI 505 (by decide +kernel) (by decide +kernel), ⟨by decide +kernel, by decide +kernel⟩, by decide +kernel⟩
  · exact ⟨cal_X1_firstReaching, RX2, "FlowCurves$Curve", TX2, 4, mX1_firstReaching.2.1, mX1_firstReaching.2.2.1, mX1_firstReaching.2.2.2, rfl, lw_okI 504 (by decide +kernel) (by decide +kernel), lw_okI 507 (by decide +kernel) (by decide +kernel), lw_okI 505 (by decide +kernel) (by decide +kernel), cal_X1_firstReaching.1, lw_okI 509 (by decide +kernel) (by decide +kernel), lw_okI 505 (by decide +kernel) (by decide +kernel), ⟨by decide +kernel, by decide +kernel⟩, by decide +kernel⟩
  · exact ⟨cal_X1_firstReaching, RX5, "FlowCurves$Curve", TX5, 4, mX1_firstReaching.2.1, mX1_firstReaching.2.2.1, mX1_firstReaching.2.2.2, rfl, lw_okI 504 (by decide +kernel) (by decide +kernel), lw_okI 507 (by decide +kernel) (by decide +kernel), lw_okI 505 (by decide +kernel) (by decide +kernel), cal_X1_firstReaching.1, lw_okI 510 (by decide +kernel) (by decide +kernel), lw_okI 505 (by decide +kernel) (by decide +kernel), ⟨by decide +kernel, by decide +kernel⟩, by decide +kernel⟩
  · exact ⟨cal_X1_firstReaching, RX7, "FlowCurves$Curve", TX7, 4, mX1_firstReaching.2.1, mX1_firstReaching.2.2.1, mX1_firstReaching.2.2.2, rfl, lw_okI 504 (by decide +kernel) (by decide +kernel), lw_okI 507 (by decide +kernel) (by decide +kernel), lw_okI 505 (by decide +kernel) (by decide +kernel), cal_X1_firstReaching.1, lw_okI 511 (by decide +kernel) (by decide +kernel), lw_okI 505 (by decide +kernel) (by decide +kernel), ⟨by decide +kernel, by decide +kernel⟩, by decide +kernel⟩
theorem kv_L_82 : aLkV RL 82 8 mX9_heap 2 := ⟨cal_X9_heap, RX9, TX9, 10, rfl, lw_okI 513 (by decide +kernel) (by decide +kernel), lw_okI 514 (by decide +kernel) (by decide +kernel), lw_okI 515 (by decide +kernel) (by decide +kernel), by decide +kernel⟩
theorem kv_L_86 : aLkV RL 86 8 mX9_wait 2 := ⟨cal_X9_wait, RX9, TX9, 10, rfl, lw_okI 517 (by decide +kernel) (by decide +kernel), lw_okI 518 (by decide +kernel) (by decide +kernel), lw_okI 519 (by decide +kernel) (by decide +kernel), by decide +kernel⟩
theorem ks_X9_158 : aLkS RX9 158 mX4_longestWait 3 := ⟨cal_X4_longestWait, lw_okI 521 (by decide +kernel) (by decide +kernel), lw_okI 522 (by decide +kernel) (by decide +kernel), by decide +kernel⟩
theorem ku_X4_41 : ∀ ci, ci ∈ [0, 1, 2, 4, 6] → aLkU RX4 41 ci yX1_firstReaching mX1_firstReaching 2 := by
  intro ci h
  simp only [List.mem_cons, List.not_mem_nil, or_false] at h
  rcases h with rfl | rfl | rfl | rfl | rfl
  · exact ⟨cal_X1_firstReaching, RX0, "FlowCurves$Curve", TX0, 5, mX1_firstReaching.2.1, mX1_firstReaching.2.2.1, mX1_firstReaching.2.2.2, rfl, lw_okI 525 (by decide +kernel) (by decide +kernel), lw_okI 507 (by decide +kernel) (by decide +kernel), lw_okI 505 (by decide +kernel) (by decide +kernel), cal_X1_firstReaching.1, lw_okI 508 (by decide +kernel) (by decide +kernel), lw_okI 505 (by decide +kernel) (by decide +kernel), ⟨by decide +kernel, by decide +kernel⟩, by decide +kernel⟩
  · exact ⟨cal_X1_firstReaching, RX1, "FlowCurves$Curve", TX1, 4, mX1_firstReaching.2.1, mX1_firstReaching.2.2.1, mX1_firstReaching.2.2.2, rfl, lw_okI 525 (by decide +kernel) (by decide +kernel), lw_okI 507 (by decide +kernel) (by decide +kernel), lw_okI 505 (by decide +kernel) (by decide +kernel), cal_X1_firstReaching.1, lw_okI 506 (by decide +kernel) (by decide +kernel), lw_okI 505 (by decide +kernel) (by decide +kernel), ⟨by decide +kernel, by decide +kernel⟩, by decide +kernel⟩
  · exact ⟨cal_X1_firstReaching, RX2, "FlowCurves$Curve", TX2, 4, mX1_firstReaching.2.1, mX1_firstReaching.2.2.1, mX1_firstReaching.2.2.2, rfl, lw_okI 525 (by decide +kernel) (by decide +kernel), lw_okI 507 (by decide +kernel) (by decide +kernel), lw_okI 505 (by decide +kernel) (by decide +kernel), cal_X1_firstReaching.1, lw_okI 509 (by decide +kernel) (by decide +kernel), lw_okI 505 (by decide +kernel) (by decide +kernel), ⟨by decide +kernel, by decide +kernel⟩, by decide +kernel⟩
  · exact ⟨cal_X1_firstReaching, RX5, "FlowCurves$Curve", TX5, 4, mX1_firstReaching.2.1, mX1_firstReaching.2.2.1, mX1_firstReaching.2.2.2, rfl, lw_okI 525 (by decide +kernel) (by decide +kernel), lw_okI 507 (by decide +kernel) (by decide +kernel), lw_okI 505 (by decide +kernel) (by decide +kernel), cal_X1_firstReaching.1, lw_okI 510 (by decide +kernel) (by decide +kernel), lw_okI 505 (by decide +kernel) (by decide +kernel), ⟨by decide +kernel, by decide +kernel⟩, by decide +kernel⟩
  · exact ⟨cal_X1_firstReaching, RX7, "FlowCurves$Curve", TX7, 4, mX1_firstReaching.2.1, mX1_firstReaching.2.2.1, mX1_firstReaching.2.2.2, rfl, lw_okI 525 (by decide +kernel) (by decide +kernel), lw_okI 507 (by decide +kernel) (by decide +kernel), lw_okI 505 (by decide +kernel) (by decide +kernel), cal_X1_firstReaching.1, lw_okI 511 (by decide +kernel) (by decide +kernel), lw_okI 505 (by decide +kernel) (by decide +kernel), ⟨by decide +kernel, by decide +kernel⟩, by decide +kernel⟩
theorem kv_L_90 : aLkV RL 90 8 mX9_come 1 := ⟨cal_X9_come, RX9, TX9, 10, rfl, lw_okI 526 (by decide +kernel) (by decide +kernel), lw_okI 527 (by decide +kernel) (by decide +kernel), lw_okI 528 (by decide +kernel) (by decide +kernel), by decide +kernel⟩
theorem kv_X9_161 : aLkV RX9 161 5 mX6_isFull 0 := ⟨cal_X6_isFull, RX6, TX6, 2, rfl, lw_okI 530 (by decide +kernel) (by decide +kernel), lw_okI 531 (by decide +kernel) (by decide +kernel), lw_okI 532 (by decide +kernel) (by decide +kernel), by decide +kernel⟩
theorem kv_X9_164 : aLkV RX9 164 5 mX6_add 1 := ⟨cal_X6_add, RX6, TX6, 2, rfl, lw_okI 534 (by decide +kernel) (by decide +kernel), lw_okI 535 (by decide +kernel) (by decide +kernel), lw_okI 536 (by decide +kernel) (by decide +kernel), by decide +kernel⟩
theorem kv_X6_19 : aLkV RX6 19 5 mX6_isFull 0 := ⟨cal_X6_isFull, RX6, TX6, 2, rfl, lw_okI 538 (by decide +kernel) (by decide +kernel), lw_okI 531 (by decide +kernel) (by decide +kernel), lw_okI 532 (by decide +kernel) (by decide +kernel), by decide +kernel⟩
theorem kv_L_94 : aLkV RL 94 8 mX9_hardest 2 := ⟨cal_X9_hardest, RX9, TX9, 10, rfl, lw_okI 539 (by decide +kernel) (by decide +kernel), lw_okI 540 (by decide +kernel) (by decide +kernel), lw_okI 541 (by decide +kernel) (by decide +kernel), by decide +kernel⟩
theorem ks_X9_171 : aLkS RX9 171 mX6_canFollow 2 := ⟨cal_X6_canFollow, lw_okI 543 (by decide +kernel) (by decide +kernel), lw_okI 544 (by decide +kernel) (by decide +kernel), by decide +kernel⟩
theorem ks_X6_29 : aLkS RX6 29 mX6_hardestStep 2 := ⟨cal_X6_hardestStep, lw_okI 546 (by decide +kernel) (by decide +kernel), lw_okI 547 (by decide +kernel) (by decide +kernel), by decide +kernel⟩
theorem ku_X6_23 : ∀ ci, ci ∈ [0, 1, 2, 4, 6] → aLkU RX6 23 ci yX1_amount mX1_amount 1 := by
  intro ci h
  simp only [List.mem_cons, List.not_mem_nil, or_false] at h
  rcases h with rfl | rfl | rfl | rfl | rfl
  · exact ⟨cal_X1_amount, RX0, "FlowCurves$Curve", TX0, 5, mX1_amount.2.1, mX1_amount.2.2.1, mX1_amount.2.2.2, rfl, lw_okI 549 (by decide +kernel) (by decide +kernel), lw_okI 336 (by decide +kernel) (by decide +kernel), lw_okI 334 (by decide +kernel) (by decide +kernel), cal_X1_amount.1, lw_okI 337 (by decide +kernel) (by decide +kernel), lw_okI 334 (by decide +kernel) (by decide +kernel), ⟨by decide +kernel, by decide +kernel⟩, by decide +kernel⟩
  · exact ⟨cal_X1_amount, RX1, "FlowCurves$Curve", TX1, 4, mX1_amount.2.1, mX1_amount.2.2.1, mX1_amount.2.2.2, rfl, lw_okI 549 (by decide +kernel) (by decide +kernel), lw_okI 336 (by decide +kernel) (by decide +kernel), lw_okI 334 (by decide +kernel) (by decide +kernel), cal_X1_amount.1, lw_okI 335 (by decide +kernel) (by decide +kernel), lw_okI 334 (by decide +kernel) (by decide +kernel), ⟨by decide +kernel, by decide +kernel⟩, by decide +kernel⟩
  · exact ⟨cal_X1_amount, RX2, "FlowCurves$Curve", TX2, 4, mX1_amount.2.1, mX1_amount.2.2.1, mX1_amount.2.2.2, rfl, lw_okI 549 (by decide +kernel) (by decide +kernel), lw_okI 336 (by decide +kernel) (by decide +kernel), lw_okI 334 (by decide +kernel) (by decide +kernel), cal_X1_amount.1, lw_okI 338 (by decide +kernel) (by decide +kernel), lw_okI 334 (by decide +kernel) (by decide +kernel), ⟨by decide +kernel, by decide +kernel⟩, by decide +kernel⟩
  · exact ⟨cal_X1_amount, RX5, "FlowCurves$Curve", TX5, 4, mX1_amount.2.1, mX1_amount.2.2.1, mX1_amount.2.2.2, rfl, lw_okI 549 (by decide +kernel) (by decide +kernel), lw_okI 336 (by decide +kernel) (by decide +kernel), lw_okI 334 (by decide +kernel) (by decide +kernel), cal_X1_amount.1, lw_okI 339 (by decide +kernel) (by decide +kernel), lw_okI 334 (by decide +kernel) (by decide +kernel), ⟨by decide +kernel, by decide +kernel⟩, by decide +kernel⟩
  · exact ⟨cal_X1_amount, RX7, "FlowCurves$Curve", TX7, 4, mX1_amount.2.1, mX1_amount.2.2.1, mX1_amount.2.2.2, rfl, lw_okI 549 (by decide +kernel) (by decide +kernel), lw_okI 336 (by decide +kernel) (by decide +kernel), lw_okI 334 (by decide +kernel) (by decide +kernel), cal_X1_amount.1, lw_okI 340 (by decide +kernel) (by decide +kernel), lw_okI 334 (by decide +kernel) (by decide +kernel), ⟨by decide +kernel, by decide +kernel⟩, by decide +kernel⟩
theorem kv_X9_175 : aLkV RX9 175 5 mX6_follow 2 := ⟨cal_X6_follow, RX6, TX6, 2, rfl, lw_okI 551 (by decide +kernel) (by decide +kernel), lw_okI 552 (by decide +kernel) (by decide +kernel), lw_okI 553 (by decide +kernel) (by decide +kernel), by decide +kernel⟩
theorem kv_X6_35 : aLkV RX6 35 5 mX6_add 1 := ⟨cal_X6_add, RX6, TX6, 2, rfl, lw_okI 555 (by decide +kernel) (by decide +kernel), lw_okI 535 (by decide +kernel) (by decide +kernel), lw_okI 536 (by decide +kernel) (by decide +kernel), by decide +kernel⟩
theorem kv_L_98 : aLkV RL 98 8 mX9_stop 0 := ⟨cal_X9_stop, RX9, TX9, 10, rfl, lw_okI 556 (by decide +kernel) (by decide +kernel), lw_okI 557 (by decide +kernel) (by decide +kernel), lw_okI 558 (by decide +kernel) (by decide +kernel), by decide +kernel⟩
theorem kv_L_102 : aLkV RL 102 8 mX9_serve 1 := ⟨cal_X9_serve, RX9, TX9, 10, rfl, lw_okI 560 (by decide +kernel) (by decide +kernel), lw_okI 561 (by decide +kernel) (by decide +kernel), lw_okI 562 (by decide +kernel) (by decide +kernel), by decide +kernel⟩
theorem kv_L_106 : aLkV RL 106 8 mX9_moved 2 := ⟨cal_X9_moved, RX9, TX9, 10, rfl, lw_okI 564 (by decide +kernel) (by decide +kernel), lw_okI 565 (by decide +kernel) (by decide +kernel), lw_okI 566 (by decide +kernel) (by decide +kernel), by decide +kernel⟩
theorem kv_X9_179 : aLkV RX9 179 5 mX6_arrived 1 := ⟨cal_X6_arrived, RX6, TX6, 2, rfl, lw_okI 568 (by decide +kernel) (by decide +kernel), lw_okI 569 (by decide +kernel) (by decide +kernel), lw_okI 570 (by decide +kernel) (by decide +kernel), by decide +kernel⟩
theorem km_X6_39 : Cond.methodLink RX6 39 ⟨"java/lang/Math", "min", "(II)I"⟩ ∈ lw_ok := lw_okI 572 (by decide +kernel) (by decide +kernel)
theorem kv_X9_182 : aLkV RX9 182 5 mX6_passed 2 := ⟨cal_X6_passed, RX6, TX6, 2, rfl, lw_okI 573 (by decide +kernel) (by decide +kernel), lw_okI 574 (by decide +kernel) (by decide +kernel), lw_okI 575 (by decide +kernel) (by decide +kernel), by decide +kernel⟩
theorem kv_X6_45 : aLkV RX6 45 5 mX6_arrived 1 := ⟨cal_X6_arrived, RX6, TX6, 2, rfl, lw_okI 577 (by decide +kernel) (by decide +kernel), lw_okI 569 (by decide +kernel) (by decide +kernel), lw_okI 570 (by decide +kernel) (by decide +kernel), by decide +kernel⟩
theorem km_X6_48 : Cond.methodLink RX6 48 ⟨"java/lang/Math", "min", "(JJ)J"⟩ ∈ lw_ok := lw_okI 578 (by decide +kernel) (by decide +kernel)
theorem kv_X9_186 : aLkV RX9 186 5 mX6_held 2 := ⟨cal_X6_held, RX6, TX6, 2, rfl, lw_okI 579 (by decide +kernel) (by decide +kernel), lw_okI 580 (by decide +kernel) (by decide +kernel), lw_okI 581 (by decide +kernel) (by decide +kernel), by decide +kernel⟩
theorem kv_X6_51 : aLkV RX6 51 5 mX6_passed 2 := ⟨cal_X6_passed, RX6, TX6, 2, rfl, lw_okI 583 (by decide +kernel) (by decide +kernel), lw_okI 574 (by decide +kernel) (by decide +kernel), lw_okI 575 (by decide +kernel) (by decide +kernel), by decide +kernel⟩
theorem kv_L_110 : aLkV RL 110 8 mX9_late 1 := ⟨cal_X9_late, RX9, TX9, 10, rfl, lw_okI 584 (by decide +kernel) (by decide +kernel), lw_okI 585 (by decide +kernel) (by decide +kernel), lw_okI 586 (by decide +kernel) (by decide +kernel), by decide +kernel⟩
theorem kv_X9_189 : aLkV RX9 189 5 mX6_lateness 2 := ⟨cal_X6_lateness, RX6, TX6, 2, rfl, lw_okI 588 (by decide +kernel) (by decide +kernel), lw_okI 589 (by decide +kernel) (by decide +kernel), lw_okI 590 (by decide +kernel) (by decide +kernel), by decide +kernel⟩
theorem kv_L_114 : aLkV RL 114 8 mX9_mostHeld 0 := ⟨cal_X9_mostHeld, RX9, TX9, 10, rfl, lw_okI 592 (by decide +kernel) (by decide +kernel), lw_okI 593 (by decide +kernel) (by decide +kernel), lw_okI 594 (by decide +kernel) (by decide +kernel), by decide +kernel⟩
theorem kv_X9_193 : aLkV RX9 193 5 mX6_greatestHeld 1 := ⟨cal_X6_greatestHeld, RX6, TX6, 2, rfl, lw_okI 596 (by decide +kernel) (by decide +kernel), lw_okI 597 (by decide +kernel) (by decide +kernel), lw_okI 598 (by decide +kernel) (by decide +kernel), by decide +kernel⟩
theorem kv_X6_54 : aLkV RX6 54 5 mX6_held 2 := ⟨cal_X6_held, RX6, TX6, 2, rfl, lw_okI 600 (by decide +kernel) (by decide +kernel), lw_okI 580 (by decide +kernel) (by decide +kernel), lw_okI 581 (by decide +kernel) (by decide +kernel), by decide +kernel⟩
theorem km_X6_57 : Cond.methodLink RX6 57 ⟨"java/lang/Math", "max", "(JJ)J"⟩ ∈ lw_ok := lw_okI 601 (by decide +kernel) (by decide +kernel)
theorem kv_L_119 : aLkV RL 119 8 mX9_mostLate 0 := ⟨cal_X9_mostLate, RX9, TX9, 10, rfl, lw_okI 602 (by decide +kernel) (by decide +kernel), lw_okI 603 (by decide +kernel) (by decide +kernel), lw_okI 604 (by decide +kernel) (by decide +kernel), by decide +kernel⟩
theorem kv_X9_197 : aLkV RX9 197 5 mX6_greatestLateness 1 := ⟨cal_X6_greatestLateness, RX6, TX6, 2, rfl, lw_okI 606 (by decide +kernel) (by decide +kernel), lw_okI 607 (by decide +kernel) (by decide +kernel), lw_okI 608 (by decide +kernel) (by decide +kernel), by decide +kernel⟩
theorem kv_X6_60 : aLkV RX6 60 5 mX6_lateness 2 := ⟨cal_X6_lateness, RX6, TX6, 2, rfl, lw_okI 610 (by decide +kernel) (by decide +kernel), lw_okI 589 (by decide +kernel) (by decide +kernel), lw_okI 590 (by decide +kernel) (by decide +kernel), by decide +kernel⟩
theorem km_X6_64 : Cond.methodLink RX6 64 ⟨"java/lang/Math", "max", "(II)I"⟩ ∈ lw_ok := lw_okI 611 (by decide +kernel) (by decide +kernel)
theorem kv_L_123 : aLkV RL 123 8 mX9_keeps 1 := ⟨cal_X9_keeps, RX9, TX9, 10, rfl, lw_okI 612 (by decide +kernel) (by decide +kernel), lw_okI 613 (by decide +kernel) (by decide +kernel), lw_okI 614 (by decide +kernel) (by decide +kernel), by decide +kernel⟩
theorem kv_X9_200 : aLkV RX9 200 5 mX6_staysWithin 1 := ⟨cal_X6_staysWithin, RX6, TX6, 2, rfl, lw_okI 616 (by decide +kernel) (by decide +kernel), lw_okI 617 (by decide +kernel) (by decide +kernel), lw_okI 618 (by decide +kernel) (by decide +kernel), by decide +kernel⟩
theorem kv_L_127 : aLkV RL 127 8 mX9_count 1 := ⟨cal_X9_count, RX9, TX9, 10, rfl, lw_okI 620 (by decide +kernel) (by decide +kernel), lw_okI 621 (by decide +kernel) (by decide +kernel), lw_okI 622 (by decide +kernel) (by decide +kernel), by decide +kernel⟩
theorem kv_L_131 : aLkV RL 131 8 mX9_trace 1 := ⟨cal_X9_trace, RX9, TX9, 10, rfl, lw_okI 624 (by decide +kernel) (by decide +kernel), lw_okI 625 (by decide +kernel) (by decide +kernel), lw_okI 626 (by decide +kernel) (by decide +kernel), by decide +kernel⟩
theorem kv_X9_204 : aLkV RX9 204 7 mX8_marks 1 := ⟨cal_X8_marks, RX8, TX8, 1, rfl, lw_okI 628 (by decide +kernel) (by decide +kernel), lw_okI 629 (by decide +kernel) (by decide +kernel), lw_okI 630 (by decide +kernel) (by decide +kernel), by decide +kernel⟩
theorem kv_L_135 : aLkV RL 135 8 mX9_status 0 := ⟨cal_X9_status, RX9, TX9, 10, rfl, lw_okI 632 (by decide +kernel) (by decide +kernel), lw_okI 633 (by decide +kernel) (by decide +kernel), lw_okI 634 (by decide +kernel) (by decide +kernel), by decide +kernel⟩
theorem kv_L_139 : aLkV RL 139 8 mX9_clear 0 := ⟨cal_X9_clear, RX9, TX9, 10, rfl, lw_okI 636 (by decide +kernel) (by decide +kernel), lw_okI 637 (by decide +kernel) (by decide +kernel), lw_okI 638 (by decide +kernel) (by decide +kernel), by decide +kernel⟩
theorem ki_L_12 : aLkI RL 12 mX10_init 0 := ⟨cal_X10_init, rfl, lw_okI 642 (by decide +kernel) (by decide +kernel), lw_okI 643 (by decide +kernel) (by decide +kernel), rfl, by decide +kernel⟩
theorem ko_X10_1 : Cond.methodLink RX10 1 Lib.objectInit ∈ lw_ok := lw_okI 645 (by decide +kernel) (by decide +kernel)
theorem kv_L_19 : aLkV RL 19 9 mX10_put 1 := ⟨cal_X10_put, RX10, TX10, 15, rfl, lw_okI 692 (by decide +kernel) (by decide +kernel), lw_okI 693 (by decide +kernel) (by decide +kernel), lw_okI 694 (by decide +kernel) (by decide +kernel), by decide +kernel⟩
theorem ks_X10_50 : aLkS RX10 50 mX10_in 3 := ⟨cal_X10_in, lw_okI 697 (by decide +kernel) (by decide +kernel), lw_okI 698 (by decide +kernel) (by decide +kernel), by decide +kernel⟩
theorem kv_X10_58 : aLkV RX10 58 9 mX10_refuse 1 := ⟨cal_X10_refuse, RX10, TX10, 15, rfl, lw_okI 700 (by decide +kernel) (by decide +kernel), lw_okI 702 (by decide +kernel) (by decide +kernel), lw_okI 16 (by decide +kernel) (by decide +kernel), by decide +kernel⟩
theorem kv_X10_73 : aLkV RX10 73 9 mX10_fine 1 := ⟨cal_X10_fine, RX10, TX10, 15, rfl, lw_okI 704 (by decide +kernel) (by decide +kernel), lw_okI 706 (by decide +kernel) (by decide +kernel), lw_okI 17 (by decide +kernel) (by decide +kernel), by decide +kernel⟩
theorem kv_L_24 : aLkV RL 24 9 mX10_draw 3 := ⟨cal_X10_draw, RX10, TX10, 15, rfl, lw_okI 708 (by decide +kernel) (by decide +kernel), lw_okI 709 (by decide +kernel) (by decide +kernel), lw_okI 710 (by decide +kernel) (by decide +kernel), by decide +kernel⟩
theorem kv_L_29 : aLkV RL 29 9 mX10_drop 0 := ⟨cal_X10_drop, RX10, TX10, 15, rfl, lw_okI 716 (by decide +kernel) (by decide +kernel), lw_okI 717 (by decide +kernel) (by decide +kernel), lw_okI 718 (by decide +kernel) (by decide +kernel), by decide +kernel⟩
theorem kv_L_34 : aLkV RL 34 9 mX10_curve 2 := ⟨cal_X10_curve, RX10, TX10, 15, rfl, lw_okI 720 (by decide +kernel) (by decide +kernel), lw_okI 721 (by decide +kernel) (by decide +kernel), lw_okI 722 (by decide +kernel) (by decide +kernel), by decide +kernel⟩
theorem kv_X10_87 : aLkV RX10 87 9 mX10_settle 2 := ⟨cal_X10_settle, RX10, TX10, 15, rfl, lw_okI 726 (by decide +kernel) (by decide +kernel), lw_okI 728 (by decide +kernel) (by decide +kernel), lw_okI 18 (by decide +kernel) (by decide +kernel), by decide +kernel⟩
theorem kv_X10_54 : aLkV RX10 54 9 mX10_comesRound 3 := ⟨cal_X10_comesRound, RX10, TX10, 15, rfl, lw_okI 730 (by decide +kernel) (by decide +kernel), lw_okI 732 (by decide +kernel) (by decide +kernel), lw_okI 19 (by decide +kernel) (by decide +kernel), by decide +kernel⟩
theorem kv_X10_66 : aLkV RX10 66 9 mX10_kindOf 1 := ⟨cal_X10_kindOf, RX10, TX10, 15, rfl, lw_okI 734 (by decide +kernel) (by decide +kernel), lw_okI 736 (by decide +kernel) (by decide +kernel), lw_okI 20 (by decide +kernel) (by decide +kernel), by decide +kernel⟩
theorem kv_L_39 : aLkV RL 39 9 mX10_ray 1 := ⟨cal_X10_ray, RX10, TX10, 15, rfl, lw_okI 738 (by decide +kernel) (by decide +kernel), lw_okI 739 (by decide +kernel) (by decide +kernel), lw_okI 740 (by decide +kernel) (by decide +kernel), by decide +kernel⟩
theorem kv_L_43 : aLkV RL 43 9 mX10_of 3 := ⟨cal_X10_of, RX10, TX10, 15, rfl, lw_okI 742 (by decide +kernel) (by decide +kernel), lw_okI 743 (by decide +kernel) (by decide +kernel), lw_okI 744 (by decide +kernel) (by decide +kernel), by decide +kernel⟩
theorem kv_X10_109 : aLkV RX10 109 9 mX10_isCurve 1 := ⟨cal_X10_isCurve, RX10, TX10, 15, rfl, lw_okI 747 (by decide +kernel) (by decide +kernel), lw_okI 749 (by decide +kernel) (by decide +kernel), lw_okI 21 (by decide +kernel) (by decide +kernel), by decide +kernel⟩
theorem kv_X10_113 : aLkV RX10 113 9 mX10_together 2 := ⟨cal_X10_together, RX10, TX10, 15, rfl, lw_okI 751 (by decide +kernel) (by decide +kernel), lw_okI 753 (by decide +kernel) (by decide +kernel), lw_okI 22 (by decide +kernel) (by decide +kernel), by decide +kernel⟩
theorem ks_X10_91 : aLkS RX10 91 mX10_divisor 2 := ⟨cal_X10_divisor, lw_okI 755 (by decide +kernel) (by decide +kernel), lw_okI 756 (by decide +kernel) (by decide +kernel), by decide +kernel⟩
theorem kv_X10_116 : aLkV RX10 116 9 mX10_gainIn 2 := ⟨cal_X10_gainIn, RX10, TX10, 15, rfl, lw_okI 758 (by decide +kernel) (by decide +kernel), lw_okI 760 (by decide +kernel) (by decide +kernel), lw_okI 23 (by decide +kernel) (by decide +kernel), by decide +kernel⟩
theorem kv_X10_120 : aLkV RX10 120 9 mX10_make 4 := ⟨cal_X10_make, RX10, TX10, 15, rfl, lw_okI 762 (by decide +kernel) (by decide +kernel), lw_okI 764 (by decide +kernel) (by decide +kernel), lw_okI 24 (by decide +kernel) (by decide +kernel), by decide +kernel⟩
theorem kv_X10_95 : aLkV RX10 95 9 mX10_value 2 := ⟨cal_X10_value, RX10, TX10, 15, rfl, lw_okI 766 (by decide +kernel) (by decide +kernel), lw_okI 768 (by decide +kernel) (by decide +kernel), lw_okI 25 (by decide +kernel) (by decide +kernel), by decide +kernel⟩
theorem kv_X10_99 : aLkV RX10 99 9 mX10_least 3 := ⟨cal_X10_least, RX10, TX10, 15, rfl, lw_okI 770 (by decide +kernel) (by decide +kernel), lw_okI 772 (by decide +kernel) (by decide +kernel), lw_okI 26 (by decide +kernel) (by decide +kernel), by decide +kernel⟩
theorem kv_X10_103 : aLkV RX10 103 9 mX10_most 4 := ⟨cal_X10_most, RX10, TX10, 15, rfl, lw_okI 774 (by decide +kernel) (by decide +kernel), lw_okI 776 (by decide +kernel) (by decide +kernel), lw_okI 27 (by decide +kernel) (by decide +kernel), by decide +kernel⟩
theorem kv_L_47 : aLkV RL 47 9 mX10_times 2 := ⟨cal_X10_times, RX10, TX10, 15, rfl, lw_okI 778 (by decide +kernel) (by decide +kernel), lw_okI 779 (by decide +kernel) (by decide +kernel), lw_okI 780 (by decide +kernel) (by decide +kernel), by decide +kernel⟩
theorem kv_L_51 : aLkV RL 51 9 mX10_shift 2 := ⟨cal_X10_shift, RX10, TX10, 15, rfl, lw_okI 783 (by decide +kernel) (by decide +kernel), lw_okI 784 (by decide +kernel) (by decide +kernel), lw_okI 785 (by decide +kernel) (by decide +kernel), by decide +kernel⟩
theorem kv_L_55 : aLkV RL 55 9 mX10_undo 0 := ⟨cal_X10_undo, RX10, TX10, 15, rfl, lw_okI 788 (by decide +kernel) (by decide +kernel), lw_okI 789 (by decide +kernel) (by decide +kernel), lw_okI 790 (by decide +kernel) (by decide +kernel), by decide +kernel⟩
theorem kv_L_60 : aLkV RL 60 9 mX10_at 2 := ⟨cal_X10_at, RX10, TX10, 15, rfl, lw_okI 792 (by decide +kernel) (by decide +kernel), lw_okI 793 (by decide +kernel) (by decide +kernel), lw_okI 794 (by decide +kernel) (by decide +kernel), by decide +kernel⟩
theorem kv_X10_128 : aLkV RX10 128 9 mX10_none 1 := ⟨cal_X10_none, RX10, TX10, 15, rfl, lw_okI 796 (by decide +kernel) (by decide +kernel), lw_okI 798 (by decide +kernel) (by decide +kernel), lw_okI 28 (by decide +kernel) (by decide +kernel), by decide +kernel⟩
theorem kv_X10_132 : aLkV RX10 132 9 mX10_fineLong 1 := ⟨cal_X10_fineLong, RX10, TX10, 15, rfl, lw_okI 801 (by decide +kernel) (by decide +kernel), lw_okI 803 (by decide +kernel) (by decide +kernel), lw_okI 29 (by decide +kernel) (by decide +kernel), by decide +kernel⟩
theorem kv_L_64 : aLkV RL 64 9 mX10_about 2 := ⟨cal_X10_about, RX10, TX10, 15, rfl, lw_okI 805 (by decide +kernel) (by decide +kernel), lw_okI 806 (by decide +kernel) (by decide +kernel), lw_okI 807 (by decide +kernel) (by decide +kernel), by decide +kernel⟩
theorem kv_X10_138 : aLkV RX10 138 9 mX10_isClosed 1 := ⟨cal_X10_isClosed, RX10, TX10, 15, rfl, lw_okI 810 (by decide +kernel) (by decide +kernel), lw_okI 812 (by decide +kernel) (by decide +kernel), lw_okI 30 (by decide +kernel) (by decide +kernel), by decide +kernel⟩
theorem kv_L_68 : aLkV RL 68 9 mX10_rate 2 := ⟨cal_X10_rate, RX10, TX10, 15, rfl, lw_okI 814 (by decide +kernel) (by decide +kernel), lw_okI 815 (by decide +kernel) (by decide +kernel), lw_okI 816 (by decide +kernel) (by decide +kernel), by decide +kernel⟩
theorem kv_L_72 : aLkV RL 72 9 mX10_unlike 2 := ⟨cal_X10_unlike, RX10, TX10, 15, rfl, lw_okI 818 (by decide +kernel) (by decide +kernel), lw_okI 819 (by decide +kernel) (by decide +kernel), lw_okI 820 (by decide +kernel) (by decide +kernel), by decide +kernel⟩
theorem kv_X10_141 : aLkV RX10 141 9 mX10_latest 2 := ⟨cal_X10_latest, RX10, TX10, 15, rfl, lw_okI 822 (by decide +kernel) (by decide +kernel), lw_okI 824 (by decide +kernel) (by decide +kernel), lw_okI 31 (by decide +kernel) (by decide +kernel), by decide +kernel⟩
theorem kv_L_76 : aLkV RL 76 9 mX10_below 2 := ⟨cal_X10_below, RX10, TX10, 15, rfl, lw_okI 826 (by decide +kernel) (by decide +kernel), lw_okI 827 (by decide +kernel) (by decide +kernel), lw_okI 828 (by decide +kernel) (by decide +kernel), by decide +kernel⟩
theorem kv_L_81 : aLkV RL 81 9 mX10_first 2 := ⟨cal_X10_first, RX10, TX10, 15, rfl, lw_okI 830 (by decide +kernel) (by decide +kernel), lw_okI 831 (by decide +kernel) (by decide +kernel), lw_okI 832 (by decide +kernel) (by decide +kernel), by decide +kernel⟩
theorem kv_X10_144 : aLkV RX10 144 9 mX10_spanOf 2 := ⟨cal_X10_spanOf, RX10, TX10, 15, rfl, lw_okI 834 (by decide +kernel) (by decide +kernel), lw_okI 836 (by decide +kernel) (by decide +kernel), lw_okI 32 (by decide +kernel) (by decide +kernel), by decide +kernel⟩
theorem kv_L_85 : aLkV RL 85 9 mX10_heap 2 := ⟨cal_X10_heap, RX10, TX10, 15, rfl, lw_okI 838 (by decide +kernel) (by decide +kernel), lw_okI 839 (by decide +kernel) (by decide +kernel), lw_okI 840 (by decide +kernel) (by decide +kernel), by decide +kernel⟩
theorem kv_L_89 : aLkV RL 89 9 mX10_wait 2 := ⟨cal_X10_wait, RX10, TX10, 15, rfl, lw_okI 842 (by decide +kernel) (by decide +kernel), lw_okI 843 (by decide +kernel) (by decide +kernel), lw_okI 844 (by decide +kernel) (by decide +kernel), by decide +kernel⟩
theorem kv_L_93 : aLkV RL 93 9 mX10_come 1 := ⟨cal_X10_come, RX10, TX10, 15, rfl, lw_okI 846 (by decide +kernel) (by decide +kernel), lw_okI 847 (by decide +kernel) (by decide +kernel), lw_okI 848 (by decide +kernel) (by decide +kernel), by decide +kernel⟩
theorem kv_L_97 : aLkV RL 97 9 mX10_hardest 2 := ⟨cal_X10_hardest, RX10, TX10, 15, rfl, lw_okI 850 (by decide +kernel) (by decide +kernel), lw_okI 851 (by decide +kernel) (by decide +kernel), lw_okI 852 (by decide +kernel) (by decide +kernel), by decide +kernel⟩
theorem kv_L_101 : aLkV RL 101 9 mX10_stop 0 := ⟨cal_X10_stop, RX10, TX10, 15, rfl, lw_okI 854 (by decide +kernel) (by decide +kernel), lw_okI 855 (by decide +kernel) (by decide +kernel), lw_okI 856 (by decide +kernel) (by decide +kernel), by decide +kernel⟩
theorem kv_L_105 : aLkV RL 105 9 mX10_serve 1 := ⟨cal_X10_serve, RX10, TX10, 15, rfl, lw_okI 858 (by decide +kernel) (by decide +kernel), lw_okI 859 (by decide +kernel) (by decide +kernel), lw_okI 860 (by decide +kernel) (by decide +kernel), by decide +kernel⟩
theorem kv_L_109 : aLkV RL 109 9 mX10_moved 2 := ⟨cal_X10_moved, RX10, TX10, 15, rfl, lw_okI 862 (by decide +kernel) (by decide +kernel), lw_okI 863 (by decide +kernel) (by decide +kernel), lw_okI 864 (by decide +kernel) (by decide +kernel), by decide +kernel⟩
theorem kv_X10_150 : aLkV RX10 150 9 mX10_came 1 := ⟨cal_X10_came, RX10, TX10, 15, rfl, lw_okI 868 (by decide +kernel) (by decide +kernel), lw_okI 870 (by decide +kernel) (by decide +kernel), lw_okI 33 (by decide +kernel) (by decide +kernel), by decide +kernel⟩
theorem kv_X10_157 : aLkV RX10 157 9 mX10_served 1 := ⟨cal_X10_served, RX10, TX10, 15, rfl, lw_okI 872 (by decide +kernel) (by decide +kernel), lw_okI 874 (by decide +kernel) (by decide +kernel), lw_okI 34 (by decide +kernel) (by decide +kernel), by decide +kernel⟩
theorem kv_L_113 : aLkV RL 113 9 mX10_late 1 := ⟨cal_X10_late, RX10, TX10, 15, rfl, lw_okI 876 (by decide +kernel) (by decide +kernel), lw_okI 877 (by decide +kernel) (by decide +kernel), lw_okI 878 (by decide +kernel) (by decide +kernel), by decide +kernel⟩
theorem kv_X10_160 : aLkV RX10 160 9 mX10_lateAt 1 := ⟨cal_X10_lateAt, RX10, TX10, 15, rfl, lw_okI 880 (by decide +kernel) (by decide +kernel), lw_okI 882 (by decide +kernel) (by decide +kernel), lw_okI 35 (by decide +kernel) (by decide +kernel), by decide +kernel⟩
theorem kv_L_118 : aLkV RL 118 9 mX10_mostHeld 0 := ⟨cal_X10_mostHeld, RX10, TX10, 15, rfl, lw_okI 884 (by decide +kernel) (by decide +kernel), lw_okI 885 (by decide +kernel) (by decide +kernel), lw_okI 886 (by decide +kernel) (by decide +kernel), by decide +kernel⟩
theorem kv_L_122 : aLkV RL 122 9 mX10_mostLate 0 := ⟨cal_X10_mostLate, RX10, TX10, 15, rfl, lw_okI 888 (by decide +kernel) (by decide +kernel), lw_okI 889 (by decide +kernel) (by decide +kernel), lw_okI 890 (by decide +kernel) (by decide +kernel), by decide +kernel⟩
theorem kv_L_126 : aLkV RL 126 9 mX10_keeps 1 := ⟨cal_X10_keeps, RX10, TX10, 15, rfl, lw_okI 892 (by decide +kernel) (by decide +kernel), lw_okI 893 (by decide +kernel) (by decide +kernel), lw_okI 894 (by decide +kernel) (by decide +kernel), by decide +kernel⟩
theorem kv_L_130 : aLkV RL 130 9 mX10_count 1 := ⟨cal_X10_count, RX10, TX10, 15, rfl, lw_okI 896 (by decide +kernel) (by decide +kernel), lw_okI 897 (by decide +kernel) (by decide +kernel), lw_okI 898 (by decide +kernel) (by decide +kernel), by decide +kernel⟩
theorem kv_L_134 : aLkV RL 134 9 mX10_trace 1 := ⟨cal_X10_trace, RX10, TX10, 15, rfl, lw_okI 900 (by decide +kernel) (by decide +kernel), lw_okI 901 (by decide +kernel) (by decide +kernel), lw_okI 902 (by decide +kernel) (by decide +kernel), by decide +kernel⟩
theorem kv_L_138 : aLkV RL 138 9 mX10_status 0 := ⟨cal_X10_status, RX10, TX10, 15, rfl, lw_okI 904 (by decide +kernel) (by decide +kernel), lw_okI 905 (by decide +kernel) (by decide +kernel), lw_okI 906 (by decide +kernel) (by decide +kernel), by decide +kernel⟩
theorem kv_L_142 : aLkV RL 142 9 mX10_clear 0 := ⟨cal_X10_clear, RX10, TX10, 15, rfl, lw_okI 908 (by decide +kernel) (by decide +kernel), lw_okI 909 (by decide +kernel) (by decide +kernel), lw_okI 910 (by decide +kernel) (by decide +kernel), by decide +kernel⟩
