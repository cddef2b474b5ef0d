theorem nb_1 {w : Cond} (k : Nat) (h : tables_1_1[k]? = some w) (hg : nbk w = true) : w ∈ NB := List.mem_filter.mpr ⟨List.mem_append_right _ (List.mem_append_left _ (List.mem_of_getElem? h)), hg⟩
theorem nb_2 {w : Cond} (k : Nat) (h : tables_1_2[k]? = some w) (hg : nbk w = true) : w ∈ NB := List.mem_filter.mpr ⟨List.mem_append_right _ (List.mem_append_right _ (List.mem_append_left _ (List.mem_of_getElem? h))), hg⟩
theorem nb_3 {w : Cond} (k : Nat) (h : tables_1_3[k]? = some w) (hg : nbk w = true) : w ∈ NB := List.mem_filter.mpr ⟨List.mem_append_right _ (List.mem_append_right _ (List.mem_append_right _ (List.mem_append_left _ (List.mem_of_getElem? h)))), hg⟩
theorem nb_4 {w : Cond} (k : Nat) (h : tables_1_4[k]? = some w) (hg : nbk w = true) : w ∈ NB := List.mem_filter.mpr ⟨List.mem_append_right _ (List.mem_append_right _ (List.mem_append_right _ (List.mem_append_right _ (List.mem_append_left _ (List.mem_of_getElem? h))))), hg⟩
theorem nb_5 {w : Cond} (k : Nat) (h : tables_1_5[k]? = some w) (hg : nbk w = true) : w ∈ NB := List.mem_filter.mpr ⟨List.mem_append_right _ (List.mem_append_right _ (List.mem_append_right _ (List.mem_append_right _ (List.mem_append_right _ (List.mem_append_left _ (List.mem_of_getElem? h)))))), hg⟩
theorem nb_6 {w : Cond} (k : Nat) (h : tables_1_6[k]? = some w) (hg : nbk w = true) : w ∈ NB := List.mem_filter.mpr ⟨List.mem_append_right _ (List.mem_append_right _ (List.mem_append_right _ (List.mem_append_right _ (List.mem_append_right _ (List.mem_append_right _ (List.mem_append_left _ (List.mem_of_getElem? h))))))), hg⟩
theorem nb_7 {w : Cond} (k : Nat) (h : tables_1_7[k]? = some w) (hg : nbk w = true) : w ∈ NB := List.mem_filter.mpr ⟨List.mem_append_right _ (List.mem_append_right _ (List.mem_append_right _ (List.mem_append_right _ (List.mem_append_right _ (List.mem_append_right _ (List.mem_append_right _ (List.mem_append_left _ (List.mem_of_getElem? h)))))))), hg⟩
theorem nb_8 {w : Cond} (k : Nat) (h : tables_1_8[k]? = some w) (hg : nbk w = true) : w ∈ NB := List.mem_filter.mpr ⟨List.mem_append_right _ (List.mem_append_right _ (List.mem_append_right _ (List.mem_append_right _ (List.mem_append_right _ (List.mem_append_right _ (List.mem_append_right _ (List.mem_append_right _ (List.mem_of_getElem? h)))))))), hg⟩
abbrev mX11_init : MD := (yX11_init, cX11_init, 3, none, none)
abbrev mX10_init : MD := (yX10_init, cX10_init, 2, none, none)
abbrev mX1_init : MD := (yX1_init, cX1_init, 1, none, none)
abbrev mX5_init : MD := (yX5_init, cX5_init, 2, none, none)
abbrev mX6_init : MD := (yX6_init, cX6_init, 1, none, none)
abbrev mX8_init : MD := (yX8_init, cX8_init, 1, none, none)
abbrev mX4_init : MD := (yX4_init, cX4_init, 1, none, none)
abbrev mX7_init : MD := (yX7_init, cX7_init, 2, none, none)
abbrev mX0_init : MD := (yX0_init, cX0_init, 2, none, none)
abbrev mX9_init : MD := (yX9_init, cX9_init, 1, none, none)
abbrev mX2_init : MD := (yX2_init, cX2_init, 1, none, none)
abbrev mX11_feed : MD := (yX11_feed, cX11_feed, 6, (some .int), none)
abbrev mX5_filled : MD := (yX5_filled, cX5_filled, 1, (some .int), none)
abbrev mX11_feedBytes : MD := (yX11_feedBytes, cX11_feedBytes, 3, none, none)
abbrev mX5_add : MD := (yX5_add, cX5_add, 2, none, none)
abbrev mX11_fault : MD := (yX11_fault, cX11_fault, 1, (some .int), none)
abbrev mX11_seed : MD := (yX11_seed, cX11_seed, 3, (some .int), none)
abbrev mX11_mean : MD := (yX11_mean, cX11_mean, 2, (some .int), none)
abbrev mX10_mileSum : MD := (yX10_mileSum, cX10_mileSum, 7, (some .int), none)
abbrev mX5_at : MD := (yX5_at, cX5_at, 2, (some .int), none)
abbrev mX11_anew : MD := (yX11_anew, cX11_anew, 2, (some .int), none)
abbrev mX5_empty : MD := (yX5_empty, cX5_empty, 1, none, none)
abbrev mX11_image : MD := (yX11_image, cX11_image, 1, (some .int), none)
abbrev mX10_copyFrom : MD := (yX10_copyFrom, cX10_copyFrom, 3, none, none)
abbrev mX1_copyFrom : MD := (yX1_copyFrom, cX1_copyFrom, 2, none, none)
abbrev mX5_copyFrom : MD := (yX5_copyFrom, cX5_copyFrom, 3, none, none)
abbrev mX6_copyFrom : MD := (yX6_copyFrom, cX6_copyFrom, 2, none, none)
abbrev mX6_place : MD := (yX6_place, cX6_place, 5, none, none)
abbrev mX6_dress : MD := (yX6_dress, cX6_dress, 3, none, none)
abbrev mX8_copyFrom : MD := (yX8_copyFrom, cX8_copyFrom, 2, none, none)
abbrev mX11_restore : MD := (yX11_restore, cX11_restore, 1, (some .int), none)
abbrev mX11_count : MD := (yX11_count, cX11_count, 2, (some .int), none)
abbrev mX7_filled : MD := (yX7_filled, cX7_filled, 1, (some .int), none)
abbrev mX10_runCount : MD := (yX10_runCount, cX10_runCount, 1, (some .int), none)
abbrev mX8_known : MD := (yX8_known, cX8_known, 1, (some .int), none)
abbrev mL_hull : MD := (yL_hull, cL_hull, 5, (some .int), (some [(0, 10, 13, 13)]))
abbrev mX11_hull : MD := (yX11_hull, cX11_hull, 3, (some .int), none)
abbrev mX11_isWithin : MD := (yX11_isWithin, cX11_isWithin, 3, (some .boolean), none)
abbrev mX11_demand : MD := (yX11_demand, cX11_demand, 1, none, none)
abbrev mX10_addHull : MD := (yX10_addHull, cX10_addHull, 3, (some .int), none)
abbrev mX1_lay : MD := (yX1_lay, cX1_lay, 3, none, none)
abbrev mJ7_fill_53178 : MD := (yJ7_fill_53178, cJ7_fill_53178, 4, none, none)
abbrev mL_station : MD := (yL_station, cL_station, 7, (some .int), (some [(0, 14, 17, 19), (0, 14, 21, 13)]))
abbrev mX11_station : MD := (yX11_station, cX11_station, 7, (some .int), none)
abbrev mX11_demandHull : MD := (yX11_demandHull, cX11_demandHull, 3, (some (.object "TankHulls$Hull")), none)
abbrev mX10_hullAt : MD := (yX10_hullAt, cX10_hullAt, 3, (some (.object "TankHulls$Hull")), none)
abbrev mX1_hasStation : MD := (yX1_hasStation, cX1_hasStation, 2, (some .boolean), none)
abbrev mX1_beamAt : MD := (yX1_beamAt, cX1_beamAt, 2, (some .int), none)
abbrev mX1_draftAt : MD := (yX1_draftAt, cX1_draftAt, 2, (some .int), none)
abbrev mX1_shape : MD := (yX1_shape, cX1_shape, 4, none, none)
abbrev mL_model : MD := (yL_model, cL_model, 6, (some .int), (some [(0, 12, 15, 19), (0, 12, 19, 13)]))
abbrev mX11_model : MD := (yX11_model, cX11_model, 5, (some .int), none)
abbrev mX0_modelPart : MD := (yX0_modelPart, cX0_modelPart, 4, (some .int), none)
abbrev mX2_measure : MD := (yX2_measure, cX2_measure, 11, none, none)
abbrev mJ9_max_7cf53 : MD := (yJ9_max_7cf53, cJ9_max_7cf53, 2, (some .int), none)
abbrev mX11_over : MD := (yX11_over, cX11_over, 4, (some .long), none)
abbrev mX2_part : MD := (yX2_part, cX2_part, 2, (some .int), none)
abbrev mL_tank : MD := (yL_tank, cL_tank, 5, (some .int), (some [(0, 10, 13, 13)]))
abbrev mX11_tank : MD := (yX11_tank, cX11_tank, 3, (some .int), none)
abbrev mX10_addTank : MD := (yX10_addTank, cX10_addTank, 3, (some .int), none)
abbrev mX5_isFull : MD := (yX5_isFull, cX5_isFull, 1, (some .boolean), none)
abbrev mL_law : MD := (yL_law, cL_law, 5, (some .int), (some [(0, 10, 13, 13)]))
abbrev mX11_law : MD := (yX11_law, cX11_law, 5, (some .int), none)
abbrev mX7_isFull : MD := (yX7_isFull, cX7_isFull, 1, (some .boolean), none)
abbrev mX4_readText : MD := (yX4_readText, cX4_readText, 5, (some .int), none)
abbrev mJ9_min_7cf53 : MD := (yJ9_min_7cf53, cJ9_min_7cf53, 2, (some .int), none)
abbrev mX4_advance : MD := (yX4_advance, cX4_advance, 2, none, none)
abbrev mX4_isDigit : MD := (yX4_isDigit, cX4_isDigit, 1, (some .boolean), none)
abbrev mX4_scanNumber : MD := (yX4_scanNumber, cX4_scanNumber, 1, none, none)
abbrev mX4_isLetter : MD := (yX4_isLetter, cX4_isLetter, 1, (some .boolean), none)
abbrev mX4_wordBetween : MD := (yX4_wordBetween, cX4_wordBetween, 8, (some .int), none)
abbrev mJ0_length_8abf5 : MD := (yJ0_length_8abf5, cJ0_length_8abf5, 1, (some .int), none)
abbrev mJ0_coder_7d493 : MD := (yJ0_coder_7d493, cJ0_coder_7d493, 1, (some .byte), none)
abbrev mJ0_charAt_5068e : MD := (yJ0_charAt_5068e, cJ0_charAt_5068e, 2, (some .char), none)
abbrev mJ0_isLatin1_aae02 : MD := (yJ0_isLatin1_aae02, cJ0_isLatin1_aae02, 1, (some .boolean), none)
abbrev mJ1_charAt_3b067 : MD := (yJ1_charAt_3b067, cJ1_charAt_3b067, 2, (some .char), none)
abbrev mJ0_checkIndex_df160 : MD := (yJ0_checkIndex_df160, cJ0_checkIndex_df160, 2, none, none)
abbrev mJ3_checkIndex_8e157 : MD := (yJ3_checkIndex_8e157, cJ3_checkIndex_8e157, 3, (some .int), none)
abbrev mJ2_charAt_3b067 : MD := (yJ2_charAt_3b067, cJ2_charAt_3b067, 2, (some .char), none)
abbrev mJ2_checkIndex_2214a : MD := (yJ2_checkIndex_2214a, cJ2_checkIndex_2214a, 2, none, none)
abbrev mJ2_length_9d52b : MD := (yJ2_length_9d52b, cJ2_length_9d52b, 1, (some .int), none)
abbrev mJ2_getChar_3b067 : MD := (yJ2_getChar_3b067, cJ2_getChar_3b067, 2, (some .char), none)
abbrev mX4_readClause : MD := (yX4_readClause, cX4_readClause, 6, none, none)
abbrev mX4_fail : MD := (yX4_fail, cX4_fail, 2, none, none)
abbrev mX4_readChain : MD := (yX4_readChain, cX4_readChain, 4, none, none)
abbrev mX4_readPart : MD := (yX4_readPart, cX4_readPart, 2, none, none)
abbrev mX4_readTest : MD := (yX4_readTest, cX4_readTest, 1, none, none)
abbrev mX4_opens : MD := (yX4_opens, cX4_opens, 1, (some .boolean), none)
abbrev mX4_emit : MD := (yX4_emit, cX4_emit, 3, none, none)
abbrev mX4_take : MD := (yX4_take, cX4_take, 2, none, none)
abbrev mX4_readComparison : MD := (yX4_readComparison, cX4_readComparison, 2, none, none)
abbrev mX4_readUnit : MD := (yX4_readUnit, cX4_readUnit, 2, none, none)
abbrev mX4_readNumber : MD := (yX4_readNumber, cX4_readNumber, 1, none, none)
abbrev mX4_readInside : MD := (yX4_readInside, cX4_readInside, 2, none, none)
abbrev mX4_isJoint : MD := (yX4_isJoint, cX4_isJoint, 2, (some .boolean), none)
abbrev mX4_placeOfFault : MD := (yX4_placeOfFault, cX4_placeOfFault, 1, (some .int), none)
abbrev mX4_finished : MD := (yX4_finished, cX4_finished, 1, (some (.object "TankHulls$Program")), none)
abbrev mJ7_copyOf_59c91 : MD := (yJ7_copyOf_59c91, cJ7_copyOf_59c91, 3, (some (.array .int)), none)
abbrev mX3_init : MD := (yX3_init, cX3_init, 2, none, none)
abbrev mX7_put : MD := (yX7_put, cX7_put, 2, (some .int), none)
abbrev mL_set : MD := (yL_set, cL_set, 7, (some .int), (some [(0, 14, 17, 19), (0, 14, 21, 35), (0, 14, 25, 13)]))
abbrev mX11_set : MD := (yX11_set, cX11_set, 6, (some .int), none)
abbrev mX11_demandTank : MD := (yX11_demandTank, cX11_demandTank, 2, none, none)
abbrev mL_trim : MD := (yL_trim, cL_trim, 5, (some .int), (some [(0, 10, 13, 13)]))
abbrev mX11_trim : MD := (yX11_trim, cX11_trim, 4, (some .int), none)
abbrev mL_name : MD := (yL_name, cL_name, 4, (some .int), (some [(0, 9, 12, 45), (0, 9, 15, 13)]))
abbrev mX11_name : MD := (yX11_name, cX11_name, 2, (some .int), none)
abbrev mX11_demandAnyHull : MD := (yX11_demandAnyHull, cX11_demandAnyHull, 1, none, none)
abbrev mX0_nameAtHand : MD := (yX0_nameAtHand, cX0_nameAtHand, 2, (some .int), none)
abbrev mX0_nameAll : MD := (yX0_nameAll, cX0_nameAll, 3, none, none)
abbrev mX9_giveName : MD := (yX9_giveName, cX9_giveName, 4, none, none)
abbrev mX0_sideOf : MD := (yX0_sideOf, cX0_sideOf, 2, (some .long), none)
abbrev mX9_nameAt : MD := (yX9_nameAt, cX9_nameAt, 2, (some .long), none)
abbrev mL_pull : MD := (yL_pull, cL_pull, 5, (some .int), (some [(0, 9, 12, 45), (0, 9, 16, 35), (0, 9, 20, 13)]))
abbrev mX11_pull : MD := (yX11_pull, cX11_pull, 4, (some .long), none)
abbrev mX11_demandProgram : MD := (yX11_demandProgram, cX11_demandProgram, 3, (some (.object "TankHulls$Program")), none)
abbrev mX7_at : MD := (yX7_at, cX7_at, 3, (some (.object "TankHulls$Program")), none)
abbrev mX0_pullPart : MD := (yX0_pullPart, cX0_pullPart, 5, (some .long), none)
abbrev mX0_pullOf : MD := (yX0_pullOf, cX0_pullOf, 3, (some .long), none)
abbrev mX9_work : MD := (yX9_work, cX9_work, 9, none, none)
abbrev mJ7_fill_d0a16 : MD := (yJ7_fill_d0a16, cJ7_fill_d0a16, 5, none, none)
abbrev mX9_push : MD := (yX9_push, cX9_push, 3, none, none)
abbrev mX9_pop : MD := (yX9_pop, cX9_pop, 1, (some .long), none)
abbrev mX9_tell : MD := (yX9_tell, cX9_tell, 5, none, none)
abbrev mX11_rootOf : MD := (yX11_rootOf, cX11_rootOf, 7, (some .long), none)
abbrev mX9_joined : MD := (yX9_joined, cX9_joined, 5, (some .long), none)
abbrev mX9_addUp : MD := (yX9_addUp, cX9_addUp, 3, (some .long), none)
abbrev mX9_toldOf : MD := (yX9_toldOf, cX9_toldOf, 3, (some .long), none)
abbrev mJ9_min_f86c9 : MD := (yJ9_min_f86c9, cJ9_min_f86c9, 4, (some .long), none)
abbrev mX11_hundredths : MD := (yX11_hundredths, cX11_hundredths, 4, (some .long), none)
abbrev mL_need : MD := (yL_need, cL_need, 6, (some .int), (some [(0, 11, 14, 45), (0, 11, 18, 35), (0, 11, 22, 13)]))
abbrev mX11_need : MD := (yX11_need, cX11_need, 5, (some .long), none)
abbrev mX0_needPart : MD := (yX0_needPart, cX0_needPart, 16, (some .long), none)
abbrev mX0_toldBy : MD := (yX0_toldBy, cX0_toldBy, 4, (some .long), none)
abbrev mJ9_max_f86c9 : MD := (yJ9_max_f86c9, cJ9_max_f86c9, 4, (some .long), none)
abbrev mL_error : MD := (yL_error, cL_error, 7, (some .int), (some [(0, 13, 16, 45), (0, 13, 20, 35), (0, 13, 24, 13)]))
abbrev mX11_error : MD := (yX11_error, cX11_error, 7, (some .long), none)
abbrev mX0_errorOf : MD := (yX0_errorOf, cX0_errorOf, 7, (some .long), none)
abbrev mX0_calm : MD := (yX0_calm, cX0_calm, 3, (some (.object "TankHulls$Running")), none)
abbrev mX0_foretoldNeed : MD := (yX0_foretoldNeed, cX0_foretoldNeed, 10, (some .long), none)
abbrev mX11_distance : MD := (yX11_distance, cX11_distance, 4, (some .long), none)
abbrev mL_size : MD := (yL_size, cL_size, 7, (some .int), (some [(0, 14, 17, 45), (0, 14, 21, 35), (0, 14, 25, 13)]))
abbrev mX11_size : MD := (yX11_size, cX11_size, 7, (some .int), none)
abbrev mX0_bestScale : MD := (yX0_bestScale, cX0_bestScale, 16, (some .int), none)
abbrev mL_sides : MD := (yL_sides, cL_sides, 4, (some .int), (some [(0, 8, 11, 45), (0, 8, 14, 35)]))
abbrev mX11_sides : MD := (yX11_sides, cX11_sides, 3, (some .long), none)
abbrev mX0_sidesAtHand : MD := (yX0_sidesAtHand, cX0_sidesAtHand, 4, (some .long), none)
abbrev mX0_moved : MD := (yX0_moved, cX0_moved, 3, (some (.object "TankHulls$Running")), none)
abbrev mL_widest : MD := (yL_widest, cL_widest, 5, (some .int), (some [(0, 10, 13, 45), (0, 10, 17, 35), (0, 10, 21, 13)]))
abbrev mX11_widest : MD := (yX11_widest, cX11_widest, 4, (some .int), none)
abbrev mX0_leastScaleWithin : MD := (yX0_leastScaleWithin, cX0_leastScaleWithin, 8, (some .int), none)
abbrev mL_run : MD := (yL_run, cL_run, 4, (some .int), (some [(0, 9, 12, 45), (0, 9, 15, 13)]))
abbrev mX11_run : MD := (yX11_run, cX11_run, 2, (some .int), none)
abbrev mX10_addRun : MD := (yX10_addRun, cX10_addRun, 2, (some .int), none)
abbrev mL_tow : MD := (yL_tow, cL_tow, 5, (some .int), (some [(0, 10, 13, 45), (0, 10, 17, 35), (0, 10, 21, 13)]))
abbrev mX11_tow : MD := (yX11_tow, cX11_tow, 4, (some .int), none)
abbrev mX0_drawnPull : MD := (yX0_drawnPull, cX0_drawnPull, 7, (some .int), none)
abbrev mX10_drawOf : MD := (yX10_drawOf, cX10_drawOf, 2, (some .int), none)
abbrev mL_ran : MD := (yL_ran, cL_ran, 5, (some .int), (some [(0, 10, 13, 19), (0, 10, 17, 13)]))
abbrev mX11_ran : MD := (yX11_ran, cX11_ran, 3, (some .int), none)
abbrev mX10_runCell : MD := (yX10_runCell, cX10_runCell, 3, (some .int), none)
abbrev mL_wire : MD := (yL_wire, cL_wire, 3, (some .int), (some [(0, 7, 10, 45)]))
abbrev mX11_wire : MD := (yX11_wire, cX11_wire, 1, (some .long), none)
abbrev mX0_wirePart : MD := (yX0_wirePart, cX0_wirePart, 8, (some .long), none)
abbrev mX0_isAtHand : MD := (yX0_isAtHand, cX0_isAtHand, 2, (some .boolean), none)
abbrev mL_fits : MD := (yL_fits, cL_fits, 4, (some .int), (some [(0, 9, 12, 13)]))
abbrev mX11_fits : MD := (yX11_fits, cX11_fits, 2, (some .int), none)
abbrev mX0_fittingLaws : MD := (yX0_fittingLaws, cX0_fittingLaws, 6, (some .int), none)
abbrev mX0_isFitting : MD := (yX0_isFitting, cX0_isFitting, 6, (some .boolean), none)
abbrev mX10_fetchRun : MD := (yX10_fetchRun, cX10_fetchRun, 3, none, none)
abbrev mL_telling : MD := (yL_telling, cL_telling, 4, (some .int), (some [(0, 9, 12, 45), (0, 9, 15, 13)]))
abbrev mX11_telling : MD := (yX11_telling, cX11_telling, 2, (some .int), none)
abbrev mX0_tellingSpeed : MD := (yX0_tellingSpeed, cX0_tellingSpeed, 9, (some .int), none)
abbrev mJ6_bitCount_0f7a4 : MD := (yJ6_bitCount_0f7a4, cJ6_bitCount_0f7a4, 1, (some .int), none)
abbrev mX0_apartAt : MD := (yX0_apartAt, cX0_apartAt, 12, (some .long), none)
abbrev mL_earlier : MD := (yL_earlier, cL_earlier, 5, (some .int), (some [(0, 10, 13, 13)]))
abbrev mX11_earlier : MD := (yX11_earlier, cX11_earlier, 3, (some .int), none)
abbrev mX8_addShip : MD := (yX8_addShip, cX8_addShip, 5, (some .int), none)
abbrev mL_ratio : MD := (yL_ratio, cL_ratio, 4, (some .int), (some [(0, 9, 12, 19)]))
abbrev mX11_ratio : MD := (yX11_ratio, cX11_ratio, 3, (some .int), none)
abbrev mX8_middle : MD := (yX8_middle, cX8_middle, 6, (some .int), none)
abbrev mX8_ratioAt : MD := (yX8_ratioAt, cX8_ratioAt, 2, (some .int), none)
abbrev mL_strange : MD := (yL_strange, cL_strange, 4, (some .int), (some [(0, 9, 12, 13)]))
abbrev mX11_strange : MD := (yX11_strange, cX11_strange, 2, (some .int), none)
abbrev mX8_strangeBits : MD := (yX8_strangeBits, cX8_strangeBits, 5, (some .int), none)
abbrev mL_span : MD := (yL_span, cL_span, 5, (some .int), (some [(0, 9, 12, 13)]))
abbrev mX11_span : MD := (yX11_span, cX11_span, 3, (some .long), none)
abbrev mX8_spanOf : MD := (yX8_spanOf, cX8_spanOf, 8, (some .long), none)
abbrev mL_better : MD := (yL_better, cL_better, 5, (some .int), (some [(0, 9, 12, 45), (0, 9, 16, 35), (0, 9, 20, 13)]))
abbrev mX11_better : MD := (yX11_better, cX11_better, 4, (some .long), none)
abbrev mX0_seekBetter : MD := (yX0_seekBetter, cX0_seekBetter, 7, (some .boolean), none)
abbrev mX1_canExchange : MD := (yX1_canExchange, cX1_canExchange, 5, (some .boolean), none)
abbrev mX1_exchange : MD := (yX1_exchange, cX1_exchange, 5, none, none)
abbrev mX0_weigh : MD := (yX0_weigh, cX0_weigh, 8, none, none)
abbrev mX0_betterPart : MD := (yX0_betterPart, cX0_betterPart, 2, (some .long), none)
abbrev mL_lines : MD := (yL_lines, cL_lines, 5, (some .int), (some [(0, 10, 13, 45), (0, 10, 17, 35), (0, 10, 21, 13)]))
abbrev mX11_lines : MD := (yX11_lines, cX11_lines, 6, (some .int), none)
abbrev mX0_makeBetter : MD := (yX0_makeBetter, cX0_makeBetter, 2, none, none)
abbrev mL_mile : MD := (yL_mile, cL_mile, 5, (some .int), (some [(0, 10, 13, 13)]))
abbrev mX11_mile : MD := (yX11_mile, cX11_mile, 3, (some .int), none)
abbrev mL_odds : MD := (yL_odds, cL_odds, 5, (some .int), (some [(0, 10, 13, 13)]))
abbrev mX11_odds : MD := (yX11_odds, cX11_odds, 3, (some .int), none)
abbrev mX8_within : MD := (yX8_within, cX8_within, 7, (some .int), none)
abbrev mL_price : MD := (yL_price, cL_price, 7, (some .int), (some [(0, 14, 17, 13)]))
abbrev mX11_price : MD := (yX11_price, cX11_price, 6, (some .int), none)
abbrev mX8_usual : MD := (yX8_usual, cX8_usual, 1, (some .int), none)
abbrev mL_foul : MD := (yL_foul, cL_foul, 5, (some .int), (some [(0, 10, 13, 13)]))
abbrev mX11_foul : MD := (yX11_foul, cX11_foul, 3, (some .int), none)
abbrev mX10_addFouling : MD := (yX10_addFouling, cX10_addFouling, 4, (some .int), none)
abbrev mL_grown : MD := (yL_grown, cL_grown, 4, (some .int), (some [(0, 9, 12, 13)]))
abbrev mX11_grown : MD := (yX11_grown, cX11_grown, 2, (some .int), none)
abbrev mX10_fouledBy : MD := (yX10_fouledBy, cX10_fouledBy, 8, (some .int), none)
abbrev mX12_init : MD := (yX12_init, cX12_init, 1, none, none)
abbrev mX12_thrown : MD := (yX12_thrown, cX12_thrown, 1, (some .int), none)
abbrev mX12_hull : MD := (yX12_hull, cX12_hull, 4, (some .int), none)
abbrev mX12_in : MD := (yX12_in, cX12_in, 3, (some .boolean), none)
abbrev mX12_bad : MD := (yX12_bad, cX12_bad, 3, (some .boolean), none)
abbrev mX12_station : MD := (yX12_station, cX12_station, 6, (some .int), none)
abbrev mX12_isHull : MD := (yX12_isHull, cX12_isHull, 2, (some .boolean), none)
abbrev mX12_model : MD := (yX12_model, cX12_model, 4, (some .int), none)
abbrev mX12_modelOf : MD := (yX12_modelOf, cX12_modelOf, 20, (some .long), none)
abbrev mX12_tank : MD := (yX12_tank, cX12_tank, 3, (some .int), none)
abbrev mX12_feed : MD := (yX12_feed, cX12_feed, 8, (some .int), none)
abbrev mX12_law : MD := (yX12_law, cX12_law, 5, (some .int), none)
abbrev mX12_walks : MD := (yX12_walks, cX12_walks, 2, none, none)
abbrev mX12_blanks : MD := (yX12_blanks, cX12_blanks, 1, none, none)
abbrev mX12_byteAt : MD := (yX12_byteAt, cX12_byteAt, 2, (some .int), none)
abbrev mX12_clause : MD := (yX12_clause, cX12_clause, 5, none, none)
abbrev mX12_wordOf : MD := (yX12_wordOf, cX12_wordOf, 1, (some .int), none)
abbrev mX12_isWord : MD := (yX12_isWord, cX12_isWord, 7, (some .boolean), none)
abbrev mX12_wordHere : MD := (yX12_wordHere, cX12_wordHere, 3, (some .int), none)
abbrev mX12_word : MD := (yX12_word, cX12_word, 7, (some .int), none)
abbrev mX12_wrong : MD := (yX12_wrong, cX12_wrong, 3, none, none)
abbrev mX12_skipWord : MD := (yX12_skipWord, cX12_skipWord, 1, none, none)
abbrev mX12_sum : MD := (yX12_sum, cX12_sum, 6, (some .long), none)
abbrev mX12_product : MD := (yX12_product, cX12_product, 6, (some .long), none)
abbrev mX12_unit : MD := (yX12_unit, cX12_unit, 9, (some .long), none)
abbrev mX12_isDigit : MD := (yX12_isDigit, cX12_isDigit, 1, (some .boolean), none)
abbrev mX12_number : MD := (yX12_number, cX12_number, 4, (some .long), none)
abbrev mX12_nameHere : MD := (yX12_nameHere, cX12_nameHere, 1, (some .int), none)
abbrev mX12_opens : MD := (yX12_opens, cX12_opens, 2, none, none)
abbrev mX12_sign : MD := (yX12_sign, cX12_sign, 2, none, none)
abbrev mX12_root : MD := (yX12_root, cX12_root, 8, (some .long), none)
abbrev mX12_ors : MD := (yX12_ors, cX12_ors, 3, (some .boolean), none)
abbrev mX12_ands : MD := (yX12_ands, cX12_ands, 3, (some .boolean), none)
abbrev mX12_test : MD := (yX12_test, cX12_test, 6, (some .boolean), none)
abbrev mX12_fault : MD := (yX12_fault, cX12_fault, 1, (some .int), none)
abbrev mX12_set : MD := (yX12_set, cX12_set, 6, (some .int), none)
abbrev mX12_trim : MD := (yX12_trim, cX12_trim, 4, (some .int), none)
abbrev mX12_name : MD := (yX12_name, cX12_name, 2, (some .int), none)
abbrev mX12_atHand : MD := (yX12_atHand, cX12_atHand, 1, none, none)
abbrev mX12_tellsNames : MD := (yX12_tellsNames, cX12_tellsNames, 8, none, none)
abbrev mX12_pull : MD := (yX12_pull, cX12_pull, 5, (some .long), none)
abbrev mX12_isLaw : MD := (yX12_isLaw, cX12_isLaw, 2, (some .boolean), none)
abbrev mX12_pullOf : MD := (yX12_pullOf, cX12_pullOf, 4, (some .long), none)
abbrev mX12_allOf : MD := (yX12_allOf, cX12_allOf, 4, (some .long), none)
abbrev mX12_skinOf : MD := (yX12_skinOf, cX12_skinOf, 2, (some .long), none)
abbrev mX12_asks : MD := (yX12_asks, cX12_asks, 3, none, none)
abbrev mX12_within : MD := (yX12_within, cX12_within, 6, (some .long), none)
abbrev mX12_need : MD := (yX12_need, cX12_need, 4, (some .long), none)
abbrev mX12_shipSpeed : MD := (yX12_shipSpeed, cX12_shipSpeed, 2, (some .int), none)
abbrev mX12_needOf : MD := (yX12_needOf, cX12_needOf, 17, (some .long), none)
abbrev mX12_error : MD := (yX12_error, cX12_error, 5, (some .long), none)
abbrev mX12_badBoth : MD := (yX12_badBoth, cX12_badBoth, 3, (some .boolean), none)
abbrev mX12_errorOf : MD := (yX12_errorOf, cX12_errorOf, 10, (some .long), none)
abbrev mX12_modelSpeed : MD := (yX12_modelSpeed, cX12_modelSpeed, 3, (some .int), none)
abbrev mX12_amount : MD := (yX12_amount, cX12_amount, 2, (some .long), none)
abbrev mX12_size : MD := (yX12_size, cX12_size, 11, (some .int), none)
abbrev mX12_sides : MD := (yX12_sides, cX12_sides, 2, (some .long), none)
abbrev mX12_pullAt : MD := (yX12_pullAt, cX12_pullAt, 4, (some .long), none)
abbrev mX12_widest : MD := (yX12_widest, cX12_widest, 6, (some .int), none)
abbrev mX12_run : MD := (yX12_run, cX12_run, 2, (some .int), none)
abbrev mX12_keepsRun : MD := (yX12_keepsRun, cX12_keepsRun, 3, (some .int), none)
abbrev mX12_tow : MD := (yX12_tow, cX12_tow, 6, (some .int), none)
abbrev mX12_ran : MD := (yX12_ran, cX12_ran, 3, (some .int), none)
abbrev mX12_seed : MD := (yX12_seed, cX12_seed, 3, (some .int), none)
abbrev mX12_wire : MD := (yX12_wire, cX12_wire, 8, (some .long), none)
abbrev mX12_fits : MD := (yX12_fits, cX12_fits, 2, (some .int), none)
abbrev mX12_fitting : MD := (yX12_fitting, cX12_fitting, 4, (some .int), none)
abbrev mX12_isFitting : MD := (yX12_isFitting, cX12_isFitting, 7, (some .boolean), none)
abbrev mX12_telling : MD := (yX12_telling, cX12_telling, 15, (some .int), none)
abbrev mX12_earlier : MD := (yX12_earlier, cX12_earlier, 3, (some .int), none)
abbrev mX12_ratio : MD := (yX12_ratio, cX12_ratio, 2, (some .int), none)
abbrev mX12_middle : MD := (yX12_middle, cX12_middle, 4, (some .int), none)
abbrev mX12_ratioOf : MD := (yX12_ratioOf, cX12_ratioOf, 2, (some .int), none)
abbrev mX12_strange : MD := (yX12_strange, cX12_strange, 4, (some .int), none)
abbrev mX12_isStrange : MD := (yX12_isStrange, cX12_isStrange, 3, (some .boolean), none)
abbrev mX12_span : MD := (yX12_span, cX12_span, 6, (some .long), none)
abbrev mX12_better : MD := (yX12_better, cX12_better, 3, (some .long), none)
abbrev mX12_findBetter : MD := (yX12_findBetter, cX12_findBetter, 11, none, none)
abbrev mX12_changes : MD := (yX12_changes, cX12_changes, 6, (some .boolean), none)
abbrev mX12_lines : MD := (yX12_lines, cX12_lines, 4, (some .int), none)
abbrev mX12_mile : MD := (yX12_mile, cX12_mile, 3, (some .int), none)
abbrev mX12_mean : MD := (yX12_mean, cX12_mean, 5, (some .int), none)
abbrev mX12_often : MD := (yX12_often, cX12_often, 4, (some .int), none)
abbrev mX12_anew : MD := (yX12_anew, cX12_anew, 2, (some .int), none)
abbrev mX12_odds : MD := (yX12_odds, cX12_odds, 3, (some .int), none)
abbrev mX12_oddsOf : MD := (yX12_oddsOf, cX12_oddsOf, 6, (some .int), none)
abbrev mX12_price : MD := (yX12_price, cX12_price, 5, (some .int), none)
abbrev mX12_foul : MD := (yX12_foul, cX12_foul, 3, (some .int), none)
abbrev mX12_grown : MD := (yX12_grown, cX12_grown, 6, (some .int), none)
abbrev mX12_image : MD := (yX12_image, cX12_image, 1, (some .int), none)
abbrev mX12_movesAll : MD := (yX12_movesAll, cX12_movesAll, 4, none, none)
abbrev mX12_moves : MD := (yX12_moves, cX12_moves, 4, (some .int), none)
abbrev mX12_movesRow : MD := (yX12_movesRow, cX12_movesRow, 5, none, none)
abbrev mX12_restore : MD := (yX12_restore, cX12_restore, 1, (some .int), none)
abbrev mX12_count : MD := (yX12_count, cX12_count, 2, (some .int), none)
abbrev mL_law_ : MD := (yL_law_, cL_law_, 8, (some .boolean), none)
theorem oiX0_3 : Cond.methodLink RX0 3 objectInit ∈ TB := (tb_2 1 rfl rfl)
theorem fpX0_9 (y : MethodName) (h : y.cls = RX0) (h2 : y.name = "<init>") : FP y 9 0 0 := ⟨by decide, by decide, Or.inr (Or.inr ⟨by rw [h]; exact (tb_2 63 rfl rfl), rfl, h2, h.symm⟩)⟩
theorem clX0_15 : Cond.classLink RX0 15 RX9 ∈ TB := (tb_2 2 rfl rfl)
theorem miX0_17 : MI RX0 17 0 mX9_init := ⟨Or.inl (tb_2 4 rfl rfl), (tb_2 5 rfl rfl), rfl, rfl, ⟨(tb_1 10 rfl rfl), (tb_2 6 rfl rfl), rfl, ⟨by decide, by decide⟩, by decide +kernel, by decide⟩⟩
theorem fpX0_18 (y : MethodName) (h : y.cls = RX0) (h2 : y.name = "<init>") : FP y 18 0 1 := ⟨by decide, by decide, Or.inr (Or.inr ⟨by rw [h]; exact (tb_2 64 rfl rfl), rfl, h2, h.symm⟩)⟩
theorem clX0_22 : Cond.classLink RX0 22 RX2 ∈ TB := (tb_2 30 rfl rfl)
theorem miX0_24 : MI RX0 24 0 mX2_init := ⟨Or.inr ⟨"TankHulls", (nb_2 32 rfl rfl)⟩, (tb_2 33 rfl rfl), rfl, rfl, ⟨(tb_1 11 rfl rfl), (tb_2 34 rfl rfl), rfl, ⟨by decide, by decide⟩, by decide +kernel, by decide⟩⟩
theorem fpX0_25 (y : MethodName) (h : y.cls = RX0) (h2 : y.name = "<init>") : FP y 25 0 2 := ⟨by decide, by decide, Or.inr (Or.inr ⟨by rw [h]; exact (tb_2 65 rfl rfl), rfl, h2, h.symm⟩)⟩
theorem clX0_29 : Cond.classLink RX0 29 RX6 ∈ TB := (tb_2 61 rfl rfl)
theorem miX0_31 : MI RX0 31 0 mX6_init := ⟨Or.inl (tb_2 62 rfl rfl), (tb_1 85 rfl rfl), rfl, rfl, ⟨(tb_1 5 rfl rfl), (tb_1 86 rfl rfl), rfl, ⟨by decide, by decide⟩, by decide +kernel, by decide⟩⟩
theorem fpX0_32 (y : MethodName) (h : y.cls = RX0) (h2 : y.name = "<init>") : FP y 32 0 3 := ⟨by decide, by decide, Or.inr (Or.inr ⟨by rw [h]; exact (tb_2 66 rfl rfl), rfl, h2, h.symm⟩)⟩
theorem fpX0_36 (y : MethodName) (h : y.cls = RX0) (h2 : y.name = "<init>") : FP y 36 0 4 := ⟨by decide, by decide, Or.inr (Or.inr ⟨by rw [h]; exact (tb_2 67 rfl rfl), rfl, h2, h.symm⟩)⟩
theorem fgX0_25 : FL RX0 25 0 2 := ⟨by decide, by decide, Or.inl (tb_2 65 rfl rfl)⟩
theorem mvX0_39 : MV RX0 39 2 mX2_measure := ⟨(tb_3 133 rfl rfl), (tb_3 134 rfl rfl), (tb_3 135 rfl rfl), ⟨(tb_1 11 rfl rfl), (tb_3 136 rfl rfl), rfl, ⟨by decide, by decide⟩, by decide +kernel, by decide⟩⟩
theorem mvX0_43 : MV RX0 43 1 mX2_part := ⟨(tb_3 145 rfl rfl), (tb_3 146 rfl rfl), (tb_3 147 rfl rfl), ⟨(tb_1 11 rfl rfl), (tb_3 148 rfl rfl), rfl, ⟨by decide, by decide⟩, by decide +kernel, by decide⟩⟩
theorem fgX0_9 : FL RX0 9 0 0 := ⟨by decide, by decide, Or.inl (tb_2 63 rfl rfl)⟩
theorem fgX0_47 : FL RX0 47 10 4 := ⟨by decide, by decide, Or.inr ⟨"TankHulls", (nb_1 142 rfl rfl)⟩⟩
theorem mvX0_52 : MV RX0 52 1 mX0_nameAll := ⟨(tb_4 168 rfl rfl), (tb_4 170 rfl rfl), (tb_s 21 rfl rfl), ⟨(tb_1 9 rfl rfl), (tb_4 171 rfl rfl), rfl, ⟨by decide, by decide⟩, by decide +kernel, by decide⟩⟩
theorem fgX0_18 : FL RX0 18 0 1 := ⟨by decide, by decide, Or.inl (tb_2 64 rfl rfl)⟩
theorem mvX0_56 : MV RX0 56 1 mX9_nameAt := ⟨(tb_4 184 rfl rfl), (tb_4 185 rfl rfl), (tb_4 186 rfl rfl), ⟨(tb_1 10 rfl rfl), (tb_4 187 rfl rfl), rfl, ⟨by decide, by decide⟩, by decide +kernel, by decide⟩⟩
theorem fgX0_60 : FL RX0 60 6 0 := ⟨by decide, by decide, Or.inr ⟨"TankHulls", (nb_1 89 rfl rfl)⟩⟩
theorem mvX0_64 : MV RX0 64 1 mX10_hullAt := ⟨(tb_4 172 rfl rfl), (tb_3 87 rfl rfl), (tb_3 88 rfl rfl), ⟨(tb_1 2 rfl rfl), (tb_3 89 rfl rfl), rfl, ⟨by decide, by decide⟩, by decide +kernel, by decide⟩⟩
theorem fgX0_68 : FL RX0 68 6 1 := ⟨by decide, by decide, Or.inr ⟨"TankHulls", (nb_1 92 rfl rfl)⟩⟩
theorem fgX0_71 : FL RX0 71 2 0 := ⟨by decide, by decide, Or.inr ⟨"TankHulls", (nb_2 37 rfl rfl)⟩⟩
theorem mvX0_74 : MV RX0 74 2 mX9_giveName := ⟨(tb_4 173 rfl rfl), (tb_4 174 rfl rfl), (tb_4 175 rfl rfl), ⟨(tb_1 10 rfl rfl), (tb_4 176 rfl rfl), rfl, ⟨by decide, by decide⟩, by decide +kernel, by decide⟩⟩
theorem fgX0_78 : FL RX0 78 6 2 := ⟨by decide, by decide, Or.inr ⟨"TankHulls", (nb_1 96 rfl rfl)⟩⟩
theorem fgX0_81 : FL RX0 81 2 1 := ⟨by decide, by decide, Or.inr ⟨"TankHulls", (nb_2 39 rfl rfl)⟩⟩
theorem fgX0_84 : FL RX0 84 2 2 := ⟨by decide, by decide, Or.inr ⟨"TankHulls", (nb_2 41 rfl rfl)⟩⟩
theorem fgX0_87 : FL RX0 87 2 3 := ⟨by decide, by decide, Or.inr ⟨"TankHulls", (nb_2 43 rfl rfl)⟩⟩
theorem fgX0_90 : FL RX0 90 2 4 := ⟨by decide, by decide, Or.inr ⟨"TankHulls", (nb_2 45 rfl rfl)⟩⟩
theorem ctX0_93 : Cond.constantLong RX0 93 (100) ∈ TB := (tb_4 177 rfl rfl)
theorem msX0_95 : MN RX0 95 2 mX11_over := ⟨⟨"TankHulls", (nb_4 178 rfl rfl)⟩, (tb_3 142 rfl rfl), ⟨(tb_1 1 rfl rfl), (tb_3 143 rfl rfl), rfl, ⟨by decide, by decide⟩, by decide +kernel, by decide⟩⟩
theorem fgX0_99 : FL RX0 99 6 4 := ⟨by decide, by decide, Or.inr ⟨"TankHulls", (nb_1 102 rfl rfl)⟩⟩
theorem fgX0_103 : FL RX0 103 6 3 := ⟨by decide, by decide, Or.inr ⟨"TankHulls", (nb_1 99 rfl rfl)⟩⟩
theorem mvX0_106 : MV RX0 106 1 mX0_sideOf := ⟨(tb_4 179 rfl rfl), (tb_4 181 rfl rfl), (tb_s 22 rfl rfl), ⟨(tb_1 9 rfl rfl), (tb_4 182 rfl rfl), rfl, ⟨by decide, by decide⟩, by decide +kernel, by decide⟩⟩
theorem fgX0_109 : FL RX0 109 6 5 := ⟨by decide, by decide, Or.inr ⟨"TankHulls", (nb_1 105 rfl rfl)⟩⟩
theorem fgX0_112 : FL RX0 112 2 5 := ⟨by decide, by decide, Or.inr ⟨"TankHulls", (nb_2 47 rfl rfl)⟩⟩
theorem fgX0_115 : FL RX0 115 10 2 := ⟨by decide, by decide, Or.inr ⟨"TankHulls", (nb_1 137 rfl rfl)⟩⟩
theorem mvX0_119 : MV RX0 119 1 mX5_at := ⟨(tb_4 183 rfl rfl), (tb_2 154 rfl rfl), (tb_2 155 rfl rfl), ⟨(tb_1 4 rfl rfl), (tb_2 156 rfl rfl), rfl, ⟨by decide, by decide⟩, by decide +kernel, by decide⟩⟩
theorem fgX0_124 : FL RX0 124 10 3 := ⟨by decide, by decide, Or.inr ⟨"TankHulls", (nb_1 140 rfl rfl)⟩⟩
theorem mvX0_127 : MV RX0 127 1 mX9_work := ⟨(tb_4 210 rfl rfl), (tb_4 211 rfl rfl), (tb_4 212 rfl rfl), ⟨(tb_1 10 rfl rfl), (tb_4 213 rfl rfl), rfl, ⟨by decide, by decide⟩, by decide +kernel, by decide⟩⟩
theorem mvX0_131 : MV RX0 131 1 mX9_toldOf := ⟨(tb_5 14 rfl rfl), (tb_5 2 rfl rfl), (tb_5 3 rfl rfl), ⟨(tb_1 10 rfl rfl), (tb_5 4 rfl rfl), rfl, ⟨by decide, by decide⟩, by decide +kernel, by decide⟩⟩
theorem mvX0_134 : MV RX0 134 0 mX9_addUp := ⟨(tb_4 237 rfl rfl), (tb_4 238 rfl rfl), (tb_4 239 rfl rfl), ⟨(tb_1 10 rfl rfl), (tb_5 0 rfl rfl), rfl, ⟨by decide, by decide⟩, by decide +kernel, by decide⟩⟩
theorem fgX0_32 : FL RX0 32 0 3 := ⟨by decide, by decide, Or.inl (tb_2 66 rfl rfl)⟩
theorem mvX0_138 : MV RX0 138 4 mX6_place := ⟨(tb_5 37 rfl rfl), (tb_2 192 rfl rfl), (tb_2 193 rfl rfl), ⟨(tb_1 5 rfl rfl), (tb_2 194 rfl rfl), rfl, ⟨by decide, by decide⟩, by decide +kernel, by decide⟩⟩
theorem mvX0_142 : MV RX0 142 2 mX6_dress := ⟨(tb_5 38 rfl rfl), (tb_2 196 rfl rfl), (tb_2 197 rfl rfl), ⟨(tb_1 5 rfl rfl), (tb_2 198 rfl rfl), rfl, ⟨by decide, by decide⟩, by decide +kernel, by decide⟩⟩
theorem mvX0_146 : MV RX0 146 1 mX6_copyFrom := ⟨(tb_5 91 rfl rfl), (tb_2 188 rfl rfl), (tb_2 189 rfl rfl), ⟨(tb_1 5 rfl rfl), (tb_2 190 rfl rfl), rfl, ⟨by decide, by decide⟩, by decide +kernel, by decide⟩⟩
theorem fpX0_68 (y : MethodName) (h : y.cls = RX0) : FP y 68 6 1 := ⟨by decide, by decide, Or.inr (Or.inl ⟨"TankHulls", by rw [h]; exact (nb_1 92 rfl rfl), rfl⟩)⟩
theorem fpX0_103 (y : MethodName) (h : y.cls = RX0) : FP y 103 6 3 := ⟨by decide, by decide, Or.inr (Or.inl ⟨"TankHulls", by rw [h]; exact (nb_1 99 rfl rfl), rfl⟩)⟩
theorem mvX0_149 : MV RX0 149 2 mX0_pullOf := ⟨(tb_4 206 rfl rfl), (tb_4 208 rfl rfl), (tb_s 23 rfl rfl), ⟨(tb_1 9 rfl rfl), (tb_4 209 rfl rfl), rfl, ⟨by decide, by decide⟩, by decide +kernel, by decide⟩⟩
theorem fgX0_153 : FL RX0 153 9 4 := ⟨by decide, by decide, Or.inr ⟨"TankHulls", (nb_2 13 rfl rfl)⟩⟩
theorem fgX0_157 : FL RX0 157 9 5 := ⟨by decide, by decide, Or.inr ⟨"TankHulls", (nb_2 15 rfl rfl)⟩⟩
theorem msX0_160 : MN RX0 160 1 mX11_rootOf := ⟨⟨"TankHulls", (nb_5 27 rfl rfl)⟩, (tb_4 231 rfl rfl), ⟨(tb_1 1 rfl rfl), (tb_4 232 rfl rfl), rfl, ⟨by decide, by decide⟩, by decide +kernel, by decide⟩⟩
theorem ctX0_164 : Cond.constantLong RX0 164 (99) ∈ TB := (tb_5 28 rfl rfl)
theorem msX0_166 : MS RX0 166 2 mJ9_min_f86c9 := ⟨(tb_5 29 rfl rfl), (tb_5 8 rfl rfl), ⟨(tb_1 19 rfl rfl), (tb_5 9 rfl rfl), rfl, ⟨by decide, by decide⟩, by decide +kernel, by decide⟩⟩
theorem mvX0_171 : MV RX0 171 3 mX0_toldBy := ⟨(tb_5 30 rfl rfl), (tb_5 32 rfl rfl), (tb_s 27 rfl rfl), ⟨(tb_1 9 rfl rfl), (tb_5 33 rfl rfl), rfl, ⟨by decide, by decide⟩, by decide +kernel, by decide⟩⟩
theorem msX0_175 : MS RX0 175 2 mJ9_max_f86c9 := ⟨(tb_5 34 rfl rfl), (tb_5 35 rfl rfl), ⟨(tb_1 19 rfl rfl), (tb_5 36 rfl rfl), rfl, ⟨by decide, by decide⟩, by decide +kernel, by decide⟩⟩
theorem fgX0_36 : FL RX0 36 0 4 := ⟨by decide, by decide, Or.inl (tb_2 67 rfl rfl)⟩
theorem msX0_178 : MN RX0 178 2 mX11_hundredths := ⟨⟨"TankHulls", (nb_5 39 rfl rfl)⟩, (tb_5 11 rfl rfl), ⟨(tb_1 1 rfl rfl), (tb_5 12 rfl rfl), rfl, ⟨by decide, by decide⟩, by decide +kernel, by decide⟩⟩
theorem mvX0_181 : MV RX0 181 2 mX0_calm := ⟨(tb_5 51 rfl rfl), (tb_5 53 rfl rfl), (tb_s 28 rfl rfl), ⟨(tb_1 9 rfl rfl), (tb_5 54 rfl rfl), rfl, ⟨by decide, by decide⟩, by decide +kernel, by decide⟩⟩
theorem mvX0_185 : MV RX0 185 4 mX0_foretoldNeed := ⟨(tb_5 55 rfl rfl), (tb_5 57 rfl rfl), (tb_s 29 rfl rfl), ⟨(tb_1 9 rfl rfl), (tb_5 58 rfl rfl), rfl, ⟨by decide, by decide⟩, by decide +kernel, by decide⟩⟩
theorem msX0_189 : MN RX0 189 2 mX11_distance := ⟨⟨"TankHulls", (nb_5 61 rfl rfl)⟩, (tb_5 62 rfl rfl), ⟨(tb_1 1 rfl rfl), (tb_5 63 rfl rfl), rfl, ⟨by decide, by decide⟩, by decide +kernel, by decide⟩⟩
theorem ctX0_192 : Cond.constantLong RX0 192 (1000000000) ∈ TB := (tb_5 59 rfl rfl)
theorem mvX0_194 : MV RX0 194 4 mX0_needPart := ⟨(tb_5 60 rfl rfl), (tb_5 24 rfl rfl), (tb_5 25 rfl rfl), ⟨(tb_1 9 rfl rfl), (tb_5 26 rfl rfl), rfl, ⟨by decide, by decide⟩, by decide +kernel, by decide⟩⟩
theorem mvX0_198 : MV RX0 198 3 mX0_modelPart := ⟨(tb_5 75 rfl rfl), (tb_3 130 rfl rfl), (tb_3 131 rfl rfl), ⟨(tb_1 9 rfl rfl), (tb_3 132 rfl rfl), rfl, ⟨by decide, by decide⟩, by decide +kernel, by decide⟩⟩
theorem mvX0_202 : MV RX0 202 2 mX0_moved := ⟨(tb_5 87 rfl rfl), (tb_5 89 rfl rfl), (tb_s 30 rfl rfl), ⟨(tb_1 9 rfl rfl), (tb_5 90 rfl rfl), rfl, ⟨by decide, by decide⟩, by decide +kernel, by decide⟩⟩
theorem mvX0_205 : MV RX0 205 1 mX10_drawOf := ⟨(tb_5 127 rfl rfl), (tb_5 128 rfl rfl), (tb_5 129 rfl rfl), ⟨(tb_1 2 rfl rfl), (tb_5 130 rfl rfl), rfl, ⟨by decide, by decide⟩, by decide +kernel, by decide⟩⟩
theorem mvX0_208 : MV RX0 208 0 mX10_runCount := ⟨(tb_5 154 rfl rfl), (tb_2 217 rfl rfl), (tb_2 218 rfl rfl), ⟨(tb_1 2 rfl rfl), (tb_2 219 rfl rfl), rfl, ⟨by decide, by decide⟩, by decide +kernel, by decide⟩⟩
theorem mvX0_212 : MV RX0 212 1 mX0_isAtHand := ⟨(tb_5 155 rfl rfl), (tb_5 157 rfl rfl), (tb_s 31 rfl rfl), ⟨(tb_1 9 rfl rfl), (tb_5 158 rfl rfl), rfl, ⟨by decide, by decide⟩, by decide +kernel, by decide⟩⟩
theorem mvX0_216 : MV RX0 216 2 mX10_runCell := ⟨(tb_5 159 rfl rfl), (tb_5 140 rfl rfl), (tb_5 141 rfl rfl), ⟨(tb_1 2 rfl rfl), (tb_5 142 rfl rfl), rfl, ⟨by decide, by decide⟩, by decide +kernel, by decide⟩⟩
theorem mvX0_220 : MV RX0 220 0 mX7_filled := ⟨(tb_5 171 rfl rfl), (tb_2 213 rfl rfl), (tb_2 214 rfl rfl), ⟨(tb_1 8 rfl rfl), (tb_2 215 rfl rfl), rfl, ⟨by decide, by decide⟩, by decide +kernel, by decide⟩⟩
theorem mvX0_225 : MV RX0 225 1 mX7_at := ⟨(tb_5 172 rfl rfl), (tb_4 199 rfl rfl), (tb_4 200 rfl rfl), ⟨(tb_1 8 rfl rfl), (tb_4 201 rfl rfl), rfl, ⟨by decide, by decide⟩, by decide +kernel, by decide⟩⟩
theorem mvX0_228 : MV RX0 228 2 mX0_isFitting := ⟨(tb_5 173 rfl rfl), (tb_5 175 rfl rfl), (tb_s 32 rfl rfl), ⟨(tb_1 9 rfl rfl), (tb_5 176 rfl rfl), rfl, ⟨by decide, by decide⟩, by decide +kernel, by decide⟩⟩
theorem mvX0_232 : MV RX0 232 2 mX10_fetchRun := ⟨(tb_5 177 rfl rfl), (tb_5 178 rfl rfl), (tb_5 179 rfl rfl), ⟨(tb_1 2 rfl rfl), (tb_5 180 rfl rfl), rfl, ⟨by decide, by decide⟩, by decide +kernel, by decide⟩⟩
theorem msX0_236 : MS RX0 236 1 mJ6_bitCount_0f7a4 := ⟨(tb_5 195 rfl rfl), (tb_5 196 rfl rfl), ⟨(tb_1 28 rfl rfl), (tb_5 197 rfl rfl), rfl, ⟨by decide, by decide⟩, by decide +kernel, by decide⟩⟩
theorem mvX0_241 : MV RX0 241 3 mX0_apartAt := ⟨(tb_5 201 rfl rfl), (tb_5 203 rfl rfl), (tb_s 33 rfl rfl), ⟨(tb_1 9 rfl rfl), (tb_5 204 rfl rfl), rfl, ⟨by decide, by decide⟩, by decide +kernel, by decide⟩⟩
theorem ctX0_245 : Cond.constantLong RX0 245 (-1) ∈ TB := (tb_5 205 rfl rfl)
theorem fpX0_247 (y : MethodName) (h : y.cls = RX0) : FP y 247 0 5 := ⟨by decide, by decide, Or.inl ⟨by rw [h]; exact (tb_2 68 rfl rfl), rfl⟩⟩
theorem fpX0_250 (y : MethodName) (h : y.cls = RX0) : FP y 250 0 6 := ⟨by decide, by decide, Or.inl ⟨by rw [h]; exact (tb_2 69 rfl rfl), rfl⟩⟩
theorem fgX0_253 : FL RX0 253 1 1 := ⟨by decide, by decide, Or.inr ⟨"TankHulls", (nb_1 54 rfl rfl)⟩⟩
theorem mvX0_258 : MV RX0 258 3 mX1_canExchange := ⟨(tb_6 37 rfl rfl), (tb_6 38 rfl rfl), (tb_6 39 rfl rfl), ⟨(tb_1 3 rfl rfl), (tb_6 40 rfl rfl), rfl, ⟨by decide, by decide⟩, by decide +kernel, by decide⟩⟩
theorem mvX0_262 : MV RX0 262 3 mX1_exchange := ⟨(tb_6 41 rfl rfl), (tb_6 42 rfl rfl), (tb_6 43 rfl rfl), ⟨(tb_1 3 rfl rfl), (tb_6 44 rfl rfl), rfl, ⟨by decide, by decide⟩, by decide +kernel, by decide⟩⟩
theorem mvX0_266 : MV RX0 266 5 mX0_weigh := ⟨(tb_6 46 rfl rfl), (tb_6 48 rfl rfl), (tb_s 34 rfl rfl), ⟨(tb_1 9 rfl rfl), (tb_6 49 rfl rfl), rfl, ⟨by decide, by decide⟩, by decide +kernel, by decide⟩⟩
theorem fgX0_250 : FL RX0 250 0 6 := ⟨by decide, by decide, Or.inl (tb_2 69 rfl rfl)⟩
theorem fgX0_247 : FL RX0 247 0 5 := ⟨by decide, by decide, Or.inl (tb_2 68 rfl rfl)⟩
theorem fpX0_270 (y : MethodName) (h : y.cls = RX0) : FP y 270 0 7 := ⟨by decide, by decide, Or.inl ⟨by rw [h]; exact (tb_2 70 rfl rfl), rfl⟩⟩
theorem fpX0_273 (y : MethodName) (h : y.cls = RX0) : FP y 273 0 8 := ⟨by decide, by decide, Or.inl ⟨by rw [h]; exact (tb_2 71 rfl rfl), rfl⟩⟩
theorem fgX0_270 : FL RX0 270 0 7 := ⟨by decide, by decide, Or.inl (tb_2 70 rfl rfl)⟩
theorem fgX0_273 : FL RX0 273 0 8 := ⟨by decide, by decide, Or.inl (tb_2 71 rfl rfl)⟩
theorem oiX1_3 : Cond.methodLink RX1 3 objectInit ∈ TB := (tb_1 49 rfl rfl)
theorem fpX1_9 (y : MethodName) (h : y.cls = RX1) (h2 : y.name = "<init>") : FP y 9 1 2 := ⟨by decide, by decide, Or.inr (Or.inr ⟨by rw [h]; exact (tb_1 55 rfl rfl), rfl, h2, h.symm⟩)⟩
theorem fpX1_15 (y : MethodName) (h : y.cls = RX1) (h2 : y.name = "<init>") : FP y 15 1 3 := ⟨by decide, by decide, Or.inr (Or.inr ⟨by rw [h]; exact (tb_1 57 rfl rfl), rfl, h2, h.symm⟩)⟩
theorem fpX1_18 (y : MethodName) (h : y.cls = RX1) : FP y 18 1 0 := ⟨by decide, by decide, Or.inl ⟨by rw [h]; exact (tb_1 50 rfl rfl), rfl⟩⟩
theorem fpX1_22 (y : MethodName) (h : y.cls = RX1) : FP y 22 1 1 := ⟨by decide, by decide, Or.inl ⟨by rw [h]; exact (tb_1 52 rfl rfl), rfl⟩⟩
theorem fgX1_9 : FL RX1 9 1 2 := ⟨by decide, by decide, Or.inl (tb_1 55 rfl rfl)⟩
theorem msX1_25 : MS RX1 25 2 mJ7_fill_53178 := ⟨(tb_3 71 rfl rfl), (tb_3 72 rfl rfl), ⟨(tb_1 17 rfl rfl), (tb_3 73 rfl rfl), rfl, ⟨by decide, by decide⟩, by decide +kernel, by decide⟩⟩
theorem fgX1_15 : FL RX1 15 1 3 := ⟨by decide, by decide, Or.inl (tb_1 57 rfl rfl)⟩
theorem fgX1_22 : FL RX1 22 1 1 := ⟨by decide, by decide, Or.inl (tb_1 52 rfl rfl)⟩
theorem mvX1_31 : MV RX1 31 1 mX1_hasStation := ⟨(tb_3 113 rfl rfl), (tb_3 106 rfl rfl), (tb_3 107 rfl rfl), ⟨(tb_1 3 rfl rfl), (tb_3 108 rfl rfl), rfl, ⟨by decide, by decide⟩, by decide +kernel, by decide⟩⟩
theorem mvX1_35 : MV RX1 35 3 mX1_canExchange := ⟨(tb_6 45 rfl rfl), (tb_6 38 rfl rfl), (tb_6 39 rfl rfl), ⟨(tb_1 3 rfl rfl), (tb_6 40 rfl rfl), rfl, ⟨by decide, by decide⟩, by decide +kernel, by decide⟩⟩
theorem fgX1_18 : FL RX1 18 1 0 := ⟨by decide, by decide, Or.inl (tb_1 50 rfl rfl)⟩
-- method without code row: X1 39 ('java/lang/System', 'arraycopy', '(Ljava/lang/Object;ILjava/lang/Object;II)V')
theorem oiX2_3 : Cond.methodLink RX2 3 objectInit ∈ TB := (tb_2 35 rfl rfl)
theorem fgX2_9 : FL RX2 9 1 1 := ⟨by decide, by decide, Or.inr ⟨"TankHulls", (nb_1 53 rfl rfl)⟩⟩
theorem fgX2_15 : FL RX2 15 1 2 := ⟨by decide, by decide, Or.inr ⟨"TankHulls", (nb_1 56 rfl rfl)⟩⟩
theorem fgX2_19 : FL RX2 19 1 3 := ⟨by decide, by decide, Or.inr ⟨"TankHulls", (nb_1 58 rfl rfl)⟩⟩
theorem msX2_22 : MS RX2 22 2 mJ9_max_7cf53 := ⟨(tb_3 137 rfl rfl), (tb_3 138 rfl rfl), ⟨(tb_1 19 rfl rfl), (tb_3 139 rfl rfl), rfl, ⟨by decide, by decide⟩, by decide +kernel, by decide⟩⟩
theorem fgX2_28 : FL RX2 28 1 0 := ⟨by decide, by decide, Or.inr ⟨"TankHulls", (nb_1 51 rfl rfl)⟩⟩
theorem fpX2_31 (y : MethodName) (h : y.cls = RX2) : FP y 31 2 0 := ⟨by decide, by decide, Or.inl ⟨by rw [h]; exact (tb_2 36 rfl rfl), rfl⟩⟩
theorem fgX2_31 : FL RX2 31 2 0 := ⟨by decide, by decide, Or.inl (tb_2 36 rfl rfl)⟩
theorem ctX2_34 : Cond.constantLong RX2 34 (100) ∈ TB := (tb_3 140 rfl rfl)
theorem msX2_36 : MN RX2 36 2 mX11_over := ⟨⟨"TankHulls", (nb_3 141 rfl rfl)⟩, (tb_3 142 rfl rfl), ⟨(tb_1 1 rfl rfl), (tb_3 143 rfl rfl), rfl, ⟨by decide, by decide⟩, by decide +kernel, by decide⟩⟩
theorem fpX2_40 (y : MethodName) (h : y.cls = RX2) : FP y 40 2 1 := ⟨by decide, by decide, Or.inl ⟨by rw [h]; exact (tb_2 38 rfl rfl), rfl⟩⟩
theorem ctX2_43 : Cond.constantLong RX2 43 (10000) ∈ TB := (tb_3 144 rfl rfl)
theorem fpX2_45 (y : MethodName) (h : y.cls = RX2) : FP y 45 2 2 := ⟨by decide, by decide, Or.inl ⟨by rw [h]; exact (tb_2 40 rfl rfl), rfl⟩⟩
theorem fpX2_48 (y : MethodName) (h : y.cls = RX2) : FP y 48 2 3 := ⟨by decide, by decide, Or.inl ⟨by rw [h]; exact (tb_2 42 rfl rfl), rfl⟩⟩
theorem fpX2_51 (y : MethodName) (h : y.cls = RX2) : FP y 51 2 4 := ⟨by decide, by decide, Or.inl ⟨by rw [h]; exact (tb_2 44 rfl rfl), rfl⟩⟩
theorem fpX2_54 (y : MethodName) (h : y.cls = RX2) : FP y 54 2 5 := ⟨by decide, by decide, Or.inl ⟨by rw [h]; exact (tb_2 46 rfl rfl), rfl⟩⟩
theorem fgX2_40 : FL RX2 40 2 1 := ⟨by decide, by decide, Or.inl (tb_2 38 rfl rfl)⟩
theorem fgX2_45 : FL RX2 45 2 2 := ⟨by decide, by decide, Or.inl (tb_2 40 rfl rfl)⟩
theorem fgX2_48 : FL RX2 48 2 3 := ⟨by decide, by decide, Or.inl (tb_2 42 rfl rfl)⟩
theorem fgX2_51 : FL RX2 51 2 4 := ⟨by decide, by decide, Or.inl (tb_2 44 rfl rfl)⟩
theorem fgX2_54 : FL RX2 54 2 5 := ⟨by decide, by decide, Or.inl (tb_2 46 rfl rfl)⟩
theorem oiX3_1 : Cond.methodLink RX3 1 objectInit ∈ TB := (tb_4 90 rfl rfl)
theorem fpX3_7 (y : MethodName) (h : y.cls = RX3) (h2 : y.name = "<init>") : FP y 7 3 0 := ⟨by decide, by decide, Or.inr (Or.inr ⟨by rw [h]; exact (tb_4 91 rfl rfl), rfl, h2, h.symm⟩)⟩
theorem oiX4_3 : Cond.methodLink RX4 3 objectInit ∈ TB := (tb_1 186 rfl rfl)
theorem fpX4_9 (y : MethodName) (h : y.cls = RX4) (h2 : y.name = "<init>") : FP y 9 4 0 := ⟨by decide, by decide, Or.inr (Or.inr ⟨by rw [h]; exact (tb_1 187 rfl rfl), rfl, h2, h.symm⟩)⟩
theorem fpX4_15 (y : MethodName) (h : y.cls = RX4) (h2 : y.name = "<init>") : FP y 15 4 2 := ⟨by decide, by decide, Or.inr (Or.inr ⟨by rw [h]; exact (tb_1 189 rfl rfl), rfl, h2, h.symm⟩)⟩
theorem fgX4_15 : FL RX4 15 4 2 := ⟨by decide, by decide, Or.inl (tb_1 189 rfl rfl)⟩
theorem msX4_18 : MS RX4 18 2 mJ9_min_7cf53 := ⟨(tb_3 180 rfl rfl), (tb_3 181 rfl rfl), ⟨(tb_1 19 rfl rfl), (tb_3 182 rfl rfl), rfl, ⟨by decide, by decide⟩, by decide +kernel, by decide⟩⟩
theorem msX4_24 : MS RX4 24 2 mJ9_max_7cf53 := ⟨(tb_3 183 rfl rfl), (tb_3 138 rfl rfl), ⟨(tb_1 19 rfl rfl), (tb_3 139 rfl rfl), rfl, ⟨by decide, by decide⟩, by decide +kernel, by decide⟩⟩
theorem fpX4_27 (y : MethodName) (h : y.cls = RX4) : FP y 27 4 3 := ⟨by decide, by decide, Or.inl ⟨by rw [h]; exact (tb_1 190 rfl rfl), rfl⟩⟩
theorem fgX4_27 : FL RX4 27 4 3 := ⟨by decide, by decide, Or.inl (tb_1 190 rfl rfl)⟩
theorem mvX4_31 : MV RX4 31 1 mX5_at := ⟨(tb_3 184 rfl rfl), (tb_2 154 rfl rfl), (tb_2 155 rfl rfl), ⟨(tb_1 4 rfl rfl), (tb_2 156 rfl rfl), rfl, ⟨by decide, by decide⟩, by decide +kernel, by decide⟩⟩
theorem fpX4_37 (y : MethodName) (h : y.cls = RX4) : FP y 37 4 1 := ⟨by decide, by decide, Or.inl ⟨by rw [h]; exact (tb_1 188 rfl rfl), rfl⟩⟩
theorem fpX4_40 (y : MethodName) (h : y.cls = RX4) : FP y 40 4 4 := ⟨by decide, by decide, Or.inl ⟨by rw [h]; exact (tb_1 191 rfl rfl), rfl⟩⟩
theorem fpX4_43 (y : MethodName) (h : y.cls = RX4) : FP y 43 4 8 := ⟨by decide, by decide, Or.inl ⟨by rw [h]; exact (tb_1 195 rfl rfl), rfl⟩⟩
theorem fpX4_46 (y : MethodName) (h : y.cls = RX4) : FP y 46 4 9 := ⟨by decide, by decide, Or.inl ⟨by rw [h]; exact (tb_1 196 rfl rfl), rfl⟩⟩
theorem fpX4_49 (y : MethodName) (h : y.cls = RX4) : FP y 49 4 10 := ⟨by decide, by decide, Or.inl ⟨by rw [h]; exact (tb_1 197 rfl rfl), rfl⟩⟩
theorem mvX4_52 : MV RX4 52 0 mX4_advance := ⟨(tb_3 185 rfl rfl), (tb_3 187 rfl rfl), (tb_s 3 rfl rfl), ⟨(tb_1 7 rfl rfl), (tb_3 188 rfl rfl), rfl, ⟨by decide, by decide⟩, by decide +kernel, by decide⟩⟩
theorem fgX4_55 : FL RX4 55 4 6 := ⟨by decide, by decide, Or.inl (tb_1 193 rfl rfl)⟩
theorem fgX4_46 : FL RX4 46 4 9 := ⟨by decide, by decide, Or.inl (tb_1 196 rfl rfl)⟩
theorem mvX4_58 : MV RX4 58 2 mX4_readClause := ⟨(tb_4 12 rfl rfl), (tb_4 14 rfl rfl), (tb_s 6 rfl rfl), ⟨(tb_1 7 rfl rfl), (tb_4 15 rfl rfl), rfl, ⟨by decide, by decide⟩, by decide +kernel, by decide⟩⟩
theorem fgX4_49 : FL RX4 49 4 10 := ⟨by decide, by decide, Or.inl (tb_1 197 rfl rfl)⟩
theorem clX4_62 : Cond.classLink RX4 62 RX3 ∈ TB := (tb_4 73 rfl rfl)
theorem fgX4_9 : FL RX4 9 4 0 := ⟨by decide, by decide, Or.inl (tb_1 187 rfl rfl)⟩
theorem fgX4_37 : FL RX4 37 4 1 := ⟨by decide, by decide, Or.inl (tb_1 188 rfl rfl)⟩
theorem msX4_64 : MS RX4 64 2 mJ7_copyOf_59c91 := ⟨(tb_4 75 rfl rfl), (tb_4 76 rfl rfl), ⟨(tb_1 17 rfl rfl), (tb_4 77 rfl rfl), rfl, ⟨by decide, by decide⟩, by decide +kernel, by decide⟩⟩
theorem miX4_70 : MI RX4 70 1 mX3_init := ⟨Or.inl (tb_4 87 rfl rfl), (tb_4 88 rfl rfl), rfl, rfl, ⟨(tb_1 24 rfl rfl), (tb_4 89 rfl rfl), rfl, ⟨by decide, by decide⟩, by decide +kernel, by decide⟩⟩
theorem msX4_73 : MN RX4 73 3 mX11_isWithin := ⟨⟨"TankHulls", (nb_4 16 rfl rfl)⟩, (tb_2 234 rfl rfl), ⟨(tb_1 1 rfl rfl), (tb_2 235 rfl rfl), rfl, ⟨by decide, by decide⟩, by decide +kernel, by decide⟩⟩
theorem mvX4_77 : MV RX4 77 1 mX4_fail := ⟨(tb_4 17 rfl rfl), (tb_4 19 rfl rfl), (tb_s 7 rfl rfl), ⟨(tb_1 7 rfl rfl), (tb_4 20 rfl rfl), rfl, ⟨by decide, by decide⟩, by decide +kernel, by decide⟩⟩
theorem mvX4_81 : MV RX4 81 1 mX4_readChain := ⟨(tb_4 21 rfl rfl), (tb_4 23 rfl rfl), (tb_s 8 rfl rfl), ⟨(tb_1 7 rfl rfl), (tb_4 24 rfl rfl), rfl, ⟨by decide, by decide⟩, by decide +kernel, by decide⟩⟩
theorem mvX4_84 : MV RX4 84 1 mX4_take := ⟨(tb_4 41 rfl rfl), (tb_4 43 rfl rfl), (tb_s 13 rfl rfl), ⟨(tb_1 7 rfl rfl), (tb_4 44 rfl rfl), rfl, ⟨by decide, by decide⟩, by decide +kernel, by decide⟩⟩
theorem mvX4_87 : MV RX4 87 2 mX4_emit := ⟨(tb_4 37 rfl rfl), (tb_4 39 rfl rfl), (tb_s 12 rfl rfl), ⟨(tb_1 7 rfl rfl), (tb_4 40 rfl rfl), rfl, ⟨by decide, by decide⟩, by decide +kernel, by decide⟩⟩
theorem mvX4_91 : MV RX4 91 1 mX4_readPart := ⟨(tb_4 25 rfl rfl), (tb_4 27 rfl rfl), (tb_s 9 rfl rfl), ⟨(tb_1 7 rfl rfl), (tb_4 28 rfl rfl), rfl, ⟨by decide, by decide⟩, by decide +kernel, by decide⟩⟩
theorem mvX4_94 : MV RX4 94 1 mX4_isJoint := ⟨(tb_4 61 rfl rfl), (tb_4 63 rfl rfl), (tb_s 18 rfl rfl), ⟨(tb_1 7 rfl rfl), (tb_4 64 rfl rfl), rfl, ⟨by decide, by decide⟩, by decide +kernel, by decide⟩⟩
theorem mvX4_98 : MV RX4 98 0 mX4_readTest := ⟨(tb_4 29 rfl rfl), (tb_4 31 rfl rfl), (tb_s 10 rfl rfl), ⟨(tb_1 7 rfl rfl), (tb_4 32 rfl rfl), rfl, ⟨by decide, by decide⟩, by decide +kernel, by decide⟩⟩
theorem mvX4_101 : MV RX4 101 0 mX4_readUnit := ⟨(tb_4 49 rfl rfl), (tb_4 51 rfl rfl), (tb_s 15 rfl rfl), ⟨(tb_1 7 rfl rfl), (tb_4 52 rfl rfl), rfl, ⟨by decide, by decide⟩, by decide +kernel, by decide⟩⟩
theorem mvX4_104 : MV RX4 104 0 mX4_opens := ⟨(tb_4 33 rfl rfl), (tb_4 35 rfl rfl), (tb_s 11 rfl rfl), ⟨(tb_1 7 rfl rfl), (tb_4 36 rfl rfl), rfl, ⟨by decide, by decide⟩, by decide +kernel, by decide⟩⟩
theorem fgX4_43 : FL RX4 43 4 8 := ⟨by decide, by decide, Or.inl (tb_1 195 rfl rfl)⟩
theorem mvX4_108 : MV RX4 108 0 mX4_readComparison := ⟨(tb_4 45 rfl rfl), (tb_4 47 rfl rfl), (tb_s 14 rfl rfl), ⟨(tb_1 7 rfl rfl), (tb_4 48 rfl rfl), rfl, ⟨by decide, by decide⟩, by decide +kernel, by decide⟩⟩
theorem mvX4_111 : MV RX4 111 0 mX4_readNumber := ⟨(tb_4 53 rfl rfl), (tb_4 55 rfl rfl), (tb_s 16 rfl rfl), ⟨(tb_1 7 rfl rfl), (tb_4 56 rfl rfl), rfl, ⟨by decide, by decide⟩, by decide +kernel, by decide⟩⟩
theorem mvX4_114 : MV RX4 114 1 mX4_readInside := ⟨(tb_4 57 rfl rfl), (tb_4 59 rfl rfl), (tb_s 17 rfl rfl), ⟨(tb_1 7 rfl rfl), (tb_4 60 rfl rfl), rfl, ⟨by decide, by decide⟩, by decide +kernel, by decide⟩⟩
theorem fgX4_118 : FL RX4 118 4 7 := ⟨by decide, by decide, Or.inl (tb_1 194 rfl rfl)⟩
theorem fgX4_121 : FL RX4 121 4 5 := ⟨by decide, by decide, Or.inl (tb_1 192 rfl rfl)⟩
theorem fpX4_55 (y : MethodName) (h : y.cls = RX4) : FP y 55 4 6 := ⟨by decide, by decide, Or.inl ⟨by rw [h]; exact (tb_1 193 rfl rfl), rfl⟩⟩
theorem fgX4_40 : FL RX4 40 4 4 := ⟨by decide, by decide, Or.inl (tb_1 191 rfl rfl)⟩
theorem fpX4_121 (y : MethodName) (h : y.cls = RX4) : FP y 121 4 5 := ⟨by decide, by decide, Or.inl ⟨by rw [h]; exact (tb_1 192 rfl rfl), rfl⟩⟩
theorem msX4_124 : MS RX4 124 1 mX4_isDigit := ⟨(tb_3 189 rfl rfl), (tb_3 190 rfl rfl), ⟨(tb_1 7 rfl rfl), (tb_3 191 rfl rfl), rfl, ⟨by decide, by decide⟩, by decide +kernel, by decide⟩⟩
theorem mvX4_127 : MV RX4 127 0 mX4_scanNumber := ⟨(tb_3 192 rfl rfl), (tb_3 194 rfl rfl), (tb_s 4 rfl rfl), ⟨(tb_1 7 rfl rfl), (tb_3 195 rfl rfl), rfl, ⟨by decide, by decide⟩, by decide +kernel, by decide⟩⟩
theorem msX4_130 : MS RX4 130 1 mX4_isLetter := ⟨(tb_3 196 rfl rfl), (tb_3 197 rfl rfl), ⟨(tb_1 7 rfl rfl), (tb_3 198 rfl rfl), rfl, ⟨by decide, by decide⟩, by decide +kernel, by decide⟩⟩
theorem mvX4_133 : MV RX4 133 2 mX4_wordBetween := ⟨(tb_3 199 rfl rfl), (tb_3 201 rfl rfl), (tb_s 5 rfl rfl), ⟨(tb_1 7 rfl rfl), (tb_3 202 rfl rfl), rfl, ⟨by decide, by decide⟩, by decide +kernel, by decide⟩⟩
theorem fpX4_118 (y : MethodName) (h : y.cls = RX4) : FP y 118 4 7 := ⟨by decide, by decide, Or.inl ⟨by rw [h]; exact (tb_1 194 rfl rfl), rfl⟩⟩
-- ldc other X4 136 stringRef
theorem mvX4_138 : MV RX4 138 0 mJ0_length_8abf5 := ⟨(tb_3 204 rfl rfl), (tb_3 205 rfl rfl), (tb_3 206 rfl rfl), ⟨(tb_1 20 rfl rfl), (tb_3 207 rfl rfl), rfl, ⟨by decide, by decide⟩, by decide +kernel, by decide⟩⟩
theorem mvX4_143 : MV RX4 143 1 mJ0_charAt_5068e := ⟨(tb_3 214 rfl rfl), (tb_3 215 rfl rfl), (tb_3 216 rfl rfl), ⟨(tb_1 20 rfl rfl), (tb_3 217 rfl rfl), rfl, ⟨by decide, by decide⟩, by decide +kernel, by decide⟩⟩
theorem oiX5_1 : Cond.methodLink RX5 1 objectInit ∈ TB := (tb_1 74 rfl rfl)
theorem fpX5_7 (y : MethodName) (h : y.cls = RX5) (h2 : y.name = "<init>") : FP y 7 5 0 := ⟨by decide, by decide, Or.inr (Or.inr ⟨by rw [h]; exact (tb_1 75 rfl rfl), rfl, h2, h.symm⟩)⟩
theorem fgX5_13 : FL RX5 13 5 1 := ⟨by decide, by decide, Or.inl (tb_1 76 rfl rfl)⟩
theorem fgX5_7 : FL RX5 7 5 0 := ⟨by decide, by decide, Or.inl (tb_1 75 rfl rfl)⟩
theorem fpX5_13 (y : MethodName) (h : y.cls = RX5) : FP y 13 5 1 := ⟨by decide, by decide, Or.inl ⟨by rw [h]; exact (tb_1 76 rfl rfl), rfl⟩⟩
theorem mvX5_17 : MV RX5 17 0 mX5_empty := ⟨(tb_2 184 rfl rfl), (tb_2 162 rfl rfl), (tb_2 163 rfl rfl), ⟨(tb_1 4 rfl rfl), (tb_2 164 rfl rfl), rfl, ⟨by decide, by decide⟩, by decide +kernel, by decide⟩⟩
theorem mvX5_20 : MV RX5 20 1 mX5_at := ⟨(tb_2 185 rfl rfl), (tb_2 154 rfl rfl), (tb_2 155 rfl rfl), ⟨(tb_1 4 rfl rfl), (tb_2 156 rfl rfl), rfl, ⟨by decide, by decide⟩, by decide +kernel, by decide⟩⟩
theorem mvX5_24 : MV RX5 24 1 mX5_add := ⟨(tb_2 186 rfl rfl), (tb_2 132 rfl rfl), (tb_2 133 rfl rfl), ⟨(tb_1 4 rfl rfl), (tb_2 134 rfl rfl), rfl, ⟨by decide, by decide⟩, by decide +kernel, by decide⟩⟩
theorem oiX6_3 : Cond.methodLink RX6 3 objectInit ∈ TB := (tb_1 87 rfl rfl)
theorem fpX6_9 (y : MethodName) (h : y.cls = RX6) : FP y 9 6 1 := ⟨by decide, by decide, Or.inl ⟨by rw [h]; exact (tb_1 91 rfl rfl), rfl⟩⟩
theorem fpX6_15 (y : MethodName) (h : y.cls = RX6) : FP y 15 6 2 := ⟨by decide, by decide, Or.inl ⟨by rw [h]; exact (tb_1 95 rfl rfl), rfl⟩⟩
theorem fpX6_18 (y : MethodName) (h : y.cls = RX6) : FP y 18 6 3 := ⟨by decide, by decide, Or.inl ⟨by rw [h]; exact (tb_1 98 rfl rfl), rfl⟩⟩
theorem fpX6_21 (y : MethodName) (h : y.cls = RX6) : FP y 21 6 0 := ⟨by decide, by decide, Or.inl ⟨by rw [h]; exact (tb_1 88 rfl rfl), rfl⟩⟩
theorem fpX6_24 (y : MethodName) (h : y.cls = RX6) : FP y 24 6 4 := ⟨by decide, by decide, Or.inl ⟨by rw [h]; exact (tb_1 101 rfl rfl), rfl⟩⟩
theorem fpX6_28 (y : MethodName) (h : y.cls = RX6) : FP y 28 6 5 := ⟨by decide, by decide, Or.inl ⟨by rw [h]; exact (tb_1 104 rfl rfl), rfl⟩⟩
theorem fgX6_21 : FL RX6 21 6 0 := ⟨by decide, by decide, Or.inl (tb_1 88 rfl rfl)⟩
theorem fgX6_9 : FL RX6 9 6 1 := ⟨by decide, by decide, Or.inl (tb_1 91 rfl rfl)⟩
theorem fgX6_15 : FL RX6 15 6 2 := ⟨by decide, by decide, Or.inl (tb_1 95 rfl rfl)⟩
theorem fgX6_18 : FL RX6 18 6 3 := ⟨by decide, by decide, Or.inl (tb_1 98 rfl rfl)⟩
theorem mvX6_31 : MV RX6 31 4 mX6_place := ⟨(tb_2 191 rfl rfl), (tb_2 192 rfl rfl), (tb_2 193 rfl rfl), ⟨(tb_1 5 rfl rfl), (tb_2 194 rfl rfl), rfl, ⟨by decide, by decide⟩, by decide +kernel, by decide⟩⟩
theorem fgX6_24 : FL RX6 24 6 4 := ⟨by decide, by decide, Or.inl (tb_1 101 rfl rfl)⟩
theorem fgX6_28 : FL RX6 28 6 5 := ⟨by decide, by decide, Or.inl (tb_1 104 rfl rfl)⟩
theorem mvX6_35 : MV RX6 35 2 mX6_dress := ⟨(tb_2 195 rfl rfl), (tb_2 196 rfl rfl), (tb_2 197 rfl rfl), ⟨(tb_1 5 rfl rfl), (tb_2 198 rfl rfl), rfl, ⟨by decide, by decide⟩, by decide +kernel, by decide⟩⟩
theorem oiX7_1 : Cond.methodLink RX7 1 objectInit ∈ TB := (tb_1 226 rfl rfl)
theorem clX7_7 : Cond.classLink RX7 7 RX3 ∈ TB := (tb_1 227 rfl rfl)
theorem fpX7_9 (y : MethodName) (h : y.cls = RX7) (h2 : y.name = "<init>") : FP y 9 7 0 := ⟨by decide, by decide, Or.inr (Or.inr ⟨by rw [h]; exact (tb_1 229 rfl rfl), rfl, h2, h.symm⟩)⟩
theorem fgX7_15 : FL RX7 15 7 1 := ⟨by decide, by decide, Or.inl (tb_1 230 rfl rfl)⟩
theorem fgX7_9 : FL RX7 9 7 0 := ⟨by decide, by decide, Or.inl (tb_1 229 rfl rfl)⟩
theorem fpX7_15 (y : MethodName) (h : y.cls = RX7) : FP y 15 7 1 := ⟨by decide, by decide, Or.inl ⟨by rw [h]; exact (tb_1 230 rfl rfl), rfl⟩⟩
theorem oiX8_3 : Cond.methodLink RX8 3 objectInit ∈ TB := (tb_1 126 rfl rfl)
theorem clX8_9 : Cond.classLink RX8 9 RX5 ∈ TB := (tb_1 127 rfl rfl)
theorem miX8_11 : MI RX8 11 1 mX5_init := ⟨Or.inl (tb_1 128 rfl rfl), (tb_1 72 rfl rfl), rfl, rfl, ⟨(tb_1 4 rfl rfl), (tb_1 73 rfl rfl), rfl, ⟨by decide, by decide⟩, by decide +kernel, by decide⟩⟩
theorem fpX8_14 (y : MethodName) (h : y.cls = RX8) (h2 : y.name = "<init>") : FP y 14 8 0 := ⟨by decide, by decide, Or.inr (Or.inr ⟨by rw [h]; exact (tb_1 129 rfl rfl), rfl, h2, h.symm⟩)⟩
theorem fgX8_14 : FL RX8 14 8 0 := ⟨by decide, by decide, Or.inl (tb_1 129 rfl rfl)⟩
theorem mvX8_20 : MV RX8 20 0 mX5_filled := ⟨(tb_2 224 rfl rfl), (tb_2 124 rfl rfl), (tb_2 125 rfl rfl), ⟨(tb_1 4 rfl rfl), (tb_2 126 rfl rfl), rfl, ⟨by decide, by decide⟩, by decide +kernel, by decide⟩⟩
theorem mvX8_24 : MV RX8 24 1 mX5_at := ⟨(tb_5 239 rfl rfl), (tb_2 154 rfl rfl), (tb_2 155 rfl rfl), ⟨(tb_1 4 rfl rfl), (tb_2 156 rfl rfl), rfl, ⟨by decide, by decide⟩, by decide +kernel, by decide⟩⟩
theorem mvX8_28 : MV RX8 28 0 mX5_isFull := ⟨(tb_5 217 rfl rfl), (tb_3 161 rfl rfl), (tb_3 162 rfl rfl), ⟨(tb_1 4 rfl rfl), (tb_3 163 rfl rfl), rfl, ⟨by decide, by decide⟩, by decide +kernel, by decide⟩⟩
theorem ctX8_32 : Cond.constantLong RX8 32 (1000) ∈ TB := (tb_5 218 rfl rfl)
theorem msX8_34 : MN RX8 34 2 mX11_over := ⟨⟨"TankHulls", (nb_5 219 rfl rfl)⟩, (tb_3 142 rfl rfl), ⟨(tb_1 1 rfl rfl), (tb_3 143 rfl rfl), rfl, ⟨by decide, by decide⟩, by decide +kernel, by decide⟩⟩
theorem ctX8_38 : Cond.constantLong RX8 38 (2147483647) ∈ TB := (tb_5 220 rfl rfl)
theorem ctX8_40 : Cond.constant RX8 40 (2147483647) ∈ TB := (tb_5 221 rfl rfl)
theorem mvX8_41 : MV RX8 41 1 mX5_add := ⟨(tb_5 222 rfl rfl), (tb_2 132 rfl rfl), (tb_2 133 rfl rfl), ⟨(tb_1 4 rfl rfl), (tb_2 134 rfl rfl), rfl, ⟨by decide, by decide⟩, by decide +kernel, by decide⟩⟩
theorem mvX8_44 : MV RX8 44 0 mX8_known := ⟨(tb_5 234 rfl rfl), (tb_2 221 rfl rfl), (tb_2 222 rfl rfl), ⟨(tb_1 6 rfl rfl), (tb_2 223 rfl rfl), rfl, ⟨by decide, by decide⟩, by decide +kernel, by decide⟩⟩
theorem mvX8_47 : MV RX8 47 1 mX8_ratioAt := ⟨(tb_5 235 rfl rfl), (tb_5 236 rfl rfl), (tb_5 237 rfl rfl), ⟨(tb_1 6 rfl rfl), (tb_5 238 rfl rfl), rfl, ⟨by decide, by decide⟩, by decide +kernel, by decide⟩⟩
theorem mvX8_50 : MV RX8 50 0 mX8_middle := ⟨(tb_6 12 rfl rfl), (tb_5 231 rfl rfl), (tb_5 232 rfl rfl), ⟨(tb_1 6 rfl rfl), (tb_5 233 rfl rfl), rfl, ⟨by decide, by decide⟩, by decide +kernel, by decide⟩⟩
theorem msX8_53 : MN RX8 53 2 mX11_distance := ⟨⟨"TankHulls", (nb_6 13 rfl rfl)⟩, (tb_5 62 rfl rfl), ⟨(tb_1 1 rfl rfl), (tb_5 63 rfl rfl), rfl, ⟨by decide, by decide⟩, by decide +kernel, by decide⟩⟩
theorem mvX8_56 : MV RX8 56 1 mX8_strangeBits := ⟨(tb_6 25 rfl rfl), (tb_6 9 rfl rfl), (tb_6 10 rfl rfl), ⟨(tb_1 6 rfl rfl), (tb_6 11 rfl rfl), rfl, ⟨by decide, by decide⟩, by decide +kernel, by decide⟩⟩
theorem msX8_59 : MS RX8 59 1 mJ6_bitCount_0f7a4 := ⟨(tb_6 95 rfl rfl), (tb_5 196 rfl rfl), ⟨(tb_1 28 rfl rfl), (tb_5 197 rfl rfl), rfl, ⟨by decide, by decide⟩, by decide +kernel, by decide⟩⟩
theorem mvX8_64 : MV RX8 64 1 mX5_copyFrom := ⟨(tb_2 203 rfl rfl), (tb_2 181 rfl rfl), (tb_2 182 rfl rfl), ⟨(tb_1 4 rfl rfl), (tb_2 183 rfl rfl), rfl, ⟨by decide, by decide⟩, by decide +kernel, by decide⟩⟩
theorem oiX9_3 : Cond.methodLink RX9 3 objectInit ∈ TB := (tb_2 7 rfl rfl)
theorem fpX9_9 (y : MethodName) (h : y.cls = RX9) (h2 : y.name = "<init>") : FP y 9 9 0 := ⟨by decide, by decide, Or.inr (Or.inr ⟨by rw [h]; exact (tb_2 8 rfl rfl), rfl, h2, h.symm⟩)⟩
theorem fpX9_15 (y : MethodName) (h : y.cls = RX9) (h2 : y.name = "<init>") : FP y 15 9 1 := ⟨by decide, by decide, Or.inr (Or.inr ⟨by rw [h]; exact (tb_2 9 rfl rfl), rfl, h2, h.symm⟩)⟩
theorem fpX9_18 (y : MethodName) (h : y.cls = RX9) (h2 : y.name = "<init>") : FP y 18 9 2 := ⟨by decide, by decide, Or.inr (Or.inr ⟨by rw [h]; exact (tb_2 10 rfl rfl), rfl, h2, h.symm⟩)⟩
theorem fgX9_15 : FL RX9 15 9 1 := ⟨by decide, by decide, Or.inl (tb_2 9 rfl rfl)⟩
theorem msX9_21 : MS RX9 21 2 mJ7_fill_d0a16 := ⟨(tb_4 214 rfl rfl), (tb_4 215 rfl rfl), ⟨(tb_1 17 rfl rfl), (tb_4 216 rfl rfl), rfl, ⟨by decide, by decide⟩, by decide +kernel, by decide⟩⟩
theorem fpX9_27 (y : MethodName) (h : y.cls = RX9) : FP y 27 9 3 := ⟨by decide, by decide, Or.inl ⟨by rw [h]; exact (tb_2 11 rfl rfl), rfl⟩⟩
theorem fgX9_31 : FL RX9 31 3 0 := ⟨by decide, by decide, Or.inr ⟨"TankHulls", (nb_4 92 rfl rfl)⟩⟩
theorem mvX9_37 : MV RX9 37 1 mX9_push := ⟨(tb_4 217 rfl rfl), (tb_4 219 rfl rfl), (tb_s 24 rfl rfl), ⟨(tb_1 10 rfl rfl), (tb_4 220 rfl rfl), rfl, ⟨by decide, by decide⟩, by decide +kernel, by decide⟩⟩
theorem mvX9_41 : MV RX9 41 1 mX9_nameAt := ⟨(tb_4 221 rfl rfl), (tb_4 185 rfl rfl), (tb_4 186 rfl rfl), ⟨(tb_1 10 rfl rfl), (tb_4 187 rfl rfl), rfl, ⟨by decide, by decide⟩, by decide +kernel, by decide⟩⟩
theorem mvX9_45 : MV RX9 45 0 mX9_pop := ⟨(tb_4 222 rfl rfl), (tb_4 224 rfl rfl), (tb_s 25 rfl rfl), ⟨(tb_1 10 rfl rfl), (tb_4 225 rfl rfl), rfl, ⟨by decide, by decide⟩, by decide +kernel, by decide⟩⟩
theorem mvX9_49 : MV RX9 49 3 mX9_tell := ⟨(tb_4 226 rfl rfl), (tb_4 228 rfl rfl), (tb_s 26 rfl rfl), ⟨(tb_1 10 rfl rfl), (tb_4 229 rfl rfl), rfl, ⟨by decide, by decide⟩, by decide +kernel, by decide⟩⟩
theorem msX9_53 : MN RX9 53 1 mX11_rootOf := ⟨⟨"TankHulls", (nb_4 230 rfl rfl)⟩, (tb_4 231 rfl rfl), ⟨(tb_1 1 rfl rfl), (tb_4 232 rfl rfl), rfl, ⟨by decide, by decide⟩, by decide +kernel, by decide⟩⟩
theorem msX9_57 : MS RX9 57 3 mX9_joined := ⟨(tb_4 234 rfl rfl), (tb_4 235 rfl rfl), ⟨(tb_1 10 rfl rfl), (tb_4 236 rfl rfl), rfl, ⟨by decide, by decide⟩, by decide +kernel, by decide⟩⟩
theorem fgX9_27 : FL RX9 27 9 3 := ⟨by decide, by decide, Or.inl (tb_2 11 rfl rfl)⟩
theorem fgX9_18 : FL RX9 18 9 2 := ⟨by decide, by decide, Or.inl (tb_2 10 rfl rfl)⟩
theorem fgX9_9 : FL RX9 9 9 0 := ⟨by decide, by decide, Or.inl (tb_2 8 rfl rfl)⟩
theorem ctX9_61 : Cond.constantLong RX9 61 (10000) ∈ TB := (tb_5 5 rfl rfl)
theorem ctX9_63 : Cond.constantLong RX9 63 (1000000000) ∈ TB := (tb_5 6 rfl rfl)
theorem msX9_65 : MS RX9 65 2 mJ9_min_f86c9 := ⟨(tb_5 7 rfl rfl), (tb_5 8 rfl rfl), ⟨(tb_1 19 rfl rfl), (tb_5 9 rfl rfl), rfl, ⟨by decide, by decide⟩, by decide +kernel, by decide⟩⟩
theorem mvX9_71 : MV RX9 71 1 mX9_toldOf := ⟨(tb_5 1 rfl rfl), (tb_5 2 rfl rfl), (tb_5 3 rfl rfl), ⟨(tb_1 10 rfl rfl), (tb_5 4 rfl rfl), rfl, ⟨by decide, by decide⟩, by decide +kernel, by decide⟩⟩
theorem msX9_74 : MN RX9 74 2 mX11_hundredths := ⟨⟨"TankHulls", (nb_5 10 rfl rfl)⟩, (tb_5 11 rfl rfl), ⟨(tb_1 1 rfl rfl), (tb_5 12 rfl rfl), rfl, ⟨by decide, by decide⟩, by decide +kernel, by decide⟩⟩
theorem fpX9_77 (y : MethodName) (h : y.cls = RX9) : FP y 77 9 4 := ⟨by decide, by decide, Or.inl ⟨by rw [h]; exact (tb_2 12 rfl rfl), rfl⟩⟩
theorem fgX9_77 : FL RX9 77 9 4 := ⟨by decide, by decide, Or.inl (tb_2 12 rfl rfl)⟩
theorem fpX9_81 (y : MethodName) (h : y.cls = RX9) : FP y 81 9 5 := ⟨by decide, by decide, Or.inl ⟨by rw [h]; exact (tb_2 14 rfl rfl), rfl⟩⟩
theorem fgX9_81 : FL RX9 81 9 5 := ⟨by decide, by decide, Or.inl (tb_2 14 rfl rfl)⟩
theorem oiX10_3 : Cond.methodLink RX10 3 objectInit ∈ TB := (tb_1 42 rfl rfl)
theorem clX10_9 : Cond.classLink RX10 9 RX1 ∈ TB := (tb_1 43 rfl rfl)
theorem fpX10_11 (y : MethodName) (h : y.cls = RX10) (h2 : y.name = "<init>") : FP y 11 10 0 := ⟨by decide, by decide, Or.inr (Or.inr ⟨by rw [h]; exact (tb_1 133 rfl rfl), rfl, h2, h.symm⟩)⟩
theorem fgX10_11 : FL RX10 11 10 0 := ⟨by decide, by decide, Or.inl (tb_1 133 rfl rfl)⟩
theorem miX10_17 : MI RX10 17 0 mX1_init := ⟨Or.inl (tb_1 46 rfl rfl), (tb_1 47 rfl rfl), rfl, rfl, ⟨(tb_1 3 rfl rfl), (tb_1 48 rfl rfl), rfl, ⟨by decide, by decide⟩, by decide +kernel, by decide⟩⟩
theorem clX10_18 : Cond.classLink RX10 18 RX5 ∈ TB := (tb_1 69 rfl rfl)
theorem miX10_20 : MI RX10 20 1 mX5_init := ⟨Or.inl (tb_1 71 rfl rfl), (tb_1 72 rfl rfl), rfl, rfl, ⟨(tb_1 4 rfl rfl), (tb_1 73 rfl rfl), rfl, ⟨by decide, by decide⟩, by decide +kernel, by decide⟩⟩
theorem fpX10_23 (y : MethodName) (h : y.cls = RX10) (h2 : y.name = "<init>") : FP y 23 10 2 := ⟨by decide, by decide, Or.inr (Or.inr ⟨by rw [h]; exact (tb_1 136 rfl rfl), rfl, h2, h.symm⟩)⟩
theorem fpX10_27 (y : MethodName) (h : y.cls = RX10) (h2 : y.name = "<init>") : FP y 27 10 3 := ⟨by decide, by decide, Or.inr (Or.inr ⟨by rw [h]; exact (tb_1 139 rfl rfl), rfl, h2, h.symm⟩)⟩
theorem clX10_30 : Cond.classLink RX10 30 RX6 ∈ TB := (tb_1 82 rfl rfl)
theorem miX10_32 : MI RX10 32 0 mX6_init := ⟨Or.inl (tb_1 84 rfl rfl), (tb_1 85 rfl rfl), rfl, rfl, ⟨(tb_1 5 rfl rfl), (tb_1 86 rfl rfl), rfl, ⟨by decide, by decide⟩, by decide +kernel, by decide⟩⟩
theorem fpX10_33 (y : MethodName) (h : y.cls = RX10) (h2 : y.name = "<init>") : FP y 33 10 4 := ⟨by decide, by decide, Or.inr (Or.inr ⟨by rw [h]; exact (tb_1 141 rfl rfl), rfl, h2, h.symm⟩)⟩
theorem fpX10_37 (y : MethodName) (h : y.cls = RX10) (h2 : y.name = "<init>") : FP y 37 10 5 := ⟨by decide, by decide, Or.inr (Or.inr ⟨by rw [h]; exact (tb_1 144 rfl rfl), rfl, h2, h.symm⟩)⟩
theorem clX10_40 : Cond.classLink RX10 40 RX8 ∈ TB := (tb_1 121 rfl rfl)
theorem miX10_42 : MI RX10 42 0 mX8_init := ⟨Or.inl (tb_1 123 rfl rfl), (tb_1 124 rfl rfl), rfl, rfl, ⟨(tb_1 6 rfl rfl), (tb_1 125 rfl rfl), rfl, ⟨by decide, by decide⟩, by decide +kernel, by decide⟩⟩
theorem fpX10_43 (y : MethodName) (h : y.cls = RX10) (h2 : y.name = "<init>") : FP y 43 10 6 := ⟨by decide, by decide, Or.inr (Or.inr ⟨by rw [h]; exact (tb_1 146 rfl rfl), rfl, h2, h.symm⟩)⟩
theorem fpX10_47 (y : MethodName) (h : y.cls = RX10) (h2 : y.name = "<init>") : FP y 47 10 7 := ⟨by decide, by decide, Or.inr (Or.inr ⟨by rw [h]; exact (tb_1 148 rfl rfl), rfl, h2, h.symm⟩)⟩
theorem fpX10_50 (y : MethodName) (h : y.cls = RX10) (h2 : y.name = "<init>") : FP y 50 10 8 := ⟨by decide, by decide, Or.inr (Or.inr ⟨by rw [h]; exact (tb_1 150 rfl rfl), rfl, h2, h.symm⟩)⟩
theorem fpX10_53 (y : MethodName) (h : y.cls = RX10) (h2 : y.name = "<init>") : FP y 53 10 9 := ⟨by decide, by decide, Or.inr (Or.inr ⟨by rw [h]; exact (tb_1 152 rfl rfl), rfl, h2, h.symm⟩)⟩
theorem fpX10_56 (y : MethodName) (h : y.cls = RX10) : FP y 56 10 10 := ⟨by decide, by decide, Or.inl ⟨by rw [h]; exact (tb_1 153 rfl rfl), rfl⟩⟩
theorem mvX10_60 : MV RX10 60 1 mX1_copyFrom := ⟨(tb_2 173 rfl rfl), (tb_2 174 rfl rfl), (tb_2 175 rfl rfl), ⟨(tb_1 3 rfl rfl), (tb_2 176 rfl rfl), rfl, ⟨by decide, by decide⟩, by decide +kernel, by decide⟩⟩
theorem fgX10_64 : FL RX10 64 10 1 := ⟨by decide, by decide, Or.inl (tb_1 134 rfl rfl)⟩
theorem fpX10_64 (y : MethodName) (h : y.cls = RX10) : FP y 64 10 1 := ⟨by decide, by decide, Or.inl ⟨by rw [h]; exact (tb_1 134 rfl rfl), rfl⟩⟩
theorem fgX10_23 : FL RX10 23 10 2 := ⟨by decide, by decide, Or.inl (tb_1 136 rfl rfl)⟩
theorem mvX10_67 : MV RX10 67 1 mX5_copyFrom := ⟨(tb_2 180 rfl rfl), (tb_2 181 rfl rfl), (tb_2 182 rfl rfl), ⟨(tb_1 4 rfl rfl), (tb_2 183 rfl rfl), rfl, ⟨by decide, by decide⟩, by decide +kernel, by decide⟩⟩
theorem fgX10_27 : FL RX10 27 10 3 := ⟨by decide, by decide, Or.inl (tb_1 139 rfl rfl)⟩
theorem fgX10_33 : FL RX10 33 10 4 := ⟨by decide, by decide, Or.inl (tb_1 141 rfl rfl)⟩
theorem mvX10_70 : MV RX10 70 1 mX6_copyFrom := ⟨(tb_2 187 rfl rfl), (tb_2 188 rfl rfl), (tb_2 189 rfl rfl), ⟨(tb_1 5 rfl rfl), (tb_2 190 rfl rfl), rfl, ⟨by decide, by decide⟩, by decide +kernel, by decide⟩⟩
theorem fgX10_37 : FL RX10 37 10 5 := ⟨by decide, by decide, Or.inl (tb_1 144 rfl rfl)⟩
theorem fgX10_43 : FL RX10 43 10 6 := ⟨by decide, by decide, Or.inl (tb_1 146 rfl rfl)⟩
theorem mvX10_73 : MV RX10 73 1 mX8_copyFrom := ⟨(tb_2 199 rfl rfl), (tb_2 200 rfl rfl), (tb_2 201 rfl rfl), ⟨(tb_1 6 rfl rfl), (tb_2 202 rfl rfl), rfl, ⟨by decide, by decide⟩, by decide +kernel, by decide⟩⟩
theorem fgX10_47 : FL RX10 47 10 7 := ⟨by decide, by decide, Or.inl (tb_1 148 rfl rfl)⟩
theorem fgX10_50 : FL RX10 50 10 8 := ⟨by decide, by decide, Or.inl (tb_1 150 rfl rfl)⟩
theorem fgX10_53 : FL RX10 53 10 9 := ⟨by decide, by decide, Or.inl (tb_1 152 rfl rfl)⟩
theorem fgX10_56 : FL RX10 56 10 10 := ⟨by decide, by decide, Or.inl (tb_1 153 rfl rfl)⟩
theorem mvX10_76 : MV RX10 76 2 mX1_lay := ⟨(tb_3 67 rfl rfl), (tb_3 68 rfl rfl), (tb_3 69 rfl rfl), ⟨(tb_1 3 rfl rfl), (tb_3 70 rfl rfl), rfl, ⟨by decide, by decide⟩, by decide +kernel, by decide⟩⟩
theorem mvX10_80 : MV RX10 80 0 mX5_isFull := ⟨(tb_3 160 rfl rfl), (tb_3 161 rfl rfl), (tb_3 162 rfl rfl), ⟨(tb_1 4 rfl rfl), (tb_3 163 rfl rfl), rfl, ⟨by decide, by decide⟩, by decide +kernel, by decide⟩⟩
theorem mvX10_84 : MV RX10 84 1 mX5_add := ⟨(tb_3 164 rfl rfl), (tb_2 132 rfl rfl), (tb_2 133 rfl rfl), ⟨(tb_1 4 rfl rfl), (tb_2 134 rfl rfl), rfl, ⟨by decide, by decide⟩, by decide +kernel, by decide⟩⟩
theorem mvX10_87 : MV RX10 87 0 mX5_filled := ⟨(tb_2 152 rfl rfl), (tb_2 124 rfl rfl), (tb_2 125 rfl rfl), ⟨(tb_1 4 rfl rfl), (tb_2 126 rfl rfl), rfl, ⟨by decide, by decide⟩, by decide +kernel, by decide⟩⟩
theorem mvX10_91 : MV RX10 91 1 mX5_at := ⟨(tb_2 153 rfl rfl), (tb_2 154 rfl rfl), (tb_2 155 rfl rfl), ⟨(tb_1 4 rfl rfl), (tb_2 156 rfl rfl), rfl, ⟨by decide, by decide⟩, by decide +kernel, by decide⟩⟩
theorem fgX10_95 : FL RX10 95 6 0 := ⟨by decide, by decide, Or.inr ⟨"TankHulls", (nb_1 90 rfl rfl)⟩⟩
theorem fgX10_98 : FL RX10 98 6 1 := ⟨by decide, by decide, Or.inr ⟨"TankHulls", (nb_1 93 rfl rfl)⟩⟩
theorem fgX10_101 : FL RX10 101 6 2 := ⟨by decide, by decide, Or.inr ⟨"TankHulls", (nb_1 97 rfl rfl)⟩⟩
theorem fgX10_104 : FL RX10 104 6 3 := ⟨by decide, by decide, Or.inr ⟨"TankHulls", (nb_1 100 rfl rfl)⟩⟩
theorem fgX10_107 : FL RX10 107 6 4 := ⟨by decide, by decide, Or.inr ⟨"TankHulls", (nb_1 103 rfl rfl)⟩⟩
theorem fgX10_111 : FL RX10 111 6 5 := ⟨by decide, by decide, Or.inr ⟨"TankHulls", (nb_1 106 rfl rfl)⟩⟩
theorem mvX10_114 : MV RX10 114 0 mX10_runCount := ⟨(tb_5 114 rfl rfl), (tb_2 217 rfl rfl), (tb_2 218 rfl rfl), ⟨(tb_1 2 rfl rfl), (tb_2 219 rfl rfl), rfl, ⟨by decide, by decide⟩, by decide +kernel, by decide⟩⟩
theorem mvX10_117 : MV RX10 117 2 mX10_runCell := ⟨(tb_5 181 rfl rfl), (tb_5 140 rfl rfl), (tb_5 141 rfl rfl), ⟨(tb_1 2 rfl rfl), (tb_5 142 rfl rfl), rfl, ⟨by decide, by decide⟩, by decide +kernel, by decide⟩⟩
theorem mvX10_121 : MV RX10 121 4 mX6_place := ⟨(tb_5 182 rfl rfl), (tb_2 192 rfl rfl), (tb_2 193 rfl rfl), ⟨(tb_1 5 rfl rfl), (tb_2 194 rfl rfl), rfl, ⟨by decide, by decide⟩, by decide +kernel, by decide⟩⟩
theorem mvX10_125 : MV RX10 125 2 mX6_dress := ⟨(tb_5 183 rfl rfl), (tb_2 196 rfl rfl), (tb_2 197 rfl rfl), ⟨(tb_1 5 rfl rfl), (tb_2 198 rfl rfl), rfl, ⟨by decide, by decide⟩, by decide +kernel, by decide⟩⟩
theorem ctX10_129 : Cond.constant RX10 129 (1103515245) ∈ TB := (tb_5 131 rfl rfl)
theorem msX10_130 : MN RX10 130 2 mX11_over := ⟨⟨"TankHulls", (nb_6 118 rfl rfl)⟩, (tb_3 142 rfl rfl), ⟨(tb_1 1 rfl rfl), (tb_3 143 rfl rfl), rfl, ⟨by decide, by decide⟩, by decide +kernel, by decide⟩⟩
theorem oiX11_3 : Cond.methodLink RX11 3 objectInit ∈ TB := (tb_1 34 rfl rfl)
theorem clX11_9 : Cond.classLink RX11 9 RX10 ∈ TB := (tb_1 37 rfl rfl)
theorem miX11_11 : MI RX11 11 0 mX10_init := ⟨Or.inl (tb_1 39 rfl rfl), (tb_1 40 rfl rfl), rfl, rfl, ⟨(tb_1 2 rfl rfl), (tb_1 41 rfl rfl), rfl, ⟨by decide, by decide⟩, by decide +kernel, by decide⟩⟩
theorem fpX11_12 (y : MethodName) (h : y.cls = RX11) (h2 : y.name = "<init>") : FP y 12 11 0 := ⟨by decide, by decide, Or.inr (Or.inr ⟨by rw [h]; exact (tb_2 91 rfl rfl), rfl, h2, h.symm⟩)⟩
theorem fpX11_16 (y : MethodName) (h : y.cls = RX11) (h2 : y.name = "<init>") : FP y 16 11 1 := ⟨by decide, by decide, Or.inr (Or.inr ⟨by rw [h]; exact (tb_2 92 rfl rfl), rfl, h2, h.symm⟩)⟩
theorem fgX11_16 : FL RX11 16 11 1 := ⟨by decide, by decide, Or.inl (tb_2 92 rfl rfl)⟩
theorem clX11_20 : Cond.classLink RX11 20 RX5 ∈ TB := (tb_1 179 rfl rfl)
theorem miX11_22 : MI RX11 22 1 mX5_init := ⟨Or.inl (tb_1 180 rfl rfl), (tb_1 72 rfl rfl), rfl, rfl, ⟨(tb_1 4 rfl rfl), (tb_1 73 rfl rfl), rfl, ⟨by decide, by decide⟩, by decide +kernel, by decide⟩⟩
theorem fpX11_25 (y : MethodName) (h : y.cls = RX11) (h2 : y.name = "<init>") : FP y 25 11 2 := ⟨by decide, by decide, Or.inr (Or.inr ⟨by rw [h]; exact (tb_2 93 rfl rfl), rfl, h2, h.symm⟩)⟩
theorem clX11_29 : Cond.classLink RX11 29 RX4 ∈ TB := (tb_1 181 rfl rfl)
theorem miX11_31 : MI RX11 31 0 mX4_init := ⟨Or.inl (tb_1 183 rfl rfl), (tb_1 184 rfl rfl), rfl, rfl, ⟨(tb_1 7 rfl rfl), (tb_1 185 rfl rfl), rfl, ⟨by decide, by decide⟩, by decide +kernel, by decide⟩⟩
theorem fpX11_32 (y : MethodName) (h : y.cls = RX11) (h2 : y.name = "<init>") : FP y 32 11 3 := ⟨by decide, by decide, Or.inr (Or.inr ⟨by rw [h]; exact (tb_2 94 rfl rfl), rfl, h2, h.symm⟩)⟩
theorem clX11_36 : Cond.classLink RX11 36 RX7 ∈ TB := (tb_1 221 rfl rfl)
theorem miX11_38 : MI RX11 38 1 mX7_init := ⟨Or.inl (tb_1 223 rfl rfl), (tb_1 224 rfl rfl), rfl, rfl, ⟨(tb_1 8 rfl rfl), (tb_1 225 rfl rfl), rfl, ⟨by decide, by decide⟩, by decide +kernel, by decide⟩⟩
theorem fpX11_39 (y : MethodName) (h : y.cls = RX11) (h2 : y.name = "<init>") : FP y 39 11 4 := ⟨by decide, by decide, Or.inr (Or.inr ⟨by rw [h]; exact (tb_2 95 rfl rfl), rfl, h2, h.symm⟩)⟩
theorem fpX11_43 (y : MethodName) (h : y.cls = RX11) (h2 : y.name = "<init>") : FP y 43 11 5 := ⟨by decide, by decide, Or.inr (Or.inr ⟨by rw [h]; exact (tb_2 96 rfl rfl), rfl, h2, h.symm⟩)⟩
theorem clX11_46 : Cond.classLink RX11 46 RX0 ∈ TB := (tb_1 236 rfl rfl)
theorem miX11_48 : MI RX11 48 1 mX0_init := ⟨Or.inl (tb_1 238 rfl rfl), (tb_1 239 rfl rfl), rfl, rfl, ⟨(tb_1 9 rfl rfl), (tb_2 0 rfl rfl), rfl, ⟨by decide, by decide⟩, by decide +kernel, by decide⟩⟩
theorem fpX11_51 (y : MethodName) (h : y.cls = RX11) (h2 : y.name = "<init>") : FP y 51 11 6 := ⟨by decide, by decide, Or.inr (Or.inr ⟨by rw [h]; exact (tb_2 97 rfl rfl), rfl, h2, h.symm⟩)⟩
theorem fpX11_55 (y : MethodName) (h : y.cls = RX11) : FP y 55 11 8 := ⟨by decide, by decide, Or.inl ⟨by rw [h]; exact (tb_2 99 rfl rfl), rfl⟩⟩
theorem msX11_59 : MS RX11 59 3 mX11_isWithin := ⟨(tb_2 233 rfl rfl), (tb_2 234 rfl rfl), ⟨(tb_1 1 rfl rfl), (tb_2 235 rfl rfl), rfl, ⟨by decide, by decide⟩, by decide +kernel, by decide⟩⟩
theorem msX11_63 : MS RX11 63 1 mX11_demand := ⟨(tb_2 236 rfl rfl), (tb_2 237 rfl rfl), ⟨(tb_1 1 rfl rfl), (tb_2 238 rfl rfl), rfl, ⟨by decide, by decide⟩, by decide +kernel, by decide⟩⟩
theorem fgX11_12 : FL RX11 12 11 0 := ⟨by decide, by decide, Or.inl (tb_2 91 rfl rfl)⟩
theorem mvX11_67 : MV RX11 67 2 mX10_addHull := ⟨(tb_3 63 rfl rfl), (tb_3 64 rfl rfl), (tb_3 65 rfl rfl), ⟨(tb_1 2 rfl rfl), (tb_3 66 rfl rfl), rfl, ⟨by decide, by decide⟩, by decide +kernel, by decide⟩⟩
theorem mvX11_71 : MV RX11 71 1 mX11_demandHull := ⟨(tb_3 82 rfl rfl), (tb_3 84 rfl rfl), (tb_s 2 rfl rfl), ⟨(tb_1 1 rfl rfl), (tb_3 85 rfl rfl), rfl, ⟨by decide, by decide⟩, by decide +kernel, by decide⟩⟩
theorem mvX11_75 : MV RX11 75 1 mX1_hasStation := ⟨(tb_3 105 rfl rfl), (tb_3 106 rfl rfl), (tb_3 107 rfl rfl), ⟨(tb_1 3 rfl rfl), (tb_3 108 rfl rfl), rfl, ⟨by decide, by decide⟩, by decide +kernel, by decide⟩⟩
theorem mvX11_81 : MV RX11 81 1 mX1_beamAt := ⟨(tb_3 109 rfl rfl), (tb_3 110 rfl rfl), (tb_3 111 rfl rfl), ⟨(tb_1 3 rfl rfl), (tb_3 112 rfl rfl), rfl, ⟨by decide, by decide⟩, by decide +kernel, by decide⟩⟩
theorem mvX11_85 : MV RX11 85 1 mX1_draftAt := ⟨(tb_3 114 rfl rfl), (tb_3 115 rfl rfl), (tb_3 116 rfl rfl), ⟨(tb_1 3 rfl rfl), (tb_3 117 rfl rfl), rfl, ⟨by decide, by decide⟩, by decide +kernel, by decide⟩⟩
theorem mvX11_88 : MV RX11 88 3 mX1_shape := ⟨(tb_3 118 rfl rfl), (tb_3 119 rfl rfl), (tb_3 120 rfl rfl), ⟨(tb_1 3 rfl rfl), (tb_3 121 rfl rfl), rfl, ⟨by decide, by decide⟩, by decide +kernel, by decide⟩⟩
theorem fgX11_51 : FL RX11 51 11 6 := ⟨by decide, by decide, Or.inl (tb_2 97 rfl rfl)⟩
theorem mvX11_92 : MV RX11 92 3 mX0_modelPart := ⟨(tb_3 129 rfl rfl), (tb_3 130 rfl rfl), (tb_3 131 rfl rfl), ⟨(tb_1 9 rfl rfl), (tb_3 132 rfl rfl), rfl, ⟨by decide, by decide⟩, by decide +kernel, by decide⟩⟩
theorem mvX11_96 : MV RX11 96 2 mX10_addTank := ⟨(tb_3 156 rfl rfl), (tb_3 157 rfl rfl), (tb_3 158 rfl rfl), ⟨(tb_1 2 rfl rfl), (tb_3 159 rfl rfl), rfl, ⟨by decide, by decide⟩, by decide +kernel, by decide⟩⟩
theorem fgX11_25 : FL RX11 25 11 2 := ⟨by decide, by decide, Or.inl (tb_2 93 rfl rfl)⟩
theorem mvX11_99 : MV RX11 99 0 mX5_filled := ⟨(tb_2 123 rfl rfl), (tb_2 124 rfl rfl), (tb_2 125 rfl rfl), ⟨(tb_1 4 rfl rfl), (tb_2 126 rfl rfl), rfl, ⟨by decide, by decide⟩, by decide +kernel, by decide⟩⟩
theorem mvX11_103 : MV RX11 103 1 mX11_feedBytes := ⟨(tb_2 127 rfl rfl), (tb_2 129 rfl rfl), (tb_s 0 rfl rfl), ⟨(tb_1 1 rfl rfl), (tb_2 130 rfl rfl), rfl, ⟨by decide, by decide⟩, by decide +kernel, by decide⟩⟩
theorem fgX11_43 : FL RX11 43 11 5 := ⟨by decide, by decide, Or.inl (tb_2 96 rfl rfl)⟩
theorem fgX11_39 : FL RX11 39 11 4 := ⟨by decide, by decide, Or.inl (tb_2 95 rfl rfl)⟩
theorem mvX11_106 : MV RX11 106 0 mX7_isFull := ⟨(tb_3 172 rfl rfl), (tb_3 173 rfl rfl), (tb_3 174 rfl rfl), ⟨(tb_1 8 rfl rfl), (tb_3 175 rfl rfl), rfl, ⟨by decide, by decide⟩, by decide +kernel, by decide⟩⟩
theorem mvX11_110 : MV RX11 110 0 mX5_empty := ⟨(tb_2 161 rfl rfl), (tb_2 162 rfl rfl), (tb_2 163 rfl rfl), ⟨(tb_1 4 rfl rfl), (tb_2 164 rfl rfl), rfl, ⟨by decide, by decide⟩, by decide +kernel, by decide⟩⟩
theorem fgX11_32 : FL RX11 32 11 3 := ⟨by decide, by decide, Or.inl (tb_2 94 rfl rfl)⟩
theorem mvX11_113 : MV RX11 113 3 mX4_readText := ⟨(tb_3 176 rfl rfl), (tb_3 177 rfl rfl), (tb_3 178 rfl rfl), ⟨(tb_1 7 rfl rfl), (tb_3 179 rfl rfl), rfl, ⟨by decide, by decide⟩, by decide +kernel, by decide⟩⟩
theorem mvX11_117 : MV RX11 117 0 mX4_placeOfFault := ⟨(tb_4 65 rfl rfl), (tb_4 66 rfl rfl), (tb_4 67 rfl rfl), ⟨(tb_1 7 rfl rfl), (tb_4 68 rfl rfl), rfl, ⟨by decide, by decide⟩, by decide +kernel, by decide⟩⟩
theorem mvX11_120 : MV RX11 120 0 mX4_finished := ⟨(tb_4 69 rfl rfl), (tb_4 70 rfl rfl), (tb_4 71 rfl rfl), ⟨(tb_1 7 rfl rfl), (tb_4 72 rfl rfl), rfl, ⟨by decide, by decide⟩, by decide +kernel, by decide⟩⟩
theorem mvX11_124 : MV RX11 124 1 mX7_put := ⟨(tb_4 97 rfl rfl), (tb_4 98 rfl rfl), (tb_4 99 rfl rfl), ⟨(tb_1 8 rfl rfl), (tb_4 100 rfl rfl), rfl, ⟨by decide, by decide⟩, by decide +kernel, by decide⟩⟩
theorem fgX11_55 : FL RX11 55 11 8 := ⟨by decide, by decide, Or.inl (tb_2 99 rfl rfl)⟩
theorem mvX11_128 : MV RX11 128 1 mX11_demandTank := ⟨(tb_4 109 rfl rfl), (tb_4 111 rfl rfl), (tb_s 19 rfl rfl), ⟨(tb_1 1 rfl rfl), (tb_4 112 rfl rfl), rfl, ⟨by decide, by decide⟩, by decide +kernel, by decide⟩⟩
theorem fgX11_131 : FL RX11 131 10 4 := ⟨by decide, by decide, Or.inr ⟨"TankHulls", (nb_1 143 rfl rfl)⟩⟩
theorem fgX11_135 : FL RX11 135 6 1 := ⟨by decide, by decide, Or.inr ⟨"TankHulls", (nb_1 94 rfl rfl)⟩⟩
theorem mvX11_140 : MV RX11 140 4 mX6_place := ⟨(tb_4 128 rfl rfl), (tb_2 192 rfl rfl), (tb_2 193 rfl rfl), ⟨(tb_1 5 rfl rfl), (tb_2 194 rfl rfl), rfl, ⟨by decide, by decide⟩, by decide +kernel, by decide⟩⟩
theorem fgX11_144 : FL RX11 144 6 5 := ⟨by decide, by decide, Or.inr ⟨"TankHulls", (nb_1 107 rfl rfl)⟩⟩
theorem mvX11_147 : MV RX11 147 2 mX6_dress := ⟨(tb_4 136 rfl rfl), (tb_2 196 rfl rfl), (tb_2 197 rfl rfl), ⟨(tb_1 5 rfl rfl), (tb_2 198 rfl rfl), rfl, ⟨by decide, by decide⟩, by decide +kernel, by decide⟩⟩
theorem mvX11_151 : MV RX11 151 0 mX11_demandAnyHull := ⟨(tb_4 145 rfl rfl), (tb_4 147 rfl rfl), (tb_s 20 rfl rfl), ⟨(tb_1 1 rfl rfl), (tb_4 148 rfl rfl), rfl, ⟨by decide, by decide⟩, by decide +kernel, by decide⟩⟩
theorem mvX11_154 : MV RX11 154 1 mX0_nameAtHand := ⟨(tb_4 164 rfl rfl), (tb_4 165 rfl rfl), (tb_4 166 rfl rfl), ⟨(tb_1 9 rfl rfl), (tb_4 167 rfl rfl), rfl, ⟨by decide, by decide⟩, by decide +kernel, by decide⟩⟩
theorem msX11_157 : MS RX11 157 2 mX11_demandProgram := ⟨(tb_4 195 rfl rfl), (tb_4 196 rfl rfl), ⟨(tb_1 1 rfl rfl), (tb_4 197 rfl rfl), rfl, ⟨by decide, by decide⟩, by decide +kernel, by decide⟩⟩
theorem mvX11_161 : MV RX11 161 2 mX0_pullPart := ⟨(tb_4 202 rfl rfl), (tb_4 203 rfl rfl), (tb_4 204 rfl rfl), ⟨(tb_1 9 rfl rfl), (tb_4 205 rfl rfl), rfl, ⟨by decide, by decide⟩, by decide +kernel, by decide⟩⟩
theorem ctX11_165 : Cond.constant RX11 165 (1000000000) ∈ TB := (tb_5 22 rfl rfl)
theorem mvX11_166 : MV RX11 166 4 mX0_needPart := ⟨(tb_5 23 rfl rfl), (tb_5 24 rfl rfl), (tb_5 25 rfl rfl), ⟨(tb_1 9 rfl rfl), (tb_5 26 rfl rfl), rfl, ⟨by decide, by decide⟩, by decide +kernel, by decide⟩⟩
theorem mvX11_170 : MV RX11 170 4 mX0_errorOf := ⟨(tb_5 47 rfl rfl), (tb_5 48 rfl rfl), (tb_5 49 rfl rfl), ⟨(tb_1 9 rfl rfl), (tb_5 50 rfl rfl), rfl, ⟨by decide, by decide⟩, by decide +kernel, by decide⟩⟩
theorem mvX11_174 : MV RX11 174 4 mX0_bestScale := ⟨(tb_5 71 rfl rfl), (tb_5 72 rfl rfl), (tb_5 73 rfl rfl), ⟨(tb_1 9 rfl rfl), (tb_5 74 rfl rfl), rfl, ⟨by decide, by decide⟩, by decide +kernel, by decide⟩⟩
theorem mvX11_178 : MV RX11 178 1 mX0_sidesAtHand := ⟨(tb_5 83 rfl rfl), (tb_5 84 rfl rfl), (tb_5 85 rfl rfl), ⟨(tb_1 9 rfl rfl), (tb_5 86 rfl rfl), rfl, ⟨by decide, by decide⟩, by decide +kernel, by decide⟩⟩
theorem mvX11_182 : MV RX11 182 2 mX0_leastScaleWithin := ⟨(tb_5 99 rfl rfl), (tb_5 100 rfl rfl), (tb_5 101 rfl rfl), ⟨(tb_1 9 rfl rfl), (tb_5 102 rfl rfl), rfl, ⟨by decide, by decide⟩, by decide +kernel, by decide⟩⟩
theorem mvX11_186 : MV RX11 186 1 mX10_addRun := ⟨(tb_5 110 rfl rfl), (tb_5 111 rfl rfl), (tb_5 112 rfl rfl), ⟨(tb_1 2 rfl rfl), (tb_5 113 rfl rfl), rfl, ⟨by decide, by decide⟩, by decide +kernel, by decide⟩⟩
theorem fgX11_189 : FL RX11 189 10 5 := ⟨by decide, by decide, Or.inr ⟨"TankHulls", (nb_1 145 rfl rfl)⟩⟩
theorem mvX11_192 : MV RX11 192 0 mX5_isFull := ⟨(tb_5 122 rfl rfl), (tb_3 161 rfl rfl), (tb_3 162 rfl rfl), ⟨(tb_1 4 rfl rfl), (tb_3 163 rfl rfl), rfl, ⟨by decide, by decide⟩, by decide +kernel, by decide⟩⟩
theorem mvX11_193 : MV RX11 193 2 mX0_drawnPull := ⟨(tb_5 123 rfl rfl), (tb_5 124 rfl rfl), (tb_5 125 rfl rfl), ⟨(tb_1 9 rfl rfl), (tb_5 126 rfl rfl), rfl, ⟨by decide, by decide⟩, by decide +kernel, by decide⟩⟩
theorem mvX11_196 : MV RX11 196 0 mX10_runCount := ⟨(tb_2 216 rfl rfl), (tb_2 217 rfl rfl), (tb_2 218 rfl rfl), ⟨(tb_1 2 rfl rfl), (tb_2 219 rfl rfl), rfl, ⟨by decide, by decide⟩, by decide +kernel, by decide⟩⟩
theorem clX11_199 : Cond.classLink RX11 199 "java/util/NoSuchElementException" ∈ TB := (tb_3 90 rfl rfl)
-- method without code row: X11 201 ('java/util/NoSuchElementException', '<init>', '()V')
theorem mvX11_202 : MV RX11 202 2 mX10_runCell := ⟨(tb_5 139 rfl rfl), (tb_5 140 rfl rfl), (tb_5 141 rfl rfl), ⟨(tb_1 2 rfl rfl), (tb_5 142 rfl rfl), rfl, ⟨by decide, by decide⟩, by decide +kernel, by decide⟩⟩
theorem fgX11_205 : FL RX11 205 10 10 := ⟨by decide, by decide, Or.inr ⟨"TankHulls", (nb_1 154 rfl rfl)⟩⟩
theorem fpX11_205 (y : MethodName) (h : y.cls = RX11) : FP y 205 10 10 := ⟨by decide, by decide, Or.inr (Or.inl ⟨"TankHulls", by rw [h]; exact (nb_1 154 rfl rfl), rfl⟩)⟩
theorem mvX11_208 : MV RX11 208 0 mX0_wirePart := ⟨(tb_5 150 rfl rfl), (tb_5 151 rfl rfl), (tb_5 152 rfl rfl), ⟨(tb_1 9 rfl rfl), (tb_5 153 rfl rfl), rfl, ⟨by decide, by decide⟩, by decide +kernel, by decide⟩⟩
theorem mvX11_212 : MV RX11 212 2 mX0_fittingLaws := ⟨(tb_5 167 rfl rfl), (tb_5 168 rfl rfl), (tb_5 169 rfl rfl), ⟨(tb_1 9 rfl rfl), (tb_5 170 rfl rfl), rfl, ⟨by decide, by decide⟩, by decide +kernel, by decide⟩⟩
theorem mvX11_216 : MV RX11 216 2 mX0_tellingSpeed := ⟨(tb_5 191 rfl rfl), (tb_5 192 rfl rfl), (tb_5 193 rfl rfl), ⟨(tb_1 9 rfl rfl), (tb_5 194 rfl rfl), rfl, ⟨by decide, by decide⟩, by decide +kernel, by decide⟩⟩
theorem fgX11_219 : FL RX11 219 10 6 := ⟨by decide, by decide, Or.inr ⟨"TankHulls", (nb_1 147 rfl rfl)⟩⟩
theorem mvX11_223 : MV RX11 223 2 mX8_addShip := ⟨(tb_5 213 rfl rfl), (tb_5 214 rfl rfl), (tb_5 215 rfl rfl), ⟨(tb_1 6 rfl rfl), (tb_5 216 rfl rfl), rfl, ⟨by decide, by decide⟩, by decide +kernel, by decide⟩⟩
theorem mvX11_228 : MV RX11 228 0 mX8_known := ⟨(tb_2 220 rfl rfl), (tb_2 221 rfl rfl), (tb_2 222 rfl rfl), ⟨(tb_1 6 rfl rfl), (tb_2 223 rfl rfl), rfl, ⟨by decide, by decide⟩, by decide +kernel, by decide⟩⟩
theorem mvX11_231 : MV RX11 231 0 mX8_middle := ⟨(tb_5 230 rfl rfl), (tb_5 231 rfl rfl), (tb_5 232 rfl rfl), ⟨(tb_1 6 rfl rfl), (tb_5 233 rfl rfl), rfl, ⟨by decide, by decide⟩, by decide +kernel, by decide⟩⟩
theorem mvX11_234 : MV RX11 234 1 mX8_ratioAt := ⟨(tb_6 0 rfl rfl), (tb_5 236 rfl rfl), (tb_5 237 rfl rfl), ⟨(tb_1 6 rfl rfl), (tb_5 238 rfl rfl), rfl, ⟨by decide, by decide⟩, by decide +kernel, by decide⟩⟩
theorem mvX11_237 : MV RX11 237 1 mX8_strangeBits := ⟨(tb_6 8 rfl rfl), (tb_6 9 rfl rfl), (tb_6 10 rfl rfl), ⟨(tb_1 6 rfl rfl), (tb_6 11 rfl rfl), rfl, ⟨by decide, by decide⟩, by decide +kernel, by decide⟩⟩
theorem mvX11_240 : MV RX11 240 2 mX8_spanOf := ⟨(tb_6 21 rfl rfl), (tb_6 22 rfl rfl), (tb_6 23 rfl rfl), ⟨(tb_1 6 rfl rfl), (tb_6 24 rfl rfl), rfl, ⟨by decide, by decide⟩, by decide +kernel, by decide⟩⟩
theorem mvX11_244 : MV RX11 244 1 mX0_seekBetter := ⟨(tb_6 33 rfl rfl), (tb_6 34 rfl rfl), (tb_6 35 rfl rfl), ⟨(tb_1 9 rfl rfl), (tb_6 36 rfl rfl), rfl, ⟨by decide, by decide⟩, by decide +kernel, by decide⟩⟩
theorem mvX11_248 : MV RX11 248 1 mX0_betterPart := ⟨(tb_6 50 rfl rfl), (tb_6 51 rfl rfl), (tb_6 52 rfl rfl), ⟨(tb_1 9 rfl rfl), (tb_6 53 rfl rfl), rfl, ⟨by decide, by decide⟩, by decide +kernel, by decide⟩⟩
theorem ctX11_252 : Cond.constantLong RX11 252 (-1) ∈ TB := (tb_6 54 rfl rfl)
theorem mvX11_254 : MV RX11 254 0 mX0_makeBetter := ⟨(tb_6 62 rfl rfl), (tb_6 63 rfl rfl), (tb_6 64 rfl rfl), ⟨(tb_1 9 rfl rfl), (tb_6 65 rfl rfl), rfl, ⟨by decide, by decide⟩, by decide +kernel, by decide⟩⟩
theorem fgX11_257 : FL RX11 257 10 7 := ⟨by decide, by decide, Or.inr ⟨"TankHulls", (nb_1 149 rfl rfl)⟩⟩
theorem mvX11_260 : MV RX11 260 1 mX5_add := ⟨(tb_2 131 rfl rfl), (tb_2 132 rfl rfl), (tb_2 133 rfl rfl), ⟨(tb_1 4 rfl rfl), (tb_2 134 rfl rfl), rfl, ⟨by decide, by decide⟩, by decide +kernel, by decide⟩⟩
theorem ctX11_263 : Cond.constant RX11 263 (-2147483648) ∈ TB := (tb_2 147 rfl rfl)
theorem mvX11_264 : MV RX11 264 1 mX10_mileSum := ⟨(tb_2 148 rfl rfl), (tb_2 149 rfl rfl), (tb_2 150 rfl rfl), ⟨(tb_1 2 rfl rfl), (tb_2 151 rfl rfl), rfl, ⟨by decide, by decide⟩, by decide +kernel, by decide⟩⟩
theorem mvX11_268 : MV RX11 268 2 mX8_within := ⟨(tb_6 80 rfl rfl), (tb_6 81 rfl rfl), (tb_6 82 rfl rfl), ⟨(tb_1 6 rfl rfl), (tb_6 83 rfl rfl), rfl, ⟨by decide, by decide⟩, by decide +kernel, by decide⟩⟩
theorem mvX11_271 : MV RX11 271 0 mX8_usual := ⟨(tb_6 91 rfl rfl), (tb_6 92 rfl rfl), (tb_6 93 rfl rfl), ⟨(tb_1 6 rfl rfl), (tb_6 94 rfl rfl), rfl, ⟨by decide, by decide⟩, by decide +kernel, by decide⟩⟩
theorem mvX11_274 : MV RX11 274 2 mX10_addFouling := ⟨(tb_6 103 rfl rfl), (tb_6 104 rfl rfl), (tb_6 105 rfl rfl), ⟨(tb_1 2 rfl rfl), (tb_6 106 rfl rfl), rfl, ⟨by decide, by decide⟩, by decide +kernel, by decide⟩⟩
theorem mvX11_277 : MV RX11 277 1 mX10_fouledBy := ⟨(tb_6 114 rfl rfl), (tb_6 115 rfl rfl), (tb_6 116 rfl rfl), ⟨(tb_1 2 rfl rfl), (tb_6 117 rfl rfl), rfl, ⟨by decide, by decide⟩, by decide +kernel, by decide⟩⟩
theorem fgX11_280 : FL RX11 280 11 7 := ⟨by decide, by decide, Or.inl (tb_2 98 rfl rfl)⟩
theorem mvX11_283 : MV RX11 283 1 mX10_copyFrom := ⟨(tb_2 169 rfl rfl), (tb_2 170 rfl rfl), (tb_2 171 rfl rfl), ⟨(tb_1 2 rfl rfl), (tb_2 172 rfl rfl), rfl, ⟨by decide, by decide⟩, by decide +kernel, by decide⟩⟩
theorem fpX11_280 (y : MethodName) (h : y.cls = RX11) : FP y 280 11 7 := ⟨by decide, by decide, Or.inl ⟨by rw [h]; exact (tb_2 98 rfl rfl), rfl⟩⟩
theorem fgX11_286 : FL RX11 286 10 1 := ⟨by decide, by decide, Or.inr ⟨"TankHulls", (nb_1 135 rfl rfl)⟩⟩
theorem fgX11_289 : FL RX11 289 10 2 := ⟨by decide, by decide, Or.inr ⟨"TankHulls", (nb_1 138 rfl rfl)⟩⟩
theorem mvX11_292 : MV RX11 292 0 mX7_filled := ⟨(tb_2 212 rfl rfl), (tb_2 213 rfl rfl), (tb_2 214 rfl rfl), ⟨(tb_1 8 rfl rfl), (tb_2 215 rfl rfl), rfl, ⟨by decide, by decide⟩, by decide +kernel, by decide⟩⟩
theorem fgX11_293 : FL RX11 293 10 8 := ⟨by decide, by decide, Or.inr ⟨"TankHulls", (nb_1 151 rfl rfl)⟩⟩
theorem clX11_296 : Cond.classLink RX11 296 "java/lang/IllegalArgumentException" ∈ TB := (tb_2 239 rfl rfl)
-- method without code row: X11 298 ('java/lang/IllegalArgumentException', '<init>', '()V')
theorem clX11_299 : Cond.classLink RX11 299 "java/lang/IllegalStateException" ∈ TB := (tb_4 149 rfl rfl)
-- method without code row: X11 301 ('java/lang/IllegalStateException', '<init>', '()V')
theorem mvX11_302 : MV RX11 302 1 mX10_hullAt := ⟨(tb_3 86 rfl rfl), (tb_3 87 rfl rfl), (tb_3 88 rfl rfl), ⟨(tb_1 2 rfl rfl), (tb_3 89 rfl rfl), rfl, ⟨by decide, by decide⟩, by decide +kernel, by decide⟩⟩
theorem clX11_305 : Cond.classLink RX11 305 "java/lang/IndexOutOfBoundsException" ∈ TB := (tb_4 113 rfl rfl)
-- method without code row: X11 307 ('java/lang/IndexOutOfBoundsException', '<init>', '()V')
theorem mvX11_308 : MV RX11 308 1 mX7_at := ⟨(tb_4 198 rfl rfl), (tb_4 199 rfl rfl), (tb_4 200 rfl rfl), ⟨(tb_1 8 rfl rfl), (tb_4 201 rfl rfl), rfl, ⟨by decide, by decide⟩, by decide +kernel, by decide⟩⟩
theorem ctX11_312 : Cond.constantLong RX11 312 (100) ∈ TB := (tb_5 13 rfl rfl)
theorem ctX11_314 : Cond.constantLong RX11 314 (3037000499) ∈ TB := (tb_4 233 rfl rfl)
theorem oiX12_3 : Cond.methodLink RX12 3 objectInit ∈ TB := (tb_6 124 rfl rfl)
theorem fpX12_11 (y : MethodName) (h : y.cls = RX12) : FP y 11 12 3 := ⟨by decide, by decide, Or.inl ⟨by rw [h]; exact (tb_6 130 rfl rfl), rfl⟩⟩
theorem fpX12_15 (y : MethodName) (h : y.cls = RX12) (h2 : y.name = "<init>") : FP y 15 12 10 := ⟨by decide, by decide, Or.inr (Or.inr ⟨by rw [h]; exact (tb_6 137 rfl rfl), rfl, h2, h.symm⟩)⟩
theorem fpX12_21 (y : MethodName) (h : y.cls = RX12) (h2 : y.name = "<init>") : FP y 21 12 11 := ⟨by decide, by decide, Or.inr (Or.inr ⟨by rw [h]; exact (tb_6 138 rfl rfl), rfl, h2, h.symm⟩)⟩
theorem fpX12_24 (y : MethodName) (h : y.cls = RX12) (h2 : y.name = "<init>") : FP y 24 12 12 := ⟨by decide, by decide, Or.inr (Or.inr ⟨by rw [h]; exact (tb_6 139 rfl rfl), rfl, h2, h.symm⟩)⟩
theorem fpX12_27 (y : MethodName) (h : y.cls = RX12) (h2 : y.name = "<init>") : FP y 27 12 16 := ⟨by decide, by decide, Or.inr (Or.inr ⟨by rw [h]; exact (tb_6 143 rfl rfl), rfl, h2, h.symm⟩)⟩
theorem fpX12_31 (y : MethodName) (h : y.cls = RX12) (h2 : y.name = "<init>") : FP y 31 12 17 := ⟨by decide, by decide, Or.inr (Or.inr ⟨by rw [h]; exact (tb_6 144 rfl rfl), rfl, h2, h.symm⟩)⟩
theorem fpX12_34 (y : MethodName) (h : y.cls = RX12) (h2 : y.name = "<init>") : FP y 34 12 20 := ⟨by decide, by decide, Or.inr (Or.inr ⟨by rw [h]; exact (tb_6 147 rfl rfl), rfl, h2, h.symm⟩)⟩
theorem fpX12_37 (y : MethodName) (h : y.cls = RX12) (h2 : y.name = "<init>") : FP y 37 12 21 := ⟨by decide, by decide, Or.inr (Or.inr ⟨by rw [h]; exact (tb_6 148 rfl rfl), rfl, h2, h.symm⟩)⟩
theorem fpX12_40 (y : MethodName) (h : y.cls = RX12) (h2 : y.name = "<init>") : FP y 40 12 22 := ⟨by decide, by decide, Or.inr (Or.inr ⟨by rw [h]; exact (tb_6 149 rfl rfl), rfl, h2, h.symm⟩)⟩
theorem fpX12_43 (y : MethodName) (h : y.cls = RX12) (h2 : y.name = "<init>") : FP y 43 12 23 := ⟨by decide, by decide, Or.inr (Or.inr ⟨by rw [h]; exact (tb_6 150 rfl rfl), rfl, h2, h.symm⟩)⟩
theorem fpX12_46 (y : MethodName) (h : y.cls = RX12) (h2 : y.name = "<init>") : FP y 46 12 24 := ⟨by decide, by decide, Or.inr (Or.inr ⟨by rw [h]; exact (tb_6 151 rfl rfl), rfl, h2, h.symm⟩)⟩
theorem fpX12_49 (y : MethodName) (h : y.cls = RX12) (h2 : y.name = "<init>") : FP y 49 12 25 := ⟨by decide, by decide, Or.inr (Or.inr ⟨by rw [h]; exact (tb_6 152 rfl rfl), rfl, h2, h.symm⟩)⟩
theorem fpX12_52 (y : MethodName) (h : y.cls = RX12) (h2 : y.name = "<init>") : FP y 52 12 26 := ⟨by decide, by decide, Or.inr (Or.inr ⟨by rw [h]; exact (tb_6 153 rfl rfl), rfl, h2, h.symm⟩)⟩
theorem fpX12_55 (y : MethodName) (h : y.cls = RX12) : FP y 55 12 31 := ⟨by decide, by decide, Or.inl ⟨by rw [h]; exact (tb_6 158 rfl rfl), rfl⟩⟩
theorem fpX12_58 (y : MethodName) (h : y.cls = RX12) (h2 : y.name = "<init>") : FP y 58 12 32 := ⟨by decide, by decide, Or.inr (Or.inr ⟨by rw [h]; exact (tb_6 159 rfl rfl), rfl, h2, h.symm⟩)⟩
theorem fpX12_61 (y : MethodName) (h : y.cls = RX12) (h2 : y.name = "<init>") : FP y 61 12 33 := ⟨by decide, by decide, Or.inr (Or.inr ⟨by rw [h]; exact (tb_6 160 rfl rfl), rfl, h2, h.symm⟩)⟩
theorem fpX12_64 (y : MethodName) (h : y.cls = RX12) (h2 : y.name = "<init>") : FP y 64 12 34 := ⟨by decide, by decide, Or.inr (Or.inr ⟨by rw [h]; exact (tb_6 161 rfl rfl), rfl, h2, h.symm⟩)⟩
theorem fpX12_67 (y : MethodName) (h : y.cls = RX12) (h2 : y.name = "<init>") : FP y 67 12 35 := ⟨by decide, by decide, Or.inr (Or.inr ⟨by rw [h]; exact (tb_6 162 rfl rfl), rfl, h2, h.symm⟩)⟩
theorem fpX12_70 (y : MethodName) (h : y.cls = RX12) (h2 : y.name = "<init>") : FP y 70 12 36 := ⟨by decide, by decide, Or.inr (Or.inr ⟨by rw [h]; exact (tb_6 163 rfl rfl), rfl, h2, h.symm⟩)⟩
theorem fpX12_73 (y : MethodName) (h : y.cls = RX12) (h2 : y.name = "<init>") : FP y 73 12 37 := ⟨by decide, by decide, Or.inr (Or.inr ⟨by rw [h]; exact (tb_6 164 rfl rfl), rfl, h2, h.symm⟩)⟩
theorem fpX12_76 (y : MethodName) (h : y.cls = RX12) (h2 : y.name = "<init>") : FP y 76 12 43 := ⟨by decide, by decide, Or.inr (Or.inr ⟨by rw [h]; exact (tb_6 170 rfl rfl), rfl, h2, h.symm⟩)⟩
theorem fgX12_79 : FL RX12 79 12 0 := ⟨by decide, by decide, Or.inl (tb_6 127 rfl rfl)⟩
theorem fpX12_79 (y : MethodName) (h : y.cls = RX12) : FP y 79 12 0 := ⟨by decide, by decide, Or.inl ⟨by rw [h]; exact (tb_6 127 rfl rfl), rfl⟩⟩
theorem msX12_82 : MS RX12 82 3 mX12_in := ⟨(tb_7 31 rfl rfl), (tb_7 32 rfl rfl), ⟨(tb_1 12 rfl rfl), (tb_7 33 rfl rfl), rfl, ⟨by decide, by decide⟩, by decide +kernel, by decide⟩⟩
theorem mvX12_86 : MV RX12 86 2 mX12_bad := ⟨(tb_7 34 rfl rfl), (tb_7 36 rfl rfl), (tb_s 35 rfl rfl), ⟨(tb_1 12 rfl rfl), (tb_7 37 rfl rfl), rfl, ⟨by decide, by decide⟩, by decide +kernel, by decide⟩⟩
theorem fgX12_90 : FL RX12 90 12 18 := ⟨by decide, by decide, Or.inl (tb_6 145 rfl rfl)⟩
theorem fgX12_34 : FL RX12 34 12 20 := ⟨by decide, by decide, Or.inl (tb_6 147 rfl rfl)⟩
theorem fgX12_37 : FL RX12 37 12 21 := ⟨by decide, by decide, Or.inl (tb_6 148 rfl rfl)⟩
theorem fgX12_40 : FL RX12 40 12 22 := ⟨by decide, by decide, Or.inl (tb_6 149 rfl rfl)⟩
theorem fgX12_43 : FL RX12 43 12 23 := ⟨by decide, by decide, Or.inl (tb_6 150 rfl rfl)⟩
theorem fpX12_90 (y : MethodName) (h : y.cls = RX12) : FP y 90 12 18 := ⟨by decide, by decide, Or.inl ⟨by rw [h]; exact (tb_6 145 rfl rfl), rfl⟩⟩
theorem mvX12_93 : MV RX12 93 1 mX12_isHull := ⟨(tb_7 42 rfl rfl), (tb_7 44 rfl rfl), (tb_s 36 rfl rfl), ⟨(tb_1 12 rfl rfl), (tb_7 45 rfl rfl), rfl, ⟨by decide, by decide⟩, by decide +kernel, by decide⟩⟩
theorem ctX12_97 : Cond.constantLong RX12 97 (100) ∈ TB := (tb_7 54 rfl rfl)
theorem ctX12_99 : Cond.constantLong RX12 99 (10000) ∈ TB := (tb_7 55 rfl rfl)
theorem mvX12_101 : MV RX12 101 3 mX12_modelOf := ⟨(tb_7 50 rfl rfl), (tb_7 52 rfl rfl), (tb_s 37 rfl rfl), ⟨(tb_1 12 rfl rfl), (tb_7 53 rfl rfl), rfl, ⟨by decide, by decide⟩, by decide +kernel, by decide⟩⟩
theorem fgX12_105 : FL RX12 105 12 19 := ⟨by decide, by decide, Or.inl (tb_6 146 rfl rfl)⟩
theorem fgX12_46 : FL RX12 46 12 24 := ⟨by decide, by decide, Or.inl (tb_6 151 rfl rfl)⟩
theorem fgX12_49 : FL RX12 49 12 25 := ⟨by decide, by decide, Or.inl (tb_6 152 rfl rfl)⟩
theorem fpX12_105 (y : MethodName) (h : y.cls = RX12) : FP y 105 12 19 := ⟨by decide, by decide, Or.inl ⟨by rw [h]; exact (tb_6 146 rfl rfl), rfl⟩⟩
theorem fgX12_108 : FL RX12 108 12 1 := ⟨by decide, by decide, Or.inl (tb_6 128 rfl rfl)⟩
theorem fgX12_15 : FL RX12 15 12 10 := ⟨by decide, by decide, Or.inl (tb_6 137 rfl rfl)⟩
theorem fpX12_108 (y : MethodName) (h : y.cls = RX12) : FP y 108 12 1 := ⟨by decide, by decide, Or.inl ⟨by rw [h]; exact (tb_6 128 rfl rfl), rfl⟩⟩
theorem fgX12_111 : FL RX12 111 12 2 := ⟨by decide, by decide, Or.inl (tb_6 129 rfl rfl)⟩
theorem fgX12_114 : FL RX12 114 12 8 := ⟨by decide, by decide, Or.inl (tb_6 135 rfl rfl)⟩
theorem fgX12_21 : FL RX12 21 12 11 := ⟨by decide, by decide, Or.inl (tb_6 138 rfl rfl)⟩
theorem fgX12_117 : FL RX12 117 12 4 := ⟨by decide, by decide, Or.inl (tb_6 131 rfl rfl)⟩
theorem mvX12_120 : MV RX12 120 1 mX12_byteAt := ⟨(tb_7 76 rfl rfl), (tb_7 78 rfl rfl), (tb_s 40 rfl rfl), ⟨(tb_1 12 rfl rfl), (tb_7 79 rfl rfl), rfl, ⟨by decide, by decide⟩, by decide +kernel, by decide⟩⟩
theorem fpX12_117 (y : MethodName) (h : y.cls = RX12) : FP y 117 12 4 := ⟨by decide, by decide, Or.inl ⟨by rw [h]; exact (tb_6 131 rfl rfl), rfl⟩⟩
theorem fgX12_124 : FL RX12 124 12 6 := ⟨by decide, by decide, Or.inl (tb_6 133 rfl rfl)⟩
theorem fpX12_124 (y : MethodName) (h : y.cls = RX12) : FP y 124 12 6 := ⟨by decide, by decide, Or.inl ⟨by rw [h]; exact (tb_6 133 rfl rfl), rfl⟩⟩
theorem fpX12_127 (y : MethodName) (h : y.cls = RX12) : FP y 127 12 7 := ⟨by decide, by decide, Or.inl ⟨by rw [h]; exact (tb_6 134 rfl rfl), rfl⟩⟩
theorem msX12_130 : MS RX12 130 1 mX12_isDigit := ⟨(tb_7 119 rfl rfl), (tb_7 120 rfl rfl), ⟨(tb_1 12 rfl rfl), (tb_7 121 rfl rfl), rfl, ⟨by decide, by decide⟩, by decide +kernel, by decide⟩⟩
theorem ctX12_133 : Cond.constantLong RX12 133 (10) ∈ TB := (tb_7 126 rfl rfl)
theorem ctX12_135 : Cond.constantLong RX12 135 (48) ∈ TB := (tb_7 127 rfl rfl)
theorem ctX12_137 : Cond.constantLong RX12 137 (100000) ∈ TB := (tb_7 128 rfl rfl)
theorem ctX12_139 : Cond.constantLong RX12 139 (9999) ∈ TB := (tb_7 129 rfl rfl)
theorem mvX12_141 : MV RX12 141 2 mX12_wrong := ⟨(tb_7 99 rfl rfl), (tb_7 101 rfl rfl), (tb_s 45 rfl rfl), ⟨(tb_1 12 rfl rfl), (tb_7 102 rfl rfl), rfl, ⟨by decide, by decide⟩, by decide +kernel, by decide⟩⟩
theorem mvX12_145 : MV RX12 145 0 mX12_blanks := ⟨(tb_7 72 rfl rfl), (tb_7 74 rfl rfl), (tb_s 39 rfl rfl), ⟨(tb_1 12 rfl rfl), (tb_7 75 rfl rfl), rfl, ⟨by decide, by decide⟩, by decide +kernel, by decide⟩⟩
theorem mvX12_148 : MV RX12 148 0 mX12_wordHere := ⟨(tb_7 92 rfl rfl), (tb_7 94 rfl rfl), (tb_s 44 rfl rfl), ⟨(tb_1 12 rfl rfl), (tb_7 95 rfl rfl), rfl, ⟨by decide, by decide⟩, by decide +kernel, by decide⟩⟩
theorem msX12_152 : MS RX12 152 6 mX12_word := ⟨(tb_7 96 rfl rfl), (tb_7 97 rfl rfl), ⟨(tb_1 12 rfl rfl), (tb_7 98 rfl rfl), rfl, ⟨by decide, by decide⟩, by decide +kernel, by decide⟩⟩
theorem fgX12_156 : FL RX12 156 12 5 := ⟨by decide, by decide, Or.inl (tb_6 132 rfl rfl)⟩
theorem fpX12_156 (y : MethodName) (h : y.cls = RX12) : FP y 156 12 5 := ⟨by decide, by decide, Or.inl ⟨by rw [h]; exact (tb_6 132 rfl rfl), rfl⟩⟩
theorem mvX12_159 : MV RX12 159 6 mX12_isWord := ⟨(tb_7 88 rfl rfl), (tb_7 90 rfl rfl), (tb_s 43 rfl rfl), ⟨(tb_1 12 rfl rfl), (tb_7 91 rfl rfl), rfl, ⟨by decide, by decide⟩, by decide +kernel, by decide⟩⟩
theorem ctX12_163 : Cond.constantLong RX12 163 (3037000499) ∈ TB := (tb_7 145 rfl rfl)
theorem ctX12_165 : Cond.constantLong RX12 165 (2) ∈ TB := (tb_7 146 rfl rfl)
theorem mvX12_167 : MV RX12 167 0 mX12_number := ⟨(tb_7 122 rfl rfl), (tb_7 124 rfl rfl), (tb_s 50 rfl rfl), ⟨(tb_1 12 rfl rfl), (tb_7 125 rfl rfl), rfl, ⟨by decide, by decide⟩, by decide +kernel, by decide⟩⟩
theorem mvX12_171 : MV RX12 171 0 mX12_nameHere := ⟨(tb_7 130 rfl rfl), (tb_7 132 rfl rfl), (tb_s 51 rfl rfl), ⟨(tb_1 12 rfl rfl), (tb_7 133 rfl rfl), rfl, ⟨by decide, by decide⟩, by decide +kernel, by decide⟩⟩
theorem mvX12_174 : MV RX12 174 0 mX12_skipWord := ⟨(tb_7 103 rfl rfl), (tb_7 105 rfl rfl), (tb_s 46 rfl rfl), ⟨(tb_1 12 rfl rfl), (tb_7 106 rfl rfl), rfl, ⟨by decide, by decide⟩, by decide +kernel, by decide⟩⟩
theorem fgX12_27 : FL RX12 27 12 16 := ⟨by decide, by decide, Or.inl (tb_6 143 rfl rfl)⟩
theorem mvX12_177 : MV RX12 177 1 mX12_opens := ⟨(tb_7 134 rfl rfl), (tb_7 136 rfl rfl), (tb_s 52 rfl rfl), ⟨(tb_1 12 rfl rfl), (tb_7 137 rfl rfl), rfl, ⟨by decide, by decide⟩, by decide +kernel, by decide⟩⟩
theorem mvX12_181 : MV RX12 181 0 mX12_sum := ⟨(tb_7 107 rfl rfl), (tb_7 109 rfl rfl), (tb_s 47 rfl rfl), ⟨(tb_1 12 rfl rfl), (tb_7 110 rfl rfl), rfl, ⟨by decide, by decide⟩, by decide +kernel, by decide⟩⟩
theorem mvX12_184 : MV RX12 184 1 mX12_sign := ⟨(tb_7 138 rfl rfl), (tb_7 140 rfl rfl), (tb_s 53 rfl rfl), ⟨(tb_1 12 rfl rfl), (tb_7 141 rfl rfl), rfl, ⟨by decide, by decide⟩, by decide +kernel, by decide⟩⟩
theorem msX12_187 : MS RX12 187 1 mX12_root := ⟨(tb_7 142 rfl rfl), (tb_7 143 rfl rfl), ⟨(tb_1 12 rfl rfl), (tb_7 144 rfl rfl), rfl, ⟨by decide, by decide⟩, by decide +kernel, by decide⟩⟩
theorem mvX12_191 : MV RX12 191 0 mX12_unit := ⟨(tb_7 115 rfl rfl), (tb_7 117 rfl rfl), (tb_s 49 rfl rfl), ⟨(tb_1 12 rfl rfl), (tb_7 118 rfl rfl), rfl, ⟨by decide, by decide⟩, by decide +kernel, by decide⟩⟩
theorem mvX12_194 : MV RX12 194 0 mX12_product := ⟨(tb_7 111 rfl rfl), (tb_7 113 rfl rfl), (tb_s 48 rfl rfl), ⟨(tb_1 12 rfl rfl), (tb_7 114 rfl rfl), rfl, ⟨by decide, by decide⟩, by decide +kernel, by decide⟩⟩
theorem mvX12_197 : MV RX12 197 0 mX12_test := ⟨(tb_7 155 rfl rfl), (tb_7 157 rfl rfl), (tb_s 56 rfl rfl), ⟨(tb_1 12 rfl rfl), (tb_7 158 rfl rfl), rfl, ⟨by decide, by decide⟩, by decide +kernel, by decide⟩⟩
theorem mvX12_201 : MV RX12 201 0 mX12_ors := ⟨(tb_7 147 rfl rfl), (tb_7 149 rfl rfl), (tb_s 54 rfl rfl), ⟨(tb_1 12 rfl rfl), (tb_7 150 rfl rfl), rfl, ⟨by decide, by decide⟩, by decide +kernel, by decide⟩⟩
theorem mvX12_204 : MV RX12 204 0 mX12_ands := ⟨(tb_7 151 rfl rfl), (tb_7 153 rfl rfl), (tb_s 55 rfl rfl), ⟨(tb_1 12 rfl rfl), (tb_7 154 rfl rfl), rfl, ⟨by decide, by decide⟩, by decide +kernel, by decide⟩⟩
theorem fgX12_207 : FL RX12 207 12 15 := ⟨by decide, by decide, Or.inl (tb_6 142 rfl rfl)⟩
theorem mvX12_211 : MV RX12 211 0 mX12_wordOf := ⟨(tb_7 84 rfl rfl), (tb_7 86 rfl rfl), (tb_s 42 rfl rfl), ⟨(tb_1 12 rfl rfl), (tb_7 87 rfl rfl), rfl, ⟨by decide, by decide⟩, by decide +kernel, by decide⟩⟩
theorem fgX12_214 : FL RX12 214 12 9 := ⟨by decide, by decide, Or.inl (tb_6 136 rfl rfl)⟩
theorem fgX12_31 : FL RX12 31 12 17 := ⟨by decide, by decide, Or.inl (tb_6 144 rfl rfl)⟩
theorem fpX12_214 (y : MethodName) (h : y.cls = RX12) : FP y 214 12 9 := ⟨by decide, by decide, Or.inl ⟨by rw [h]; exact (tb_6 136 rfl rfl), rfl⟩⟩
theorem mvX12_217 : MV RX12 217 0 mX12_clause := ⟨(tb_7 80 rfl rfl), (tb_7 82 rfl rfl), (tb_s 41 rfl rfl), ⟨(tb_1 12 rfl rfl), (tb_7 83 rfl rfl), rfl, ⟨by decide, by decide⟩, by decide +kernel, by decide⟩⟩
theorem fgX12_220 : FL RX12 220 12 14 := ⟨by decide, by decide, Or.inl (tb_6 141 rfl rfl)⟩
theorem fgX12_223 : FL RX12 223 12 13 := ⟨by decide, by decide, Or.inl (tb_6 140 rfl rfl)⟩
theorem fpX12_114 (y : MethodName) (h : y.cls = RX12) : FP y 114 12 8 := ⟨by decide, by decide, Or.inl ⟨by rw [h]; exact (tb_6 135 rfl rfl), rfl⟩⟩
theorem fpX12_111 (y : MethodName) (h : y.cls = RX12) : FP y 111 12 2 := ⟨by decide, by decide, Or.inl ⟨by rw [h]; exact (tb_6 129 rfl rfl), rfl⟩⟩
theorem fpX12_207 (y : MethodName) (h : y.cls = RX12) : FP y 207 12 15 := ⟨by decide, by decide, Or.inl ⟨by rw [h]; exact (tb_6 142 rfl rfl), rfl⟩⟩
theorem mvX12_226 : MV RX12 226 0 mX12_walks := ⟨(tb_7 68 rfl rfl), (tb_7 70 rfl rfl), (tb_s 38 rfl rfl), ⟨(tb_1 12 rfl rfl), (tb_7 71 rfl rfl), rfl, ⟨by decide, by decide⟩, by decide +kernel, by decide⟩⟩
theorem fgX12_127 : FL RX12 127 12 7 := ⟨by decide, by decide, Or.inl (tb_6 134 rfl rfl)⟩
theorem fgX12_24 : FL RX12 24 12 12 := ⟨by decide, by decide, Or.inl (tb_6 139 rfl rfl)⟩
theorem fpX12_220 (y : MethodName) (h : y.cls = RX12) : FP y 220 12 14 := ⟨by decide, by decide, Or.inl ⟨by rw [h]; exact (tb_6 141 rfl rfl), rfl⟩⟩
theorem fpX12_223 (y : MethodName) (h : y.cls = RX12) : FP y 223 12 13 := ⟨by decide, by decide, Or.inl ⟨by rw [h]; exact (tb_6 140 rfl rfl), rfl⟩⟩
theorem fgX12_11 : FL RX12 11 12 3 := ⟨by decide, by decide, Or.inl (tb_6 130 rfl rfl)⟩
theorem ctX12_229 : Cond.constantLong RX12 229 (1000000000) ∈ TB := (tb_7 207 rfl rfl)
theorem msX12_231 : MS RX12 231 3 mX12_within := ⟨(tb_7 208 rfl rfl), (tb_7 209 rfl rfl), ⟨(tb_1 12 rfl rfl), (tb_7 210 rfl rfl), rfl, ⟨by decide, by decide⟩, by decide +kernel, by decide⟩⟩
theorem mvX12_235 : MV RX12 235 1 mX12_asks := ⟨(tb_7 203 rfl rfl), (tb_7 205 rfl rfl), (tb_s 63 rfl rfl), ⟨(tb_1 12 rfl rfl), (tb_7 206 rfl rfl), rfl, ⟨by decide, by decide⟩, by decide +kernel, by decide⟩⟩
theorem mvX12_238 : MV RX12 238 1 mX12_skinOf := ⟨(tb_7 199 rfl rfl), (tb_7 201 rfl rfl), (tb_s 62 rfl rfl), ⟨(tb_1 12 rfl rfl), (tb_7 202 rfl rfl), rfl, ⟨by decide, by decide⟩, by decide +kernel, by decide⟩⟩
theorem mvX12_242 : MV RX12 242 1 mX12_allOf := ⟨(tb_7 195 rfl rfl), (tb_7 197 rfl rfl), (tb_s 61 rfl rfl), ⟨(tb_1 12 rfl rfl), (tb_7 198 rfl rfl), rfl, ⟨by decide, by decide⟩, by decide +kernel, by decide⟩⟩
theorem fgX12_52 : FL RX12 52 12 26 := ⟨by decide, by decide, Or.inl (tb_6 153 rfl rfl)⟩
theorem mvX12_245 : MV RX12 245 6 mX12_tellsNames := ⟨(tb_7 179 rfl rfl), (tb_7 181 rfl rfl), (tb_s 58 rfl rfl), ⟨(tb_1 12 rfl rfl), (tb_7 182 rfl rfl), rfl, ⟨by decide, by decide⟩, by decide +kernel, by decide⟩⟩
theorem mvX12_249 : MV RX12 249 0 mX12_atHand := ⟨(tb_7 175 rfl rfl), (tb_7 177 rfl rfl), (tb_s 57 rfl rfl), ⟨(tb_1 12 rfl rfl), (tb_7 178 rfl rfl), rfl, ⟨by decide, by decide⟩, by decide +kernel, by decide⟩⟩
theorem mvX12_252 : MV RX12 252 1 mX12_isLaw := ⟨(tb_7 187 rfl rfl), (tb_7 189 rfl rfl), (tb_s 59 rfl rfl), ⟨(tb_1 12 rfl rfl), (tb_7 190 rfl rfl), rfl, ⟨by decide, by decide⟩, by decide +kernel, by decide⟩⟩
theorem mvX12_255 : MV RX12 255 1 mX12_pullOf := ⟨(tb_7 191 rfl rfl), (tb_7 193 rfl rfl), (tb_s 60 rfl rfl), ⟨(tb_1 12 rfl rfl), (tb_7 194 rfl rfl), rfl, ⟨by decide, by decide⟩, by decide +kernel, by decide⟩⟩
theorem ctX12_258 : Cond.constantLong RX12 258 (99) ∈ TB := (tb_7 219 rfl rfl)
theorem msX12_260 : MS RX12 260 2 mX12_shipSpeed := ⟨(tb_7 216 rfl rfl), (tb_7 217 rfl rfl), ⟨(tb_1 12 rfl rfl), (tb_7 218 rfl rfl), rfl, ⟨by decide, by decide⟩, by decide +kernel, by decide⟩⟩
theorem ctX12_264 : Cond.constant RX12 264 (1000000000) ∈ TB := (tb_7 215 rfl rfl)
theorem mvX12_265 : MV RX12 265 9 mX12_needOf := ⟨(tb_7 220 rfl rfl), (tb_7 222 rfl rfl), (tb_s 64 rfl rfl), ⟨(tb_1 12 rfl rfl), (tb_7 223 rfl rfl), rfl, ⟨by decide, by decide⟩, by decide +kernel, by decide⟩⟩
theorem msX12_269 : MS RX12 269 2 mX12_modelSpeed := ⟨(tb_7 236 rfl rfl), (tb_7 237 rfl rfl), ⟨(tb_1 12 rfl rfl), (tb_7 238 rfl rfl), rfl, ⟨by decide, by decide⟩, by decide +kernel, by decide⟩⟩
theorem msX12_272 : MS RX12 272 1 mX12_amount := ⟨(tb_7 239 rfl rfl), (tb_8 0 rfl rfl), ⟨(tb_1 12 rfl rfl), (tb_8 1 rfl rfl), rfl, ⟨by decide, by decide⟩, by decide +kernel, by decide⟩⟩
theorem mvX12_275 : MV RX12 275 2 mX12_badBoth := ⟨(tb_7 228 rfl rfl), (tb_7 230 rfl rfl), (tb_s 65 rfl rfl), ⟨(tb_1 12 rfl rfl), (tb_7 231 rfl rfl), rfl, ⟨by decide, by decide⟩, by decide +kernel, by decide⟩⟩
theorem mvX12_279 : MV RX12 279 4 mX12_errorOf := ⟨(tb_7 232 rfl rfl), (tb_7 234 rfl rfl), (tb_s 66 rfl rfl), ⟨(tb_1 12 rfl rfl), (tb_7 235 rfl rfl), rfl, ⟨by decide, by decide⟩, by decide +kernel, by decide⟩⟩
theorem mvX12_283 : MV RX12 283 3 mX12_pullAt := ⟨(tb_8 10 rfl rfl), (tb_8 12 rfl rfl), (tb_s 67 rfl rfl), ⟨(tb_1 12 rfl rfl), (tb_8 13 rfl rfl), rfl, ⟨by decide, by decide⟩, by decide +kernel, by decide⟩⟩
theorem fgX12_58 : FL RX12 58 12 32 := ⟨by decide, by decide, Or.inl (tb_6 159 rfl rfl)⟩
theorem fgX12_287 : FL RX12 287 12 27 := ⟨by decide, by decide, Or.inl (tb_6 154 rfl rfl)⟩
theorem fpX12_287 (y : MethodName) (h : y.cls = RX12) : FP y 287 12 27 := ⟨by decide, by decide, Or.inl ⟨by rw [h]; exact (tb_6 154 rfl rfl), rfl⟩⟩
theorem mvX12_290 : MV RX12 290 1 mX12_keepsRun := ⟨(tb_8 22 rfl rfl), (tb_8 24 rfl rfl), (tb_s 68 rfl rfl), ⟨(tb_1 12 rfl rfl), (tb_8 25 rfl rfl), rfl, ⟨by decide, by decide⟩, by decide +kernel, by decide⟩⟩
theorem fgX12_55 : FL RX12 55 12 31 := ⟨by decide, by decide, Or.inl (tb_6 158 rfl rfl)⟩
theorem ctX12_293 : Cond.constant RX12 293 (1103515245) ∈ TB := (tb_8 30 rfl rfl)
theorem mvX12_294 : MV RX12 294 2 mX12_isFitting := ⟨(tb_8 51 rfl rfl), (tb_8 53 rfl rfl), (tb_s 70 rfl rfl), ⟨(tb_1 12 rfl rfl), (tb_8 54 rfl rfl), rfl, ⟨by decide, by decide⟩, by decide +kernel, by decide⟩⟩
theorem mvX12_297 : MV RX12 297 1 mX12_fitting := ⟨(tb_8 47 rfl rfl), (tb_8 49 rfl rfl), (tb_s 69 rfl rfl), ⟨(tb_1 12 rfl rfl), (tb_8 50 rfl rfl), rfl, ⟨by decide, by decide⟩, by decide +kernel, by decide⟩⟩
theorem fgX12_300 : FL RX12 300 12 28 := ⟨by decide, by decide, Or.inl (tb_6 155 rfl rfl)⟩
theorem fgX12_61 : FL RX12 61 12 33 := ⟨by decide, by decide, Or.inl (tb_6 160 rfl rfl)⟩
theorem fgX12_64 : FL RX12 64 12 34 := ⟨by decide, by decide, Or.inl (tb_6 161 rfl rfl)⟩
theorem fpX12_300 (y : MethodName) (h : y.cls = RX12) : FP y 300 12 28 := ⟨by decide, by decide, Or.inl ⟨by rw [h]; exact (tb_6 155 rfl rfl), rfl⟩⟩
theorem ctX12_303 : Cond.constantLong RX12 303 (1000) ∈ TB := (tb_8 75 rfl rfl)
theorem ctX12_305 : Cond.constantLong RX12 305 (2147483647) ∈ TB := (tb_8 76 rfl rfl)
theorem mvX12_307 : MV RX12 307 1 mX12_ratioOf := ⟨(tb_8 71 rfl rfl), (tb_8 73 rfl rfl), (tb_s 72 rfl rfl), ⟨(tb_1 12 rfl rfl), (tb_8 74 rfl rfl), rfl, ⟨by decide, by decide⟩, by decide +kernel, by decide⟩⟩
theorem fgX12_67 : FL RX12 67 12 35 := ⟨by decide, by decide, Or.inl (tb_6 162 rfl rfl)⟩
theorem mvX12_310 : MV RX12 310 0 mX12_middle := ⟨(tb_8 67 rfl rfl), (tb_8 69 rfl rfl), (tb_s 71 rfl rfl), ⟨(tb_1 12 rfl rfl), (tb_8 70 rfl rfl), rfl, ⟨by decide, by decide⟩, by decide +kernel, by decide⟩⟩
theorem mvX12_313 : MV RX12 313 2 mX12_isStrange := ⟨(tb_8 81 rfl rfl), (tb_8 83 rfl rfl), (tb_s 73 rfl rfl), ⟨(tb_1 12 rfl rfl), (tb_8 84 rfl rfl), rfl, ⟨by decide, by decide⟩, by decide +kernel, by decide⟩⟩
theorem fpX12_316 (y : MethodName) (h : y.cls = RX12) : FP y 316 12 41 := ⟨by decide, by decide, Or.inl ⟨by rw [h]; exact (tb_6 168 rfl rfl), rfl⟩⟩
theorem fpX12_320 (y : MethodName) (h : y.cls = RX12) : FP y 320 12 38 := ⟨by decide, by decide, Or.inl ⟨by rw [h]; exact (tb_6 165 rfl rfl), rfl⟩⟩
theorem mvX12_323 : MV RX12 323 4 mX12_changes := ⟨(tb_8 97 rfl rfl), (tb_8 99 rfl rfl), (tb_s 75 rfl rfl), ⟨(tb_1 12 rfl rfl), (tb_8 100 rfl rfl), rfl, ⟨by decide, by decide⟩, by decide +kernel, by decide⟩⟩
theorem fgX12_316 : FL RX12 316 12 41 := ⟨by decide, by decide, Or.inl (tb_6 168 rfl rfl)⟩
theorem fpX12_327 (y : MethodName) (h : y.cls = RX12) : FP y 327 12 39 := ⟨by decide, by decide, Or.inl ⟨by rw [h]; exact (tb_6 166 rfl rfl), rfl⟩⟩
theorem fpX12_330 (y : MethodName) (h : y.cls = RX12) : FP y 330 12 40 := ⟨by decide, by decide, Or.inl ⟨by rw [h]; exact (tb_6 167 rfl rfl), rfl⟩⟩
theorem mvX12_333 : MV RX12 333 1 mX12_findBetter := ⟨(tb_8 93 rfl rfl), (tb_8 95 rfl rfl), (tb_s 74 rfl rfl), ⟨(tb_1 12 rfl rfl), (tb_8 96 rfl rfl), rfl, ⟨by decide, by decide⟩, by decide +kernel, by decide⟩⟩
theorem fgX12_320 : FL RX12 320 12 38 := ⟨by decide, by decide, Or.inl (tb_6 165 rfl rfl)⟩
theorem ctX12_336 : Cond.constantLong RX12 336 (-1) ∈ TB := (tb_8 101 rfl rfl)
theorem fgX12_327 : FL RX12 327 12 39 := ⟨by decide, by decide, Or.inl (tb_6 166 rfl rfl)⟩
theorem fgX12_330 : FL RX12 330 12 40 := ⟨by decide, by decide, Or.inl (tb_6 167 rfl rfl)⟩
theorem fgX12_338 : FL RX12 338 12 29 := ⟨by decide, by decide, Or.inl (tb_6 156 rfl rfl)⟩
theorem fgX12_70 : FL RX12 70 12 36 := ⟨by decide, by decide, Or.inl (tb_6 163 rfl rfl)⟩
theorem fpX12_338 (y : MethodName) (h : y.cls = RX12) : FP y 338 12 29 := ⟨by decide, by decide, Or.inl ⟨by rw [h]; exact (tb_6 156 rfl rfl), rfl⟩⟩
theorem ctX12_341 : Cond.constant RX12 341 (-2147483648) ∈ TB := (tb_8 114 rfl rfl)
theorem msX12_342 : MS RX12 342 2 mX12_often := ⟨(tb_8 115 rfl rfl), (tb_8 116 rfl rfl), ⟨(tb_1 12 rfl rfl), (tb_8 117 rfl rfl), rfl, ⟨by decide, by decide⟩, by decide +kernel, by decide⟩⟩
theorem mvX12_345 : MV RX12 345 3 mX12_oddsOf := ⟨(tb_8 126 rfl rfl), (tb_8 128 rfl rfl), (tb_s 76 rfl rfl), ⟨(tb_1 12 rfl rfl), (tb_8 129 rfl rfl), rfl, ⟨by decide, by decide⟩, by decide +kernel, by decide⟩⟩
theorem fgX12_349 : FL RX12 349 12 30 := ⟨by decide, by decide, Or.inl (tb_6 157 rfl rfl)⟩
theorem fgX12_73 : FL RX12 73 12 37 := ⟨by decide, by decide, Or.inl (tb_6 164 rfl rfl)⟩
theorem fpX12_349 (y : MethodName) (h : y.cls = RX12) : FP y 349 12 30 := ⟨by decide, by decide, Or.inl ⟨by rw [h]; exact (tb_6 157 rfl rfl), rfl⟩⟩
theorem fgX12_76 : FL RX12 76 12 43 := ⟨by decide, by decide, Or.inl (tb_6 170 rfl rfl)⟩
theorem fgX12_352 : FL RX12 352 12 44 := ⟨by decide, by decide, Or.inl (tb_6 171 rfl rfl)⟩
theorem fpX12_352 (y : MethodName) (h : y.cls = RX12) : FP y 352 12 44 := ⟨by decide, by decide, Or.inl ⟨by rw [h]; exact (tb_6 171 rfl rfl), rfl⟩⟩
theorem mvX12_355 : MV RX12 355 3 mX12_moves := ⟨(tb_8 150 rfl rfl), (tb_8 152 rfl rfl), (tb_s 78 rfl rfl), ⟨(tb_1 12 rfl rfl), (tb_8 153 rfl rfl), rfl, ⟨by decide, by decide⟩, by decide +kernel, by decide⟩⟩
theorem mvX12_358 : MV RX12 358 3 mX12_movesRow := ⟨(tb_8 154 rfl rfl), (tb_8 156 rfl rfl), (tb_s 79 rfl rfl), ⟨(tb_1 12 rfl rfl), (tb_8 157 rfl rfl), rfl, ⟨by decide, by decide⟩, by decide +kernel, by decide⟩⟩
theorem fgX12_362 : FL RX12 362 12 42 := ⟨by decide, by decide, Or.inl (tb_6 169 rfl rfl)⟩
theorem mvX12_365 : MV RX12 365 2 mX12_movesAll := ⟨(tb_8 146 rfl rfl), (tb_8 148 rfl rfl), (tb_s 77 rfl rfl), ⟨(tb_1 12 rfl rfl), (tb_8 149 rfl rfl), rfl, ⟨by decide, by decide⟩, by decide +kernel, by decide⟩⟩
theorem fpX12_362 (y : MethodName) (h : y.cls = RX12) : FP y 362 12 42 := ⟨by decide, by decide, Or.inl ⟨by rw [h]; exact (tb_6 169 rfl rfl), rfl⟩⟩
theorem ctJ6_265 : Cond.constant RJ6 265 (1431655765) ∈ TB := (tb_5 198 rfl rfl)
theorem ctJ6_266 : Cond.constant RJ6 266 (858993459) ∈ TB := (tb_5 199 rfl rfl)
theorem ctJ6_267 : Cond.constant RJ6 267 (252645135) ∈ TB := (tb_5 200 rfl rfl)
-- other field J0 9 ('java/lang/String', 'value', '[B')
theorem mvJ0_335 : MV RJ0 335 0 mJ0_coder_7d493 := ⟨(tb_3 208 rfl rfl), (tb_3 209 rfl rfl), (tb_3 210 rfl rfl), ⟨(tb_1 20 rfl rfl), (tb_3 211 rfl rfl), rfl, ⟨by decide, by decide⟩, by decide +kernel, by decide⟩⟩
theorem mvJ0_492 : MV RJ0 492 0 mJ0_isLatin1_aae02 := ⟨(tb_3 218 rfl rfl), (tb_3 219 rfl rfl), (tb_3 220 rfl rfl), ⟨(tb_1 20 rfl rfl), (tb_3 221 rfl rfl), rfl, ⟨by decide, by decide⟩, by decide +kernel, by decide⟩⟩
theorem msJ0_495 : MS RJ0 495 2 mJ1_charAt_3b067 := ⟨(tb_3 222 rfl rfl), (tb_3 223 rfl rfl), ⟨(tb_1 21 rfl rfl), (tb_3 224 rfl rfl), rfl, ⟨by decide, by decide⟩, by decide +kernel, by decide⟩⟩
theorem msJ0_498 : MS RJ0 498 2 mJ2_charAt_3b067 := ⟨(tb_3 233 rfl rfl), (tb_3 234 rfl rfl), ⟨(tb_1 23 rfl rfl), (tb_3 235 rfl rfl), rfl, ⟨by decide, by decide⟩, by decide +kernel, by decide⟩⟩
-- other field J0 15 ('java/lang/String', 'coder', 'B')
theorem msJ0_1059 : MS RJ0 1059 3 mJ3_checkIndex_8e157 := ⟨(tb_3 230 rfl rfl), (tb_3 231 rfl rfl), ⟨(tb_1 22 rfl rfl), (tb_3 232 rfl rfl), rfl, ⟨by decide, by decide⟩, by decide +kernel, by decide⟩⟩
theorem msJ1_9 : MS RJ1 9 2 mJ0_checkIndex_df160 := ⟨(tb_3 225 rfl rfl), (tb_3 226 rfl rfl), ⟨(tb_1 20 rfl rfl), (tb_3 227 rfl rfl), rfl, ⟨by decide, by decide⟩, by decide +kernel, by decide⟩⟩
theorem msJ2_48 : MS RJ2 48 1 mJ2_length_9d52b := ⟨(tb_3 239 rfl rfl), (tb_4 0 rfl rfl), ⟨(tb_1 23 rfl rfl), (tb_4 1 rfl rfl), rfl, ⟨by decide, by decide⟩, by decide +kernel, by decide⟩⟩
-- no word: J2 52 new
-- no word: J2 54 ldc
-- no word: J2 56 invokespecial
theorem msJ2_67 : MS RJ2 67 2 mJ2_checkIndex_2214a := ⟨(tb_3 236 rfl rfl), (tb_3 237 rfl rfl), ⟨(tb_1 23 rfl rfl), (tb_3 238 rfl rfl), rfl, ⟨by decide, by decide⟩, by decide +kernel, by decide⟩⟩
theorem msJ2_71 : MS RJ2 71 2 mJ2_getChar_3b067 := ⟨(tb_4 3 rfl rfl), (tb_4 4 rfl rfl), ⟨(tb_1 23 rfl rfl), (tb_4 5 rfl rfl), rfl, ⟨by decide, by decide⟩, by decide +kernel, by decide⟩⟩
theorem msJ2_414 : MS RJ2 414 2 mJ0_checkIndex_df160 := ⟨(tb_4 2 rfl rfl), (tb_3 226 rfl rfl), ⟨(tb_1 20 rfl rfl), (tb_3 227 rfl rfl), rfl, ⟨by decide, by decide⟩, by decide +kernel, by decide⟩⟩
-- method without code row: J7 316 ('[I', 'clone', '()Ljava/lang/Object;')
theorem msJ7_304 : MS RJ7 304 2 mJ9_min_7cf53 := ⟨(tb_4 85 rfl rfl), (tb_3 181 rfl rfl), ⟨(tb_1 19 rfl rfl), (tb_3 182 rfl rfl), rfl, ⟨by decide, by decide⟩, by decide +kernel, by decide⟩⟩
-- method without code row: J7 150 ('java/lang/System', 'arraycopy', '(Ljava/lang/Object;ILjava/lang/Object;II)V')
-- no word: J3 95 invokestatic
theorem mvL_7 : MV RL 7 2 mX11_hull := ⟨(tb_2 229 rfl rfl), (tb_2 230 rfl rfl), (tb_2 231 rfl rfl), ⟨(tb_1 1 rfl rfl), (tb_2 232 rfl rfl), rfl, ⟨by decide, by decide⟩, by decide +kernel, by decide⟩⟩
theorem mvL_15 : MV RL 15 4 mX11_station := ⟨(tb_3 78 rfl rfl), (tb_3 79 rfl rfl), (tb_3 80 rfl rfl), ⟨(tb_1 1 rfl rfl), (tb_3 81 rfl rfl), rfl, ⟨by decide, by decide⟩, by decide +kernel, by decide⟩⟩
theorem mvL_21 : MV RL 21 3 mX11_model := ⟨(tb_3 125 rfl rfl), (tb_3 126 rfl rfl), (tb_3 127 rfl rfl), ⟨(tb_1 1 rfl rfl), (tb_3 128 rfl rfl), rfl, ⟨by decide, by decide⟩, by decide +kernel, by decide⟩⟩
theorem mvL_25 : MV RL 25 2 mX11_tank := ⟨(tb_3 152 rfl rfl), (tb_3 153 rfl rfl), (tb_3 154 rfl rfl), ⟨(tb_1 1 rfl rfl), (tb_3 155 rfl rfl), rfl, ⟨by decide, by decide⟩, by decide +kernel, by decide⟩⟩
theorem mvL_28 : MV RL 28 2 mX11_law := ⟨(tb_3 168 rfl rfl), (tb_3 169 rfl rfl), (tb_3 170 rfl rfl), ⟨(tb_1 1 rfl rfl), (tb_3 171 rfl rfl), rfl, ⟨by decide, by decide⟩, by decide +kernel, by decide⟩⟩
theorem mvL_32 : MV RL 32 4 mX11_set := ⟨(tb_4 105 rfl rfl), (tb_4 106 rfl rfl), (tb_4 107 rfl rfl), ⟨(tb_1 1 rfl rfl), (tb_4 108 rfl rfl), rfl, ⟨by decide, by decide⟩, by decide +kernel, by decide⟩⟩
theorem mvL_37 : MV RL 37 2 mX11_trim := ⟨(tb_4 132 rfl rfl), (tb_4 133 rfl rfl), (tb_4 134 rfl rfl), ⟨(tb_1 1 rfl rfl), (tb_4 135 rfl rfl), rfl, ⟨by decide, by decide⟩, by decide +kernel, by decide⟩⟩
theorem mvL_41 : MV RL 41 1 mX11_name := ⟨(tb_4 141 rfl rfl), (tb_4 142 rfl rfl), (tb_4 143 rfl rfl), ⟨(tb_1 1 rfl rfl), (tb_4 144 rfl rfl), rfl, ⟨by decide, by decide⟩, by decide +kernel, by decide⟩⟩
theorem mvL_47 : MV RL 47 2 mX11_pull := ⟨(tb_4 191 rfl rfl), (tb_4 192 rfl rfl), (tb_4 193 rfl rfl), ⟨(tb_1 1 rfl rfl), (tb_4 194 rfl rfl), rfl, ⟨by decide, by decide⟩, by decide +kernel, by decide⟩⟩
theorem mvL_51 : MV RL 51 3 mX11_need := ⟨(tb_5 18 rfl rfl), (tb_5 19 rfl rfl), (tb_5 20 rfl rfl), ⟨(tb_1 1 rfl rfl), (tb_5 21 rfl rfl), rfl, ⟨by decide, by decide⟩, by decide +kernel, by decide⟩⟩
theorem mvL_55 : MV RL 55 4 mX11_error := ⟨(tb_5 43 rfl rfl), (tb_5 44 rfl rfl), (tb_5 45 rfl rfl), ⟨(tb_1 1 rfl rfl), (tb_5 46 rfl rfl), rfl, ⟨by decide, by decide⟩, by decide +kernel, by decide⟩⟩
theorem mvL_59 : MV RL 59 4 mX11_size := ⟨(tb_5 67 rfl rfl), (tb_5 68 rfl rfl), (tb_5 69 rfl rfl), ⟨(tb_1 1 rfl rfl), (tb_5 70 rfl rfl), rfl, ⟨by decide, by decide⟩, by decide +kernel, by decide⟩⟩
theorem mvL_62 : MV RL 62 1 mX11_sides := ⟨(tb_5 79 rfl rfl), (tb_5 80 rfl rfl), (tb_5 81 rfl rfl), ⟨(tb_1 1 rfl rfl), (tb_5 82 rfl rfl), rfl, ⟨by decide, by decide⟩, by decide +kernel, by decide⟩⟩
theorem mvL_66 : MV RL 66 2 mX11_widest := ⟨(tb_5 95 rfl rfl), (tb_5 96 rfl rfl), (tb_5 97 rfl rfl), ⟨(tb_1 1 rfl rfl), (tb_5 98 rfl rfl), rfl, ⟨by decide, by decide⟩, by decide +kernel, by decide⟩⟩
theorem mvL_69 : MV RL 69 1 mX11_run := ⟨(tb_5 106 rfl rfl), (tb_5 107 rfl rfl), (tb_5 108 rfl rfl), ⟨(tb_1 1 rfl rfl), (tb_5 109 rfl rfl), rfl, ⟨by decide, by decide⟩, by decide +kernel, by decide⟩⟩
theorem mvL_72 : MV RL 72 2 mX11_tow := ⟨(tb_5 118 rfl rfl), (tb_5 119 rfl rfl), (tb_5 120 rfl rfl), ⟨(tb_1 1 rfl rfl), (tb_5 121 rfl rfl), rfl, ⟨by decide, by decide⟩, by decide +kernel, by decide⟩⟩
theorem mvL_75 : MV RL 75 2 mX11_ran := ⟨(tb_5 135 rfl rfl), (tb_5 136 rfl rfl), (tb_5 137 rfl rfl), ⟨(tb_1 1 rfl rfl), (tb_5 138 rfl rfl), rfl, ⟨by decide, by decide⟩, by decide +kernel, by decide⟩⟩
theorem mvL_78 : MV RL 78 0 mX11_wire := ⟨(tb_5 146 rfl rfl), (tb_5 147 rfl rfl), (tb_5 148 rfl rfl), ⟨(tb_1 1 rfl rfl), (tb_5 149 rfl rfl), rfl, ⟨by decide, by decide⟩, by decide +kernel, by decide⟩⟩
theorem mvL_82 : MV RL 82 1 mX11_fits := ⟨(tb_5 163 rfl rfl), (tb_5 164 rfl rfl), (tb_5 165 rfl rfl), ⟨(tb_1 1 rfl rfl), (tb_5 166 rfl rfl), rfl, ⟨by decide, by decide⟩, by decide +kernel, by decide⟩⟩
theorem mvL_85 : MV RL 85 1 mX11_telling := ⟨(tb_5 187 rfl rfl), (tb_5 188 rfl rfl), (tb_5 189 rfl rfl), ⟨(tb_1 1 rfl rfl), (tb_5 190 rfl rfl), rfl, ⟨by decide, by decide⟩, by decide +kernel, by decide⟩⟩
theorem mvL_88 : MV RL 88 2 mX11_earlier := ⟨(tb_5 209 rfl rfl), (tb_5 210 rfl rfl), (tb_5 211 rfl rfl), ⟨(tb_1 1 rfl rfl), (tb_5 212 rfl rfl), rfl, ⟨by decide, by decide⟩, by decide +kernel, by decide⟩⟩
theorem mvL_91 : MV RL 91 1 mX11_ratio := ⟨(tb_5 226 rfl rfl), (tb_5 227 rfl rfl), (tb_5 228 rfl rfl), ⟨(tb_1 1 rfl rfl), (tb_5 229 rfl rfl), rfl, ⟨by decide, by decide⟩, by decide +kernel, by decide⟩⟩
theorem mvL_94 : MV RL 94 1 mX11_strange := ⟨(tb_6 4 rfl rfl), (tb_6 5 rfl rfl), (tb_6 6 rfl rfl), ⟨(tb_1 1 rfl rfl), (tb_6 7 rfl rfl), rfl, ⟨by decide, by decide⟩, by decide +kernel, by decide⟩⟩
theorem mvL_97 : MV RL 97 2 mX11_span := ⟨(tb_6 17 rfl rfl), (tb_6 18 rfl rfl), (tb_6 19 rfl rfl), ⟨(tb_1 1 rfl rfl), (tb_6 20 rfl rfl), rfl, ⟨by decide, by decide⟩, by decide +kernel, by decide⟩⟩
theorem mvL_101 : MV RL 101 2 mX11_better := ⟨(tb_6 29 rfl rfl), (tb_6 30 rfl rfl), (tb_6 31 rfl rfl), ⟨(tb_1 1 rfl rfl), (tb_6 32 rfl rfl), rfl, ⟨by decide, by decide⟩, by decide +kernel, by decide⟩⟩
theorem mvL_104 : MV RL 104 2 mX11_lines := ⟨(tb_6 58 rfl rfl), (tb_6 59 rfl rfl), (tb_6 60 rfl rfl), ⟨(tb_1 1 rfl rfl), (tb_6 61 rfl rfl), rfl, ⟨by decide, by decide⟩, by decide +kernel, by decide⟩⟩
theorem mvL_107 : MV RL 107 2 mX11_mile := ⟨(tb_6 69 rfl rfl), (tb_6 70 rfl rfl), (tb_6 71 rfl rfl), ⟨(tb_1 1 rfl rfl), (tb_6 72 rfl rfl), rfl, ⟨by decide, by decide⟩, by decide +kernel, by decide⟩⟩
theorem mvL_110 : MV RL 110 2 mX11_odds := ⟨(tb_6 76 rfl rfl), (tb_6 77 rfl rfl), (tb_6 78 rfl rfl), ⟨(tb_1 1 rfl rfl), (tb_6 79 rfl rfl), rfl, ⟨by decide, by decide⟩, by decide +kernel, by decide⟩⟩
theorem mvL_113 : MV RL 113 4 mX11_price := ⟨(tb_6 87 rfl rfl), (tb_6 88 rfl rfl), (tb_6 89 rfl rfl), ⟨(tb_1 1 rfl rfl), (tb_6 90 rfl rfl), rfl, ⟨by decide, by decide⟩, by decide +kernel, by decide⟩⟩
theorem mvL_116 : MV RL 116 2 mX11_foul := ⟨(tb_6 99 rfl rfl), (tb_6 100 rfl rfl), (tb_6 101 rfl rfl), ⟨(tb_1 1 rfl rfl), (tb_6 102 rfl rfl), rfl, ⟨by decide, by decide⟩, by decide +kernel, by decide⟩⟩
theorem mvL_119 : MV RL 119 1 mX11_grown := ⟨(tb_6 110 rfl rfl), (tb_6 111 rfl rfl), (tb_6 112 rfl rfl), ⟨(tb_1 1 rfl rfl), (tb_6 113 rfl rfl), rfl, ⟨by decide, by decide⟩, by decide +kernel, by decide⟩⟩
theorem clL_8 : Cond.classLink RL 8 RX11 ∈ TB := (tb_1 29 rfl rfl)
theorem miL_122 : MI RL 122 0 mX11_init := ⟨Or.inl (tb_1 31 rfl rfl), (tb_1 32 rfl rfl), rfl, rfl, ⟨(tb_1 1 rfl rfl), (tb_1 33 rfl rfl), rfl, ⟨by decide, by decide⟩, by decide +kernel, by decide⟩⟩
theorem clL_123 : Cond.classLink RL 123 RX12 ∈ TB := (tb_6 119 rfl rfl)
theorem miL_125 : MI RL 125 0 mX12_init := ⟨Or.inl (tb_6 121 rfl rfl), (tb_6 122 rfl rfl), rfl, rfl, ⟨(tb_1 12 rfl rfl), (tb_6 123 rfl rfl), rfl, ⟨by decide, by decide⟩, by decide +kernel, by decide⟩⟩
-- with table L 126 ('TankHullsLaw', 'hull', '(LTankHulls;II[J)I')
theorem mvL_131 : MV RL 131 2 mX12_hull := ⟨(tb_7 27 rfl rfl), (tb_7 28 rfl rfl), (tb_7 29 rfl rfl), ⟨(tb_1 12 rfl rfl), (tb_7 30 rfl rfl), rfl, ⟨by decide, by decide⟩, by decide +kernel, by decide⟩⟩
theorem mvL_132 : MV RL 132 0 mX12_thrown := ⟨(tb_7 23 rfl rfl), (tb_7 24 rfl rfl), (tb_7 25 rfl rfl), ⟨(tb_1 12 rfl rfl), (tb_7 26 rfl rfl), rfl, ⟨by decide, by decide⟩, by decide +kernel, by decide⟩⟩
-- with table L 136 ('TankHullsLaw', 'station', '(LTankHulls;IIII[J)I')
theorem mvL_139 : MV RL 139 4 mX12_station := ⟨(tb_7 38 rfl rfl), (tb_7 39 rfl rfl), (tb_7 40 rfl rfl), ⟨(tb_1 12 rfl rfl), (tb_7 41 rfl rfl), rfl, ⟨by decide, by decide⟩, by decide +kernel, by decide⟩⟩
-- with table L 140 ('TankHullsLaw', 'model', '(LTankHulls;III[J)I')
theorem mvL_143 : MV RL 143 3 mX12_model := ⟨(tb_7 46 rfl rfl), (tb_7 47 rfl rfl), (tb_7 48 rfl rfl), ⟨(tb_1 12 rfl rfl), (tb_7 49 rfl rfl), rfl, ⟨by decide, by decide⟩, by decide +kernel, by decide⟩⟩
-- with table L 144 ('TankHullsLaw', 'tank', '(LTankHulls;II[J)I')
theorem mvL_146 : MV RL 146 2 mX12_tank := ⟨(tb_7 56 rfl rfl), (tb_7 57 rfl rfl), (tb_7 58 rfl rfl), ⟨(tb_1 12 rfl rfl), (tb_7 59 rfl rfl), rfl, ⟨by decide, by decide⟩, by decide +kernel, by decide⟩⟩
theorem mvL_147 : MV RL 147 5 mX11_feed := ⟨(tb_2 119 rfl rfl), (tb_2 120 rfl rfl), (tb_2 121 rfl rfl), ⟨(tb_1 1 rfl rfl), (tb_2 122 rfl rfl), rfl, ⟨by decide, by decide⟩, by decide +kernel, by decide⟩⟩
theorem mvL_151 : MV RL 151 5 mX12_feed := ⟨(tb_7 60 rfl rfl), (tb_7 61 rfl rfl), (tb_7 62 rfl rfl), ⟨(tb_1 12 rfl rfl), (tb_7 63 rfl rfl), rfl, ⟨by decide, by decide⟩, by decide +kernel, by decide⟩⟩
-- with table L 152 ('TankHullsLaw', 'law', '(LTankHulls;IZ[J)I')
theorem mvL_155 : MV RL 155 2 mX12_law := ⟨(tb_7 64 rfl rfl), (tb_7 65 rfl rfl), (tb_7 66 rfl rfl), ⟨(tb_1 12 rfl rfl), (tb_7 67 rfl rfl), rfl, ⟨by decide, by decide⟩, by decide +kernel, by decide⟩⟩
theorem mvL_156 : MV RL 156 0 mX11_fault := ⟨(tb_2 135 rfl rfl), (tb_2 136 rfl rfl), (tb_2 137 rfl rfl), ⟨(tb_1 1 rfl rfl), (tb_2 138 rfl rfl), rfl, ⟨by decide, by decide⟩, by decide +kernel, by decide⟩⟩
theorem mvL_159 : MV RL 159 0 mX12_fault := ⟨(tb_7 159 rfl rfl), (tb_7 160 rfl rfl), (tb_7 161 rfl rfl), ⟨(tb_1 12 rfl rfl), (tb_7 162 rfl rfl), rfl, ⟨by decide, by decide⟩, by decide +kernel, by decide⟩⟩
-- with table L 160 ('TankHullsLaw', 'set', '(LTankHulls;IIII[J)I')
theorem mvL_162 : MV RL 162 4 mX12_set := ⟨(tb_7 163 rfl rfl), (tb_7 164 rfl rfl), (tb_7 165 rfl rfl), ⟨(tb_1 12 rfl rfl), (tb_7 166 rfl rfl), rfl, ⟨by decide, by decide⟩, by decide +kernel, by decide⟩⟩
-- with table L 163 ('TankHullsLaw', 'trim', '(LTankHulls;ZI[J)I')
theorem mvL_166 : MV RL 166 2 mX12_trim := ⟨(tb_7 167 rfl rfl), (tb_7 168 rfl rfl), (tb_7 169 rfl rfl), ⟨(tb_1 12 rfl rfl), (tb_7 170 rfl rfl), rfl, ⟨by decide, by decide⟩, by decide +kernel, by decide⟩⟩
-- with table L 167 ('TankHullsLaw', 'name', '(LTankHulls;I[J)I')
theorem mvL_170 : MV RL 170 1 mX12_name := ⟨(tb_7 171 rfl rfl), (tb_7 172 rfl rfl), (tb_7 173 rfl rfl), ⟨(tb_1 12 rfl rfl), (tb_7 174 rfl rfl), rfl, ⟨by decide, by decide⟩, by decide +kernel, by decide⟩⟩
-- with table L 171 ('TankHullsLaw', 'pull', '(LTankHulls;II[J)I')
theorem mvL_173 : MV RL 173 2 mX12_pull := ⟨(tb_7 183 rfl rfl), (tb_7 184 rfl rfl), (tb_7 185 rfl rfl), ⟨(tb_1 12 rfl rfl), (tb_7 186 rfl rfl), rfl, ⟨by decide, by decide⟩, by decide +kernel, by decide⟩⟩
-- with table L 174 ('TankHullsLaw', 'need', '(LTankHulls;III[J)I')
theorem mvL_176 : MV RL 176 3 mX12_need := ⟨(tb_7 211 rfl rfl), (tb_7 212 rfl rfl), (tb_7 213 rfl rfl), ⟨(tb_1 12 rfl rfl), (tb_7 214 rfl rfl), rfl, ⟨by decide, by decide⟩, by decide +kernel, by decide⟩⟩
-- with table L 177 ('TankHullsLaw', 'error', '(LTankHulls;IIII[J)I')
theorem mvL_179 : MV RL 179 4 mX12_error := ⟨(tb_7 224 rfl rfl), (tb_7 225 rfl rfl), (tb_7 226 rfl rfl), ⟨(tb_1 12 rfl rfl), (tb_7 227 rfl rfl), rfl, ⟨by decide, by decide⟩, by decide +kernel, by decide⟩⟩
-- with table L 180 ('TankHullsLaw', 'size', '(LTankHulls;IIII[J)I')
theorem mvL_182 : MV RL 182 4 mX12_size := ⟨(tb_8 2 rfl rfl), (tb_8 3 rfl rfl), (tb_8 4 rfl rfl), ⟨(tb_1 12 rfl rfl), (tb_8 5 rfl rfl), rfl, ⟨by decide, by decide⟩, by decide +kernel, by decide⟩⟩
-- with table L 183 ('TankHullsLaw', 'sides', '(LTankHulls;I[J)I')
theorem mvL_185 : MV RL 185 1 mX12_sides := ⟨(tb_8 6 rfl rfl), (tb_8 7 rfl rfl), (tb_8 8 rfl rfl), ⟨(tb_1 12 rfl rfl), (tb_8 9 rfl rfl), rfl, ⟨by decide, by decide⟩, by decide +kernel, by decide⟩⟩
-- with table L 186 ('TankHullsLaw', 'widest', '(LTankHulls;II[J)I')
theorem mvL_188 : MV RL 188 2 mX12_widest := ⟨(tb_8 14 rfl rfl), (tb_8 15 rfl rfl), (tb_8 16 rfl rfl), ⟨(tb_1 12 rfl rfl), (tb_8 17 rfl rfl), rfl, ⟨by decide, by decide⟩, by decide +kernel, by decide⟩⟩
-- with table L 189 ('TankHullsLaw', 'run', '(LTankHulls;I[J)I')
theorem mvL_191 : MV RL 191 1 mX12_run := ⟨(tb_8 18 rfl rfl), (tb_8 19 rfl rfl), (tb_8 20 rfl rfl), ⟨(tb_1 12 rfl rfl), (tb_8 21 rfl rfl), rfl, ⟨by decide, by decide⟩, by decide +kernel, by decide⟩⟩
-- with table L 192 ('TankHullsLaw', 'tow', '(LTankHulls;II[J)I')
theorem mvL_194 : MV RL 194 2 mX12_tow := ⟨(tb_8 26 rfl rfl), (tb_8 27 rfl rfl), (tb_8 28 rfl rfl), ⟨(tb_1 12 rfl rfl), (tb_8 29 rfl rfl), rfl, ⟨by decide, by decide⟩, by decide +kernel, by decide⟩⟩
-- with table L 195 ('TankHullsLaw', 'ran', '(LTankHulls;II[J)I')
theorem mvL_197 : MV RL 197 2 mX12_ran := ⟨(tb_8 31 rfl rfl), (tb_8 32 rfl rfl), (tb_8 33 rfl rfl), ⟨(tb_1 12 rfl rfl), (tb_8 34 rfl rfl), rfl, ⟨by decide, by decide⟩, by decide +kernel, by decide⟩⟩
theorem mvL_198 : MV RL 198 1 mX11_seed := ⟨(tb_2 139 rfl rfl), (tb_2 140 rfl rfl), (tb_2 141 rfl rfl), ⟨(tb_1 1 rfl rfl), (tb_2 142 rfl rfl), rfl, ⟨by decide, by decide⟩, by decide +kernel, by decide⟩⟩
theorem mvL_201 : MV RL 201 1 mX12_seed := ⟨(tb_8 35 rfl rfl), (tb_8 36 rfl rfl), (tb_8 37 rfl rfl), ⟨(tb_1 12 rfl rfl), (tb_8 38 rfl rfl), rfl, ⟨by decide, by decide⟩, by decide +kernel, by decide⟩⟩
-- with table L 202 ('TankHullsLaw', 'wire', '(LTankHulls;[J)I')
theorem mvL_205 : MV RL 205 0 mX12_wire := ⟨(tb_8 39 rfl rfl), (tb_8 40 rfl rfl), (tb_8 41 rfl rfl), ⟨(tb_1 12 rfl rfl), (tb_8 42 rfl rfl), rfl, ⟨by decide, by decide⟩, by decide +kernel, by decide⟩⟩
-- with table L 206 ('TankHullsLaw', 'fits', '(LTankHulls;I[J)I')
theorem mvL_208 : MV RL 208 1 mX12_fits := ⟨(tb_8 43 rfl rfl), (tb_8 44 rfl rfl), (tb_8 45 rfl rfl), ⟨(tb_1 12 rfl rfl), (tb_8 46 rfl rfl), rfl, ⟨by decide, by decide⟩, by decide +kernel, by decide⟩⟩
-- with table L 209 ('TankHullsLaw', 'telling', '(LTankHulls;I[J)I')
theorem mvL_211 : MV RL 211 1 mX12_telling := ⟨(tb_8 55 rfl rfl), (tb_8 56 rfl rfl), (tb_8 57 rfl rfl), ⟨(tb_1 12 rfl rfl), (tb_8 58 rfl rfl), rfl, ⟨by decide, by decide⟩, by decide +kernel, by decide⟩⟩
-- with table L 212 ('TankHullsLaw', 'earlier', '(LTankHulls;II[J)I')
theorem mvL_214 : MV RL 214 2 mX12_earlier := ⟨(tb_8 59 rfl rfl), (tb_8 60 rfl rfl), (tb_8 61 rfl rfl), ⟨(tb_1 12 rfl rfl), (tb_8 62 rfl rfl), rfl, ⟨by decide, by decide⟩, by decide +kernel, by decide⟩⟩
-- with table L 215 ('TankHullsLaw', 'ratio', '(LTankHulls;I[J)I')
theorem mvL_217 : MV RL 217 1 mX12_ratio := ⟨(tb_8 63 rfl rfl), (tb_8 64 rfl rfl), (tb_8 65 rfl rfl), ⟨(tb_1 12 rfl rfl), (tb_8 66 rfl rfl), rfl, ⟨by decide, by decide⟩, by decide +kernel, by decide⟩⟩
-- with table L 218 ('TankHullsLaw', 'strange', '(LTankHulls;I[J)I')
theorem mvL_220 : MV RL 220 1 mX12_strange := ⟨(tb_8 77 rfl rfl), (tb_8 78 rfl rfl), (tb_8 79 rfl rfl), ⟨(tb_1 12 rfl rfl), (tb_8 80 rfl rfl), rfl, ⟨by decide, by decide⟩, by decide +kernel, by decide⟩⟩
-- with table L 221 ('TankHullsLaw', 'span', '(LTankHulls;IZ[J)I')
theorem mvL_223 : MV RL 223 2 mX12_span := ⟨(tb_8 85 rfl rfl), (tb_8 86 rfl rfl), (tb_8 87 rfl rfl), ⟨(tb_1 12 rfl rfl), (tb_8 88 rfl rfl), rfl, ⟨by decide, by decide⟩, by decide +kernel, by decide⟩⟩
-- with table L 224 ('TankHullsLaw', 'better', '(LTankHulls;II[J)I')
theorem mvL_226 : MV RL 226 2 mX12_better := ⟨(tb_8 89 rfl rfl), (tb_8 90 rfl rfl), (tb_8 91 rfl rfl), ⟨(tb_1 12 rfl rfl), (tb_8 92 rfl rfl), rfl, ⟨by decide, by decide⟩, by decide +kernel, by decide⟩⟩
-- with table L 227 ('TankHullsLaw', 'lines', '(LTankHulls;II[J)I')
theorem mvL_229 : MV RL 229 2 mX12_lines := ⟨(tb_8 102 rfl rfl), (tb_8 103 rfl rfl), (tb_8 104 rfl rfl), ⟨(tb_1 12 rfl rfl), (tb_8 105 rfl rfl), rfl, ⟨by decide, by decide⟩, by decide +kernel, by decide⟩⟩
-- with table L 230 ('TankHullsLaw', 'mile', '(LTankHulls;II[J)I')
theorem mvL_232 : MV RL 232 2 mX12_mile := ⟨(tb_8 106 rfl rfl), (tb_8 107 rfl rfl), (tb_8 108 rfl rfl), ⟨(tb_1 12 rfl rfl), (tb_8 109 rfl rfl), rfl, ⟨by decide, by decide⟩, by decide +kernel, by decide⟩⟩
theorem mvL_233 : MV RL 233 1 mX11_mean := ⟨(tb_2 143 rfl rfl), (tb_2 144 rfl rfl), (tb_2 145 rfl rfl), ⟨(tb_1 1 rfl rfl), (tb_2 146 rfl rfl), rfl, ⟨by decide, by decide⟩, by decide +kernel, by decide⟩⟩
theorem mvL_237 : MV RL 237 1 mX12_mean := ⟨(tb_8 110 rfl rfl), (tb_8 111 rfl rfl), (tb_8 112 rfl rfl), ⟨(tb_1 12 rfl rfl), (tb_8 113 rfl rfl), rfl, ⟨by decide, by decide⟩, by decide +kernel, by decide⟩⟩
theorem mvL_238 : MV RL 238 0 mX11_anew := ⟨(tb_2 157 rfl rfl), (tb_2 158 rfl rfl), (tb_2 159 rfl rfl), ⟨(tb_1 1 rfl rfl), (tb_2 160 rfl rfl), rfl, ⟨by decide, by decide⟩, by decide +kernel, by decide⟩⟩
theorem mvL_241 : MV RL 241 0 mX12_anew := ⟨(tb_8 118 rfl rfl), (tb_8 119 rfl rfl), (tb_8 120 rfl rfl), ⟨(tb_1 12 rfl rfl), (tb_8 121 rfl rfl), rfl, ⟨by decide, by decide⟩, by decide +kernel, by decide⟩⟩
-- with table L 242 ('TankHullsLaw', 'odds', '(LTankHulls;II[J)I')
theorem mvL_244 : MV RL 244 2 mX12_odds := ⟨(tb_8 122 rfl rfl), (tb_8 123 rfl rfl), (tb_8 124 rfl rfl), ⟨(tb_1 12 rfl rfl), (tb_8 125 rfl rfl), rfl, ⟨by decide, by decide⟩, by decide +kernel, by decide⟩⟩
-- with table L 245 ('TankHullsLaw', 'price', '(LTankHulls;IIII[J)I')
theorem mvL_247 : MV RL 247 4 mX12_price := ⟨(tb_8 130 rfl rfl), (tb_8 131 rfl rfl), (tb_8 132 rfl rfl), ⟨(tb_1 12 rfl rfl), (tb_8 133 rfl rfl), rfl, ⟨by decide, by decide⟩, by decide +kernel, by decide⟩⟩
-- with table L 248 ('TankHullsLaw', 'foul', '(LTankHulls;II[J)I')
theorem mvL_250 : MV RL 250 2 mX12_foul := ⟨(tb_8 134 rfl rfl), (tb_8 135 rfl rfl), (tb_8 136 rfl rfl), ⟨(tb_1 12 rfl rfl), (tb_8 137 rfl rfl), rfl, ⟨by decide, by decide⟩, by decide +kernel, by decide⟩⟩
-- with table L 251 ('TankHullsLaw', 'grown', '(LTankHulls;I[J)I')
theorem mvL_253 : MV RL 253 1 mX12_grown := ⟨(tb_8 138 rfl rfl), (tb_8 139 rfl rfl), (tb_8 140 rfl rfl), ⟨(tb_1 12 rfl rfl), (tb_8 141 rfl rfl), rfl, ⟨by decide, by decide⟩, by decide +kernel, by decide⟩⟩
theorem mvL_254 : MV RL 254 0 mX11_image := ⟨(tb_2 165 rfl rfl), (tb_2 166 rfl rfl), (tb_2 167 rfl rfl), ⟨(tb_1 1 rfl rfl), (tb_2 168 rfl rfl), rfl, ⟨by decide, by decide⟩, by decide +kernel, by decide⟩⟩
theorem mvL_257 : MV RL 257 0 mX12_image := ⟨(tb_8 142 rfl rfl), (tb_8 143 rfl rfl), (tb_8 144 rfl rfl), ⟨(tb_1 12 rfl rfl), (tb_8 145 rfl rfl), rfl, ⟨by decide, by decide⟩, by decide +kernel, by decide⟩⟩
theorem mvL_258 : MV RL 258 0 mX11_restore := ⟨(tb_2 204 rfl rfl), (tb_2 205 rfl rfl), (tb_2 206 rfl rfl), ⟨(tb_1 1 rfl rfl), (tb_2 207 rfl rfl), rfl, ⟨by decide, by decide⟩, by decide +kernel, by decide⟩⟩
theorem mvL_261 : MV RL 261 0 mX12_restore := ⟨(tb_8 158 rfl rfl), (tb_8 159 rfl rfl), (tb_8 160 rfl rfl), ⟨(tb_1 12 rfl rfl), (tb_8 161 rfl rfl), rfl, ⟨by decide, by decide⟩, by decide +kernel, by decide⟩⟩
theorem mvL_262 : MV RL 262 1 mX11_count := ⟨(tb_2 208 rfl rfl), (tb_2 209 rfl rfl), (tb_2 210 rfl rfl), ⟨(tb_1 1 rfl rfl), (tb_2 211 rfl rfl), rfl, ⟨by decide, by decide⟩, by decide +kernel, by decide⟩⟩
theorem mvL_265 : MV RL 265 1 mX12_count := ⟨(tb_8 162 rfl rfl), (tb_8 163 rfl rfl), (tb_8 164 rfl rfl), ⟨(tb_1 12 rfl rfl), (tb_8 165 rfl rfl), rfl, ⟨by decide, by decide⟩, by decide +kernel, by decide⟩⟩
theorem inX0 : Cond.instantiable RX0 9 ∈ TB ∧ Cond.initialized RX0 ∈ TB := ⟨(tb_1 237 rfl rfl), (tb_1 9 rfl rfl)⟩
theorem inX1 : Cond.instantiable RX1 4 ∈ TB ∧ Cond.initialized RX1 ∈ TB := ⟨(tb_1 45 rfl rfl), (tb_1 3 rfl rfl)⟩
theorem inX2 : Cond.instantiable RX2 6 ∈ TB ∧ Cond.initialized RX2 ∈ TB := ⟨(tb_2 31 rfl rfl), (tb_1 11 rfl rfl)⟩
theorem inX3 : Cond.instantiable RX3 1 ∈ TB ∧ Cond.initialized RX3 ∈ TB := ⟨(tb_4 74 rfl rfl), (tb_1 24 rfl rfl)⟩
theorem inX4 : Cond.instantiable RX4 11 ∈ TB ∧ Cond.initialized RX4 ∈ TB := ⟨(tb_1 182 rfl rfl), (tb_1 7 rfl rfl)⟩
theorem inX5 : Cond.instantiable RX5 2 ∈ TB ∧ Cond.initialized RX5 ∈ TB := ⟨(tb_1 70 rfl rfl), (tb_1 4 rfl rfl)⟩
theorem inX6 : Cond.instantiable RX6 6 ∈ TB ∧ Cond.initialized RX6 ∈ TB := ⟨(tb_1 83 rfl rfl), (tb_1 5 rfl rfl)⟩
theorem inX7 : Cond.instantiable RX7 2 ∈ TB ∧ Cond.initialized RX7 ∈ TB := ⟨(tb_1 222 rfl rfl), (tb_1 8 rfl rfl)⟩
theorem inX8 : Cond.instantiable RX8 1 ∈ TB ∧ Cond.initialized RX8 ∈ TB := ⟨(tb_1 122 rfl rfl), (tb_1 6 rfl rfl)⟩
theorem inX9 : Cond.instantiable RX9 6 ∈ TB ∧ Cond.initialized RX9 ∈ TB := ⟨(tb_2 3 rfl rfl), (tb_1 10 rfl rfl)⟩
theorem inX10 : Cond.instantiable RX10 11 ∈ TB ∧ Cond.initialized RX10 ∈ TB := ⟨(tb_1 38 rfl rfl), (tb_1 2 rfl rfl)⟩
theorem inX11 : Cond.instantiable RX11 9 ∈ TB ∧ Cond.initialized RX11 ∈ TB := ⟨(tb_1 30 rfl rfl), (tb_1 1 rfl rfl)⟩
theorem inX12 : Cond.instantiable RX12 45 ∈ TB ∧ Cond.initialized RX12 ∈ TB := ⟨(tb_6 120 rfl rfl), (tb_1 12 rfl rfl)⟩
theorem oi_i : Cond.instanceMethod objectInit ∈ TB := (tb_1 35 rfl rfl)
theorem oi_c : Cond.code objectInit ⟨#[0xb1]⟩ 1 none ∈ TB := (tb_1 36 rfl rfl)
theorem ac_I : Cond.arrayClass .int ∈ TB := (tb_1 68 rfl rfl)
theorem ac_J : Cond.arrayClass .long ∈ TB := (tb_2 29 rfl rfl)
