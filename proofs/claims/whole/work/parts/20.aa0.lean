theorem sb_n {big : List Cond} : ∀ w ∈ ([] : List Cond), w ∈ big := fun w h => nomatch h
theorem sb_c {big t : List Cond} {x : Cond} (hx : x ∈ big) (ht : ∀ w ∈ t, w ∈ big) : ∀ w ∈ x :: t, w ∈ big := fun w h => (List.mem_cons.mp h).elim (fun e => e ▸ hx) (ht w)
theorem sb_a {big a b : List Cond} (ha : ∀ w ∈ a, w ∈ big) (hb : ∀ w ∈ b, w ∈ big) : ∀ w ∈ a ++ b, w ∈ big := fun w h => (List.mem_append.mp h).elim (ha w) (hb w)
theorem sb_o {ws : List Cond} (h : ws.all goodWord = true) : ∀ w ∈ ws, ((w.onTables && w.keeps) = true ∨ ∃ ty, w = .arrayClass ty) := fun w hw => good_of_word (List.all_eq_true.mp h w hw)
theorem sb_g {big ws : List Cond} (hg : ∀ w ∈ ws, ((w.onTables && w.keeps) = true ∨ ∃ ty, w = .arrayClass ty)) (h : ∀ w ∈ ws, w ∈ big) : GoodIn big ws := fun w hw => ⟨h w hw, hg w hw⟩
set_option maxRecDepth 20000 in
theorem go_J0_charAt_5068e : ∀ w ∈ wsJ0_charAt_5068e, ((w.onTables && w.keeps) = true ∨ ∃ ty, w = .arrayClass ty) := sb_o (by decide +kernel)
set_option maxRecDepth 20000 in
theorem go_J0_checkIndex_df160 : ∀ w ∈ wsJ0_checkIndex_df160, ((w.onTables && w.keeps) = true ∨ ∃ ty, w = .arrayClass ty) := sb_o (by decide +kernel)
set_option maxRecDepth 20000 in
theorem go_J0_coder_7d493 : ∀ w ∈ wsJ0_coder_7d493, ((w.onTables && w.keeps) = true ∨ ∃ ty, w = .arrayClass ty) := sb_o (by decide +kernel)
set_option maxRecDepth 20000 in
theorem go_J0_isLatin1_aae02 : ∀ w ∈ wsJ0_isLatin1_aae02, ((w.onTables && w.keeps) = true ∨ ∃ ty, w = .arrayClass ty) := sb_o (by decide +kernel)
set_option maxRecDepth 20000 in
theorem go_J0_length_8abf5 : ∀ w ∈ wsJ0_length_8abf5, ((w.onTables && w.keeps) = true ∨ ∃ ty, w = .arrayClass ty) := sb_o (by decide +kernel)
set_option maxRecDepth 20000 in
theorem go_J1_charAt_3b067 : ∀ w ∈ wsJ1_charAt_3b067, ((w.onTables && w.keeps) = true ∨ ∃ ty, w = .arrayClass ty) := sb_o (by decide +kernel)
set_option maxRecDepth 20000 in
theorem go_J2_charAt_3b067 : ∀ w ∈ wsJ2_charAt_3b067, ((w.onTables && w.keeps) = true ∨ ∃ ty, w = .arrayClass ty) := sb_o (by decide +kernel)
set_option maxRecDepth 20000 in
theorem go_J2_checkIndex_2214a : ∀ w ∈ wsJ2_checkIndex_2214a, ((w.onTables && w.keeps) = true ∨ ∃ ty, w = .arrayClass ty) := sb_o (by decide +kernel)
set_option maxRecDepth 20000 in
theorem go_J2_getChar_3b067 : ∀ w ∈ wsJ2_getChar_3b067, ((w.onTables && w.keeps) = true ∨ ∃ ty, w = .arrayClass ty) := sb_o (by decide +kernel)
set_option maxRecDepth 20000 in
theorem go_J2_length_9d52b : ∀ w ∈ wsJ2_length_9d52b, ((w.onTables && w.keeps) = true ∨ ∃ ty, w = .arrayClass ty) := sb_o (by decide +kernel)
set_option maxRecDepth 20000 in
theorem go_J3_checkIndex_8e157 : ∀ w ∈ wsJ3_checkIndex_8e157, ((w.onTables && w.keeps) = true ∨ ∃ ty, w = .arrayClass ty) := sb_o (by decide +kernel)
set_option maxRecDepth 20000 in
theorem go_J6_bitCount_0f7a4 : ∀ w ∈ wsJ6_bitCount_0f7a4, ((w.onTables && w.keeps) = true ∨ ∃ ty, w = .arrayClass ty) := sb_o (by decide +kernel)
set_option maxRecDepth 20000 in
theorem go_J9_floorMod_7cf53 : ∀ w ∈ wsJ9_floorMod_7cf53, ((w.onTables && w.keeps) = true ∨ ∃ ty, w = .arrayClass ty) := sb_o (by decide +kernel)
set_option maxRecDepth 20000 in
theorem go_L_addRiver : ∀ w ∈ wsL_addRiver, ((w.onTables && w.keeps) = true ∨ ∃ ty, w = .arrayClass ty) := sb_o (by decide +kernel)
set_option maxRecDepth 20000 in
theorem go_L_arranged : ∀ w ∈ wsL_arranged, ((w.onTables && w.keeps) = true ∨ ∃ ty, w = .arrayClass ty) := sb_o (by decide +kernel)
set_option maxRecDepth 20000 in
theorem go_L_cell : ∀ w ∈ wsL_cell, ((w.onTables && w.keeps) = true ∨ ∃ ty, w = .arrayClass ty) := sb_o (by decide +kernel)
set_option maxRecDepth 20000 in
theorem go_L_crossed : ∀ w ∈ wsL_crossed, ((w.onTables && w.keeps) = true ∨ ∃ ty, w = .arrayClass ty) := sb_o (by decide +kernel)
set_option maxRecDepth 20000 in
theorem go_L_cut : ∀ w ∈ wsL_cut, ((w.onTables && w.keeps) = true ∨ ∃ ty, w = .arrayClass ty) := sb_o (by decide +kernel)
set_option maxRecDepth 20000 in
theorem go_L_dropRiver : ∀ w ∈ wsL_dropRiver, ((w.onTables && w.keeps) = true ∨ ∃ ty, w = .arrayClass ty) := sb_o (by decide +kernel)
set_option maxRecDepth 20000 in
theorem go_L_drowns : ∀ w ∈ wsL_drowns, ((w.onTables && w.keeps) = true ∨ ∃ ty, w = .arrayClass ty) := sb_o (by decide +kernel)
set_option maxRecDepth 20000 in
theorem go_L_erode : ∀ w ∈ wsL_erode, ((w.onTables && w.keeps) = true ∨ ∃ ty, w = .arrayClass ty) := sb_o (by decide +kernel)
set_option maxRecDepth 20000 in
theorem go_L_harbour : ∀ w ∈ wsL_harbour, ((w.onTables && w.keeps) = true ∨ ∃ ty, w = .arrayClass ty) := sb_o (by decide +kernel)
set_option maxRecDepth 20000 in
theorem go_L_leastIf : ∀ w ∈ wsL_leastIf, ((w.onTables && w.keeps) = true ∨ ∃ ty, w = .arrayClass ty) := sb_o (by decide +kernel)
set_option maxRecDepth 20000 in
theorem go_L_letter : ∀ w ∈ wsL_letter, ((w.onTables && w.keeps) = true ∨ ∃ ty, w = .arrayClass ty) := sb_o (by decide +kernel)
set_option maxRecDepth 20000 in
theorem go_L_lift : ∀ w ∈ wsL_lift, ((w.onTables && w.keeps) = true ∨ ∃ ty, w = .arrayClass ty) := sb_o (by decide +kernel)
set_option maxRecDepth 20000 in
theorem go_L_place : ∀ w ∈ wsL_place, ((w.onTables && w.keeps) = true ∨ ∃ ty, w = .arrayClass ty) := sb_o (by decide +kernel)
set_option maxRecDepth 20000 in
theorem go_L_placedIf : ∀ w ∈ wsL_placedIf, ((w.onTables && w.keeps) = true ∨ ∃ ty, w = .arrayClass ty) := sb_o (by decide +kernel)
set_option maxRecDepth 20000 in
theorem go_L_raise : ∀ w ∈ wsL_raise, ((w.onTables && w.keeps) = true ∨ ∃ ty, w = .arrayClass ty) := sb_o (by decide +kernel)
set_option maxRecDepth 20000 in
theorem go_L_restoreSnapshot : ∀ w ∈ wsL_restoreSnapshot, ((w.onTables && w.keeps) = true ∨ ∃ ty, w = .arrayClass ty) := sb_o (by decide +kernel)
set_option maxRecDepth 20000 in
theorem go_L_river : ∀ w ∈ wsL_river, ((w.onTables && w.keeps) = true ∨ ∃ ty, w = .arrayClass ty) := sb_o (by decide +kernel)
set_option maxRecDepth 20000 in
theorem go_L_room : ∀ w ∈ wsL_room, ((w.onTables && w.keeps) = true ∨ ∃ ty, w = .arrayClass ty) := sb_o (by decide +kernel)
set_option maxRecDepth 20000 in
theorem go_L_sail : ∀ w ∈ wsL_sail, ((w.onTables && w.keeps) = true ∨ ∃ ty, w = .arrayClass ty) := sb_o (by decide +kernel)
set_option maxRecDepth 20000 in
theorem go_L_saveSnapshot : ∀ w ∈ wsL_saveSnapshot, ((w.onTables && w.keeps) = true ∨ ∃ ty, w = .arrayClass ty) := sb_o (by decide +kernel)
set_option maxRecDepth 20000 in
theorem go_L_setRed : ∀ w ∈ wsL_setRed, ((w.onTables && w.keeps) = true ∨ ∃ ty, w = .arrayClass ty) := sb_o (by decide +kernel)
set_option maxRecDepth 20000 in
theorem go_L_size : ∀ w ∈ wsL_size, ((w.onTables && w.keeps) = true ∨ ∃ ty, w = .arrayClass ty) := sb_o (by decide +kernel)
set_option maxRecDepth 20000 in
theorem go_L_turnPage : ∀ w ∈ wsL_turnPage, ((w.onTables && w.keeps) = true ∨ ∃ ty, w = .arrayClass ty) := sb_o (by decide +kernel)
set_option maxRecDepth 20000 in
theorem go_L_turningFrom : ∀ w ∈ wsL_turningFrom, ((w.onTables && w.keeps) = true ∨ ∃ ty, w = .arrayClass ty) := sb_o (by decide +kernel)
set_option maxRecDepth 20000 in
theorem go_L_upright : ∀ w ∈ wsL_upright, ((w.onTables && w.keeps) = true ∨ ∃ ty, w = .arrayClass ty) := sb_o (by decide +kernel)
set_option maxRecDepth 20000 in
theorem go_L_washes : ∀ w ∈ wsL_washes, ((w.onTables && w.keeps) = true ∨ ∃ ty, w = .arrayClass ty) := sb_o (by decide +kernel)
set_option maxRecDepth 20000 in
theorem go_L_wayCell : ∀ w ∈ wsL_wayCell, ((w.onTables && w.keeps) = true ∨ ∃ ty, w = .arrayClass ty) := sb_o (by decide +kernel)
set_option maxRecDepth 20000 in
theorem go_L_wayLength : ∀ w ∈ wsL_wayLength, ((w.onTables && w.keeps) = true ∨ ∃ ty, w = .arrayClass ty) := sb_o (by decide +kernel)
set_option maxRecDepth 20000 in
theorem go_L_ways : ∀ w ∈ wsL_ways, ((w.onTables && w.keeps) = true ∨ ∃ ty, w = .arrayClass ty) := sb_o (by decide +kernel)
set_option maxRecDepth 20000 in
theorem go_L_why : ∀ w ∈ wsL_why, ((w.onTables && w.keeps) = true ∨ ∃ ty, w = .arrayClass ty) := sb_o (by decide +kernel)
set_option maxRecDepth 20000 in
theorem go_L_writeRow : ∀ w ∈ wsL_writeRow, ((w.onTables && w.keeps) = true ∨ ∃ ty, w = .arrayClass ty) := sb_o (by decide +kernel)
set_option maxRecDepth 20000 in
theorem go_X0_bestDirection : ∀ w ∈ wsX0_bestDirection, ((w.onTables && w.keeps) = true ∨ ∃ ty, w = .arrayClass ty) := sb_o (by decide +kernel)
set_option maxRecDepth 20000 in
theorem go_X0_countLeft : ∀ w ∈ wsX0_countLeft, ((w.onTables && w.keeps) = true ∨ ∃ ty, w = .arrayClass ty) := sb_o (by decide +kernel)
set_option maxRecDepth 20000 in
theorem go_X0_findBest : ∀ w ∈ wsX0_findBest, ((w.onTables && w.keeps) = true ∨ ∃ ty, w = .arrayClass ty) := sb_o (by decide +kernel)
set_option maxRecDepth 20000 in
theorem go_X0_foesOf : ∀ w ∈ wsX0_foesOf, ((w.onTables && w.keeps) = true ∨ ∃ ty, w = .arrayClass ty) := sb_o (by decide +kernel)
set_option maxRecDepth 20000 in
theorem go_X0_groundWays : ∀ w ∈ wsX0_groundWays, ((w.onTables && w.keeps) = true ∨ ∃ ty, w = .arrayClass ty) := sb_o (by decide +kernel)
set_option maxRecDepth 20000 in
theorem go_X0_init : ∀ w ∈ wsX0_init, ((w.onTables && w.keeps) = true ∨ ∃ ty, w = .arrayClass ty) := sb_o (by decide +kernel)
set_option maxRecDepth 20000 in
theorem go_X0_isAllowed : ∀ w ∈ wsX0_isAllowed, ((w.onTables && w.keeps) = true ∨ ∃ ty, w = .arrayClass ty) := sb_o (by decide +kernel)
set_option maxRecDepth 20000 in
theorem go_X0_seek : ∀ w ∈ wsX0_seek, ((w.onTables && w.keeps) = true ∨ ∃ ty, w = .arrayClass ty) := sb_o (by decide +kernel)
set_option maxRecDepth 20000 in
theorem go_X0_standAgainst : ∀ w ∈ wsX0_standAgainst, ((w.onTables && w.keeps) = true ∨ ∃ ty, w = .arrayClass ty) := sb_o (by decide +kernel)
set_option maxRecDepth 20000 in
theorem go_X0_weigh : ∀ w ∈ wsX0_weigh, ((w.onTables && w.keeps) = true ∨ ∃ ty, w = .arrayClass ty) := sb_o (by decide +kernel)
set_option maxRecDepth 20000 in
theorem go_X1_ahead : ∀ w ∈ wsX1_ahead, ((w.onTables && w.keeps) = true ∨ ∃ ty, w = .arrayClass ty) := sb_o (by decide +kernel)
set_option maxRecDepth 20000 in
theorem go_X1_beginSea : ∀ w ∈ wsX1_beginSea, ((w.onTables && w.keeps) = true ∨ ∃ ty, w = .arrayClass ty) := sb_o (by decide +kernel)
set_option maxRecDepth 20000 in
theorem go_X1_cells : ∀ w ∈ wsX1_cells, ((w.onTables && w.keeps) = true ∨ ∃ ty, w = .arrayClass ty) := sb_o (by decide +kernel)
set_option maxRecDepth 20000 in
theorem go_X1_copyFrom : ∀ w ∈ wsX1_copyFrom, ((w.onTables && w.keeps) = true ∨ ∃ ty, w = .arrayClass ty) := sb_o (by decide +kernel)
set_option maxRecDepth 20000 in
theorem go_X1_depthOf : ∀ w ∈ wsX1_depthOf, ((w.onTables && w.keeps) = true ∨ ∃ ty, w = .arrayClass ty) := sb_o (by decide +kernel)
set_option maxRecDepth 20000 in
theorem go_X1_dryRiver : ∀ w ∈ wsX1_dryRiver, ((w.onTables && w.keeps) = true ∨ ∃ ty, w = .arrayClass ty) := sb_o (by decide +kernel)
set_option maxRecDepth 20000 in
theorem go_X1_endsRiver : ∀ w ∈ wsX1_endsRiver, ((w.onTables && w.keeps) = true ∨ ∃ ty, w = .arrayClass ty) := sb_o (by decide +kernel)
set_option maxRecDepth 20000 in
theorem go_X1_hasSeaBeside : ∀ w ∈ wsX1_hasSeaBeside, ((w.onTables && w.keeps) = true ∨ ∃ ty, w = .arrayClass ty) := sb_o (by decide +kernel)
set_option maxRecDepth 20000 in
theorem go_X1_init : ∀ w ∈ wsX1_init, ((w.onTables && w.keeps) = true ∨ ∃ ty, w = .arrayClass ty) := sb_o (by decide +kernel)
set_option maxRecDepth 20000 in
theorem go_X1_isLand : ∀ w ∈ wsX1_isLand, ((w.onTables && w.keeps) = true ∨ ∃ ty, w = .arrayClass ty) := sb_o (by decide +kernel)
set_option maxRecDepth 20000 in
theorem go_X1_isRiver : ∀ w ∈ wsX1_isRiver, ((w.onTables && w.keeps) = true ∨ ∃ ty, w = .arrayClass ty) := sb_o (by decide +kernel)
set_option maxRecDepth 20000 in
theorem go_X1_landCells : ∀ w ∈ wsX1_landCells, ((w.onTables && w.keeps) = true ∨ ∃ ty, w = .arrayClass ty) := sb_o (by decide +kernel)
set_option maxRecDepth 20000 in
theorem go_X1_layRiver : ∀ w ∈ wsX1_layRiver, ((w.onTables && w.keeps) = true ∨ ∃ ty, w = .arrayClass ty) := sb_o (by decide +kernel)
set_option maxRecDepth 20000 in
theorem go_X1_riverCell : ∀ w ∈ wsX1_riverCell, ((w.onTables && w.keeps) = true ∨ ∃ ty, w = .arrayClass ty) := sb_o (by decide +kernel)
set_option maxRecDepth 20000 in
theorem go_X1_riverIn : ∀ w ∈ wsX1_riverIn, ((w.onTables && w.keeps) = true ∨ ∃ ty, w = .arrayClass ty) := sb_o (by decide +kernel)
set_option maxRecDepth 20000 in
theorem go_X1_setLand : ∀ w ∈ wsX1_setLand, ((w.onTables && w.keeps) = true ∨ ∃ ty, w = .arrayClass ty) := sb_o (by decide +kernel)
set_option maxRecDepth 20000 in
theorem go_X1_stepsTo : ∀ w ∈ wsX1_stepsTo, ((w.onTables && w.keeps) = true ∨ ∃ ty, w = .arrayClass ty) := sb_o (by decide +kernel)
set_option maxRecDepth 20000 in
theorem go_X2_addHarbour : ∀ w ∈ wsX2_addHarbour, ((w.onTables && w.keeps) = true ∨ ∃ ty, w = .arrayClass ty) := sb_o (by decide +kernel)
set_option maxRecDepth 20000 in
theorem go_X2_beginEmpty : ∀ w ∈ wsX2_beginEmpty, ((w.onTables && w.keeps) = true ∨ ∃ ty, w = .arrayClass ty) := sb_o (by decide +kernel)
set_option maxRecDepth 20000 in
theorem go_X2_copyFrom : ∀ w ∈ wsX2_copyFrom, ((w.onTables && w.keeps) = true ∨ ∃ ty, w = .arrayClass ty) := sb_o (by decide +kernel)
set_option maxRecDepth 20000 in
theorem go_X2_directionOf : ∀ w ∈ wsX2_directionOf, ((w.onTables && w.keeps) = true ∨ ∃ ty, w = .arrayClass ty) := sb_o (by decide +kernel)
set_option maxRecDepth 20000 in
theorem go_X2_homeOf : ∀ w ∈ wsX2_homeOf, ((w.onTables && w.keeps) = true ∨ ∃ ty, w = .arrayClass ty) := sb_o (by decide +kernel)
set_option maxRecDepth 20000 in
theorem go_X2_inCell : ∀ w ∈ wsX2_inCell, ((w.onTables && w.keeps) = true ∨ ∃ ty, w = .arrayClass ty) := sb_o (by decide +kernel)
set_option maxRecDepth 20000 in
theorem go_X2_init : ∀ w ∈ wsX2_init, ((w.onTables && w.keeps) = true ∨ ∃ ty, w = .arrayClass ty) := sb_o (by decide +kernel)
set_option maxRecDepth 20000 in
theorem go_X2_isRed : ∀ w ∈ wsX2_isRed, ((w.onTables && w.keeps) = true ∨ ∃ ty, w = .arrayClass ty) := sb_o (by decide +kernel)
set_option maxRecDepth 20000 in
theorem go_X2_lengthOf : ∀ w ∈ wsX2_lengthOf, ((w.onTables && w.keeps) = true ∨ ∃ ty, w = .arrayClass ty) := sb_o (by decide +kernel)
set_option maxRecDepth 20000 in
theorem go_X2_letterOf : ∀ w ∈ wsX2_letterOf, ((w.onTables && w.keeps) = true ∨ ∃ ty, w = .arrayClass ty) := sb_o (by decide +kernel)
set_option maxRecDepth 20000 in
theorem go_X2_placedNames : ∀ w ∈ wsX2_placedNames, ((w.onTables && w.keeps) = true ∨ ∃ ty, w = .arrayClass ty) := sb_o (by decide +kernel)
set_option maxRecDepth 20000 in
theorem go_X2_redsIf : ∀ w ∈ wsX2_redsIf, ((w.onTables && w.keeps) = true ∨ ∃ ty, w = .arrayClass ty) := sb_o (by decide +kernel)
set_option maxRecDepth 20000 in
theorem go_X2_setDirection : ∀ w ∈ wsX2_setDirection, ((w.onTables && w.keeps) = true ∨ ∃ ty, w = .arrayClass ty) := sb_o (by decide +kernel)
set_option maxRecDepth 20000 in
theorem go_X3_forget : ∀ w ∈ wsX3_forget, ((w.onTables && w.keeps) = true ∨ ∃ ty, w = .arrayClass ty) := sb_o (by decide +kernel)
set_option maxRecDepth 20000 in
theorem go_X3_giveBack : ∀ w ∈ wsX3_giveBack, ((w.onTables && w.keeps) = true ∨ ∃ ty, w = .arrayClass ty) := sb_o (by decide +kernel)
set_option maxRecDepth 20000 in
theorem go_X3_init : ∀ w ∈ wsX3_init, ((w.onTables && w.keeps) = true ∨ ∃ ty, w = .arrayClass ty) := sb_o (by decide +kernel)
set_option maxRecDepth 20000 in
theorem go_X3_keep : ∀ w ∈ wsX3_keep, ((w.onTables && w.keeps) = true ∨ ∃ ty, w = .arrayClass ty) := sb_o (by decide +kernel)
set_option maxRecDepth 20000 in
theorem go_X4_addStop : ∀ w ∈ wsX4_addStop, ((w.onTables && w.keeps) = true ∨ ∃ ty, w = .arrayClass ty) := sb_o (by decide +kernel)
set_option maxRecDepth 20000 in
theorem go_X4_beginEmpty : ∀ w ∈ wsX4_beginEmpty, ((w.onTables && w.keeps) = true ∨ ∃ ty, w = .arrayClass ty) := sb_o (by decide +kernel)
set_option maxRecDepth 20000 in
theorem go_X4_copyFrom : ∀ w ∈ wsX4_copyFrom, ((w.onTables && w.keeps) = true ∨ ∃ ty, w = .arrayClass ty) := sb_o (by decide +kernel)
set_option maxRecDepth 20000 in
theorem go_X4_dropStop : ∀ w ∈ wsX4_dropStop, ((w.onTables && w.keeps) = true ∨ ∃ ty, w = .arrayClass ty) := sb_o (by decide +kernel)
set_option maxRecDepth 20000 in
theorem go_X4_goOn : ∀ w ∈ wsX4_goOn, ((w.onTables && w.keeps) = true ∨ ∃ ty, w = .arrayClass ty) := sb_o (by decide +kernel)
set_option maxRecDepth 20000 in
theorem go_X4_init : ∀ w ∈ wsX4_init, ((w.onTables && w.keeps) = true ∨ ∃ ty, w = .arrayClass ty) := sb_o (by decide +kernel)
set_option maxRecDepth 20000 in
theorem go_X4_stopAt : ∀ w ∈ wsX4_stopAt, ((w.onTables && w.keeps) = true ∨ ∃ ty, w = .arrayClass ty) := sb_o (by decide +kernel)
set_option maxRecDepth 20000 in
theorem go_X4_timesOf : ∀ w ∈ wsX4_timesOf, ((w.onTables && w.keeps) = true ∨ ∃ ty, w = .arrayClass ty) := sb_o (by decide +kernel)
set_option maxRecDepth 20000 in
theorem go_X4_turnTo : ∀ w ∈ wsX4_turnTo, ((w.onTables && w.keeps) = true ∨ ∃ ty, w = .arrayClass ty) := sb_o (by decide +kernel)
set_option maxRecDepth 20000 in
theorem go_X4_turningBy : ∀ w ∈ wsX4_turningBy, ((w.onTables && w.keeps) = true ∨ ∃ ty, w = .arrayClass ty) := sb_o (by decide +kernel)
set_option maxRecDepth 20000 in
theorem go_X5_addByte : ∀ w ∈ wsX5_addByte, ((w.onTables && w.keeps) = true ∨ ∃ ty, w = .arrayClass ty) := sb_o (by decide +kernel)
set_option maxRecDepth 20000 in
theorem go_X5_directionWord : ∀ w ∈ wsX5_directionWord, ((w.onTables && w.keeps) = true ∨ ∃ ty, w = .arrayClass ty) := sb_o (by decide +kernel)
set_option maxRecDepth 20000 in
theorem go_X5_fail : ∀ w ∈ wsX5_fail, ((w.onTables && w.keeps) = true ∨ ∃ ty, w = .arrayClass ty) := sb_o (by decide +kernel)
set_option maxRecDepth 20000 in
theorem go_X5_init : ∀ w ∈ wsX5_init, ((w.onTables && w.keeps) = true ∨ ∃ ty, w = .arrayClass ty) := sb_o (by decide +kernel)
set_option maxRecDepth 20000 in
theorem go_X5_isDigit : ∀ w ∈ wsX5_isDigit, ((w.onTables && w.keeps) = true ∨ ∃ ty, w = .arrayClass ty) := sb_o (by decide +kernel)
set_option maxRecDepth 20000 in
theorem go_X5_isLetter : ∀ w ∈ wsX5_isLetter, ((w.onTables && w.keeps) = true ∨ ∃ ty, w = .arrayClass ty) := sb_o (by decide +kernel)
set_option maxRecDepth 20000 in
theorem go_X5_namedHarbour : ∀ w ∈ wsX5_namedHarbour, ((w.onTables && w.keeps) = true ∨ ∃ ty, w = .arrayClass ty) := sb_o (by decide +kernel)
set_option maxRecDepth 20000 in
theorem go_X5_nextSign : ∀ w ∈ wsX5_nextSign, ((w.onTables && w.keeps) = true ∨ ∃ ty, w = .arrayClass ty) := sb_o (by decide +kernel)
set_option maxRecDepth 20000 in
theorem go_X5_readChart : ∀ w ∈ wsX5_readChart, ((w.onTables && w.keeps) = true ∨ ∃ ty, w = .arrayClass ty) := sb_o (by decide +kernel)
set_option maxRecDepth 20000 in
theorem go_X5_readHarbour : ∀ w ∈ wsX5_readHarbour, ((w.onTables && w.keeps) = true ∨ ∃ ty, w = .arrayClass ty) := sb_o (by decide +kernel)
set_option maxRecDepth 20000 in
theorem go_X5_readLand : ∀ w ∈ wsX5_readLand, ((w.onTables && w.keeps) = true ∨ ∃ ty, w = .arrayClass ty) := sb_o (by decide +kernel)
set_option maxRecDepth 20000 in
theorem go_X5_readPlace : ∀ w ∈ wsX5_readPlace, ((w.onTables && w.keeps) = true ∨ ∃ ty, w = .arrayClass ty) := sb_o (by decide +kernel)
set_option maxRecDepth 20000 in
theorem go_X5_readRed : ∀ w ∈ wsX5_readRed, ((w.onTables && w.keeps) = true ∨ ∃ ty, w = .arrayClass ty) := sb_o (by decide +kernel)
set_option maxRecDepth 20000 in
theorem go_X5_readRiver : ∀ w ∈ wsX5_readRiver, ((w.onTables && w.keeps) = true ∨ ∃ ty, w = .arrayClass ty) := sb_o (by decide +kernel)
set_option maxRecDepth 20000 in
theorem go_X5_readText : ∀ w ∈ wsX5_readText, ((w.onTables && w.keeps) = true ∨ ∃ ty, w = .arrayClass ty) := sb_o (by decide +kernel)
set_option maxRecDepth 20000 in
theorem go_X5_readTurn : ∀ w ∈ wsX5_readTurn, ((w.onTables && w.keeps) = true ∨ ∃ ty, w = .arrayClass ty) := sb_o (by decide +kernel)
set_option maxRecDepth 20000 in
theorem go_X5_readVoyage : ∀ w ∈ wsX5_readVoyage, ((w.onTables && w.keeps) = true ∨ ∃ ty, w = .arrayClass ty) := sb_o (by decide +kernel)
set_option maxRecDepth 20000 in
theorem go_X5_signAt : ∀ w ∈ wsX5_signAt, ((w.onTables && w.keeps) = true ∨ ∃ ty, w = .arrayClass ty) := sb_o (by decide +kernel)
set_option maxRecDepth 20000 in
theorem go_X5_takeCell : ∀ w ∈ wsX5_takeCell, ((w.onTables && w.keeps) = true ∨ ∃ ty, w = .arrayClass ty) := sb_o (by decide +kernel)
set_option maxRecDepth 20000 in
theorem go_X5_takeKeyword : ∀ w ∈ wsX5_takeKeyword, ((w.onTables && w.keeps) = true ∨ ∃ ty, w = .arrayClass ty) := sb_o (by decide +kernel)
set_option maxRecDepth 20000 in
theorem go_X5_takeName : ∀ w ∈ wsX5_takeName, ((w.onTables && w.keeps) = true ∨ ∃ ty, w = .arrayClass ty) := sb_o (by decide +kernel)
set_option maxRecDepth 20000 in
theorem go_X5_takeNumber : ∀ w ∈ wsX5_takeNumber, ((w.onTables && w.keeps) = true ∨ ∃ ty, w = .arrayClass ty) := sb_o (by decide +kernel)
set_option maxRecDepth 20000 in
theorem go_X5_takeSemicolon : ∀ w ∈ wsX5_takeSemicolon, ((w.onTables && w.keeps) = true ∨ ∃ ty, w = .arrayClass ty) := sb_o (by decide +kernel)
set_option maxRecDepth 20000 in
theorem go_X5_takeWord : ∀ w ∈ wsX5_takeWord, ((w.onTables && w.keeps) = true ∨ ∃ ty, w = .arrayClass ty) := sb_o (by decide +kernel)
set_option maxRecDepth 20000 in
theorem go_X5_wordIs : ∀ w ∈ wsX5_wordIs, ((w.onTables && w.keeps) = true ∨ ∃ ty, w = .arrayClass ty) := sb_o (by decide +kernel)
set_option maxRecDepth 20000 in
theorem go_X6_beginSea : ∀ w ∈ wsX6_beginSea, ((w.onTables && w.keeps) = true ∨ ∃ ty, w = .arrayClass ty) := sb_o (by decide +kernel)
set_option maxRecDepth 20000 in
theorem go_X6_cellReason : ∀ w ∈ wsX6_cellReason, ((w.onTables && w.keeps) = true ∨ ∃ ty, w = .arrayClass ty) := sb_o (by decide +kernel)
set_option maxRecDepth 20000 in
theorem go_X6_copyFrom : ∀ w ∈ wsX6_copyFrom, ((w.onTables && w.keeps) = true ∨ ∃ ty, w = .arrayClass ty) := sb_o (by decide +kernel)
set_option maxRecDepth 20000 in
theorem go_X6_crossedBy : ∀ w ∈ wsX6_crossedBy, ((w.onTables && w.keeps) = true ∨ ∃ ty, w = .arrayClass ty) := sb_o (by decide +kernel)
set_option maxRecDepth 20000 in
theorem go_X6_groundReason : ∀ w ∈ wsX6_groundReason, ((w.onTables && w.keeps) = true ∨ ∃ ty, w = .arrayClass ty) := sb_o (by decide +kernel)
set_option maxRecDepth 20000 in
theorem go_X6_init : ∀ w ∈ wsX6_init, ((w.onTables && w.keeps) = true ∨ ∃ ty, w = .arrayClass ty) := sb_o (by decide +kernel)
set_option maxRecDepth 20000 in
theorem go_X6_isOpen : ∀ w ∈ wsX6_isOpen, ((w.onTables && w.keeps) = true ∨ ∃ ty, w = .arrayClass ty) := sb_o (by decide +kernel)
set_option maxRecDepth 20000 in
theorem go_X6_letterIn : ∀ w ∈ wsX6_letterIn, ((w.onTables && w.keeps) = true ∨ ∃ ty, w = .arrayClass ty) := sb_o (by decide +kernel)
set_option maxRecDepth 20000 in
theorem go_X6_meetsOthers : ∀ w ∈ wsX6_meetsOthers, ((w.onTables && w.keeps) = true ∨ ∃ ty, w = .arrayClass ty) := sb_o (by decide +kernel)
set_option maxRecDepth 20000 in
theorem go_X6_namesIn : ∀ w ∈ wsX6_namesIn, ((w.onTables && w.keeps) = true ∨ ∃ ty, w = .arrayClass ty) := sb_o (by decide +kernel)
set_option maxRecDepth 20000 in
theorem go_X6_namesWithBackTo : ∀ w ∈ wsX6_namesWithBackTo, ((w.onTables && w.keeps) = true ∨ ∃ ty, w = .arrayClass ty) := sb_o (by decide +kernel)
set_option maxRecDepth 20000 in
theorem go_X6_putName : ∀ w ∈ wsX6_putName, ((w.onTables && w.keeps) = true ∨ ∃ ty, w = .arrayClass ty) := sb_o (by decide +kernel)
set_option maxRecDepth 20000 in
theorem go_X6_reasonAgainst : ∀ w ∈ wsX6_reasonAgainst, ((w.onTables && w.keeps) = true ∨ ∃ ty, w = .arrayClass ty) := sb_o (by decide +kernel)
set_option maxRecDepth 20000 in
theorem go_X6_shutsHarbour : ∀ w ∈ wsX6_shutsHarbour, ((w.onTables && w.keeps) = true ∨ ∃ ty, w = .arrayClass ty) := sb_o (by decide +kernel)
set_option maxRecDepth 20000 in
theorem go_X6_takeName : ∀ w ∈ wsX6_takeName, ((w.onTables && w.keeps) = true ∨ ∃ ty, w = .arrayClass ty) := sb_o (by decide +kernel)
set_option maxRecDepth 20000 in
theorem go_X6_takeNames : ∀ w ∈ wsX6_takeNames, ((w.onTables && w.keeps) = true ∨ ∃ ty, w = .arrayClass ty) := sb_o (by decide +kernel)
set_option maxRecDepth 20000 in
theorem go_X6_turningNow : ∀ w ∈ wsX6_turningNow, ((w.onTables && w.keeps) = true ∨ ∃ ty, w = .arrayClass ty) := sb_o (by decide +kernel)
set_option maxRecDepth 20000 in
theorem go_X7_besideWithSum : ∀ w ∈ wsX7_besideWithSum, ((w.onTables && w.keeps) = true ∨ ∃ ty, w = .arrayClass ty) := sb_o (by decide +kernel)
set_option maxRecDepth 20000 in
theorem go_X7_improve : ∀ w ∈ wsX7_improve, ((w.onTables && w.keeps) = true ∨ ∃ ty, w = .arrayClass ty) := sb_o (by decide +kernel)
set_option maxRecDepth 20000 in
theorem go_X7_init : ∀ w ∈ wsX7_init, ((w.onTables && w.keeps) = true ∨ ∃ ty, w = .arrayClass ty) := sb_o (by decide +kernel)
set_option maxRecDepth 20000 in
theorem go_X7_namesOnWay : ∀ w ∈ wsX7_namesOnWay, ((w.onTables && w.keeps) = true ∨ ∃ ty, w = .arrayClass ty) := sb_o (by decide +kernel)
