set_option maxRecDepth 20000 in
theorem go_X7_sumOf : ∀ w ∈ wsX7_sumOf, ((w.onTables && w.keeps) = true ∨ ∃ ty, w = .arrayClass ty) := sb_o (by decide +kernel)
set_option maxRecDepth 20000 in
theorem go_X7_survey : ∀ w ∈ wsX7_survey, ((w.onTables && w.keeps) = true ∨ ∃ ty, w = .arrayClass ty) := sb_o (by decide +kernel)
set_option maxRecDepth 20000 in
theorem go_X7_trace : ∀ w ∈ wsX7_trace, ((w.onTables && w.keeps) = true ∨ ∃ ty, w = .arrayClass ty) := sb_o (by decide +kernel)
set_option maxRecDepth 20000 in
theorem go_X7_wayAt : ∀ w ∈ wsX7_wayAt, ((w.onTables && w.keeps) = true ∨ ∃ ty, w = .arrayClass ty) := sb_o (by decide +kernel)
set_option maxRecDepth 20000 in
theorem go_X8_addRiver : ∀ w ∈ wsX8_addRiver, ((w.onTables && w.keeps) = true ∨ ∃ ty, w = .arrayClass ty) := sb_o (by decide +kernel)
set_option maxRecDepth 20000 in
theorem go_X8_append : ∀ w ∈ wsX8_append, ((w.onTables && w.keeps) = true ∨ ∃ ty, w = .arrayClass ty) := sb_o (by decide +kernel)
set_option maxRecDepth 20000 in
theorem go_X8_arrange : ∀ w ∈ wsX8_arrange, ((w.onTables && w.keeps) = true ∨ ∃ ty, w = .arrayClass ty) := sb_o (by decide +kernel)
set_option maxRecDepth 20000 in
theorem go_X8_arranged : ∀ w ∈ wsX8_arranged, ((w.onTables && w.keeps) = true ∨ ∃ ty, w = .arrayClass ty) := sb_o (by decide +kernel)
set_option maxRecDepth 20000 in
theorem go_X8_bestTurn : ∀ w ∈ wsX8_bestTurn, ((w.onTables && w.keeps) = true ∨ ∃ ty, w = .arrayClass ty) := sb_o (by decide +kernel)
set_option maxRecDepth 20000 in
theorem go_X8_byteOf : ∀ w ∈ wsX8_byteOf, ((w.onTables && w.keeps) = true ∨ ∃ ty, w = .arrayClass ty) := sb_o (by decide +kernel)
set_option maxRecDepth 20000 in
theorem go_X8_cell : ∀ w ∈ wsX8_cell, ((w.onTables && w.keeps) = true ∨ ∃ ty, w = .arrayClass ty) := sb_o (by decide +kernel)
set_option maxRecDepth 20000 in
theorem go_X8_cover : ∀ w ∈ wsX8_cover, ((w.onTables && w.keeps) = true ∨ ∃ ty, w = .arrayClass ty) := sb_o (by decide +kernel)
set_option maxRecDepth 20000 in
theorem go_X8_crossed : ∀ w ∈ wsX8_crossed, ((w.onTables && w.keeps) = true ∨ ∃ ty, w = .arrayClass ty) := sb_o (by decide +kernel)
set_option maxRecDepth 20000 in
theorem go_X8_crossings : ∀ w ∈ wsX8_crossings, ((w.onTables && w.keeps) = true ∨ ∃ ty, w = .arrayClass ty) := sb_o (by decide +kernel)
set_option maxRecDepth 20000 in
theorem go_X8_cut : ∀ w ∈ wsX8_cut, ((w.onTables && w.keeps) = true ∨ ∃ ty, w = .arrayClass ty) := sb_o (by decide +kernel)
set_option maxRecDepth 20000 in
theorem go_X8_dropRiver : ∀ w ∈ wsX8_dropRiver, ((w.onTables && w.keeps) = true ∨ ∃ ty, w = .arrayClass ty) := sb_o (by decide +kernel)
set_option maxRecDepth 20000 in
theorem go_X8_drowns : ∀ w ∈ wsX8_drowns, ((w.onTables && w.keeps) = true ∨ ∃ ty, w = .arrayClass ty) := sb_o (by decide +kernel)
set_option maxRecDepth 20000 in
theorem go_X8_erode : ∀ w ∈ wsX8_erode, ((w.onTables && w.keeps) = true ∨ ∃ ty, w = .arrayClass ty) := sb_o (by decide +kernel)
set_option maxRecDepth 20000 in
theorem go_X8_free : ∀ w ∈ wsX8_free, ((w.onTables && w.keeps) = true ∨ ∃ ty, w = .arrayClass ty) := sb_o (by decide +kernel)
set_option maxRecDepth 20000 in
theorem go_X8_harbour : ∀ w ∈ wsX8_harbour, ((w.onTables && w.keeps) = true ∨ ∃ ty, w = .arrayClass ty) := sb_o (by decide +kernel)
set_option maxRecDepth 20000 in
theorem go_X8_hardest : ∀ w ∈ wsX8_hardest, ((w.onTables && w.keeps) = true ∨ ∃ ty, w = .arrayClass ty) := sb_o (by decide +kernel)
set_option maxRecDepth 20000 in
theorem go_X8_init : ∀ w ∈ wsX8_init, ((w.onTables && w.keeps) = true ∨ ∃ ty, w = .arrayClass ty) := sb_o (by decide +kernel)
set_option maxRecDepth 20000 in
theorem go_X8_least : ∀ w ∈ wsX8_least, ((w.onTables && w.keeps) = true ∨ ∃ ty, w = .arrayClass ty) := sb_o (by decide +kernel)
set_option maxRecDepth 20000 in
theorem go_X8_leastIf : ∀ w ∈ wsX8_leastIf, ((w.onTables && w.keeps) = true ∨ ∃ ty, w = .arrayClass ty) := sb_o (by decide +kernel)
set_option maxRecDepth 20000 in
theorem go_X8_letter : ∀ w ∈ wsX8_letter, ((w.onTables && w.keeps) = true ∨ ∃ ty, w = .arrayClass ty) := sb_o (by decide +kernel)
set_option maxRecDepth 20000 in
theorem go_X8_lift : ∀ w ∈ wsX8_lift, ((w.onTables && w.keeps) = true ∨ ∃ ty, w = .arrayClass ty) := sb_o (by decide +kernel)
set_option maxRecDepth 20000 in
theorem go_X8_load : ∀ w ∈ wsX8_load, ((w.onTables && w.keeps) = true ∨ ∃ ty, w = .arrayClass ty) := sb_o (by decide +kernel)
set_option maxRecDepth 20000 in
theorem go_X8_loadError : ∀ w ∈ wsX8_loadError, ((w.onTables && w.keeps) = true ∨ ∃ ty, w = .arrayClass ty) := sb_o (by decide +kernel)
set_option maxRecDepth 20000 in
theorem go_X8_loadStatement : ∀ w ∈ wsX8_loadStatement, ((w.onTables && w.keeps) = true ∨ ∃ ty, w = .arrayClass ty) := sb_o (by decide +kernel)
set_option maxRecDepth 20000 in
theorem go_X8_meanTurn : ∀ w ∈ wsX8_meanTurn, ((w.onTables && w.keeps) = true ∨ ∃ ty, w = .arrayClass ty) := sb_o (by decide +kernel)
set_option maxRecDepth 20000 in
theorem go_X8_mildest : ∀ w ∈ wsX8_mildest, ((w.onTables && w.keeps) = true ∨ ∃ ty, w = .arrayClass ty) := sb_o (by decide +kernel)
set_option maxRecDepth 20000 in
theorem go_X8_needCell : ∀ w ∈ wsX8_needCell, ((w.onTables && w.keeps) = true ∨ ∃ ty, w = .arrayClass ty) := sb_o (by decide +kernel)
set_option maxRecDepth 20000 in
theorem go_X8_needDirection : ∀ w ∈ wsX8_needDirection, ((w.onTables && w.keeps) = true ∨ ∃ ty, w = .arrayClass ty) := sb_o (by decide +kernel)
set_option maxRecDepth 20000 in
theorem go_X8_needHarbour : ∀ w ∈ wsX8_needHarbour, ((w.onTables && w.keeps) = true ∨ ∃ ty, w = .arrayClass ty) := sb_o (by decide +kernel)
set_option maxRecDepth 20000 in
theorem go_X8_needRiver : ∀ w ∈ wsX8_needRiver, ((w.onTables && w.keeps) = true ∨ ∃ ty, w = .arrayClass ty) := sb_o (by decide +kernel)
set_option maxRecDepth 20000 in
theorem go_X8_needSlot : ∀ w ∈ wsX8_needSlot, ((w.onTables && w.keeps) = true ∨ ∃ ty, w = .arrayClass ty) := sb_o (by decide +kernel)
set_option maxRecDepth 20000 in
theorem go_X8_needTurn : ∀ w ∈ wsX8_needTurn, ((w.onTables && w.keeps) = true ∨ ∃ ty, w = .arrayClass ty) := sb_o (by decide +kernel)
set_option maxRecDepth 20000 in
theorem go_X8_outputByte : ∀ w ∈ wsX8_outputByte, ((w.onTables && w.keeps) = true ∨ ∃ ty, w = .arrayClass ty) := sb_o (by decide +kernel)
set_option maxRecDepth 20000 in
theorem go_X8_place : ∀ w ∈ wsX8_place, ((w.onTables && w.keeps) = true ∨ ∃ ty, w = .arrayClass ty) := sb_o (by decide +kernel)
set_option maxRecDepth 20000 in
theorem go_X8_placedIf : ∀ w ∈ wsX8_placedIf, ((w.onTables && w.keeps) = true ∨ ∃ ty, w = .arrayClass ty) := sb_o (by decide +kernel)
set_option maxRecDepth 20000 in
theorem go_X8_placedThen : ∀ w ∈ wsX8_placedThen, ((w.onTables && w.keeps) = true ∨ ∃ ty, w = .arrayClass ty) := sb_o (by decide +kernel)
set_option maxRecDepth 20000 in
theorem go_X8_quartersBetween : ∀ w ∈ wsX8_quartersBetween, ((w.onTables && w.keeps) = true ∨ ∃ ty, w = .arrayClass ty) := sb_o (by decide +kernel)
set_option maxRecDepth 20000 in
theorem go_X8_raise : ∀ w ∈ wsX8_raise, ((w.onTables && w.keeps) = true ∨ ∃ ty, w = .arrayClass ty) := sb_o (by decide +kernel)
set_option maxRecDepth 20000 in
theorem go_X8_read : ∀ w ∈ wsX8_read, ((w.onTables && w.keeps) = true ∨ ∃ ty, w = .arrayClass ty) := sb_o (by decide +kernel)
set_option maxRecDepth 20000 in
theorem go_X8_restoreSnapshot : ∀ w ∈ wsX8_restoreSnapshot, ((w.onTables && w.keeps) = true ∨ ∃ ty, w = .arrayClass ty) := sb_o (by decide +kernel)
set_option maxRecDepth 20000 in
theorem go_X8_river : ∀ w ∈ wsX8_river, ((w.onTables && w.keeps) = true ∨ ∃ ty, w = .arrayClass ty) := sb_o (by decide +kernel)
set_option maxRecDepth 20000 in
theorem go_X8_room : ∀ w ∈ wsX8_room, ((w.onTables && w.keeps) = true ∨ ∃ ty, w = .arrayClass ty) := sb_o (by decide +kernel)
set_option maxRecDepth 20000 in
theorem go_X8_sail : ∀ w ∈ wsX8_sail, ((w.onTables && w.keeps) = true ∨ ∃ ty, w = .arrayClass ty) := sb_o (by decide +kernel)
set_option maxRecDepth 20000 in
theorem go_X8_saveSnapshot : ∀ w ∈ wsX8_saveSnapshot, ((w.onTables && w.keeps) = true ∨ ∃ ty, w = .arrayClass ty) := sb_o (by decide +kernel)
set_option maxRecDepth 20000 in
theorem go_X8_setRed : ∀ w ∈ wsX8_setRed, ((w.onTables && w.keeps) = true ∨ ∃ ty, w = .arrayClass ty) := sb_o (by decide +kernel)
set_option maxRecDepth 20000 in
theorem go_X8_shy : ∀ w ∈ wsX8_shy, ((w.onTables && w.keeps) = true ∨ ∃ ty, w = .arrayClass ty) := sb_o (by decide +kernel)
set_option maxRecDepth 20000 in
theorem go_X8_signOf : ∀ w ∈ wsX8_signOf, ((w.onTables && w.keeps) = true ∨ ∃ ty, w = .arrayClass ty) := sb_o (by decide +kernel)
set_option maxRecDepth 20000 in
theorem go_X8_size : ∀ w ∈ wsX8_size, ((w.onTables && w.keeps) = true ∨ ∃ ty, w = .arrayClass ty) := sb_o (by decide +kernel)
set_option maxRecDepth 20000 in
theorem go_X8_turnPage : ∀ w ∈ wsX8_turnPage, ((w.onTables && w.keeps) = true ∨ ∃ ty, w = .arrayClass ty) := sb_o (by decide +kernel)
set_option maxRecDepth 20000 in
theorem go_X8_turning : ∀ w ∈ wsX8_turning, ((w.onTables && w.keeps) = true ∨ ∃ ty, w = .arrayClass ty) := sb_o (by decide +kernel)
set_option maxRecDepth 20000 in
theorem go_X8_turningFrom : ∀ w ∈ wsX8_turningFrom, ((w.onTables && w.keeps) = true ∨ ∃ ty, w = .arrayClass ty) := sb_o (by decide +kernel)
set_option maxRecDepth 20000 in
theorem go_X8_undo : ∀ w ∈ wsX8_undo, ((w.onTables && w.keeps) = true ∨ ∃ ty, w = .arrayClass ty) := sb_o (by decide +kernel)
set_option maxRecDepth 20000 in
theorem go_X8_upright : ∀ w ∈ wsX8_upright, ((w.onTables && w.keeps) = true ∨ ∃ ty, w = .arrayClass ty) := sb_o (by decide +kernel)
set_option maxRecDepth 20000 in
theorem go_X8_uprightTurn : ∀ w ∈ wsX8_uprightTurn, ((w.onTables && w.keeps) = true ∨ ∃ ty, w = .arrayClass ty) := sb_o (by decide +kernel)
set_option maxRecDepth 20000 in
theorem go_X8_voyage : ∀ w ∈ wsX8_voyage, ((w.onTables && w.keeps) = true ∨ ∃ ty, w = .arrayClass ty) := sb_o (by decide +kernel)
set_option maxRecDepth 20000 in
theorem go_X8_washes : ∀ w ∈ wsX8_washes, ((w.onTables && w.keeps) = true ∨ ∃ ty, w = .arrayClass ty) := sb_o (by decide +kernel)
set_option maxRecDepth 20000 in
theorem go_X8_wayCell : ∀ w ∈ wsX8_wayCell, ((w.onTables && w.keeps) = true ∨ ∃ ty, w = .arrayClass ty) := sb_o (by decide +kernel)
set_option maxRecDepth 20000 in
theorem go_X8_wayFrom : ∀ w ∈ wsX8_wayFrom, ((w.onTables && w.keeps) = true ∨ ∃ ty, w = .arrayClass ty) := sb_o (by decide +kernel)
set_option maxRecDepth 20000 in
theorem go_X8_wayLength : ∀ w ∈ wsX8_wayLength, ((w.onTables && w.keeps) = true ∨ ∃ ty, w = .arrayClass ty) := sb_o (by decide +kernel)
set_option maxRecDepth 20000 in
theorem go_X8_ways : ∀ w ∈ wsX8_ways, ((w.onTables && w.keeps) = true ∨ ∃ ty, w = .arrayClass ty) := sb_o (by decide +kernel)
set_option maxRecDepth 20000 in
theorem go_X8_why : ∀ w ∈ wsX8_why, ((w.onTables && w.keeps) = true ∨ ∃ ty, w = .arrayClass ty) := sb_o (by decide +kernel)
set_option maxRecDepth 20000 in
theorem go_X8_writeRow : ∀ w ∈ wsX8_writeRow, ((w.onTables && w.keeps) = true ∨ ∃ ty, w = .arrayClass ty) := sb_o (by decide +kernel)
set_option maxRecDepth 20000 in
theorem go_X9_addRiver : ∀ w ∈ wsX9_addRiver, ((w.onTables && w.keeps) = true ∨ ∃ ty, w = .arrayClass ty) := sb_o (by decide +kernel)
set_option maxRecDepth 20000 in
theorem go_X9_append : ∀ w ∈ wsX9_append, ((w.onTables && w.keeps) = true ∨ ∃ ty, w = .arrayClass ty) := sb_o (by decide +kernel)
set_option maxRecDepth 20000 in
theorem go_X9_areAgainst : ∀ w ∈ wsX9_areAgainst, ((w.onTables && w.keeps) = true ∨ ∃ ty, w = .arrayClass ty) := sb_o (by decide +kernel)
set_option maxRecDepth 20000 in
theorem go_X9_arrange : ∀ w ∈ wsX9_arrange, ((w.onTables && w.keeps) = true ∨ ∃ ty, w = .arrayClass ty) := sb_o (by decide +kernel)
set_option maxRecDepth 20000 in
theorem go_X9_arranged : ∀ w ∈ wsX9_arranged, ((w.onTables && w.keeps) = true ∨ ∃ ty, w = .arrayClass ty) := sb_o (by decide +kernel)
set_option maxRecDepth 20000 in
theorem go_X9_arranges : ∀ w ∈ wsX9_arranges, ((w.onTables && w.keeps) = true ∨ ∃ ty, w = .arrayClass ty) := sb_o (by decide +kernel)
set_option maxRecDepth 20000 in
theorem go_X9_arrangesIf : ∀ w ∈ wsX9_arrangesIf, ((w.onTables && w.keeps) = true ∨ ∃ ty, w = .arrayClass ty) := sb_o (by decide +kernel)
set_option maxRecDepth 20000 in
theorem go_X9_arrangesNow : ∀ w ∈ wsX9_arrangesNow, ((w.onTables && w.keeps) = true ∨ ∃ ty, w = .arrayClass ty) := sb_o (by decide +kernel)
set_option maxRecDepth 20000 in
theorem go_X9_away : ∀ w ∈ wsX9_away, ((w.onTables && w.keeps) = true ∨ ∃ ty, w = .arrayClass ty) := sb_o (by decide +kernel)
set_option maxRecDepth 20000 in
theorem go_X9_begins : ∀ w ∈ wsX9_begins, ((w.onTables && w.keeps) = true ∨ ∃ ty, w = .arrayClass ty) := sb_o (by decide +kernel)
set_option maxRecDepth 20000 in
theorem go_X9_bestTurn : ∀ w ∈ wsX9_bestTurn, ((w.onTables && w.keeps) = true ∨ ∃ ty, w = .arrayClass ty) := sb_o (by decide +kernel)
set_option maxRecDepth 20000 in
theorem go_X9_byteAt : ∀ w ∈ wsX9_byteAt, ((w.onTables && w.keeps) = true ∨ ∃ ty, w = .arrayClass ty) := sb_o (by decide +kernel)
set_option maxRecDepth 20000 in
theorem go_X9_bytesIn : ∀ w ∈ wsX9_bytesIn, ((w.onTables && w.keeps) = true ∨ ∃ ty, w = .arrayClass ty) := sb_o (by decide +kernel)
set_option maxRecDepth 20000 in
theorem go_X9_canBegin : ∀ w ∈ wsX9_canBegin, ((w.onTables && w.keeps) = true ∨ ∃ ty, w = .arrayClass ty) := sb_o (by decide +kernel)
set_option maxRecDepth 20000 in
theorem go_X9_canLie : ∀ w ∈ wsX9_canLie, ((w.onTables && w.keeps) = true ∨ ∃ ty, w = .arrayClass ty) := sb_o (by decide +kernel)
set_option maxRecDepth 20000 in
theorem go_X9_cell : ∀ w ∈ wsX9_cell, ((w.onTables && w.keeps) = true ∨ ∃ ty, w = .arrayClass ty) := sb_o (by decide +kernel)
set_option maxRecDepth 20000 in
theorem go_X9_cells : ∀ w ∈ wsX9_cells, ((w.onTables && w.keeps) = true ∨ ∃ ty, w = .arrayClass ty) := sb_o (by decide +kernel)
set_option maxRecDepth 20000 in
theorem go_X9_chartReason : ∀ w ∈ wsX9_chartReason, ((w.onTables && w.keeps) = true ∨ ∃ ty, w = .arrayClass ty) := sb_o (by decide +kernel)
set_option maxRecDepth 20000 in
theorem go_X9_copies : ∀ w ∈ wsX9_copies, ((w.onTables && w.keeps) = true ∨ ∃ ty, w = .arrayClass ty) := sb_o (by decide +kernel)
set_option maxRecDepth 20000 in
theorem go_X9_costOf : ∀ w ∈ wsX9_costOf, ((w.onTables && w.keeps) = true ∨ ∃ ty, w = .arrayClass ty) := sb_o (by decide +kernel)
set_option maxRecDepth 20000 in
theorem go_X9_cover : ∀ w ∈ wsX9_cover, ((w.onTables && w.keeps) = true ∨ ∃ ty, w = .arrayClass ty) := sb_o (by decide +kernel)
set_option maxRecDepth 20000 in
theorem go_X9_crossed : ∀ w ∈ wsX9_crossed, ((w.onTables && w.keeps) = true ∨ ∃ ty, w = .arrayClass ty) := sb_o (by decide +kernel)
set_option maxRecDepth 20000 in
theorem go_X9_crossedBy : ∀ w ∈ wsX9_crossedBy, ((w.onTables && w.keeps) = true ∨ ∃ ty, w = .arrayClass ty) := sb_o (by decide +kernel)
set_option maxRecDepth 20000 in
theorem go_X9_crossings : ∀ w ∈ wsX9_crossings, ((w.onTables && w.keeps) = true ∨ ∃ ty, w = .arrayClass ty) := sb_o (by decide +kernel)
set_option maxRecDepth 20000 in
theorem go_X9_cut : ∀ w ∈ wsX9_cut, ((w.onTables && w.keeps) = true ∨ ∃ ty, w = .arrayClass ty) := sb_o (by decide +kernel)
set_option maxRecDepth 20000 in
theorem go_X9_depthOf : ∀ w ∈ wsX9_depthOf, ((w.onTables && w.keeps) = true ∨ ∃ ty, w = .arrayClass ty) := sb_o (by decide +kernel)
set_option maxRecDepth 20000 in
theorem go_X9_doCross : ∀ w ∈ wsX9_doCross, ((w.onTables && w.keeps) = true ∨ ∃ ty, w = .arrayClass ty) := sb_o (by decide +kernel)
set_option maxRecDepth 20000 in
theorem go_X9_dropRiver : ∀ w ∈ wsX9_dropRiver, ((w.onTables && w.keeps) = true ∨ ∃ ty, w = .arrayClass ty) := sb_o (by decide +kernel)
set_option maxRecDepth 20000 in
theorem go_X9_drowns : ∀ w ∈ wsX9_drowns, ((w.onTables && w.keeps) = true ∨ ∃ ty, w = .arrayClass ty) := sb_o (by decide +kernel)
set_option maxRecDepth 20000 in
theorem go_X9_erode : ∀ w ∈ wsX9_erode, ((w.onTables && w.keeps) = true ∨ ∃ ty, w = .arrayClass ty) := sb_o (by decide +kernel)
set_option maxRecDepth 20000 in
theorem go_X9_fails : ∀ w ∈ wsX9_fails, ((w.onTables && w.keeps) = true ∨ ∃ ty, w = .arrayClass ty) := sb_o (by decide +kernel)
set_option maxRecDepth 20000 in
theorem go_X9_failsIf : ∀ w ∈ wsX9_failsIf, ((w.onTables && w.keeps) = true ∨ ∃ ty, w = .arrayClass ty) := sb_o (by decide +kernel)
set_option maxRecDepth 20000 in
theorem go_X9_findsFlow : ∀ w ∈ wsX9_findsFlow, ((w.onTables && w.keeps) = true ∨ ∃ ty, w = .arrayClass ty) := sb_o (by decide +kernel)
set_option maxRecDepth 20000 in
theorem go_X9_flows : ∀ w ∈ wsX9_flows, ((w.onTables && w.keeps) = true ∨ ∃ ty, w = .arrayClass ty) := sb_o (by decide +kernel)
set_option maxRecDepth 20000 in
theorem go_X9_free : ∀ w ∈ wsX9_free, ((w.onTables && w.keeps) = true ∨ ∃ ty, w = .arrayClass ty) := sb_o (by decide +kernel)
set_option maxRecDepth 20000 in
theorem go_X9_harbour : ∀ w ∈ wsX9_harbour, ((w.onTables && w.keeps) = true ∨ ∃ ty, w = .arrayClass ty) := sb_o (by decide +kernel)
set_option maxRecDepth 20000 in
theorem go_X9_harbourAt : ∀ w ∈ wsX9_harbourAt, ((w.onTables && w.keeps) = true ∨ ∃ ty, w = .arrayClass ty) := sb_o (by decide +kernel)
set_option maxRecDepth 20000 in
theorem go_X9_hardest : ∀ w ∈ wsX9_hardest, ((w.onTables && w.keeps) = true ∨ ∃ ty, w = .arrayClass ty) := sb_o (by decide +kernel)
set_option maxRecDepth 20000 in
theorem go_X9_init : ∀ w ∈ wsX9_init, ((w.onTables && w.keeps) = true ∨ ∃ ty, w = .arrayClass ty) := sb_o (by decide +kernel)
set_option maxRecDepth 20000 in
theorem go_X9_isCell : ∀ w ∈ wsX9_isCell, ((w.onTables && w.keeps) = true ∨ ∃ ty, w = .arrayClass ty) := sb_o (by decide +kernel)
set_option maxRecDepth 20000 in
theorem go_X9_isCoast : ∀ w ∈ wsX9_isCoast, ((w.onTables && w.keeps) = true ∨ ∃ ty, w = .arrayClass ty) := sb_o (by decide +kernel)
set_option maxRecDepth 20000 in
theorem go_X9_isDigit : ∀ w ∈ wsX9_isDigit, ((w.onTables && w.keeps) = true ∨ ∃ ty, w = .arrayClass ty) := sb_o (by decide +kernel)
set_option maxRecDepth 20000 in
theorem go_X9_isEnd : ∀ w ∈ wsX9_isEnd, ((w.onTables && w.keeps) = true ∨ ∃ ty, w = .arrayClass ty) := sb_o (by decide +kernel)
set_option maxRecDepth 20000 in
theorem go_X9_isFine : ∀ w ∈ wsX9_isFine, ((w.onTables && w.keeps) = true ∨ ∃ ty, w = .arrayClass ty) := sb_o (by decide +kernel)
set_option maxRecDepth 20000 in
theorem go_X9_isHarbour : ∀ w ∈ wsX9_isHarbour, ((w.onTables && w.keeps) = true ∨ ∃ ty, w = .arrayClass ty) := sb_o (by decide +kernel)
set_option maxRecDepth 20000 in
theorem go_X9_isIn : ∀ w ∈ wsX9_isIn, ((w.onTables && w.keeps) = true ∨ ∃ ty, w = .arrayClass ty) := sb_o (by decide +kernel)
set_option maxRecDepth 20000 in
theorem go_X9_isLand : ∀ w ∈ wsX9_isLand, ((w.onTables && w.keeps) = true ∨ ∃ ty, w = .arrayClass ty) := sb_o (by decide +kernel)
set_option maxRecDepth 20000 in
theorem go_X9_isLetter : ∀ w ∈ wsX9_isLetter, ((w.onTables && w.keeps) = true ∨ ∃ ty, w = .arrayClass ty) := sb_o (by decide +kernel)
set_option maxRecDepth 20000 in
theorem go_X9_isPlaced : ∀ w ∈ wsX9_isPlaced, ((w.onTables && w.keeps) = true ∨ ∃ ty, w = .arrayClass ty) := sb_o (by decide +kernel)
set_option maxRecDepth 20000 in
theorem go_X9_isRed : ∀ w ∈ wsX9_isRed, ((w.onTables && w.keeps) = true ∨ ∃ ty, w = .arrayClass ty) := sb_o (by decide +kernel)
set_option maxRecDepth 20000 in
theorem go_X9_isRedIn : ∀ w ∈ wsX9_isRedIn, ((w.onTables && w.keeps) = true ∨ ∃ ty, w = .arrayClass ty) := sb_o (by decide +kernel)
set_option maxRecDepth 20000 in
theorem go_X9_isRiver : ∀ w ∈ wsX9_isRiver, ((w.onTables && w.keeps) = true ∨ ∃ ty, w = .arrayClass ty) := sb_o (by decide +kernel)
set_option maxRecDepth 20000 in
theorem go_X9_isWay : ∀ w ∈ wsX9_isWay, ((w.onTables && w.keeps) = true ∨ ∃ ty, w = .arrayClass ty) := sb_o (by decide +kernel)
set_option maxRecDepth 20000 in
theorem go_X9_keeps : ∀ w ∈ wsX9_keeps, ((w.onTables && w.keeps) = true ∨ ∃ ty, w = .arrayClass ty) := sb_o (by decide +kernel)
set_option maxRecDepth 20000 in
theorem go_X9_landCells : ∀ w ∈ wsX9_landCells, ((w.onTables && w.keeps) = true ∨ ∃ ty, w = .arrayClass ty) := sb_o (by decide +kernel)
set_option maxRecDepth 20000 in
theorem go_X9_laysFlow : ∀ w ∈ wsX9_laysFlow, ((w.onTables && w.keeps) = true ∨ ∃ ty, w = .arrayClass ty) := sb_o (by decide +kernel)
set_option maxRecDepth 20000 in
theorem go_X9_laysPairs : ∀ w ∈ wsX9_laysPairs, ((w.onTables && w.keeps) = true ∨ ∃ ty, w = .arrayClass ty) := sb_o (by decide +kernel)
set_option maxRecDepth 20000 in
theorem go_X9_laysSums : ∀ w ∈ wsX9_laysSums, ((w.onTables && w.keeps) = true ∨ ∃ ty, w = .arrayClass ty) := sb_o (by decide +kernel)
set_option maxRecDepth 20000 in
theorem go_X9_least : ∀ w ∈ wsX9_least, ((w.onTables && w.keeps) = true ∨ ∃ ty, w = .arrayClass ty) := sb_o (by decide +kernel)
set_option maxRecDepth 20000 in
theorem go_X9_leastIf : ∀ w ∈ wsX9_leastIf, ((w.onTables && w.keeps) = true ∨ ∃ ty, w = .arrayClass ty) := sb_o (by decide +kernel)
set_option maxRecDepth 20000 in
theorem go_X9_letter : ∀ w ∈ wsX9_letter, ((w.onTables && w.keeps) = true ∨ ∃ ty, w = .arrayClass ty) := sb_o (by decide +kernel)
set_option maxRecDepth 20000 in
theorem go_X9_letterAt : ∀ w ∈ wsX9_letterAt, ((w.onTables && w.keeps) = true ∨ ∃ ty, w = .arrayClass ty) := sb_o (by decide +kernel)
set_option maxRecDepth 20000 in
theorem go_X9_letterIn : ∀ w ∈ wsX9_letterIn, ((w.onTables && w.keeps) = true ∨ ∃ ty, w = .arrayClass ty) := sb_o (by decide +kernel)
set_option maxRecDepth 20000 in
theorem go_X9_letterOf : ∀ w ∈ wsX9_letterOf, ((w.onTables && w.keeps) = true ∨ ∃ ty, w = .arrayClass ty) := sb_o (by decide +kernel)
set_option maxRecDepth 20000 in
theorem go_X9_lift : ∀ w ∈ wsX9_lift, ((w.onTables && w.keeps) = true ∨ ∃ ty, w = .arrayClass ty) := sb_o (by decide +kernel)
set_option maxRecDepth 20000 in
theorem go_X9_lifts : ∀ w ∈ wsX9_lifts, ((w.onTables && w.keeps) = true ∨ ∃ ty, w = .arrayClass ty) := sb_o (by decide +kernel)
set_option maxRecDepth 20000 in
theorem go_X9_load : ∀ w ∈ wsX9_load, ((w.onTables && w.keeps) = true ∨ ∃ ty, w = .arrayClass ty) := sb_o (by decide +kernel)
set_option maxRecDepth 20000 in
theorem go_X9_loadError : ∀ w ∈ wsX9_loadError, ((w.onTables && w.keeps) = true ∨ ∃ ty, w = .arrayClass ty) := sb_o (by decide +kernel)
set_option maxRecDepth 20000 in
theorem go_X9_loadStatement : ∀ w ∈ wsX9_loadStatement, ((w.onTables && w.keeps) = true ∨ ∃ ty, w = .arrayClass ty) := sb_o (by decide +kernel)
set_option maxRecDepth 20000 in
theorem go_X9_looks : ∀ w ∈ wsX9_looks, ((w.onTables && w.keeps) = true ∨ ∃ ty, w = .arrayClass ty) := sb_o (by decide +kernel)
set_option maxRecDepth 20000 in
theorem go_X9_mayCell : ∀ w ∈ wsX9_mayCell, ((w.onTables && w.keeps) = true ∨ ∃ ty, w = .arrayClass ty) := sb_o (by decide +kernel)
set_option maxRecDepth 20000 in
theorem go_X9_mayHarbour : ∀ w ∈ wsX9_mayHarbour, ((w.onTables && w.keeps) = true ∨ ∃ ty, w = .arrayClass ty) := sb_o (by decide +kernel)
set_option maxRecDepth 20000 in
theorem go_X9_mayRiver : ∀ w ∈ wsX9_mayRiver, ((w.onTables && w.keeps) = true ∨ ∃ ty, w = .arrayClass ty) := sb_o (by decide +kernel)
set_option maxRecDepth 20000 in
theorem go_X9_mayTurn : ∀ w ∈ wsX9_mayTurn, ((w.onTables && w.keeps) = true ∨ ∃ ty, w = .arrayClass ty) := sb_o (by decide +kernel)
set_option maxRecDepth 20000 in
theorem go_X9_meanTurn : ∀ w ∈ wsX9_meanTurn, ((w.onTables && w.keeps) = true ∨ ∃ ty, w = .arrayClass ty) := sb_o (by decide +kernel)
set_option maxRecDepth 20000 in
theorem go_X9_mildest : ∀ w ∈ wsX9_mildest, ((w.onTables && w.keeps) = true ∨ ∃ ty, w = .arrayClass ty) := sb_o (by decide +kernel)
set_option maxRecDepth 20000 in
theorem go_X9_name : ∀ w ∈ wsX9_name, ((w.onTables && w.keeps) = true ∨ ∃ ty, w = .arrayClass ty) := sb_o (by decide +kernel)
set_option maxRecDepth 20000 in
theorem go_X9_named : ∀ w ∈ wsX9_named, ((w.onTables && w.keeps) = true ∨ ∃ ty, w = .arrayClass ty) := sb_o (by decide +kernel)
set_option maxRecDepth 20000 in
theorem go_X9_namesIn : ∀ w ∈ wsX9_namesIn, ((w.onTables && w.keeps) = true ∨ ∃ ty, w = .arrayClass ty) := sb_o (by decide +kernel)
set_option maxRecDepth 20000 in
theorem go_X9_number : ∀ w ∈ wsX9_number, ((w.onTables && w.keeps) = true ∨ ∃ ty, w = .arrayClass ty) := sb_o (by decide +kernel)
set_option maxRecDepth 20000 in
theorem go_X9_of : ∀ w ∈ wsX9_of, ((w.onTables && w.keeps) = true ∨ ∃ ty, w = .arrayClass ty) := sb_o (by decide +kernel)
set_option maxRecDepth 20000 in
theorem go_X9_ones : ∀ w ∈ wsX9_ones, ((w.onTables && w.keeps) = true ∨ ∃ ty, w = .arrayClass ty) := sb_o (by decide +kernel)
set_option maxRecDepth 20000 in
theorem go_X9_outputByte : ∀ w ∈ wsX9_outputByte, ((w.onTables && w.keeps) = true ∨ ∃ ty, w = .arrayClass ty) := sb_o (by decide +kernel)
