set_option maxRecDepth 20000 in
theorem go_X9_passes : ∀ w ∈ wsX9_passes, ((w.onTables && w.keeps) = true ∨ ∃ ty, w = .arrayClass ty) := sb_o (by decide +kernel)
set_option maxRecDepth 20000 in
theorem go_X9_place : ∀ w ∈ wsX9_place, ((w.onTables && w.keeps) = true ∨ ∃ ty, w = .arrayClass ty) := sb_o (by decide +kernel)
set_option maxRecDepth 20000 in
theorem go_X9_placedIf : ∀ w ∈ wsX9_placedIf, ((w.onTables && w.keeps) = true ∨ ∃ ty, w = .arrayClass ty) := sb_o (by decide +kernel)
set_option maxRecDepth 20000 in
theorem go_X9_placedNow : ∀ w ∈ wsX9_placedNow, ((w.onTables && w.keeps) = true ∨ ∃ ty, w = .arrayClass ty) := sb_o (by decide +kernel)
set_option maxRecDepth 20000 in
theorem go_X9_placedThen : ∀ w ∈ wsX9_placedThen, ((w.onTables && w.keeps) = true ∨ ∃ ty, w = .arrayClass ty) := sb_o (by decide +kernel)
set_option maxRecDepth 20000 in
theorem go_X9_puts : ∀ w ∈ wsX9_puts, ((w.onTables && w.keeps) = true ∨ ∃ ty, w = .arrayClass ty) := sb_o (by decide +kernel)
set_option maxRecDepth 20000 in
theorem go_X9_quarters : ∀ w ∈ wsX9_quarters, ((w.onTables && w.keeps) = true ∨ ∃ ty, w = .arrayClass ty) := sb_o (by decide +kernel)
set_option maxRecDepth 20000 in
theorem go_X9_raise : ∀ w ∈ wsX9_raise, ((w.onTables && w.keeps) = true ∨ ∃ ty, w = .arrayClass ty) := sb_o (by decide +kernel)
set_option maxRecDepth 20000 in
theorem go_X9_read : ∀ w ∈ wsX9_read, ((w.onTables && w.keeps) = true ∨ ∃ ty, w = .arrayClass ty) := sb_o (by decide +kernel)
set_option maxRecDepth 20000 in
theorem go_X9_reads : ∀ w ∈ wsX9_reads, ((w.onTables && w.keeps) = true ∨ ∃ ty, w = .arrayClass ty) := sb_o (by decide +kernel)
set_option maxRecDepth 20000 in
theorem go_X9_readsHarbour : ∀ w ∈ wsX9_readsHarbour, ((w.onTables && w.keeps) = true ∨ ∃ ty, w = .arrayClass ty) := sb_o (by decide +kernel)
set_option maxRecDepth 20000 in
theorem go_X9_readsLand : ∀ w ∈ wsX9_readsLand, ((w.onTables && w.keeps) = true ∨ ∃ ty, w = .arrayClass ty) := sb_o (by decide +kernel)
set_option maxRecDepth 20000 in
theorem go_X9_readsOne : ∀ w ∈ wsX9_readsOne, ((w.onTables && w.keeps) = true ∨ ∃ ty, w = .arrayClass ty) := sb_o (by decide +kernel)
set_option maxRecDepth 20000 in
theorem go_X9_readsPlace : ∀ w ∈ wsX9_readsPlace, ((w.onTables && w.keeps) = true ∨ ∃ ty, w = .arrayClass ty) := sb_o (by decide +kernel)
set_option maxRecDepth 20000 in
theorem go_X9_readsRiver : ∀ w ∈ wsX9_readsRiver, ((w.onTables && w.keeps) = true ∨ ∃ ty, w = .arrayClass ty) := sb_o (by decide +kernel)
set_option maxRecDepth 20000 in
theorem go_X9_readsVoyage : ∀ w ∈ wsX9_readsVoyage, ((w.onTables && w.keeps) = true ∨ ∃ ty, w = .arrayClass ty) := sb_o (by decide +kernel)
set_option maxRecDepth 20000 in
theorem go_X9_reason : ∀ w ∈ wsX9_reason, ((w.onTables && w.keeps) = true ∨ ∃ ty, w = .arrayClass ty) := sb_o (by decide +kernel)
set_option maxRecDepth 20000 in
theorem go_X9_restoreSnapshot : ∀ w ∈ wsX9_restoreSnapshot, ((w.onTables && w.keeps) = true ∨ ∃ ty, w = .arrayClass ty) := sb_o (by decide +kernel)
set_option maxRecDepth 20000 in
theorem go_X9_river : ∀ w ∈ wsX9_river, ((w.onTables && w.keeps) = true ∨ ∃ ty, w = .arrayClass ty) := sb_o (by decide +kernel)
set_option maxRecDepth 20000 in
theorem go_X9_riverAt : ∀ w ∈ wsX9_riverAt, ((w.onTables && w.keeps) = true ∨ ∃ ty, w = .arrayClass ty) := sb_o (by decide +kernel)
set_option maxRecDepth 20000 in
theorem go_X9_room : ∀ w ∈ wsX9_room, ((w.onTables && w.keeps) = true ∨ ∃ ty, w = .arrayClass ty) := sb_o (by decide +kernel)
set_option maxRecDepth 20000 in
theorem go_X9_sail : ∀ w ∈ wsX9_sail, ((w.onTables && w.keeps) = true ∨ ∃ ty, w = .arrayClass ty) := sb_o (by decide +kernel)
set_option maxRecDepth 20000 in
theorem go_X9_saveSnapshot : ∀ w ∈ wsX9_saveSnapshot, ((w.onTables && w.keeps) = true ∨ ∃ ty, w = .arrayClass ty) := sb_o (by decide +kernel)
set_option maxRecDepth 20000 in
theorem go_X9_setRed : ∀ w ∈ wsX9_setRed, ((w.onTables && w.keeps) = true ∨ ∃ ty, w = .arrayClass ty) := sb_o (by decide +kernel)
set_option maxRecDepth 20000 in
theorem go_X9_shy : ∀ w ∈ wsX9_shy, ((w.onTables && w.keeps) = true ∨ ∃ ty, w = .arrayClass ty) := sb_o (by decide +kernel)
set_option maxRecDepth 20000 in
theorem go_X9_signOf : ∀ w ∈ wsX9_signOf, ((w.onTables && w.keeps) = true ∨ ∃ ty, w = .arrayClass ty) := sb_o (by decide +kernel)
set_option maxRecDepth 20000 in
theorem go_X9_size : ∀ w ∈ wsX9_size, ((w.onTables && w.keeps) = true ∨ ∃ ty, w = .arrayClass ty) := sb_o (by decide +kernel)
set_option maxRecDepth 20000 in
theorem go_X9_stepFrom : ∀ w ∈ wsX9_stepFrom, ((w.onTables && w.keeps) = true ∨ ∃ ty, w = .arrayClass ty) := sb_o (by decide +kernel)
set_option maxRecDepth 20000 in
theorem go_X9_thrown : ∀ w ∈ wsX9_thrown, ((w.onTables && w.keeps) = true ∨ ∃ ty, w = .arrayClass ty) := sb_o (by decide +kernel)
set_option maxRecDepth 20000 in
theorem go_X9_timesIn : ∀ w ∈ wsX9_timesIn, ((w.onTables && w.keeps) = true ∨ ∃ ty, w = .arrayClass ty) := sb_o (by decide +kernel)
set_option maxRecDepth 20000 in
theorem go_X9_tries : ∀ w ∈ wsX9_tries, ((w.onTables && w.keeps) = true ∨ ∃ ty, w = .arrayClass ty) := sb_o (by decide +kernel)
set_option maxRecDepth 20000 in
theorem go_X9_turnPage : ∀ w ∈ wsX9_turnPage, ((w.onTables && w.keeps) = true ∨ ∃ ty, w = .arrayClass ty) := sb_o (by decide +kernel)
set_option maxRecDepth 20000 in
theorem go_X9_turning : ∀ w ∈ wsX9_turning, ((w.onTables && w.keeps) = true ∨ ∃ ty, w = .arrayClass ty) := sb_o (by decide +kernel)
set_option maxRecDepth 20000 in
theorem go_X9_turningBy : ∀ w ∈ wsX9_turningBy, ((w.onTables && w.keeps) = true ∨ ∃ ty, w = .arrayClass ty) := sb_o (by decide +kernel)
set_option maxRecDepth 20000 in
theorem go_X9_turningFrom : ∀ w ∈ wsX9_turningFrom, ((w.onTables && w.keeps) = true ∨ ∃ ty, w = .arrayClass ty) := sb_o (by decide +kernel)
set_option maxRecDepth 20000 in
theorem go_X9_turningNow : ∀ w ∈ wsX9_turningNow, ((w.onTables && w.keeps) = true ∨ ∃ ty, w = .arrayClass ty) := sb_o (by decide +kernel)
set_option maxRecDepth 20000 in
theorem go_X9_turns : ∀ w ∈ wsX9_turns, ((w.onTables && w.keeps) = true ∨ ∃ ty, w = .arrayClass ty) := sb_o (by decide +kernel)
set_option maxRecDepth 20000 in
theorem go_X9_undo : ∀ w ∈ wsX9_undo, ((w.onTables && w.keeps) = true ∨ ∃ ty, w = .arrayClass ty) := sb_o (by decide +kernel)
set_option maxRecDepth 20000 in
theorem go_X9_upright : ∀ w ∈ wsX9_upright, ((w.onTables && w.keeps) = true ∨ ∃ ty, w = .arrayClass ty) := sb_o (by decide +kernel)
set_option maxRecDepth 20000 in
theorem go_X9_uprightBy : ∀ w ∈ wsX9_uprightBy, ((w.onTables && w.keeps) = true ∨ ∃ ty, w = .arrayClass ty) := sb_o (by decide +kernel)
set_option maxRecDepth 20000 in
theorem go_X9_voyage : ∀ w ∈ wsX9_voyage, ((w.onTables && w.keeps) = true ∨ ∃ ty, w = .arrayClass ty) := sb_o (by decide +kernel)
set_option maxRecDepth 20000 in
theorem go_X9_was : ∀ w ∈ wsX9_was, ((w.onTables && w.keeps) = true ∨ ∃ ty, w = .arrayClass ty) := sb_o (by decide +kernel)
set_option maxRecDepth 20000 in
theorem go_X9_washedBy : ∀ w ∈ wsX9_washedBy, ((w.onTables && w.keeps) = true ∨ ∃ ty, w = .arrayClass ty) := sb_o (by decide +kernel)
set_option maxRecDepth 20000 in
theorem go_X9_washes : ∀ w ∈ wsX9_washes, ((w.onTables && w.keeps) = true ∨ ∃ ty, w = .arrayClass ty) := sb_o (by decide +kernel)
set_option maxRecDepth 20000 in
theorem go_X9_wayCell : ∀ w ∈ wsX9_wayCell, ((w.onTables && w.keeps) = true ∨ ∃ ty, w = .arrayClass ty) := sb_o (by decide +kernel)
set_option maxRecDepth 20000 in
theorem go_X9_wayHere : ∀ w ∈ wsX9_wayHere, ((w.onTables && w.keeps) = true ∨ ∃ ty, w = .arrayClass ty) := sb_o (by decide +kernel)
set_option maxRecDepth 20000 in
theorem go_X9_wayLength : ∀ w ∈ wsX9_wayLength, ((w.onTables && w.keeps) = true ∨ ∃ ty, w = .arrayClass ty) := sb_o (by decide +kernel)
set_option maxRecDepth 20000 in
theorem go_X9_ways : ∀ w ∈ wsX9_ways, ((w.onTables && w.keeps) = true ∨ ∃ ty, w = .arrayClass ty) := sb_o (by decide +kernel)
set_option maxRecDepth 20000 in
theorem go_X9_weighs : ∀ w ∈ wsX9_weighs, ((w.onTables && w.keeps) = true ∨ ∃ ty, w = .arrayClass ty) := sb_o (by decide +kernel)
set_option maxRecDepth 20000 in
theorem go_X9_why : ∀ w ∈ wsX9_why, ((w.onTables && w.keeps) = true ∨ ∃ ty, w = .arrayClass ty) := sb_o (by decide +kernel)
set_option maxRecDepth 20000 in
theorem go_X9_word : ∀ w ∈ wsX9_word, ((w.onTables && w.keeps) = true ∨ ∃ ty, w = .arrayClass ty) := sb_o (by decide +kernel)
set_option maxRecDepth 20000 in
theorem go_X9_writeRow : ∀ w ∈ wsX9_writeRow, ((w.onTables && w.keeps) = true ∨ ∃ ty, w = .arrayClass ty) := sb_o (by decide +kernel)
