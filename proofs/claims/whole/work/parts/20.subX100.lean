theorem mb_X1_hasSeaBeside_X10 : ∀ w ∈ wsX10, w ∈ wsX1_hasSeaBeside := fun w h => List.mem_cons_of_mem _ (List.mem_append_right _ (h))
theorem ggX1_hasSeaBeside_X1_ahead : GoodIn wsX1_hasSeaBeside wsX1_ahead := sb_g go_X1_ahead (sb_c (List.mem_cons_of_mem _ (List.mem_append_left _ (List.mem_of_getElem? (i := 4) rfl))) (sb_a (sb_c (List.mem_cons_of_mem _ (List.mem_append_left _ (List.mem_of_getElem? (i := 5) rfl))) (sb_c (List.mem_cons_of_mem _ (List.mem_append_left _ (List.mem_of_getElem? (i := 6) rfl))) (sb_n))) (mb_X1_hasSeaBeside_X10)))
set_option maxRecDepth 20000 in
theorem gX1_hasSeaBeside_X1_ahead : GoodIn wsX1_hasSeaBeside (wsV RX1 38 RX1 yX1_ahead wsX1_ahead) := goodIn_app (goodIn_of _ (by decide +kernel)) ggX1_hasSeaBeside_X1_ahead
theorem ggX1_hasSeaBeside_X1_isLand : GoodIn wsX1_hasSeaBeside wsX1_isLand := sb_g go_X1_isLand (sb_c (List.mem_cons_of_mem _ (List.mem_append_left _ (List.mem_of_getElem? (i := 10) rfl))) (sb_a (sb_c (List.mem_cons_of_mem _ (List.mem_append_left _ (List.mem_of_getElem? (i := 11) rfl))) (sb_n)) (mb_X1_hasSeaBeside_X10)))
set_option maxRecDepth 20000 in
theorem gX1_hasSeaBeside_X1_isLand : GoodIn wsX1_hasSeaBeside (wsV RX1 42 RX1 yX1_isLand wsX1_isLand) := goodIn_app (goodIn_of _ (by decide +kernel)) ggX1_hasSeaBeside_X1_isLand
theorem mb_X1_endsRiver_X10 : ∀ w ∈ wsX10, w ∈ wsX1_endsRiver := fun w h => List.mem_cons_of_mem _ (List.mem_append_right _ (h))
theorem ggX1_endsRiver_X1_ahead : GoodIn wsX1_endsRiver wsX1_ahead := sb_g go_X1_ahead (sb_c (List.mem_cons_of_mem _ (List.mem_append_left _ (List.mem_of_getElem? (i := 4) rfl))) (sb_a (sb_c (List.mem_cons_of_mem _ (List.mem_append_left _ (List.mem_of_getElem? (i := 5) rfl))) (sb_c (List.mem_cons_of_mem _ (List.mem_append_left _ (List.mem_of_getElem? (i := 6) rfl))) (sb_n))) (mb_X1_endsRiver_X10)))
set_option maxRecDepth 20000 in
theorem gX1_endsRiver_X1_ahead : GoodIn wsX1_endsRiver (wsV RX1 38 RX1 yX1_ahead wsX1_ahead) := goodIn_app (goodIn_of _ (by decide +kernel)) ggX1_endsRiver_X1_ahead
theorem ggX1_endsRiver_X1_isLand : GoodIn wsX1_endsRiver wsX1_isLand := sb_g go_X1_isLand (sb_c (List.mem_cons_of_mem _ (List.mem_append_left _ (List.mem_of_getElem? (i := 10) rfl))) (sb_a (sb_c (List.mem_cons_of_mem _ (List.mem_append_left _ (List.mem_of_getElem? (i := 11) rfl))) (sb_n)) (mb_X1_endsRiver_X10)))
set_option maxRecDepth 20000 in
theorem gX1_endsRiver_X1_isLand : GoodIn wsX1_endsRiver (wsV RX1 42 RX1 yX1_isLand wsX1_isLand) := goodIn_app (goodIn_of _ (by decide +kernel)) ggX1_endsRiver_X1_isLand
theorem ggX1_endsRiver_X1_isRiver : GoodIn wsX1_endsRiver wsX1_isRiver := sb_g go_X1_isRiver (sb_c (List.mem_cons_of_mem _ (List.mem_append_left _ (List.mem_of_getElem? (i := 15) rfl))) (sb_a (sb_c (List.mem_cons_of_mem _ (List.mem_append_left _ (List.mem_of_getElem? (i := 16) rfl))) (sb_n)) (mb_X1_endsRiver_X10)))
set_option maxRecDepth 20000 in
theorem gX1_endsRiver_X1_isRiver : GoodIn wsX1_endsRiver (wsV RX1 46 RX1 yX1_isRiver wsX1_isRiver) := goodIn_app (goodIn_of _ (by decide +kernel)) ggX1_endsRiver_X1_isRiver
theorem mb_X1_depthOf_X10 : ∀ w ∈ wsX10, w ∈ wsX1_depthOf := fun w h => List.mem_cons_of_mem _ (List.mem_append_right _ (h))
theorem ggX1_depthOf_X1_isLand : GoodIn wsX1_depthOf wsX1_isLand := sb_g go_X1_isLand (sb_c (List.mem_cons_of_mem _ (List.mem_append_left _ (List.mem_of_getElem? (i := 13) rfl))) (sb_a (sb_c (List.mem_cons_of_mem _ (List.mem_append_left _ (List.mem_of_getElem? (i := 14) rfl))) (sb_n)) (mb_X1_depthOf_X10)))
set_option maxRecDepth 20000 in
theorem gX1_depthOf_X1_isLand : GoodIn wsX1_depthOf (wsV RX1 42 RX1 yX1_isLand wsX1_isLand) := goodIn_app (goodIn_of _ (by decide +kernel)) ggX1_depthOf_X1_isLand
theorem ggX1_depthOf_X1_cells : GoodIn wsX1_depthOf wsX1_cells := sb_g go_X1_cells (sb_c (List.mem_cons_of_mem _ (List.mem_append_left _ (List.mem_of_getElem? (i := 18) rfl))) (sb_a (sb_c (List.mem_cons_of_mem _ (List.mem_append_left _ (List.mem_of_getElem? (i := 1) rfl))) (sb_c (List.mem_cons_of_mem _ (List.mem_append_left _ (List.mem_of_getElem? (i := 0) rfl))) (sb_n))) (mb_X1_depthOf_X10)))
set_option maxRecDepth 20000 in
theorem gX1_depthOf_X1_cells : GoodIn wsX1_depthOf (wsV RX1 55 RX1 yX1_cells wsX1_cells) := goodIn_app (goodIn_of _ (by decide +kernel)) ggX1_depthOf_X1_cells
