theorem mb_X2_letterOf_X20 : ∀ w ∈ wsX20, w ∈ wsX2_letterOf := fun w h => List.mem_cons_of_mem _ (List.mem_append_right _ (h))
theorem ggX2_letterOf_X2_lengthOf : GoodIn wsX2_letterOf wsX2_lengthOf := sb_g go_X2_lengthOf (sb_c (List.mem_cons_of_mem _ (List.mem_append_left _ (List.mem_of_getElem? (i := 5) rfl))) (sb_a (sb_c (List.mem_cons_of_mem _ (List.mem_append_left _ (List.mem_of_getElem? (i := 6) rfl))) (sb_c (List.mem_cons_of_mem _ (List.mem_append_left _ (List.mem_of_getElem? (i := 7) rfl))) (sb_n))) (mb_X2_letterOf_X20)))
set_option maxRecDepth 20000 in
theorem gX2_letterOf_X2_lengthOf : GoodIn wsX2_letterOf (wsV RX2 37 RX2 yX2_lengthOf wsX2_lengthOf) := goodIn_app (goodIn_of _ (by decide +kernel)) ggX2_letterOf_X2_lengthOf
theorem mb_X2_placedNames_X20 : ∀ w ∈ wsX20, w ∈ wsX2_placedNames := fun w h => List.mem_cons_of_mem _ (List.mem_append_right _ (h))
theorem ggX2_placedNames_X2_directionOf : GoodIn wsX2_placedNames wsX2_directionOf := sb_g go_X2_directionOf (sb_c (List.mem_cons_of_mem _ (List.mem_append_left _ (List.mem_of_getElem? (i := 5) rfl))) (sb_a (sb_c (List.mem_cons_of_mem _ (List.mem_append_left _ (List.mem_of_getElem? (i := 0) rfl))) (sb_c (List.mem_cons_of_mem _ (List.mem_append_left _ (List.mem_of_getElem? (i := 6) rfl))) (sb_n))) (mb_X2_placedNames_X20)))
set_option maxRecDepth 20000 in
theorem gX2_placedNames_X2_directionOf : GoodIn wsX2_placedNames (wsV RX2 41 RX2 yX2_directionOf wsX2_directionOf) := goodIn_app (goodIn_of _ (by decide +kernel)) ggX2_placedNames_X2_directionOf
