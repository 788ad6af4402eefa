abbrev w_X8_uprightTurn (g : GE) : va_W := []
set_option maxRecDepth 20000 in
theorem c_X8_uprightTurn (l : Launch) (g : GE) (sz : Nat)  (p0 : Int32)  (r : Int32) (hf : f_X8_uprightTurn p0 = some r) : MI l g yX8_uprightTurn wsX8_uprightTurn 1 24 [.int p0] (w_X8_uprightTurn g ) sz (some (.int r)) (w_X8_uprightTurn g ) := by
  refine MI.start (cc := cX8_uprightTurn) (maxL := 1) (ret := (some .int)) rfl rfl (nle rfl) ?_
  intro p e s m args below meth c A ls Q hQ hexec hb hr hts hown hlocks hml hA hP hD hG hS hl
  unfold f_X8_uprightTurn at hf
  have hS : va_S A s.heap s.heap [] := hS
  refine lv_iload_n (pc := 0) hexec hb dX8_uprightTurn_0 rfl (lv_at hl 0 rfl) ?_
  refine lv_iconst (pc := 1) hexec hb dX8_uprightTurn_1 ki_3 ?_
  refine lv_iadd (pc := 2) hexec hb dX8_uprightTurn_2 ?_
  refine lv_iconst (pc := 3) hexec hb dX8_uprightTurn_3 ki_4 ?_
  refine lv_irem (pc := 4) hexec hb dX8_uprightTurn_4 (by decide) ?_
  cases hf
  exact ke_i hQ hexec hb hr hP hD hS dX8_uprightTurn_5 hlocks
abbrev w_X8_quartersBetween (g : GE) : va_W := []
set_option maxRecDepth 20000 in
theorem c_X8_quartersBetween (l : Launch) (g : GE) (sz : Nat)  (p0 : Int32) (p1 : Int32)  (r : Int32) (hf : f_X8_quartersBetween p0 p1 = some r) : MI l g yX8_quartersBetween wsX8_quartersBetween 1 24 [.int p0, .int p1] (w_X8_quartersBetween g ) sz (some (.int r)) (w_X8_quartersBetween g ) := by
  refine MI.start (cc := cX8_quartersBetween) (maxL := 3) (ret := (some .int)) rfl rfl (nle rfl) ?_
  intro p e s m args below meth c A ls Q hQ hexec hb hr hts hown hlocks hml hA hP hD hG hS hl
  unfold f_X8_quartersBetween at hf
  have hS : va_S A s.heap s.heap [] := hS
  refine lv_iload_n (pc := 0) hexec hb dX8_quartersBetween_0 rfl (lv_at hl 0 rfl) ?_
  refine lv_iload_n (pc := 1) hexec hb dX8_quartersBetween_1 rfl (lv_at hl 1 rfl) ?_
  refine lv_isub (pc := 2) hexec hb dX8_quartersBetween_2 ?_
  refine va_mabs (pc := 3) hexec hb (hml.trans hl.1.symm) (own := RX8) hown (hts _ (List.mem_cons_of_mem _ (List.mem_of_getElem? (i := 0) rfl))) (hts _ (List.mem_cons_of_mem _ (List.mem_of_getElem? (i := 1) rfl))) (hts _ (List.mem_cons_of_mem _ (List.mem_of_getElem? (i := 2) rfl))) (hts _ (List.mem_cons_of_mem _ (List.mem_of_getElem? (i := 3) rfl))) (nle rfl) (nle rfl) (nle rfl) (nle rfl) dX8_quartersBetween_3 ?_
  obtain ⟨v2, ev2, hf⟩ := bv_e hf
  refine kn_i ev2 ?_
  refine lv_istore_n (pc := 6) hexec hb dX8_quartersBetween_6 rfl hl (nle rfl) rfl (fun ls (hl : lv_has ls 3 [(2, .int v2), (0, .int p0), (1, .int p1)]) => ?_)
  refine lv_iload_n (pc := 7) hexec hb dX8_quartersBetween_7 rfl (lv_at hl 0 rfl) ?_
  refine lv_iconst (pc := 8) hexec hb dX8_quartersBetween_8 ki_4 ?_
  refine lv_iload_n (pc := 9) hexec hb dX8_quartersBetween_9 rfl (lv_at hl 0 rfl) ?_
  refine lv_isub (pc := 10) hexec hb dX8_quartersBetween_10 ?_
  refine va_mmin (pc := 11) hexec hb (hml.trans hl.1.symm) (own := RX8) hown (hts _ (List.mem_cons_of_mem _ (List.mem_of_getElem? (i := 4) rfl))) (hts _ (List.mem_cons_of_mem _ (List.mem_of_getElem? (i := 5) rfl))) (hts _ (List.mem_cons_of_mem _ (List.mem_of_getElem? (i := 2) rfl))) (hts _ (List.mem_cons_of_mem _ (List.mem_of_getElem? (i := 6) rfl))) (nle rfl) (nle rfl) (nle rfl) (nle rfl) dX8_quartersBetween_11 ?_
  cases hf
  exact ke_i hQ hexec hb hr hP hD hS dX8_quartersBetween_14 hlocks
abbrev w_X8_byteOf (g : GE) : va_W := []
set_option maxRecDepth 20000 in
theorem c_X8_byteOf (l : Launch) (g : GE) (sz : Nat)  (p0 : Int64) (p2 : Int32)  (r : Int32) (hf : f_X8_byteOf p0 p2 = some r) : MI l g yX8_byteOf wsX8_byteOf 1 24 [.long p0, .int p2] (w_X8_byteOf g ) sz (some (.int r)) (w_X8_byteOf g ) := by
  refine MI.start (cc := cX8_byteOf) (maxL := 3) (ret := (some .int)) rfl rfl (nle rfl) ?_
  intro p e s m args below meth c A ls Q hQ hexec hb hr hts hown hlocks hml hA hP hD hG hS hl
  unfold f_X8_byteOf at hf
  have hS : va_S A s.heap s.heap [] := hS
  refine lv_lload_n (pc := 0) hexec hb dX8_byteOf_0 rfl (lv_at hl 0 rfl) ?_
  refine lv_iload_n (pc := 1) hexec hb dX8_byteOf_1 rfl (lv_at hl 1 rfl) ?_
  refine lv_lushr (pc := 2) hexec hb dX8_byteOf_2 (v := (lushr p0 p2)) rfl ?_
  refine lv_ldc2 (pc := 3) hexec hb (own := RX8) hown (hts _ (List.mem_cons_of_mem _ (List.mem_of_getElem? (i := 0) rfl))) dX8_byteOf_3 ?_
  refine lv_land (pc := 6) hexec hb dX8_byteOf_6 ?_
  refine lv_l2i (pc := 7) hexec hb dX8_byteOf_7 rfl ?_
  cases hf
  exact ke_i hQ hexec hb hr hP hD hS dX8_byteOf_8 hlocks
