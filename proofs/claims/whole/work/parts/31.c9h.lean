abbrev w_X9_placedThen (g : GE) (a0 a1 a2 a3 a4 a5 a6 : Nat) (u0_1 u0_2 u0_3 u0_4 u0_5 u0_6 u0_8 u0_9 u0_10 u0_19 u0_20 u0_21 u0_22 u0_23 u0_24 u0_25 u0_26 u0_27 u0_28 u0_29 u0_30 : Value) (x0_thrown : Int32) (x0_bestReds : Int32) (x0_bestPlaced : Int32) (x0_bestTurning : Int32) (y1_against : Nat → Int32) (y2_best : Nat → Int32) (y3_may : Nat → Int32) (y4_redThen : Nat → Int32) (y5_s : Nat → Int32) (y6_ways : Nat → Int32) : va_W := [(a0, .inr (9, [.ref a5, u0_1, u0_2, u0_3, u0_4, u0_5, u0_6, .int x0_thrown, u0_8, u0_9, u0_10, .ref a6, .ref a2, .int x0_bestReds, .int x0_bestPlaced, .int x0_bestTurning, .ref a4, .ref a3, .ref a1, u0_19, u0_20, u0_21, u0_22, u0_23, u0_24, u0_25, u0_26, u0_27, u0_28, u0_29, u0_30])), (a1, .inl (g.2.1 1, 1024, .inl y1_against)), (a2, .inl (g.2.1 0, 8, .inl y2_best)), (a3, .inl (g.2.1 1, 32, .inl y3_may)), (a4, .inl (g.2.1 1, 8, .inl y4_redThen)), (a5, .inl (g.2.1 0, 552, .inl y5_s)), (a6, .inl (g.2.1 0, 8, .inl y6_ways))]
set_option maxRecDepth 20000 in
theorem c_X9_placedThen (l : Launch) (g : GE) (a0 a1 a2 a3 a4 a5 a6 : Nat) (sz : Nat) (u0_1 u0_2 u0_3 u0_4 u0_5 u0_6 u0_8 u0_9 u0_10 u0_19 u0_20 u0_21 u0_22 u0_23 u0_24 u0_25 u0_26 u0_27 u0_28 u0_29 u0_30 : Value) (x0_thrown : Int32) (x0_bestReds : Int32) (x0_bestPlaced : Int32) (x0_bestTurning : Int32) (y1_against : Nat → Int32) (y2_best : Nat → Int32) (y3_may : Nat → Int32) (y4_redThen : Nat → Int32) (y5_s : Nat → Int32) (y6_ways : Nat → Int32)   (r : Int32) (o_x0_thrown : Int32) (o_x0_bestReds : Int32) (o_x0_bestPlaced : Int32) (o_x0_bestTurning : Int32) (o_y1_against : Nat → Int32) (o_y2_best : Nat → Int32) (o_y3_may : Nat → Int32) (o_y4_redThen : Nat → Int32) (o_y6_ways : Nat → Int32) (hf : f_X9_placedThen x0_thrown x0_bestReds x0_bestPlaced x0_bestTurning y1_against y2_best y3_may y4_redThen y5_s y6_ways = some (r, o_x0_thrown, o_x0_bestReds, o_x0_bestPlaced, o_x0_bestTurning, o_y1_against, o_y2_best, o_y3_may, o_y4_redThen, o_y6_ways)) : MI l g yX9_placedThen wsX9_placedThen 17 401 [.ref a0] (w_X9_placedThen g a0 a1 a2 a3 a4 a5 a6 u0_1 u0_2 u0_3 u0_4 u0_5 u0_6 u0_8 u0_9 u0_10 u0_19 u0_20 u0_21 u0_22 u0_23 u0_24 u0_25 u0_26 u0_27 u0_28 u0_29 u0_30 x0_thrown x0_bestReds x0_bestPlaced x0_bestTurning y1_against y2_best y3_may y4_redThen y5_s y6_ways) sz (some (.int r)) (w_X9_placedThen g a0 a1 a2 a3 a4 a5 a6 u0_1 u0_2 u0_3 u0_4 u0_5 u0_6 u0_8 u0_9 u0_10 u0_19 u0_20 u0_21 u0_22 u0_23 u0_24 u0_25 u0_26 u0_27 u0_28 u0_29 u0_30 o_x0_thrown o_x0_bestReds o_x0_bestPlaced o_x0_bestTurning o_y1_against o_y2_best o_y3_may o_y4_redThen y5_s o_y6_ways) := by
  refine MI.start (cc := cX9_placedThen) (maxL := 1) (ret := (some .int)) rfl rfl (nle rfl) ?_
  intro p e s m args below meth c A ls Q hQ hexec hb hr hts hown hlocks hml hA hP hD hG hS hl
  unfold f_X9_placedThen at hf
  have hWX9 : ∀ w ∈ wsX90, w.before args s = true := fun w h => hts w (List.mem_cons_of_mem _ (List.mem_append_right _ h))
  have hS : va_S A s.heap s.heap [] := hS
  refine lv_aload_n (pc := 0) hexec hb dX9_placedThen_0 rfl (lv_at hl 0 rfl) ?_
  refine lv_iconst (pc := 1) hexec hb dX9_placedThen_1 ki_0 ?_
  refine kp_put (pc := 2) hexec hb (own := RX9) hWX9 tyX9 tyX9_ok nmX9 hown hG hP hD hS 0 rfl rfl 7 (nle rfl) (hts _ (List.mem_cons_of_mem _ (List.mem_append_left _ (List.mem_append_left _ (List.mem_of_getElem? (i := 0) rfl))))) rfl rfl rfl rfl (nle rfl) dX9_placedThen_2 (fun H locs (hP : va_P g.1 vwCl (w_X9_placedThen g a0 a1 a2 a3 a4 a5 a6 u0_1 u0_2 u0_3 u0_4 u0_5 u0_6 u0_8 u0_9 u0_10 u0_19 u0_20 u0_21 u0_22 u0_23 u0_24 u0_25 u0_26 u0_27 u0_28 u0_29 u0_30 0 x0_bestReds x0_bestPlaced x0_bestTurning y1_against y2_best y3_may y4_redThen y5_s y6_ways) H) (hD : va_D A (w_X9_placedThen g a0 a1 a2 a3 a4 a5 a6 u0_1 u0_2 u0_3 u0_4 u0_5 u0_6 u0_8 u0_9 u0_10 u0_19 u0_20 u0_21 u0_22 u0_23 u0_24 u0_25 u0_26 u0_27 u0_28 u0_29 u0_30 0 x0_bestReds x0_bestPlaced x0_bestTurning y1_against y2_best y3_may y4_redThen y5_s y6_ways)) hS => ?_)
  refine lv_aload_n (pc := 5) hexec hb dX9_placedThen_5 rfl (lv_at hl 0 rfl) ?_
  obtain ⟨x0_bestReds_1, x0_bestPlaced_1, x0_bestTurning_1, y1_against_1, y2_best_1, y3_may_1, y4_redThen_1, y6_ways_1, hc, hf⟩ := bd8_e hf
  refine kVp (pc := 6) (S := ⟨hexec, hb, hml, hown, hts⟩) hP hD hG hA hS [0, 1, 2, 3, 4, 5, 6] [] [0, 1, 2, 3, 4, 5, 6] (w2 := (w_X9_placedThen g a0 a1 a2 a3 a4 a5 a6 u0_1 u0_2 u0_3 u0_4 u0_5 u0_6 u0_8 u0_9 u0_10 u0_19 u0_20 u0_21 u0_22 u0_23 u0_24 u0_25 u0_26 u0_27 u0_28 u0_29 u0_30 0 x0_bestReds_1 x0_bestPlaced_1 x0_bestTurning_1 y1_against_1 y2_best_1 y3_may_1 y4_redThen_1 y5_s y6_ways_1)) rfl rfl rfl rfl rfl rfl (by decide) (c_X9_arrangesNow l g a0 a1 a2 a3 a4 a5 a6 _ u0_1 u0_2 u0_3 u0_4 u0_5 u0_6 (.int 0) u0_8 u0_9 u0_10 u0_19 u0_20 u0_21 u0_22 u0_23 u0_24 u0_25 u0_26 u0_27 u0_28 u0_29 u0_30 x0_bestReds x0_bestPlaced x0_bestTurning y1_against y2_best y3_may y4_redThen y5_s y6_ways x0_bestReds_1 x0_bestPlaced_1 x0_bestTurning_1 y1_against_1 y2_best_1 y3_may_1 y4_redThen_1 y6_ways_1 hc) gX9_placedThen_X9_arrangesNow rfl hv_X9_arrangesNow ⟨nle rfl, nle rfl⟩ 9 0 rfl rfl rfl (rest := []) rfl rfl hl.1 (nle rfl) dX9_placedThen_6 (fun H locs hP hD hS => ?_)
  refine lv_aload_n (pc := 9) hexec hb dX9_placedThen_9 rfl (lv_at hl 0 rfl) ?_
  refine kg_get (pc := 10) hexec hb (own := RX9) hWX9 hown hG hP 0 rfl rfl 14 (nle rfl) (hts _ (List.mem_cons_of_mem _ (List.mem_append_left _ (List.mem_append_left _ (List.mem_of_getElem? (i := 1) rfl))))) rfl rfl dX9_placedThen_10 ?_
  cases hf
  exact ke_i hQ hexec hb hr hP hD hS dX9_placedThen_13 hlocks
abbrev w_X9_arranged (g : GE) (a0 a1 a2 a3 a4 a5 a6 : Nat) (u0_1 u0_2 u0_3 u0_4 u0_5 u0_6 u0_8 u0_9 u0_10 u0_19 u0_20 u0_21 u0_22 u0_23 u0_24 u0_25 u0_26 u0_27 u0_28 u0_29 u0_30 : Value) (x0_thrown : Int32) (x0_bestReds : Int32) (x0_bestPlaced : Int32) (x0_bestTurning : Int32) (y1_against : Nat → Int32) (y2_best : Nat → Int32) (y3_may : Nat → Int32) (y4_redThen : Nat → Int32) (y5_s : Nat → Int32) (y6_ways : Nat → Int32) : va_W := [(a0, .inr (9, [.ref a5, u0_1, u0_2, u0_3, u0_4, u0_5, u0_6, .int x0_thrown, u0_8, u0_9, u0_10, .ref a6, .ref a2, .int x0_bestReds, .int x0_bestPlaced, .int x0_bestTurning, .ref a4, .ref a3, .ref a1, u0_19, u0_20, u0_21, u0_22, u0_23, u0_24, u0_25, u0_26, u0_27, u0_28, u0_29, u0_30])), (a1, .inl (g.2.1 1, 1024, .inl y1_against)), (a2, .inl (g.2.1 0, 8, .inl y2_best)), (a3, .inl (g.2.1 1, 32, .inl y3_may)), (a4, .inl (g.2.1 1, 8, .inl y4_redThen)), (a5, .inl (g.2.1 0, 552, .inl y5_s)), (a6, .inl (g.2.1 0, 8, .inl y6_ways))]
set_option maxRecDepth 20000 in
theorem c_X9_arranged (l : Launch) (g : GE) (a0 a1 a2 a3 a4 a5 a6 : Nat) (sz : Nat) (u0_1 u0_2 u0_3 u0_4 u0_5 u0_6 u0_8 u0_9 u0_10 u0_19 u0_20 u0_21 u0_22 u0_23 u0_24 u0_25 u0_26 u0_27 u0_28 u0_29 u0_30 : Value) (x0_thrown : Int32) (x0_bestReds : Int32) (x0_bestPlaced : Int32) (x0_bestTurning : Int32) (y1_against : Nat → Int32) (y2_best : Nat → Int32) (y3_may : Nat → Int32) (y4_redThen : Nat → Int32) (y5_s : Nat → Int32) (y6_ways : Nat → Int32) (p1 : Int32)  (r : Int32) (o_x0_thrown : Int32) (o_x0_bestReds : Int32) (o_x0_bestPlaced : Int32) (o_x0_bestTurning : Int32) (o_y1_against : Nat → Int32) (o_y2_best : Nat → Int32) (o_y3_may : Nat → Int32) (o_y4_redThen : Nat → Int32) (o_y6_ways : Nat → Int32) (hf : f_X9_arranged x0_thrown x0_bestReds x0_bestPlaced x0_bestTurning y1_against y2_best y3_may y4_redThen y5_s y6_ways p1 = some (r, o_x0_thrown, o_x0_bestReds, o_x0_bestPlaced, o_x0_bestTurning, o_y1_against, o_y2_best, o_y3_may, o_y4_redThen, o_y6_ways)) : MI l g yX9_arranged wsX9_arranged 17 401 [.ref a0, .int p1] (w_X9_arranged g a0 a1 a2 a3 a4 a5 a6 u0_1 u0_2 u0_3 u0_4 u0_5 u0_6 u0_8 u0_9 u0_10 u0_19 u0_20 u0_21 u0_22 u0_23 u0_24 u0_25 u0_26 u0_27 u0_28 u0_29 u0_30 x0_thrown x0_bestReds x0_bestPlaced x0_bestTurning y1_against y2_best y3_may y4_redThen y5_s y6_ways) sz (some (.int r)) (w_X9_arranged g a0 a1 a2 a3 a4 a5 a6 u0_1 u0_2 u0_3 u0_4 u0_5 u0_6 u0_8 u0_9 u0_10 u0_19 u0_20 u0_21 u0_22 u0_23 u0_24 u0_25 u0_26 u0_27 u0_28 u0_29 u0_30 o_x0_thrown o_x0_bestReds o_x0_bestPlaced o_x0_bestTurning o_y1_against o_y2_best o_y3_may o_y4_redThen y5_s o_y6_ways) := by
  refine MI.start (cc := cX9_arranged) (maxL := 2) (ret := (some .int)) rfl rfl (nle rfl) ?_
  intro p e s m args below meth c A ls Q hQ hexec hb hr hts hown hlocks hml hA hP hD hG hS hl
  unfold f_X9_arranged at hf
  have hWX9 : ∀ w ∈ wsX90, w.before args s = true := fun w h => hts w (List.mem_cons_of_mem _ (List.mem_append_right _ h))
  have hS : va_S A s.heap s.heap [] := hS
  refine lv_aload_n (pc := 0) hexec hb dX9_arranged_0 rfl (lv_at hl 0 rfl) ?_
  refine lv_iload_n (pc := 1) hexec hb dX9_arranged_1 rfl (lv_at hl 1 rfl) ?_
  obtain ⟨r2, x0_thrown_1, hc, hf⟩ := bd2_e hf
  refine kVp (pc := 2) (S := ⟨hexec, hb, hml, hown, hts⟩) hP hD hG hA hS [0, 5] [1, 2, 3, 4, 6] [5, 0, 1, 2, 3, 6, 4] (w2 := (w_X9_arranged g a0 a1 a2 a3 a4 a5 a6 u0_1 u0_2 u0_3 u0_4 u0_5 u0_6 u0_8 u0_9 u0_10 u0_19 u0_20 u0_21 u0_22 u0_23 u0_24 u0_25 u0_26 u0_27 u0_28 u0_29 u0_30 x0_thrown_1 x0_bestReds x0_bestPlaced x0_bestTurning y1_against y2_best y3_may y4_redThen y5_s y6_ways)) rfl rfl rfl rfl rfl rfl (by decide) (c_X9_mayHarbour l g a0 a5 _ u0_1 u0_2 u0_3 u0_4 u0_5 u0_6 u0_8 u0_9 u0_10 (.ref a6) (.ref a2) (.int x0_bestReds) (.int x0_bestPlaced) (.int x0_bestTurning) (.ref a4) (.ref a3) (.ref a1) u0_19 u0_20 u0_21 u0_22 u0_23 u0_24 u0_25 u0_26 u0_27 u0_28 u0_29 u0_30 x0_thrown y5_s p1 r2 x0_thrown_1 hc) gX9_arranged_X9_mayHarbour rfl hv_X9_mayHarbour ⟨nle rfl, nle rfl⟩ 9 0 rfl rfl rfl (rest := []) rfl rfl hl.1 (nle rfl) dX9_arranged_2 (fun H locs hP hD hS => ?_)
  refine kb_ne (pc := 5) hexec hb dX9_arranged_5 (tgt := 10) rfl hf (fun hc hf => ?_) (fun hc hf => ?_)
  · refine lv_aload_n (pc := 10) hexec hb dX9_arranged_10 rfl (lv_at hl 0 rfl) ?_
    obtain ⟨x0_bestReds_1, x0_bestPlaced_1, x0_bestTurning_1, y1_against_1, y2_best_1, y3_may_1, y4_redThen_1, y6_ways_1, hc, hf⟩ := bd8_e hf
    refine kVp (pc := 11) (S := ⟨hexec, hb, hml, hown, hts⟩) hP hD hG hA hS [0, 1, 2, 3, 4, 5, 6] [] [0, 1, 2, 3, 4, 5, 6] (w2 := (w_X9_arranged g a0 a1 a2 a3 a4 a5 a6 u0_1 u0_2 u0_3 u0_4 u0_5 u0_6 u0_8 u0_9 u0_10 u0_19 u0_20 u0_21 u0_22 u0_23 u0_24 u0_25 u0_26 u0_27 u0_28 u0_29 u0_30 x0_thrown_1 x0_bestReds_1 x0_bestPlaced_1 x0_bestTurning_1 y1_against_1 y2_best_1 y3_may_1 y4_redThen_1 y5_s y6_ways_1)) rfl rfl rfl rfl rfl rfl (by decide) (c_X9_arrangesNow l g a0 a1 a2 a3 a4 a5 a6 _ u0_1 u0_2 u0_3 u0_4 u0_5 u0_6 (.int x0_thrown_1) u0_8 u0_9 u0_10 u0_19 u0_20 u0_21 u0_22 u0_23 u0_24 u0_25 u0_26 u0_27 u0_28 u0_29 u0_30 x0_bestReds x0_bestPlaced x0_bestTurning y1_against y2_best y3_may y4_redThen y5_s y6_ways x0_bestReds_1 x0_bestPlaced_1 x0_bestTurning_1 y1_against_1 y2_best_1 y3_may_1 y4_redThen_1 y6_ways_1 hc) gX9_arranged_X9_arrangesNow rfl hv_X9_arrangesNow ⟨nle rfl, nle rfl⟩ 9 0 rfl rfl rfl (rest := []) rfl rfl hl.1 (nle rfl) dX9_arranged_11 (fun H locs hP hD hS => ?_)
    refine lv_aload_n (pc := 14) hexec hb dX9_arranged_14 rfl (lv_at hl 0 rfl) ?_
    refine kg_get (pc := 15) hexec hb (own := RX9) hWX9 hown hG hP 0 rfl rfl 12 (nle rfl) (hts _ (List.mem_cons_of_mem _ (List.mem_append_left _ (List.mem_append_left _ (List.mem_of_getElem? (i := 0) rfl))))) rfl rfl dX9_arranged_15 ?_
    refine lv_iload_n (pc := 18) hexec hb dX9_arranged_18 rfl (lv_at hl 1 rfl) ?_
    refine kr_iald (pc := 19) hexec hb hG hP 2 rfl hf dX9_arranged_19 (fun hf => ?_)
    cases hf
    exact ke_i hQ hexec hb hr hP hD hS dX9_arranged_20 hlocks
  · refine lv_iconst (pc := 8) hexec hb dX9_arranged_8 ki_0 ?_
    cases hf
    exact ke_i hQ hexec hb hr hP hD hS dX9_arranged_9 hlocks
abbrev w_X9_leastIf (g : GE) (a0 a1 a2 a3 a4 a5 a6 : Nat) (u0_1 u0_2 u0_3 u0_4 u0_5 u0_6 u0_8 u0_9 u0_10 u0_19 u0_20 u0_21 u0_22 u0_23 u0_24 u0_25 u0_26 u0_27 u0_28 u0_29 u0_30 : Value) (x0_thrown : Int32) (x0_bestReds : Int32) (x0_bestPlaced : Int32) (x0_bestTurning : Int32) (y1_against : Nat → Int32) (y2_best : Nat → Int32) (y3_may : Nat → Int32) (y4_redThen : Nat → Int32) (y5_s : Nat → Int32) (y6_ways : Nat → Int32) : va_W := [(a0, .inr (9, [.ref a5, u0_1, u0_2, u0_3, u0_4, u0_5, u0_6, .int x0_thrown, u0_8, u0_9, u0_10, .ref a6, .ref a2, .int x0_bestReds, .int x0_bestPlaced, .int x0_bestTurning, .ref a4, .ref a3, .ref a1, u0_19, u0_20, u0_21, u0_22, u0_23, u0_24, u0_25, u0_26, u0_27, u0_28, u0_29, u0_30])), (a1, .inl (g.2.1 1, 1024, .inl y1_against)), (a2, .inl (g.2.1 0, 8, .inl y2_best)), (a3, .inl (g.2.1 1, 32, .inl y3_may)), (a4, .inl (g.2.1 1, 8, .inl y4_redThen)), (a5, .inl (g.2.1 0, 552, .inl y5_s)), (a6, .inl (g.2.1 0, 8, .inl y6_ways))]
set_option maxRecDepth 20000 in
theorem c_X9_leastIf (l : Launch) (g : GE) (a0 a1 a2 a3 a4 a5 a6 : Nat) (sz : Nat) (u0_1 u0_2 u0_3 u0_4 u0_5 u0_6 u0_8 u0_9 u0_10 u0_19 u0_20 u0_21 u0_22 u0_23 u0_24 u0_25 u0_26 u0_27 u0_28 u0_29 u0_30 : Value) (x0_thrown : Int32) (x0_bestReds : Int32) (x0_bestPlaced : Int32) (x0_bestTurning : Int32) (y1_against : Nat → Int32) (y2_best : Nat → Int32) (y3_may : Nat → Int32) (y4_redThen : Nat → Int32) (y5_s : Nat → Int32) (y6_ways : Nat → Int32) (p1 : Int32) (p2 : Int32)  (r : Int32) (o_x0_thrown : Int32) (o_x0_bestReds : Int32) (o_x0_bestPlaced : Int32) (o_x0_bestTurning : Int32) (o_y1_against : Nat → Int32) (o_y2_best : Nat → Int32) (o_y3_may : Nat → Int32) (o_y4_redThen : Nat → Int32) (o_y6_ways : Nat → Int32) (hf : f_X9_leastIf x0_thrown x0_bestReds x0_bestPlaced x0_bestTurning y1_against y2_best y3_may y4_redThen y5_s y6_ways p1 p2 = some (r, o_x0_thrown, o_x0_bestReds, o_x0_bestPlaced, o_x0_bestTurning, o_y1_against, o_y2_best, o_y3_may, o_y4_redThen, o_y6_ways)) : MI l g yX9_leastIf wsX9_leastIf 17 403 [.ref a0, .int p1, .int p2] (w_X9_leastIf g a0 a1 a2 a3 a4 a5 a6 u0_1 u0_2 u0_3 u0_4 u0_5 u0_6 u0_8 u0_9 u0_10 u0_19 u0_20 u0_21 u0_22 u0_23 u0_24 u0_25 u0_26 u0_27 u0_28 u0_29 u0_30 x0_thrown x0_bestReds x0_bestPlaced x0_bestTurning y1_against y2_best y3_may y4_redThen y5_s y6_ways) sz (some (.int r)) (w_X9_leastIf g a0 a1 a2 a3 a4 a5 a6 u0_1 u0_2 u0_3 u0_4 u0_5 u0_6 u0_8 u0_9 u0_10 u0_19 u0_20 u0_21 u0_22 u0_23 u0_24 u0_25 u0_26 u0_27 u0_28 u0_29 u0_30 o_x0_thrown o_x0_bestReds o_x0_bestPlaced o_x0_bestTurning o_y1_against o_y2_best o_y3_may o_y4_redThen y5_s o_y6_ways) := by
  refine MI.start (cc := cX9_leastIf) (maxL := 3) (ret := (some .int)) rfl rfl (nle rfl) ?_
  intro p e s m args below meth c A ls Q hQ hexec hb hr hts hown hlocks hml hA hP hD hG hS hl
  unfold f_X9_leastIf at hf
  have hWX9 : ∀ w ∈ wsX90, w.before args s = true := fun w h => hts w (List.mem_cons_of_mem _ (List.mem_append_right _ h))
  have hS : va_S A s.heap s.heap [] := hS
  refine lv_aload_n (pc := 0) hexec hb dX9_leastIf_0 rfl (lv_at hl 0 rfl) ?_
  refine lv_iload_n (pc := 1) hexec hb dX9_leastIf_1 rfl (lv_at hl 1 rfl) ?_
  obtain ⟨r2, x0_thrown_1, hc, hf⟩ := bd2_e hf
  refine kVp (pc := 2) (S := ⟨hexec, hb, hml, hown, hts⟩) hP hD hG hA hS [0, 5] [1, 2, 3, 4, 6] [5, 0, 1, 2, 3, 6, 4] (w2 := (w_X9_leastIf g a0 a1 a2 a3 a4 a5 a6 u0_1 u0_2 u0_3 u0_4 u0_5 u0_6 u0_8 u0_9 u0_10 u0_19 u0_20 u0_21 u0_22 u0_23 u0_24 u0_25 u0_26 u0_27 u0_28 u0_29 u0_30 x0_thrown_1 x0_bestReds x0_bestPlaced x0_bestTurning y1_against y2_best y3_may y4_redThen y5_s y6_ways)) rfl rfl rfl rfl rfl rfl (by decide) (c_X9_mayHarbour l g a0 a5 _ u0_1 u0_2 u0_3 u0_4 u0_5 u0_6 u0_8 u0_9 u0_10 (.ref a6) (.ref a2) (.int x0_bestReds) (.int x0_bestPlaced) (.int x0_bestTurning) (.ref a4) (.ref a3) (.ref a1) u0_19 u0_20 u0_21 u0_22 u0_23 u0_24 u0_25 u0_26 u0_27 u0_28 u0_29 u0_30 x0_thrown y5_s p1 r2 x0_thrown_1 hc) gX9_leastIf_X9_mayHarbour rfl hv_X9_mayHarbour ⟨nle rfl, nle rfl⟩ 9 0 rfl rfl rfl (rest := []) rfl rfl hl.1 (nle rfl) dX9_leastIf_2 (fun H locs hP hD hS => ?_)
  refine kb_ne (pc := 5) hexec hb dX9_leastIf_5 (tgt := 10) rfl hf (fun hc hf => ?_) (fun hc hf => ?_)
  · refine lv_aload_n (pc := 10) hexec hb dX9_leastIf_10 rfl (lv_at hl 0 rfl) ?_
    refine lv_iload_n (pc := 11) hexec hb dX9_leastIf_11 rfl (lv_at hl 1 rfl) ?_
    refine lv_iload_n (pc := 12) hexec hb dX9_leastIf_12 rfl (lv_at hl 2 rfl) ?_
    obtain ⟨x0_bestReds_1, x0_bestPlaced_1, x0_bestTurning_1, y1_against_1, y2_best_1, y3_may_1, y4_redThen_1, y6_ways_1, hc, hf⟩ := bd8_e hf
    refine kVp (pc := 13) (S := ⟨hexec, hb, hml, hown, hts⟩) hP hD hG hA hS [0, 1, 2, 3, 4, 5, 6] [] [0, 1, 2, 3, 4, 5, 6] (w2 := (w_X9_leastIf g a0 a1 a2 a3 a4 a5 a6 u0_1 u0_2 u0_3 u0_4 u0_5 u0_6 u0_8 u0_9 u0_10 u0_19 u0_20 u0_21 u0_22 u0_23 u0_24 u0_25 u0_26 u0_27 u0_28 u0_29 u0_30 x0_thrown_1 x0_bestReds_1 x0_bestPlaced_1 x0_bestTurning_1 y1_against_1 y2_best_1 y3_may_1 y4_redThen_1 y5_s y6_ways_1)) rfl rfl rfl rfl rfl rfl (by decide) (c_X9_arrangesIf l g a0 a1 a2 a3 a4 a5 a6 _ u0_1 u0_2 u0_3 u0_4 u0_5 u0_6 (.int x0_thrown_1) u0_8 u0_9 u0_10 u0_19 u0_20 u0_21 u0_22 u0_23 u0_24 u0_25 u0_26 u0_27 u0_28 u0_29 u0_30 x0_bestReds x0_bestPlaced x0_bestTurning y1_against y2_best y3_may y4_redThen y5_s y6_ways p1 p2 x0_bestReds_1 x0_bestPlaced_1 x0_bestTurning_1 y1_against_1 y2_best_1 y3_may_1 y4_redThen_1 y6_ways_1 hc) gX9_leastIf_X9_arrangesIf rfl hv_X9_arrangesIf ⟨nle rfl, nle rfl⟩ 9 0 rfl rfl rfl (rest := []) rfl rfl hl.1 (nle rfl) dX9_leastIf_13 (fun H locs hP hD hS => ?_)
    refine lv_aload_n (pc := 16) hexec hb dX9_leastIf_16 rfl (lv_at hl 0 rfl) ?_
    refine kg_get (pc := 17) hexec hb (own := RX9) hWX9 hown hG hP 0 rfl rfl 15 (nle rfl) (hts _ (List.mem_cons_of_mem _ (List.mem_append_left _ (List.mem_append_left _ (List.mem_of_getElem? (i := 0) rfl))))) rfl rfl dX9_leastIf_17 ?_
    cases hf
    exact ke_i hQ hexec hb hr hP hD hS dX9_leastIf_20 hlocks
  · refine lv_iconst (pc := 8) hexec hb dX9_leastIf_8 ki_0 ?_
    cases hf
    exact ke_i hQ hexec hb hr hP hD hS dX9_leastIf_9 hlocks
abbrev w_X9_placedIf (g : GE) (a0 a1 a2 a3 a4 a5 a6 : Nat) (u0_1 u0_2 u0_3 u0_4 u0_5 u0_6 u0_8 u0_9 u0_10 u0_19 u0_20 u0_21 u0_22 u0_23 u0_24 u0_25 u0_26 u0_27 u0_28 u0_29 u0_30 : Value) (x0_thrown : Int32) (x0_bestReds : Int32) (x0_bestPlaced : Int32) (x0_bestTurning : Int32) (y1_against : Nat → Int32) (y2_best : Nat → Int32) (y3_may : Nat → Int32) (y4_redThen : Nat → Int32) (y5_s : Nat → Int32) (y6_ways : Nat → Int32) : va_W := [(a0, .inr (9, [.ref a5, u0_1, u0_2, u0_3, u0_4, u0_5, u0_6, .int x0_thrown, u0_8, u0_9, u0_10, .ref a6, .ref a2, .int x0_bestReds, .int x0_bestPlaced, .int x0_bestTurning, .ref a4, .ref a3, .ref a1, u0_19, u0_20, u0_21, u0_22, u0_23, u0_24, u0_25, u0_26, u0_27, u0_28, u0_29, u0_30])), (a1, .inl (g.2.1 1, 1024, .inl y1_against)), (a2, .inl (g.2.1 0, 8, .inl y2_best)), (a3, .inl (g.2.1 1, 32, .inl y3_may)), (a4, .inl (g.2.1 1, 8, .inl y4_redThen)), (a5, .inl (g.2.1 0, 552, .inl y5_s)), (a6, .inl (g.2.1 0, 8, .inl y6_ways))]
set_option maxRecDepth 20000 in
theorem c_X9_placedIf (l : Launch) (g : GE) (a0 a1 a2 a3 a4 a5 a6 : Nat) (sz : Nat) (u0_1 u0_2 u0_3 u0_4 u0_5 u0_6 u0_8 u0_9 u0_10 u0_19 u0_20 u0_21 u0_22 u0_23 u0_24 u0_25 u0_26 u0_27 u0_28 u0_29 u0_30 : Value) (x0_thrown : Int32) (x0_bestReds : Int32) (x0_bestPlaced : Int32) (x0_bestTurning : Int32) (y1_against : Nat → Int32) (y2_best : Nat → Int32) (y3_may : Nat → Int32) (y4_redThen : Nat → Int32) (y5_s : Nat → Int32) (y6_ways : Nat → Int32) (p1 : Int32) (p2 : Int32)  (r : Int32) (o_x0_thrown : Int32) (o_x0_bestReds : Int32) (o_x0_bestPlaced : Int32) (o_x0_bestTurning : Int32) (o_y1_against : Nat → Int32) (o_y2_best : Nat → Int32) (o_y3_may : Nat → Int32) (o_y4_redThen : Nat → Int32) (o_y6_ways : Nat → Int32) (hf : f_X9_placedIf x0_thrown x0_bestReds x0_bestPlaced x0_bestTurning y1_against y2_best y3_may y4_redThen y5_s y6_ways p1 p2 = some (r, o_x0_thrown, o_x0_bestReds, o_x0_bestPlaced, o_x0_bestTurning, o_y1_against, o_y2_best, o_y3_may, o_y4_redThen, o_y6_ways)) : MI l g yX9_placedIf wsX9_placedIf 17 403 [.ref a0, .int p1, .int p2] (w_X9_placedIf g a0 a1 a2 a3 a4 a5 a6 u0_1 u0_2 u0_3 u0_4 u0_5 u0_6 u0_8 u0_9 u0_10 u0_19 u0_20 u0_21 u0_22 u0_23 u0_24 u0_25 u0_26 u0_27 u0_28 u0_29 u0_30 x0_thrown x0_bestReds x0_bestPlaced x0_bestTurning y1_against y2_best y3_may y4_redThen y5_s y6_ways) sz (some (.int r)) (w_X9_placedIf g a0 a1 a2 a3 a4 a5 a6 u0_1 u0_2 u0_3 u0_4 u0_5 u0_6 u0_8 u0_9 u0_10 u0_19 u0_20 u0_21 u0_22 u0_23 u0_24 u0_25 u0_26 u0_27 u0_28 u0_29 u0_30 o_x0_thrown o_x0_bestReds o_x0_bestPlaced o_x0_bestTurning o_y1_against o_y2_best o_y3_may o_y4_redThen y5_s o_y6_ways) := by
  refine MI.start (cc := cX9_placedIf) (maxL := 3) (ret := (some .int)) rfl rfl (nle rfl) ?_
  intro p e s m args below meth c A ls Q hQ hexec hb hr hts hown hlocks hml hA hP hD hG hS hl
  unfold f_X9_placedIf at hf
  have hWX9 : ∀ w ∈ wsX90, w.before args s = true := fun w h => hts w (List.mem_cons_of_mem _ (List.mem_append_right _ h))
  have hS : va_S A s.heap s.heap [] := hS
  refine lv_aload_n (pc := 0) hexec hb dX9_placedIf_0 rfl (lv_at hl 0 rfl) ?_
  refine lv_iload_n (pc := 1) hexec hb dX9_placedIf_1 rfl (lv_at hl 1 rfl) ?_
  obtain ⟨r2, x0_thrown_1, hc, hf⟩ := bd2_e hf
  refine kVp (pc := 2) (S := ⟨hexec, hb, hml, hown, hts⟩) hP hD hG hA hS [0, 5] [1, 2, 3, 4, 6] [5, 0, 1, 2, 3, 6, 4] (w2 := (w_X9_placedIf g a0 a1 a2 a3 a4 a5 a6 u0_1 u0_2 u0_3 u0_4 u0_5 u0_6 u0_8 u0_9 u0_10 u0_19 u0_20 u0_21 u0_22 u0_23 u0_24 u0_25 u0_26 u0_27 u0_28 u0_29 u0_30 x0_thrown_1 x0_bestReds x0_bestPlaced x0_bestTurning y1_against y2_best y3_may y4_redThen y5_s y6_ways)) rfl rfl rfl rfl rfl rfl (by decide) (c_X9_mayHarbour l g a0 a5 _ u0_1 u0_2 u0_3 u0_4 u0_5 u0_6 u0_8 u0_9 u0_10 (.ref a6) (.ref a2) (.int x0_bestReds) (.int x0_bestPlaced) (.int x0_bestTurning) (.ref a4) (.ref a3) (.ref a1) u0_19 u0_20 u0_21 u0_22 u0_23 u0_24 u0_25 u0_26 u0_27 u0_28 u0_29 u0_30 x0_thrown y5_s p1 r2 x0_thrown_1 hc) gX9_placedIf_X9_mayHarbour rfl hv_X9_mayHarbour ⟨nle rfl, nle rfl⟩ 9 0 rfl rfl rfl (rest := []) rfl rfl hl.1 (nle rfl) dX9_placedIf_2 (fun H locs hP hD hS => ?_)
  refine kb_ne (pc := 5) hexec hb dX9_placedIf_5 (tgt := 10) rfl hf (fun hc hf => ?_) (fun hc hf => ?_)
  · refine lv_aload_n (pc := 10) hexec hb dX9_placedIf_10 rfl (lv_at hl 0 rfl) ?_
    refine lv_iload_n (pc := 11) hexec hb dX9_placedIf_11 rfl (lv_at hl 1 rfl) ?_
    refine lv_iload_n (pc := 12) hexec hb dX9_placedIf_12 rfl (lv_at hl 2 rfl) ?_
    obtain ⟨x0_bestReds_1, x0_bestPlaced_1, x0_bestTurning_1, y1_against_1, y2_best_1, y3_may_1, y4_redThen_1, y6_ways_1, hc, hf⟩ := bd8_e hf
    refine kVp (pc := 13) (S := ⟨hexec, hb, hml, hown, hts⟩) hP hD hG hA hS [0, 1, 2, 3, 4, 5, 6] [] [0, 1, 2, 3, 4, 5, 6] (w2 := (w_X9_placedIf g a0 a1 a2 a3 a4 a5 a6 u0_1 u0_2 u0_3 u0_4 u0_5 u0_6 u0_8 u0_9 u0_10 u0_19 u0_20 u0_21 u0_22 u0_23 u0_24 u0_25 u0_26 u0_27 u0_28 u0_29 u0_30 x0_thrown_1 x0_bestReds_1 x0_bestPlaced_1 x0_bestTurning_1 y1_against_1 y2_best_1 y3_may_1 y4_redThen_1 y5_s y6_ways_1)) rfl rfl rfl rfl rfl rfl (by decide) (c_X9_arrangesIf l g a0 a1 a2 a3 a4 a5 a6 _ u0_1 u0_2 u0_3 u0_4 u0_5 u0_6 (.int x0_thrown_1) u0_8 u0_9 u0_10 u0_19 u0_20 u0_21 u0_22 u0_23 u0_24 u0_25 u0_26 u0_27 u0_28 u0_29 u0_30 x0_bestReds x0_bestPlaced x0_bestTurning y1_against y2_best y3_may y4_redThen y5_s y6_ways p1 p2 x0_bestReds_1 x0_bestPlaced_1 x0_bestTurning_1 y1_against_1 y2_best_1 y3_may_1 y4_redThen_1 y6_ways_1 hc) gX9_placedIf_X9_arrangesIf rfl hv_X9_arrangesIf ⟨nle rfl, nle rfl⟩ 9 0 rfl rfl rfl (rest := []) rfl rfl hl.1 (nle rfl) dX9_placedIf_13 (fun H locs hP hD hS => ?_)
    refine lv_aload_n (pc := 16) hexec hb dX9_placedIf_16 rfl (lv_at hl 0 rfl) ?_
    refine kg_get (pc := 17) hexec hb (own := RX9) hWX9 hown hG hP 0 rfl rfl 14 (nle rfl) (hts _ (List.mem_cons_of_mem _ (List.mem_append_left _ (List.mem_append_left _ (List.mem_of_getElem? (i := 0) rfl))))) rfl rfl dX9_placedIf_17 ?_
    cases hf
    exact ke_i hQ hexec hb hr hP hD hS dX9_placedIf_20 hlocks
  · refine lv_iconst (pc := 8) hexec hb dX9_placedIf_8 ki_0 ?_
    cases hf
    exact ke_i hQ hexec hb hr hP hD hS dX9_placedIf_9 hlocks
abbrev w_X9_shy (g : GE) (a0 a1 a2 a3 a4 a5 a6 : Nat) (u0_1 u0_2 u0_3 u0_4 u0_5 u0_6 u0_8 u0_9 u0_10 u0_19 u0_20 u0_21 u0_22 u0_23 u0_24 u0_25 u0_26 u0_27 u0_28 u0_29 u0_30 : Value) (x0_thrown : Int32) (x0_bestReds : Int32) (x0_bestPlaced : Int32) (x0_bestTurning : Int32) (y1_against : Nat → Int32) (y2_best : Nat → Int32) (y3_may : Nat → Int32) (y4_redThen : Nat → Int32) (y5_s : Nat → Int32) (y6_ways : Nat → Int32) : va_W := [(a0, .inr (9, [.ref a5, u0_1, u0_2, u0_3, u0_4, u0_5, u0_6, .int x0_thrown, u0_8, u0_9, u0_10, .ref a6, .ref a2, .int x0_bestReds, .int x0_bestPlaced, .int x0_bestTurning, .ref a4, .ref a3, .ref a1, u0_19, u0_20, u0_21, u0_22, u0_23, u0_24, u0_25, u0_26, u0_27, u0_28, u0_29, u0_30])), (a1, .inl (g.2.1 1, 1024, .inl y1_against)), (a2, .inl (g.2.1 0, 8, .inl y2_best)), (a3, .inl (g.2.1 1, 32, .inl y3_may)), (a4, .inl (g.2.1 1, 8, .inl y4_redThen)), (a5, .inl (g.2.1 0, 552, .inl y5_s)), (a6, .inl (g.2.1 0, 8, .inl y6_ways))]
set_option maxRecDepth 20000 in
theorem c_X9_shy (l : Launch) (g : GE) (a0 a1 a2 a3 a4 a5 a6 : Nat) (sz : Nat) (u0_1 u0_2 u0_3 u0_4 u0_5 u0_6 u0_8 u0_9 u0_10 u0_19 u0_20 u0_21 u0_22 u0_23 u0_24 u0_25 u0_26 u0_27 u0_28 u0_29 u0_30 : Value) (x0_thrown : Int32) (x0_bestReds : Int32) (x0_bestPlaced : Int32) (x0_bestTurning : Int32) (y1_against : Nat → Int32) (y2_best : Nat → Int32) (y3_may : Nat → Int32) (y4_redThen : Nat → Int32) (y5_s : Nat → Int32) (y6_ways : Nat → Int32)   (r : Int32) (o_x0_thrown : Int32) (o_x0_bestReds : Int32) (o_x0_bestPlaced : Int32) (o_x0_bestTurning : Int32) (o_y1_against : Nat → Int32) (o_y2_best : Nat → Int32) (o_y3_may : Nat → Int32) (o_y4_redThen : Nat → Int32) (o_y6_ways : Nat → Int32) (hf : f_X9_shy x0_thrown x0_bestReds x0_bestPlaced x0_bestTurning y1_against y2_best y3_may y4_redThen y5_s y6_ways = some (r, o_x0_thrown, o_x0_bestReds, o_x0_bestPlaced, o_x0_bestTurning, o_y1_against, o_y2_best, o_y3_may, o_y4_redThen, o_y6_ways)) : MI l g yX9_shy wsX9_shy 16 380 [.ref a0] (w_X9_shy g a0 a1 a2 a3 a4 a5 a6 u0_1 u0_2 u0_3 u0_4 u0_5 u0_6 u0_8 u0_9 u0_10 u0_19 u0_20 u0_21 u0_22 u0_23 u0_24 u0_25 u0_26 u0_27 u0_28 u0_29 u0_30 x0_thrown x0_bestReds x0_bestPlaced x0_bestTurning y1_against y2_best y3_may y4_redThen y5_s y6_ways) sz (some (.int r)) (w_X9_shy g a0 a1 a2 a3 a4 a5 a6 u0_1 u0_2 u0_3 u0_4 u0_5 u0_6 u0_8 u0_9 u0_10 u0_19 u0_20 u0_21 u0_22 u0_23 u0_24 u0_25 u0_26 u0_27 u0_28 u0_29 u0_30 o_x0_thrown o_x0_bestReds o_x0_bestPlaced o_x0_bestTurning o_y1_against o_y2_best o_y3_may o_y4_redThen y5_s o_y6_ways) := by
  refine MI.start (cc := cX9_shy) (maxL := 4) (ret := (some .int)) rfl rfl (nle rfl) ?_
  intro p e s m args below meth c A ls Q hQ hexec hb hr hts hown hlocks hml hA hP hD hG hS hl
  unfold f_X9_shy at hf
  have hWX9 : ∀ w ∈ wsX90, w.before args s = true := fun w h => hts w (List.mem_cons_of_mem _ (List.mem_append_right _ h))
  have hS : va_S A s.heap s.heap [] := hS
  refine lv_aload_n (pc := 0) hexec hb dX9_shy_0 rfl (lv_at hl 0 rfl) ?_
  refine lv_iconst (pc := 1) hexec hb dX9_shy_1 ki_0 ?_
  refine kp_put (pc := 2) hexec hb (own := RX9) hWX9 tyX9 tyX9_ok nmX9 hown hG hP hD hS 0 rfl rfl 7 (nle rfl) (hts _ (List.mem_cons_of_mem _ (List.mem_append_left _ (List.mem_append_left _ (List.mem_of_getElem? (i := 0) rfl))))) rfl rfl rfl rfl (nle rfl) dX9_shy_2 (fun H locs (hP : va_P g.1 vwCl (w_X9_shy g a0 a1 a2 a3 a4 a5 a6 u0_1 u0_2 u0_3 u0_4 u0_5 u0_6 u0_8 u0_9 u0_10 u0_19 u0_20 u0_21 u0_22 u0_23 u0_24 u0_25 u0_26 u0_27 u0_28 u0_29 u0_30 0 x0_bestReds x0_bestPlaced x0_bestTurning y1_against y2_best y3_may y4_redThen y5_s y6_ways) H) (hD : va_D A (w_X9_shy g a0 a1 a2 a3 a4 a5 a6 u0_1 u0_2 u0_3 u0_4 u0_5 u0_6 u0_8 u0_9 u0_10 u0_19 u0_20 u0_21 u0_22 u0_23 u0_24 u0_25 u0_26 u0_27 u0_28 u0_29 u0_30 0 x0_bestReds x0_bestPlaced x0_bestTurning y1_against y2_best y3_may y4_redThen y5_s y6_ways)) hS => ?_)
  refine lv_iconst (pc := 5) hexec hb dX9_shy_5 ki_0 ?_
  refine lv_istore_n (pc := 6) hexec hb dX9_shy_6 rfl hl (nle rfl) rfl (fun ls (hl : lv_has ls 4 [(1, .int 0), (0, .ref a0)]) => ?_)
  refine lv_iconst (pc := 7) hexec hb dX9_shy_7 ki_0 ?_
  refine lv_istore_n (pc := 8) hexec hb dX9_shy_8 rfl hl (nle rfl) rfl (fun ls (hl : lv_has ls 4 [(2, .int 0), (1, .int 0), (0, .ref a0)]) => ?_)
  obtain ⟨l9, el9, hf⟩ := bvf10 hf
  obtain ⟨v1_1, x0_bestReds_2, x0_bestPlaced_2, x0_bestTurning_2, y1_against_2, y2_best_2, y3_may_2, y4_redThen_2, y6_ways_2, hz, hf⟩ := bd9_e hf
  have hE9 : ∀ (H : Heap) (locs : List Loc) (ls : Array Slot), va_P g.1 vwCl (w_X9_shy g a0 a1 a2 a3 a4 a5 a6 u0_1 u0_2 u0_3 u0_4 u0_5 u0_6 u0_8 u0_9 u0_10 u0_19 u0_20 u0_21 u0_22 u0_23 u0_24 u0_25 u0_26 u0_27 u0_28 u0_29 u0_30 0 x0_bestReds_2 x0_bestPlaced_2 x0_bestTurning_2 y1_against_2 y2_best_2 y3_may_2 y4_redThen_2 y5_s y6_ways_2) H → va_D A (w_X9_shy g a0 a1 a2 a3 a4 a5 a6 u0_1 u0_2 u0_3 u0_4 u0_5 u0_6 u0_8 u0_9 u0_10 u0_19 u0_20 u0_21 u0_22 u0_23 u0_24 u0_25 u0_26 u0_27 u0_28 u0_29 u0_30 0 x0_bestReds_2 x0_bestPlaced_2 x0_bestTurning_2 y1_against_2 y2_best_2 y3_may_2 y4_redThen_2 y5_s y6_ways_2) → va_S A s.heap H locs → lv_has ls 4 [(1, .int v1_1)] → W p l e (RM 16 380) s m args below meth c H locs 0 0 Q (F0 m 84 ls []) := by
    intro H locs ls hP hD hS hl
    refine lv_iload_n (pc := 84) hexec hb dX9_shy_84 rfl (lv_at hl 0 rfl) ?_
    cases hf
    exact ke_i hQ hexec hb hr hP hD hS dX9_shy_85 hlocks
  obtain ⟨n, hz⟩ := lq10_e hz
  have hL9 : ∀ (n : Nat) (v1 : Int32) (v2 : Int32) (x0_bestReds_1 : Int32) (x0_bestPlaced_1 : Int32) (x0_bestTurning_1 : Int32) (y1_against_1 : Nat → Int32) (y2_best_1 : Nat → Int32) (y3_may_1 : Nat → Int32) (y4_redThen_1 : Nat → Int32) (y6_ways_1 : Nat → Int32) (H : Heap) (locs : List Loc) (ls : Array Slot), it10 l9 n v1 v2 x0_bestReds_1 x0_bestPlaced_1 x0_bestTurning_1 y1_against_1 y2_best_1 y3_may_1 y4_redThen_1 y6_ways_1 = some (v1_1, x0_bestReds_2, x0_bestPlaced_2, x0_bestTurning_2, y1_against_2, y2_best_2, y3_may_2, y4_redThen_2, y6_ways_2) → va_P g.1 vwCl (w_X9_shy g a0 a1 a2 a3 a4 a5 a6 u0_1 u0_2 u0_3 u0_4 u0_5 u0_6 u0_8 u0_9 u0_10 u0_19 u0_20 u0_21 u0_22 u0_23 u0_24 u0_25 u0_26 u0_27 u0_28 u0_29 u0_30 0 x0_bestReds_1 x0_bestPlaced_1 x0_bestTurning_1 y1_against_1 y2_best_1 y3_may_1 y4_redThen_1 y5_s y6_ways_1) H → va_D A (w_X9_shy g a0 a1 a2 a3 a4 a5 a6 u0_1 u0_2 u0_3 u0_4 u0_5 u0_6 u0_8 u0_9 u0_10 u0_19 u0_20 u0_21 u0_22 u0_23 u0_24 u0_25 u0_26 u0_27 u0_28 u0_29 u0_30 0 x0_bestReds_1 x0_bestPlaced_1 x0_bestTurning_1 y1_against_1 y2_best_1 y3_may_1 y4_redThen_1 y5_s y6_ways_1) → va_S A s.heap H locs → lv_has ls 4 [(0, .ref a0), (1, .int v1), (2, .int v2)] → W p l e (RM 16 380) s m args below meth c H locs 0 0 Q (F0 m 9 ls []) := by
    intro n
    induction n with
    | zero =>
      intro v1 v2 x0_bestReds_1 x0_bestPlaced_1 x0_bestTurning_1 y1_against_1 y2_best_1 y3_may_1 y4_redThen_1 y6_ways_1 H locs ls hf hP hD hS hl
      exact it10_0 hf
    | succ n9 ih9 =>
      intro v1 v2 x0_bestReds_1 x0_bestPlaced_1 x0_bestTurning_1 y1_against_1 y2_best_1 y3_may_1 y4_redThen_1 y6_ways_1 H locs ls hf hP hD hS hl
      obtain ⟨q9, hf, hk9⟩ := it10_e hf
      have hf := (el9 v1 v2 x0_bestReds_1 x0_bestPlaced_1 x0_bestTurning_1 y1_against_1 y2_best_1 y3_may_1 y4_redThen_1 y6_ways_1).symm.trans hf
      refine lv_iload_n (pc := 9) hexec hb dX9_shy_9 rfl (lv_at hl 2 rfl) ?_
      refine lv_aload_n (pc := 10) hexec hb dX9_shy_10 rfl (lv_at hl 0 rfl) ?_
      refine kg_get (pc := 11) hexec hb (own := RX9) hWX9 hown hG hP 0 rfl rfl 0 (nle rfl) (hts _ (List.mem_cons_of_mem _ (List.mem_append_left _ (List.mem_append_left _ (List.mem_of_getElem? (i := 1) rfl))))) rfl rfl dX9_shy_11 ?_
      refine lv_iconst (pc := 14) hexec hb dX9_shy_14 ki_2 ?_
      refine kr_iald (pc := 15) hexec hb hG hP 5 rfl hf dX9_shy_15 (fun hf => ?_)
      refine ki_ge (pc := 16) hexec hb dX9_shy_16 (tgt := 84) rfl hf (fun hc hf => ?_) (fun hc hf => ?_)
      · cases sr10 hf hk9
        exact hE9 _ _ _ hP hD hS (lv_sub hl [1] rfl)
      · refine lv_iconst (pc := 19) hexec hb dX9_shy_19 ki_0 ?_
        refine lv_istore_n (pc := 20) hexec hb dX9_shy_20 rfl hl (nle rfl) rfl (fun ls (hl : lv_has ls 4 [(3, .int 0), (0, .ref a0), (1, .int v1), (2, .int v2)]) => ?_)
        obtain ⟨l21, el21, hf⟩ := bvf2 hf
        obtain ⟨y4_redThen_4, hz, hf⟩ := bd1_e hf
        have hE21 : ∀ (H : Heap) (locs : List Loc) (ls : Array Slot), va_P g.1 vwCl (w_X9_shy g a0 a1 a2 a3 a4 a5 a6 u0_1 u0_2 u0_3 u0_4 u0_5 u0_6 u0_8 u0_9 u0_10 u0_19 u0_20 u0_21 u0_22 u0_23 u0_24 u0_25 u0_26 u0_27 u0_28 u0_29 u0_30 0 x0_bestReds_1 x0_bestPlaced_1 x0_bestTurning_1 y1_against_1 y2_best_1 y3_may_1 y4_redThen_4 y5_s y6_ways_1) H → va_D A (w_X9_shy g a0 a1 a2 a3 a4 a5 a6 u0_1 u0_2 u0_3 u0_4 u0_5 u0_6 u0_8 u0_9 u0_10 u0_19 u0_20 u0_21 u0_22 u0_23 u0_24 u0_25 u0_26 u0_27 u0_28 u0_29 u0_30 0 x0_bestReds_1 x0_bestPlaced_1 x0_bestTurning_1 y1_against_1 y2_best_1 y3_may_1 y4_redThen_4 y5_s y6_ways_1) → va_S A s.heap H locs → lv_has ls 4 [(0, .ref a0), (1, .int v1), (2, .int v2)] → W p l e (RM 16 380) s m args below meth c H locs 0 0 Q (F0 m 48 ls []) := by
          intro H locs ls hP hD hS hl
          refine lv_aload_n (pc := 48) hexec hb dX9_shy_48 rfl (lv_at hl 0 rfl) ?_
          refine lv_iload_n (pc := 49) hexec hb dX9_shy_49 rfl (lv_at hl 2 rfl) ?_
          obtain ⟨x0_bestReds_3, x0_bestPlaced_3, x0_bestTurning_3, y1_against_3, y2_best_3, y3_may_3, y6_ways_3, hc, hf⟩ := bd7_e hf
          refine kVp (pc := 50) (S := ⟨hexec, hb, hml, hown, hts⟩) hP hD hG hA hS [0, 1, 2, 3, 4, 5, 6] [] [0, 1, 2, 3, 4, 5, 6] (w2 := (w_X9_shy g a0 a1 a2 a3 a4 a5 a6 u0_1 u0_2 u0_3 u0_4 u0_5 u0_6 u0_8 u0_9 u0_10 u0_19 u0_20 u0_21 u0_22 u0_23 u0_24 u0_25 u0_26 u0_27 u0_28 u0_29 u0_30 0 x0_bestReds_3 x0_bestPlaced_3 x0_bestTurning_3 y1_against_3 y2_best_3 y3_may_3 y4_redThen_4 y5_s y6_ways_3)) rfl rfl rfl rfl rfl rfl (by decide) (c_X9_arranges l g a0 a1 a2 a3 a4 a5 a6 _ u0_1 u0_2 u0_3 u0_4 u0_5 u0_6 (.int 0) u0_8 u0_9 u0_10 u0_19 u0_20 u0_21 u0_22 u0_23 u0_24 u0_25 u0_26 u0_27 u0_28 u0_29 u0_30 x0_bestReds_1 x0_bestPlaced_1 x0_bestTurning_1 y1_against_1 y2_best_1 y3_may_1 y4_redThen_4 y5_s y6_ways_1 v2 x0_bestReds_3 x0_bestPlaced_3 x0_bestTurning_3 y1_against_3 y2_best_3 y3_may_3 y6_ways_3 hc) gX9_shy_X9_arranges rfl hv_X9_arranges ⟨nle rfl, nle rfl⟩ 9 0 rfl rfl rfl (rest := []) rfl rfl hl.1 (nle rfl) dX9_shy_50 (fun H locs hP hD hS => ?_)
          refine lv_iload_n (pc := 53) hexec hb dX9_shy_53 rfl (lv_at hl 1 rfl) ?_
          refine lv_aload_n (pc := 54) hexec hb dX9_shy_54 rfl (lv_at hl 0 rfl) ?_
          refine kg_get (pc := 55) hexec hb (own := RX9) hWX9 hown hG hP 0 rfl rfl 14 (nle rfl) (hts _ (List.mem_cons_of_mem _ (List.mem_append_left _ (List.mem_append_left _ (List.mem_of_getElem? (i := 3) rfl))))) rfl rfl dX9_shy_55 ?_
          refine lv_aload_n (pc := 58) hexec hb dX9_shy_58 rfl (lv_at hl 0 rfl) ?_
          refine kg_get (pc := 59) hexec hb (own := RX9) hWX9 hown hG hP 0 rfl rfl 0 (nle rfl) (hts _ (List.mem_cons_of_mem _ (List.mem_append_left _ (List.mem_append_left _ (List.mem_of_getElem? (i := 1) rfl))))) rfl rfl dX9_shy_59 ?_
          refine lv_iconst (pc := 62) hexec hb dX9_shy_62 ki_2 ?_
          refine kr_iald (pc := 63) hexec hb hG hP 5 rfl hf dX9_shy_63 (fun hf => ?_)
          refine lv_iconst (pc := 64) hexec hb dX9_shy_64 ki_1 ?_
          refine lv_isub (pc := 65) hexec hb dX9_shy_65 ?_
          obtain ⟨j76, ej76, hf⟩ := bvf1 hf
          have hj76 : ∀ (t76 : Int32) (H : Heap) (locs : List Loc) (ls : Array Slot), j76 t76 = some q9 → va_P g.1 vwCl (w_X9_shy g a0 a1 a2 a3 a4 a5 a6 u0_1 u0_2 u0_3 u0_4 u0_5 u0_6 u0_8 u0_9 u0_10 u0_19 u0_20 u0_21 u0_22 u0_23 u0_24 u0_25 u0_26 u0_27 u0_28 u0_29 u0_30 0 x0_bestReds_3 x0_bestPlaced_3 x0_bestTurning_3 y1_against_3 y2_best_3 y3_may_3 y4_redThen_4 y5_s y6_ways_3) H → va_D A (w_X9_shy g a0 a1 a2 a3 a4 a5 a6 u0_1 u0_2 u0_3 u0_4 u0_5 u0_6 u0_8 u0_9 u0_10 u0_19 u0_20 u0_21 u0_22 u0_23 u0_24 u0_25 u0_26 u0_27 u0_28 u0_29 u0_30 0 x0_bestReds_3 x0_bestPlaced_3 x0_bestTurning_3 y1_against_3 y2_best_3 y3_may_3 y4_redThen_4 y5_s y6_ways_3) → va_S A s.heap H locs → lv_has ls 4 [(0, .ref a0), (2, .int v2)] → W p l e (RM 16 380) s m args below meth c H locs 0 0 Q (F0 m 76 ls [.int t76, .int v1]) := by
            intro t76 H locs ls hf hP hD hS hl
            have hf := (ej76 t76).symm.trans hf
            refine lv_ior (pc := 76) hexec hb dX9_shy_76 ?_
            obtain ⟨v1_2, ev1_2, hf⟩ := bv_e hf
            refine kn_i ev1_2 ?_
            refine lv_istore_n (pc := 77) hexec hb dX9_shy_77 rfl hl (nle rfl) rfl (fun ls (hl : lv_has ls 4 [(1, .int v1_2), (0, .ref a0), (2, .int v2)]) => ?_)
            obtain ⟨v2_1, ev2_1, hf⟩ := bv_e hf
            refine k_iinc (pc := 78) hexec hb dX9_shy_78 kq_1 hl (k := 2) rfl ev2_1 (nle rfl) rfl (fun ls (hl : lv_has ls 4 [(2, .int v2_1), (1, .int v1_2), (0, .ref a0)]) => ?_)
            refine lv_goto (pc := 81) hexec hb dX9_shy_81 (tgt := 9) rfl ?_
            exact ih9 _ _ _ _ _ _ _ _ _ _ _ _ _ (sl10 hf hk9) hP hD hS (lv_sub hl [2, 1, 0] rfl)
          refine ki_ne (pc := 66) hexec hb dX9_shy_66 (tgt := 75) rfl hf (fun hc hf => ?_) (fun hc hf => ?_)
          · refine lv_iconst (pc := 75) hexec hb dX9_shy_75 ki_0 ?_
            exact hj76 _ _ _ _ hf hP hD hS (lv_sub hl [0, 2] rfl)
          · refine lv_iconst (pc := 69) hexec hb dX9_shy_69 ki_1 ?_
            refine lv_iload_n (pc := 70) hexec hb dX9_shy_70 rfl (lv_at hl 2 rfl) ?_
            refine lv_ishl (pc := 71) hexec hb dX9_shy_71 ?_
            refine lv_goto (pc := 72) hexec hb dX9_shy_72 (tgt := 76) rfl ?_
            exact hj76 _ _ _ _ hf hP hD hS (lv_sub hl [0, 2] rfl)
        obtain ⟨n, hz⟩ := lq2_e hz
        have hL21 : ∀ (n : Nat) (v3 : Int32) (y4_redThen_3 : Nat → Int32) (H : Heap) (locs : List Loc) (ls : Array Slot), it2 l21 n v3 y4_redThen_3 = some y4_redThen_4 → va_P g.1 vwCl (w_X9_shy g a0 a1 a2 a3 a4 a5 a6 u0_1 u0_2 u0_3 u0_4 u0_5 u0_6 u0_8 u0_9 u0_10 u0_19 u0_20 u0_21 u0_22 u0_23 u0_24 u0_25 u0_26 u0_27 u0_28 u0_29 u0_30 0 x0_bestReds_1 x0_bestPlaced_1 x0_bestTurning_1 y1_against_1 y2_best_1 y3_may_1 y4_redThen_3 y5_s y6_ways_1) H → va_D A (w_X9_shy g a0 a1 a2 a3 a4 a5 a6 u0_1 u0_2 u0_3 u0_4 u0_5 u0_6 u0_8 u0_9 u0_10 u0_19 u0_20 u0_21 u0_22 u0_23 u0_24 u0_25 u0_26 u0_27 u0_28 u0_29 u0_30 0 x0_bestReds_1 x0_bestPlaced_1 x0_bestTurning_1 y1_against_1 y2_best_1 y3_may_1 y4_redThen_3 y5_s y6_ways_1) → va_S A s.heap H locs → lv_has ls 4 [(0, .ref a0), (1, .int v1), (2, .int v2), (3, .int v3)] → W p l e (RM 16 380) s m args below meth c H locs 0 0 Q (F0 m 21 ls []) := by
          intro n
          induction n with
          | zero =>
            intro v3 y4_redThen_3 H locs ls hf hP hD hS hl
            exact it2_0 hf
          | succ n21 ih21 =>
            intro v3 y4_redThen_3 H locs ls hf hP hD hS hl
            obtain ⟨q21, hf, hk21⟩ := it2_e hf
            have hf := (el21 v3 y4_redThen_3).symm.trans hf
            refine lv_iload_n (pc := 21) hexec hb dX9_shy_21 rfl (lv_at hl 3 rfl) ?_
            refine lv_aload_n (pc := 22) hexec hb dX9_shy_22 rfl (lv_at hl 0 rfl) ?_
            refine kg_get (pc := 23) hexec hb (own := RX9) hWX9 hown hG hP 0 rfl rfl 0 (nle rfl) (hts _ (List.mem_cons_of_mem _ (List.mem_append_left _ (List.mem_append_left _ (List.mem_of_getElem? (i := 1) rfl))))) rfl rfl dX9_shy_23 ?_
            refine lv_iconst (pc := 26) hexec hb dX9_shy_26 ki_2 ?_
            refine kr_iald (pc := 27) hexec hb hG hP 5 rfl hf dX9_shy_27 (fun hf => ?_)
            refine ki_ge (pc := 28) hexec hb dX9_shy_28 (tgt := 48) rfl hf (fun hc hf => ?_) (fun hc hf => ?_)
            · cases sr2 hf hk21
              exact hE21 _ _ _ hP hD hS (lv_sub hl [0, 1, 2] rfl)
            · refine lv_aload_n (pc := 31) hexec hb dX9_shy_31 rfl (lv_at hl 0 rfl) ?_
              refine kg_get (pc := 32) hexec hb (own := RX9) hWX9 hown hG hP 0 rfl rfl 16 (nle rfl) (hts _ (List.mem_cons_of_mem _ (List.mem_append_left _ (List.mem_append_left _ (List.mem_of_getElem? (i := 2) rfl))))) rfl rfl dX9_shy_32 ?_
              refine lv_iload_n (pc := 35) hexec hb dX9_shy_35 rfl (lv_at hl 3 rfl) ?_
              refine lv_aload_n (pc := 36) hexec hb dX9_shy_36 rfl (lv_at hl 0 rfl) ?_
              refine lv_iload_n (pc := 37) hexec hb dX9_shy_37 rfl (lv_at hl 3 rfl) ?_
              obtain ⟨r38, hc, hf⟩ := bd1_e hf
              refine kVp (pc := 38) (S := ⟨hexec, hb, hml, hown, hts⟩) hP hD hG hA hS [0, 5] [1, 2, 3, 4, 6] [5, 0, 1, 2, 3, 6, 4] (w2 := (w_X9_shy g a0 a1 a2 a3 a4 a5 a6 u0_1 u0_2 u0_3 u0_4 u0_5 u0_6 u0_8 u0_9 u0_10 u0_19 u0_20 u0_21 u0_22 u0_23 u0_24 u0_25 u0_26 u0_27 u0_28 u0_29 u0_30 0 x0_bestReds_1 x0_bestPlaced_1 x0_bestTurning_1 y1_against_1 y2_best_1 y3_may_1 y4_redThen_3 y5_s y6_ways_1)) rfl rfl rfl rfl rfl rfl (by decide) (c_X9_isRed l g a0 a5 _ u0_1 u0_2 u0_3 u0_4 u0_5 u0_6 (.int 0) u0_8 u0_9 u0_10 (.ref a6) (.ref a2) (.int x0_bestReds_1) (.int x0_bestPlaced_1) (.int x0_bestTurning_1) (.ref a4) (.ref a3) (.ref a1) u0_19 u0_20 u0_21 u0_22 u0_23 u0_24 u0_25 u0_26 u0_27 u0_28 u0_29 u0_30 y5_s v3 r38 hc) gX9_shy_X9_isRed rfl hv_X9_isRed ⟨nle rfl, nle rfl⟩ 9 0 rfl rfl rfl (rest := [.int v3, .ref a4]) rfl rfl hl.1 (nle rfl) dX9_shy_38 (fun H locs hP hD hS => ?_)
              refine kw_zast (pc := 41) hexec hb hG hP hD hS 4 rfl hf dX9_shy_41 (fun y4_redThen_5 H locs hf (hP : va_P g.1 vwCl (w_X9_shy g a0 a1 a2 a3 a4 a5 a6 u0_1 u0_2 u0_3 u0_4 u0_5 u0_6 u0_8 u0_9 u0_10 u0_19 u0_20 u0_21 u0_22 u0_23 u0_24 u0_25 u0_26 u0_27 u0_28 u0_29 u0_30 0 x0_bestReds_1 x0_bestPlaced_1 x0_bestTurning_1 y1_against_1 y2_best_1 y3_may_1 y4_redThen_5 y5_s y6_ways_1) H) (hD : va_D A (w_X9_shy g a0 a1 a2 a3 a4 a5 a6 u0_1 u0_2 u0_3 u0_4 u0_5 u0_6 u0_8 u0_9 u0_10 u0_19 u0_20 u0_21 u0_22 u0_23 u0_24 u0_25 u0_26 u0_27 u0_28 u0_29 u0_30 0 x0_bestReds_1 x0_bestPlaced_1 x0_bestTurning_1 y1_against_1 y2_best_1 y3_may_1 y4_redThen_5 y5_s y6_ways_1)) hS => ?_)
              obtain ⟨v3_1, ev3_1, hf⟩ := bv_e hf
              refine k_iinc (pc := 42) hexec hb dX9_shy_42 kq_1 hl (k := 3) rfl ev3_1 (nle rfl) rfl (fun ls (hl : lv_has ls 4 [(3, .int v3_1), (0, .ref a0), (1, .int v1), (2, .int v2)]) => ?_)
              refine lv_goto (pc := 45) hexec hb dX9_shy_45 (tgt := 21) rfl ?_
              exact ih21 _ _ _ _ _ (sl2 hf hk21) hP hD hS (lv_sub hl [1, 2, 3, 0] rfl)
        exact hL21 n _ _ _ _ _ hz hP hD hS (lv_sub hl [1, 2, 3, 0] rfl)
  exact hL9 n _ _ _ _ _ _ _ _ _ _ _ _ _ hz hP hD hS (lv_sub hl [2, 1, 0] rfl)
abbrev w_X9_mayCell (g : GE) (a0 a1 : Nat) (u0_1 u0_2 u0_3 u0_4 u0_5 u0_6 u0_8 u0_9 u0_10 u0_11 u0_12 u0_13 u0_14 u0_15 u0_16 u0_17 u0_18 u0_19 u0_20 u0_21 u0_22 u0_23 u0_24 u0_25 u0_26 u0_27 u0_28 u0_29 u0_30 : Value) (x0_thrown : Int32) (y1_s : Nat → Int32) : va_W := [(a0, .inr (9, [.ref a1, u0_1, u0_2, u0_3, u0_4, u0_5, u0_6, .int x0_thrown, u0_8, u0_9, u0_10, u0_11, u0_12, u0_13, u0_14, u0_15, u0_16, u0_17, u0_18, u0_19, u0_20, u0_21, u0_22, u0_23, u0_24, u0_25, u0_26, u0_27, u0_28, u0_29, u0_30])), (a1, .inl (g.2.1 0, 552, .inl y1_s))]
set_option maxRecDepth 20000 in
theorem c_X9_mayCell (l : Launch) (g : GE) (a0 a1 : Nat) (sz : Nat) (u0_1 u0_2 u0_3 u0_4 u0_5 u0_6 u0_8 u0_9 u0_10 u0_11 u0_12 u0_13 u0_14 u0_15 u0_16 u0_17 u0_18 u0_19 u0_20 u0_21 u0_22 u0_23 u0_24 u0_25 u0_26 u0_27 u0_28 u0_29 u0_30 : Value) (x0_thrown : Int32) (y1_s : Nat → Int32) (p1 : Int32)  (r : Int32) (o_x0_thrown : Int32) (hf : f_X9_mayCell x0_thrown y1_s p1 = some (r, o_x0_thrown)) : MI l g yX9_mayCell wsX9_mayCell 3 70 [.ref a0, .int p1] (w_X9_mayCell g a0 a1 u0_1 u0_2 u0_3 u0_4 u0_5 u0_6 u0_8 u0_9 u0_10 u0_11 u0_12 u0_13 u0_14 u0_15 u0_16 u0_17 u0_18 u0_19 u0_20 u0_21 u0_22 u0_23 u0_24 u0_25 u0_26 u0_27 u0_28 u0_29 u0_30 x0_thrown y1_s) sz (some (.int r)) (w_X9_mayCell g a0 a1 u0_1 u0_2 u0_3 u0_4 u0_5 u0_6 u0_8 u0_9 u0_10 u0_11 u0_12 u0_13 u0_14 u0_15 u0_16 u0_17 u0_18 u0_19 u0_20 u0_21 u0_22 u0_23 u0_24 u0_25 u0_26 u0_27 u0_28 u0_29 u0_30 o_x0_thrown y1_s) := by
  refine MI.start (cc := cX9_mayCell) (maxL := 2) (ret := (some .boolean)) rfl rfl (nle rfl) ?_
  intro p e s m args below meth c A ls Q hQ hexec hb hr hts hown hlocks hml hA hP hD hG hS hl
  unfold f_X9_mayCell at hf
  have hWX9 : ∀ w ∈ wsX90, w.before args s = true := fun w h => hts w (List.mem_cons_of_mem _ (List.mem_append_right _ h))
  have hS : va_S A s.heap s.heap [] := hS
  refine lv_aload_n (pc := 0) hexec hb dX9_mayCell_0 rfl (lv_at hl 0 rfl) ?_
  refine lv_aload_n (pc := 1) hexec hb dX9_mayCell_1 rfl (lv_at hl 0 rfl) ?_
  refine lv_iload_n (pc := 2) hexec hb dX9_mayCell_2 rfl (lv_at hl 1 rfl) ?_
  obtain ⟨r3, hc, hf⟩ := bd1_e hf
  refine kVp (pc := 3) (S := ⟨hexec, hb, hml, hown, hts⟩) hP hD hG hA hS [0, 1] [] [0, 1] (w2 := (w_X9_mayCell g a0 a1 u0_1 u0_2 u0_3 u0_4 u0_5 u0_6 u0_8 u0_9 u0_10 u0_11 u0_12 u0_13 u0_14 u0_15 u0_16 u0_17 u0_18 u0_19 u0_20 u0_21 u0_22 u0_23 u0_24 u0_25 u0_26 u0_27 u0_28 u0_29 u0_30 x0_thrown y1_s)) rfl rfl rfl rfl rfl rfl (by decide) (c_X9_isCell l g a0 a1 _ u0_1 u0_2 u0_3 u0_4 u0_5 u0_6 (.int x0_thrown) u0_8 u0_9 u0_10 u0_11 u0_12 u0_13 u0_14 u0_15 u0_16 u0_17 u0_18 u0_19 u0_20 u0_21 u0_22 u0_23 u0_24 u0_25 u0_26 u0_27 u0_28 u0_29 u0_30 y1_s p1 r3 hc) gX9_mayCell_X9_isCell rfl hv_X9_isCell ⟨nle rfl, nle rfl⟩ 9 0 rfl rfl rfl (rest := [.ref a0]) rfl rfl hl.1 (nle rfl) dX9_mayCell_3 (fun H locs hP hD hS => ?_)
  refine lv_iconst (pc := 6) hexec hb dX9_mayCell_6 ki_1 ?_
  obtain ⟨r7, x0_thrown_1, hc, hf⟩ := bd2_e hf
  refine kVp (pc := 7) (S := ⟨hexec, hb, hml, hown, hts⟩) hP hD hG hA hS [0] [1] [1, 0] (w2 := (w_X9_mayCell g a0 a1 u0_1 u0_2 u0_3 u0_4 u0_5 u0_6 u0_8 u0_9 u0_10 u0_11 u0_12 u0_13 u0_14 u0_15 u0_16 u0_17 u0_18 u0_19 u0_20 u0_21 u0_22 u0_23 u0_24 u0_25 u0_26 u0_27 u0_28 u0_29 u0_30 x0_thrown_1 y1_s)) rfl rfl rfl rfl rfl rfl (by decide) (c_X9_passes l g a0 _ (.ref a1) u0_1 u0_2 u0_3 u0_4 u0_5 u0_6 u0_8 u0_9 u0_10 u0_11 u0_12 u0_13 u0_14 u0_15 u0_16 u0_17 u0_18 u0_19 u0_20 u0_21 u0_22 u0_23 u0_24 u0_25 u0_26 u0_27 u0_28 u0_29 u0_30 x0_thrown r3 1 r7 x0_thrown_1 hc) gX9_mayCell_X9_passes rfl hv_X9_passes ⟨nle rfl, nle rfl⟩ 9 0 rfl rfl rfl (rest := []) rfl rfl hl.1 (nle rfl) dX9_mayCell_7 (fun H locs hP hD hS => ?_)
  obtain ⟨hx, hf⟩ := zb_e hf
  cases hf
  exact ke_z hQ hexec hb hr hx hP hD hS dX9_mayCell_10 hlocks
abbrev w_X9_wayLength (g : GE) (a0 a1 a2 a3 : Nat) (u0_1 u0_2 u0_3 u0_4 u0_5 u0_6 u0_11 u0_12 u0_13 u0_14 u0_15 u0_16 u0_17 u0_18 u0_19 u0_20 u0_21 u0_22 u0_23 u0_24 u0_25 u0_26 u0_27 u0_28 u0_29 u0_30 : Value) (x0_thrown : Int32) (x0_flowLong : Int32) (y1_flow : Nat → Int32) (y2_s : Nat → Int32) (y3_sums : Nat → Int32) : va_W := [(a0, .inr (9, [.ref a2, u0_1, u0_2, u0_3, u0_4, u0_5, u0_6, .int x0_thrown, .ref a3, .ref a1, .int x0_flowLong, u0_11, u0_12, u0_13, u0_14, u0_15, u0_16, u0_17, u0_18, u0_19, u0_20, u0_21, u0_22, u0_23, u0_24, u0_25, u0_26, u0_27, u0_28, u0_29, u0_30])), (a1, .inl (g.2.1 0, 144, .inl y1_flow)), (a2, .inl (g.2.1 0, 552, .inl y2_s)), (a3, .inl (g.2.1 0, 144, .inl y3_sums))]
set_option maxRecDepth 20000 in
theorem c_X9_wayLength (l : Launch) (g : GE) (a0 a1 a2 a3 : Nat) (sz : Nat) (u0_1 u0_2 u0_3 u0_4 u0_5 u0_6 u0_11 u0_12 u0_13 u0_14 u0_15 u0_16 u0_17 u0_18 u0_19 u0_20 u0_21 u0_22 u0_23 u0_24 u0_25 u0_26 u0_27 u0_28 u0_29 u0_30 : Value) (x0_thrown : Int32) (x0_flowLong : Int32) (y1_flow : Nat → Int32) (y2_s : Nat → Int32) (y3_sums : Nat → Int32) (p1 : Int32)  (r : Int32) (o_x0_thrown : Int32) (o_x0_flowLong : Int32) (o_y1_flow : Nat → Int32) (o_y3_sums : Nat → Int32) (hf : f_X9_wayLength x0_thrown x0_flowLong y1_flow y2_s y3_sums p1 = some (r, o_x0_thrown, o_x0_flowLong, o_y1_flow, o_y3_sums)) : MI l g yX9_wayLength wsX9_wayLength 10 231 [.ref a0, .int p1] (w_X9_wayLength g a0 a1 a2 a3 u0_1 u0_2 u0_3 u0_4 u0_5 u0_6 u0_11 u0_12 u0_13 u0_14 u0_15 u0_16 u0_17 u0_18 u0_19 u0_20 u0_21 u0_22 u0_23 u0_24 u0_25 u0_26 u0_27 u0_28 u0_29 u0_30 x0_thrown x0_flowLong y1_flow y2_s y3_sums) sz (some (.int r)) (w_X9_wayLength g a0 a1 a2 a3 u0_1 u0_2 u0_3 u0_4 u0_5 u0_6 u0_11 u0_12 u0_13 u0_14 u0_15 u0_16 u0_17 u0_18 u0_19 u0_20 u0_21 u0_22 u0_23 u0_24 u0_25 u0_26 u0_27 u0_28 u0_29 u0_30 o_x0_thrown o_x0_flowLong o_y1_flow y2_s o_y3_sums) := by
  refine MI.start (cc := cX9_wayLength) (maxL := 2) (ret := (some .int)) rfl rfl (nle rfl) ?_
  intro p e s m args below meth c A ls Q hQ hexec hb hr hts hown hlocks hml hA hP hD hG hS hl
  unfold f_X9_wayLength at hf
  have hWX9 : ∀ w ∈ wsX90, w.before args s = true := fun w h => hts w (List.mem_cons_of_mem _ (List.mem_append_right _ h))
  have hS : va_S A s.heap s.heap [] := hS
  refine lv_aload_n (pc := 0) hexec hb dX9_wayLength_0 rfl (lv_at hl 0 rfl) ?_
  refine lv_iload_n (pc := 1) hexec hb dX9_wayLength_1 rfl (lv_at hl 1 rfl) ?_
  obtain ⟨r2, x0_thrown_1, hc, hf⟩ := bd2_e hf
  refine kVp (pc := 2) (S := ⟨hexec, hb, hml, hown, hts⟩) hP hD hG hA hS [0, 2] [1, 3] [2, 0, 3, 1] (w2 := (w_X9_wayLength g a0 a1 a2 a3 u0_1 u0_2 u0_3 u0_4 u0_5 u0_6 u0_11 u0_12 u0_13 u0_14 u0_15 u0_16 u0_17 u0_18 u0_19 u0_20 u0_21 u0_22 u0_23 u0_24 u0_25 u0_26 u0_27 u0_28 u0_29 u0_30 x0_thrown_1 x0_flowLong y1_flow y2_s y3_sums)) rfl rfl rfl rfl rfl rfl (by decide) (c_X9_mayCell l g a0 a2 _ u0_1 u0_2 u0_3 u0_4 u0_5 u0_6 (.ref a3) (.ref a1) (.int x0_flowLong) u0_11 u0_12 u0_13 u0_14 u0_15 u0_16 u0_17 u0_18 u0_19 u0_20 u0_21 u0_22 u0_23 u0_24 u0_25 u0_26 u0_27 u0_28 u0_29 u0_30 x0_thrown y2_s p1 r2 x0_thrown_1 hc) gX9_wayLength_X9_mayCell rfl hv_X9_mayCell ⟨nle rfl, nle rfl⟩ 9 0 rfl rfl rfl (rest := []) rfl rfl hl.1 (nle rfl) dX9_wayLength_2 (fun H locs hP hD hS => ?_)
  refine kb_ne (pc := 5) hexec hb dX9_wayLength_5 (tgt := 10) rfl hf (fun hc hf => ?_) (fun hc hf => ?_)
  · refine lv_aload_n (pc := 10) hexec hb dX9_wayLength_10 rfl (lv_at hl 0 rfl) ?_
    refine lv_iload_n (pc := 11) hexec hb dX9_wayLength_11 rfl (lv_at hl 1 rfl) ?_
    obtain ⟨r12, x0_flowLong_1, y1_flow_1, y3_sums_1, hc, hf⟩ := bd4_e hf
    refine kVp (pc := 12) (S := ⟨hexec, hb, hml, hown, hts⟩) hP hD hG hA hS [0, 1, 2, 3] [] [0, 1, 2, 3] (w2 := (w_X9_wayLength g a0 a1 a2 a3 u0_1 u0_2 u0_3 u0_4 u0_5 u0_6 u0_11 u0_12 u0_13 u0_14 u0_15 u0_16 u0_17 u0_18 u0_19 u0_20 u0_21 u0_22 u0_23 u0_24 u0_25 u0_26 u0_27 u0_28 u0_29 u0_30 x0_thrown_1 x0_flowLong_1 y1_flow_1 y2_s y3_sums_1)) rfl rfl rfl rfl rfl rfl (by decide) (c_X9_findsFlow l g a0 a1 a2 a3 _ u0_1 u0_2 u0_3 u0_4 u0_5 u0_6 (.int x0_thrown_1) u0_11 u0_12 u0_13 u0_14 u0_15 u0_16 u0_17 u0_18 u0_19 u0_20 u0_21 u0_22 u0_23 u0_24 u0_25 u0_26 u0_27 u0_28 u0_29 u0_30 x0_flowLong y1_flow y2_s y3_sums p1 r12 x0_flowLong_1 y1_flow_1 y3_sums_1 hc) gX9_wayLength_X9_findsFlow rfl hv_X9_findsFlow ⟨nle rfl, nle rfl⟩ 9 0 rfl rfl rfl (rest := []) rfl rfl hl.1 (nle rfl) dX9_wayLength_12 (fun H locs hP hD hS => ?_)
    refine kb_eq (pc := 15) hexec hb dX9_wayLength_15 (tgt := 25) rfl hf (fun hc hf => ?_) (fun hc hf => ?_)
    · refine lv_bipush (pc := 25) hexec hb dX9_wayLength_25 kb_m3 ?_
      cases hf
      exact ke_i hQ hexec hb hr hP hD hS dX9_wayLength_27 hlocks
    · refine lv_aload_n (pc := 18) hexec hb dX9_wayLength_18 rfl (lv_at hl 0 rfl) ?_
      refine kg_get (pc := 19) hexec hb (own := RX9) hWX9 hown hG hP 0 rfl rfl 10 (nle rfl) (hts _ (List.mem_cons_of_mem _ (List.mem_append_left _ (List.mem_append_left _ (List.mem_of_getElem? (i := 0) rfl))))) rfl rfl dX9_wayLength_19 ?_
      refine lv_goto (pc := 22) hexec hb dX9_wayLength_22 (tgt := 27) rfl ?_
      cases hf
      exact ke_i hQ hexec hb hr hP hD hS dX9_wayLength_27 hlocks
  · refine lv_iconst (pc := 8) hexec hb dX9_wayLength_8 ki_0 ?_
    cases hf
    exact ke_i hQ hexec hb hr hP hD hS dX9_wayLength_9 hlocks
abbrev w_X9_wayCell (g : GE) (a0 a1 a2 a3 : Nat) (u0_1 u0_2 u0_3 u0_4 u0_5 u0_6 u0_11 u0_12 u0_13 u0_14 u0_15 u0_16 u0_17 u0_18 u0_19 u0_20 u0_21 u0_22 u0_23 u0_24 u0_25 u0_26 u0_27 u0_28 u0_29 u0_30 : Value) (x0_thrown : Int32) (x0_flowLong : Int32) (y1_flow : Nat → Int32) (y2_s : Nat → Int32) (y3_sums : Nat → Int32) : va_W := [(a0, .inr (9, [.ref a2, u0_1, u0_2, u0_3, u0_4, u0_5, u0_6, .int x0_thrown, .ref a3, .ref a1, .int x0_flowLong, u0_11, u0_12, u0_13, u0_14, u0_15, u0_16, u0_17, u0_18, u0_19, u0_20, u0_21, u0_22, u0_23, u0_24, u0_25, u0_26, u0_27, u0_28, u0_29, u0_30])), (a1, .inl (g.2.1 0, 144, .inl y1_flow)), (a2, .inl (g.2.1 0, 552, .inl y2_s)), (a3, .inl (g.2.1 0, 144, .inl y3_sums))]
set_option maxRecDepth 20000 in
theorem c_X9_wayCell (l : Launch) (g : GE) (a0 a1 a2 a3 : Nat) (sz : Nat) (u0_1 u0_2 u0_3 u0_4 u0_5 u0_6 u0_11 u0_12 u0_13 u0_14 u0_15 u0_16 u0_17 u0_18 u0_19 u0_20 u0_21 u0_22 u0_23 u0_24 u0_25 u0_26 u0_27 u0_28 u0_29 u0_30 : Value) (x0_thrown : Int32) (x0_flowLong : Int32) (y1_flow : Nat → Int32) (y2_s : Nat → Int32) (y3_sums : Nat → Int32) (p1 : Int32) (p2 : Int32)  (r : Int32) (o_x0_thrown : Int32) (o_x0_flowLong : Int32) (o_y1_flow : Nat → Int32) (o_y3_sums : Nat → Int32) (hf : f_X9_wayCell x0_thrown x0_flowLong y1_flow y2_s y3_sums p1 p2 = some (r, o_x0_thrown, o_x0_flowLong, o_y1_flow, o_y3_sums)) : MI l g yX9_wayCell wsX9_wayCell 10 231 [.ref a0, .int p1, .int p2] (w_X9_wayCell g a0 a1 a2 a3 u0_1 u0_2 u0_3 u0_4 u0_5 u0_6 u0_11 u0_12 u0_13 u0_14 u0_15 u0_16 u0_17 u0_18 u0_19 u0_20 u0_21 u0_22 u0_23 u0_24 u0_25 u0_26 u0_27 u0_28 u0_29 u0_30 x0_thrown x0_flowLong y1_flow y2_s y3_sums) sz (some (.int r)) (w_X9_wayCell g a0 a1 a2 a3 u0_1 u0_2 u0_3 u0_4 u0_5 u0_6 u0_11 u0_12 u0_13 u0_14 u0_15 u0_16 u0_17 u0_18 u0_19 u0_20 u0_21 u0_22 u0_23 u0_24 u0_25 u0_26 u0_27 u0_28 u0_29 u0_30 o_x0_thrown o_x0_flowLong o_y1_flow y2_s o_y3_sums) := by
  refine MI.start (cc := cX9_wayCell) (maxL := 3) (ret := (some .int)) rfl rfl (nle rfl) ?_
  intro p e s m args below meth c A ls Q hQ hexec hb hr hts hown hlocks hml hA hP hD hG hS hl
  unfold f_X9_wayCell at hf
  have hWX9 : ∀ w ∈ wsX90, w.before args s = true := fun w h => hts w (List.mem_cons_of_mem _ (List.mem_append_right _ h))
  have hS : va_S A s.heap s.heap [] := hS
  refine lv_aload_n (pc := 0) hexec hb dX9_wayCell_0 rfl (lv_at hl 0 rfl) ?_
  refine lv_iload_n (pc := 1) hexec hb dX9_wayCell_1 rfl (lv_at hl 1 rfl) ?_
  obtain ⟨r2, x0_thrown_1, hc, hf⟩ := bd2_e hf
  refine kVp (pc := 2) (S := ⟨hexec, hb, hml, hown, hts⟩) hP hD hG hA hS [0, 2] [1, 3] [2, 0, 3, 1] (w2 := (w_X9_wayCell g a0 a1 a2 a3 u0_1 u0_2 u0_3 u0_4 u0_5 u0_6 u0_11 u0_12 u0_13 u0_14 u0_15 u0_16 u0_17 u0_18 u0_19 u0_20 u0_21 u0_22 u0_23 u0_24 u0_25 u0_26 u0_27 u0_28 u0_29 u0_30 x0_thrown_1 x0_flowLong y1_flow y2_s y3_sums)) rfl rfl rfl rfl rfl rfl (by decide) (c_X9_mayCell l g a0 a2 _ u0_1 u0_2 u0_3 u0_4 u0_5 u0_6 (.ref a3) (.ref a1) (.int x0_flowLong) u0_11 u0_12 u0_13 u0_14 u0_15 u0_16 u0_17 u0_18 u0_19 u0_20 u0_21 u0_22 u0_23 u0_24 u0_25 u0_26 u0_27 u0_28 u0_29 u0_30 x0_thrown y2_s p1 r2 x0_thrown_1 hc) gX9_wayCell_X9_mayCell rfl hv_X9_mayCell ⟨nle rfl, nle rfl⟩ 9 0 rfl rfl rfl (rest := []) rfl rfl hl.1 (nle rfl) dX9_wayCell_2 (fun H locs hP hD hS => ?_)
  refine kb_ne (pc := 5) hexec hb dX9_wayCell_5 (tgt := 10) rfl hf (fun hc hf => ?_) (fun hc hf => ?_)
  · refine lv_aload_n (pc := 10) hexec hb dX9_wayCell_10 rfl (lv_at hl 0 rfl) ?_
    refine lv_iload_n (pc := 11) hexec hb dX9_wayCell_11 rfl (lv_at hl 1 rfl) ?_
    obtain ⟨r12, x0_flowLong_1, y1_flow_1, y3_sums_1, hc, hf⟩ := bd4_e hf
    refine kVp (pc := 12) (S := ⟨hexec, hb, hml, hown, hts⟩) hP hD hG hA hS [0, 1, 2, 3] [] [0, 1, 2, 3] (w2 := (w_X9_wayCell g a0 a1 a2 a3 u0_1 u0_2 u0_3 u0_4 u0_5 u0_6 u0_11 u0_12 u0_13 u0_14 u0_15 u0_16 u0_17 u0_18 u0_19 u0_20 u0_21 u0_22 u0_23 u0_24 u0_25 u0_26 u0_27 u0_28 u0_29 u0_30 x0_thrown_1 x0_flowLong_1 y1_flow_1 y2_s y3_sums_1)) rfl rfl rfl rfl rfl rfl (by decide) (c_X9_findsFlow l g a0 a1 a2 a3 _ u0_1 u0_2 u0_3 u0_4 u0_5 u0_6 (.int x0_thrown_1) u0_11 u0_12 u0_13 u0_14 u0_15 u0_16 u0_17 u0_18 u0_19 u0_20 u0_21 u0_22 u0_23 u0_24 u0_25 u0_26 u0_27 u0_28 u0_29 u0_30 x0_flowLong y1_flow y2_s y3_sums p1 r12 x0_flowLong_1 y1_flow_1 y3_sums_1 hc) gX9_wayCell_X9_findsFlow rfl hv_X9_findsFlow ⟨nle rfl, nle rfl⟩ 9 0 rfl rfl rfl (rest := []) rfl rfl hl.1 (nle rfl) dX9_wayCell_12 (fun H locs hP hD hS => ?_)
    obtain ⟨j43, ej43, hf⟩ := bvf1 hf
    have hj43 : ∀ (u : Unit) (H : Heap) (locs : List Loc) (ls : Array Slot), j43 u = some (r, o_x0_thrown, o_x0_flowLong, o_y1_flow, o_y3_sums) → va_P g.1 vwCl (w_X9_wayCell g a0 a1 a2 a3 u0_1 u0_2 u0_3 u0_4 u0_5 u0_6 u0_11 u0_12 u0_13 u0_14 u0_15 u0_16 u0_17 u0_18 u0_19 u0_20 u0_21 u0_22 u0_23 u0_24 u0_25 u0_26 u0_27 u0_28 u0_29 u0_30 x0_thrown_1 x0_flowLong_1 y1_flow_1 y2_s y3_sums_1) H → va_D A (w_X9_wayCell g a0 a1 a2 a3 u0_1 u0_2 u0_3 u0_4 u0_5 u0_6 u0_11 u0_12 u0_13 u0_14 u0_15 u0_16 u0_17 u0_18 u0_19 u0_20 u0_21 u0_22 u0_23 u0_24 u0_25 u0_26 u0_27 u0_28 u0_29 u0_30 x0_thrown_1 x0_flowLong_1 y1_flow_1 y2_s y3_sums_1) → va_S A s.heap H locs → lv_has ls 3 [] → W p l e (RM 10 231) s m args below meth c H locs 0 0 Q (F0 m 43 ls []) := by
      intro u H locs ls hf hP hD hS hl
      have hf := (ej43 u).symm.trans hf
      refine lv_iconst (pc := 43) hexec hb dX9_wayCell_43 ki_m1 ?_
      cases hf
      exact ke_i hQ hexec hb hr hP hD hS dX9_wayCell_44 hlocks
    refine kb_eq (pc := 15) hexec hb dX9_wayCell_15 (tgt := 43) rfl hf (fun hc hf => ?_) (fun hc hf => ?_)
    · exact hj43 _ _ _ _ hf hP hD hS (lv_sub hl [] rfl)
    · refine lv_iload_n (pc := 18) hexec hb dX9_wayCell_18 rfl (lv_at hl 2 rfl) ?_
      refine lv_i2l (pc := 19) hexec hb dX9_wayCell_19 rfl ?_
      refine lv_lconst (pc := 20) hexec hb dX9_wayCell_20 kl_0 ?_
      refine lv_aload_n (pc := 21) hexec hb dX9_wayCell_21 rfl (lv_at hl 0 rfl) ?_
      refine kg_get (pc := 22) hexec hb (own := RX9) hWX9 hown hG hP 0 rfl rfl 10 (nle rfl) (hts _ (List.mem_cons_of_mem _ (List.mem_append_left _ (List.mem_append_left _ (List.mem_of_getElem? (i := 0) rfl))))) rfl rfl dX9_wayCell_22 ?_
      refine lv_iconst (pc := 25) hexec hb dX9_wayCell_25 ki_1 ?_
      refine lv_isub (pc := 26) hexec hb dX9_wayCell_26 ?_
      refine lv_i2l (pc := 27) hexec hb dX9_wayCell_27 rfl ?_
      obtain ⟨r28, hc, hf⟩ := bd1_e hf
      refine kSp (pc := 28) (S := ⟨hexec, hb, hml, hown, hts⟩) hP hD hG hA hS [] [0, 1, 2, 3] [0, 1, 2, 3] (w2 := (w_X9_wayCell g a0 a1 a2 a3 u0_1 u0_2 u0_3 u0_4 u0_5 u0_6 u0_11 u0_12 u0_13 u0_14 u0_15 u0_16 u0_17 u0_18 u0_19 u0_20 u0_21 u0_22 u0_23 u0_24 u0_25 u0_26 u0_27 u0_28 u0_29 u0_30 x0_thrown_1 x0_flowLong_1 y1_flow_1 y2_s y3_sums_1)) rfl rfl rfl rfl rfl rfl (by decide) (c_X9_isIn l g _ (p2.toInt64) 0 (((x0_flowLong_1 - 1)).toInt64) r28 hc) gX9_wayCell_X9_isIn rfl hs_X9_isIn ⟨nle rfl, nle rfl⟩ (rest := []) rfl rfl hl.1 (nle rfl) dX9_wayCell_28 (fun H locs hP hD hS => ?_)
      refine kb_eq (pc := 31) hexec hb dX9_wayCell_31 (tgt := 43) rfl hf (fun hc hf => ?_) (fun hc hf => ?_)
      · exact hj43 _ _ _ _ hf hP hD hS (lv_sub hl [] rfl)
      · refine lv_aload_n (pc := 34) hexec hb dX9_wayCell_34 rfl (lv_at hl 0 rfl) ?_
        refine kg_get (pc := 35) hexec hb (own := RX9) hWX9 hown hG hP 0 rfl rfl 9 (nle rfl) (hts _ (List.mem_cons_of_mem _ (List.mem_append_left _ (List.mem_append_left _ (List.mem_of_getElem? (i := 1) rfl))))) rfl rfl dX9_wayCell_35 ?_
        refine lv_iload_n (pc := 38) hexec hb dX9_wayCell_38 rfl (lv_at hl 2 rfl) ?_
        refine kr_iald (pc := 39) hexec hb hG hP 1 rfl hf dX9_wayCell_39 (fun hf => ?_)
        refine lv_goto (pc := 40) hexec hb dX9_wayCell_40 (tgt := 44) rfl ?_
        cases hf
        exact ke_i hQ hexec hb hr hP hD hS dX9_wayCell_44 hlocks
  · refine lv_iconst (pc := 8) hexec hb dX9_wayCell_8 ki_0 ?_
    cases hf
    exact ke_i hQ hexec hb hr hP hD hS dX9_wayCell_9 hlocks
abbrev w_X9_washes (g : GE) (a0 a1 a2 a3 : Nat) (u0_1 u0_2 u0_3 u0_4 u0_5 u0_6 u0_11 u0_12 u0_13 u0_14 u0_15 u0_16 u0_17 u0_18 u0_19 u0_20 u0_21 u0_22 u0_23 u0_24 u0_25 u0_26 u0_27 u0_28 u0_29 u0_30 : Value) (x0_thrown : Int32) (x0_flowLong : Int32) (y1_flow : Nat → Int32) (y2_s : Nat → Int32) (y3_sums : Nat → Int32) : va_W := [(a0, .inr (9, [.ref a2, u0_1, u0_2, u0_3, u0_4, u0_5, u0_6, .int x0_thrown, .ref a3, .ref a1, .int x0_flowLong, u0_11, u0_12, u0_13, u0_14, u0_15, u0_16, u0_17, u0_18, u0_19, u0_20, u0_21, u0_22, u0_23, u0_24, u0_25, u0_26, u0_27, u0_28, u0_29, u0_30])), (a1, .inl (g.2.1 0, 144, .inl y1_flow)), (a2, .inl (g.2.1 0, 552, .inl y2_s)), (a3, .inl (g.2.1 0, 144, .inl y3_sums))]
set_option maxRecDepth 20000 in
theorem c_X9_washes (l : Launch) (g : GE) (a0 a1 a2 a3 : Nat) (sz : Nat) (u0_1 u0_2 u0_3 u0_4 u0_5 u0_6 u0_11 u0_12 u0_13 u0_14 u0_15 u0_16 u0_17 u0_18 u0_19 u0_20 u0_21 u0_22 u0_23 u0_24 u0_25 u0_26 u0_27 u0_28 u0_29 u0_30 : Value) (x0_thrown : Int32) (x0_flowLong : Int32) (y1_flow : Nat → Int32) (y2_s : Nat → Int32) (y3_sums : Nat → Int32) (p1 : Int32)  (r : Int32) (o_x0_thrown : Int32) (o_x0_flowLong : Int32) (o_y1_flow : Nat → Int32) (o_y3_sums : Nat → Int32) (hf : f_X9_washes x0_thrown x0_flowLong y1_flow y2_s y3_sums p1 = some (r, o_x0_thrown, o_x0_flowLong, o_y1_flow, o_y3_sums)) : MI l g yX9_washes wsX9_washes 10 231 [.ref a0, .int p1] (w_X9_washes g a0 a1 a2 a3 u0_1 u0_2 u0_3 u0_4 u0_5 u0_6 u0_11 u0_12 u0_13 u0_14 u0_15 u0_16 u0_17 u0_18 u0_19 u0_20 u0_21 u0_22 u0_23 u0_24 u0_25 u0_26 u0_27 u0_28 u0_29 u0_30 x0_thrown x0_flowLong y1_flow y2_s y3_sums) sz (some (.int r)) (w_X9_washes g a0 a1 a2 a3 u0_1 u0_2 u0_3 u0_4 u0_5 u0_6 u0_11 u0_12 u0_13 u0_14 u0_15 u0_16 u0_17 u0_18 u0_19 u0_20 u0_21 u0_22 u0_23 u0_24 u0_25 u0_26 u0_27 u0_28 u0_29 u0_30 o_x0_thrown o_x0_flowLong o_y1_flow y2_s o_y3_sums) := by
  refine MI.start (cc := cX9_washes) (maxL := 2) (ret := (some .int)) rfl rfl (nle rfl) ?_
  intro p e s m args below meth c A ls Q hQ hexec hb hr hts hown hlocks hml hA hP hD hG hS hl
  unfold f_X9_washes at hf
  have hWX9 : ∀ w ∈ wsX90, w.before args s = true := fun w h => hts w (List.mem_cons_of_mem _ (List.mem_append_right _ h))
  have hS : va_S A s.heap s.heap [] := hS
  refine lv_aload_n (pc := 0) hexec hb dX9_washes_0 rfl (lv_at hl 0 rfl) ?_
  refine lv_iload_n (pc := 1) hexec hb dX9_washes_1 rfl (lv_at hl 1 rfl) ?_
  obtain ⟨r2, x0_thrown_1, hc, hf⟩ := bd2_e hf
  refine kVp (pc := 2) (S := ⟨hexec, hb, hml, hown, hts⟩) hP hD hG hA hS [0, 2] [1, 3] [2, 0, 3, 1] (w2 := (w_X9_washes g a0 a1 a2 a3 u0_1 u0_2 u0_3 u0_4 u0_5 u0_6 u0_11 u0_12 u0_13 u0_14 u0_15 u0_16 u0_17 u0_18 u0_19 u0_20 u0_21 u0_22 u0_23 u0_24 u0_25 u0_26 u0_27 u0_28 u0_29 u0_30 x0_thrown_1 x0_flowLong y1_flow y2_s y3_sums)) rfl rfl rfl rfl rfl rfl (by decide) (c_X9_mayCell l g a0 a2 _ u0_1 u0_2 u0_3 u0_4 u0_5 u0_6 (.ref a3) (.ref a1) (.int x0_flowLong) u0_11 u0_12 u0_13 u0_14 u0_15 u0_16 u0_17 u0_18 u0_19 u0_20 u0_21 u0_22 u0_23 u0_24 u0_25 u0_26 u0_27 u0_28 u0_29 u0_30 x0_thrown y2_s p1 r2 x0_thrown_1 hc) gX9_washes_X9_mayCell rfl hv_X9_mayCell ⟨nle rfl, nle rfl⟩ 9 0 rfl rfl rfl (rest := []) rfl rfl hl.1 (nle rfl) dX9_washes_2 (fun H locs hP hD hS => ?_)
  refine kb_ne (pc := 5) hexec hb dX9_washes_5 (tgt := 10) rfl hf (fun hc hf => ?_) (fun hc hf => ?_)
  · refine lv_aload_n (pc := 10) hexec hb dX9_washes_10 rfl (lv_at hl 0 rfl) ?_
    refine lv_iload_n (pc := 11) hexec hb dX9_washes_11 rfl (lv_at hl 1 rfl) ?_
    obtain ⟨r12, x0_flowLong_1, y1_flow_1, y3_sums_1, hc, hf⟩ := bd4_e hf
    refine kVp (pc := 12) (S := ⟨hexec, hb, hml, hown, hts⟩) hP hD hG hA hS [0, 1, 2, 3] [] [0, 1, 2, 3] (w2 := (w_X9_washes g a0 a1 a2 a3 u0_1 u0_2 u0_3 u0_4 u0_5 u0_6 u0_11 u0_12 u0_13 u0_14 u0_15 u0_16 u0_17 u0_18 u0_19 u0_20 u0_21 u0_22 u0_23 u0_24 u0_25 u0_26 u0_27 u0_28 u0_29 u0_30 x0_thrown_1 x0_flowLong_1 y1_flow_1 y2_s y3_sums_1)) rfl rfl rfl rfl rfl rfl (by decide) (c_X9_findsFlow l g a0 a1 a2 a3 _ u0_1 u0_2 u0_3 u0_4 u0_5 u0_6 (.int x0_thrown_1) u0_11 u0_12 u0_13 u0_14 u0_15 u0_16 u0_17 u0_18 u0_19 u0_20 u0_21 u0_22 u0_23 u0_24 u0_25 u0_26 u0_27 u0_28 u0_29 u0_30 x0_flowLong y1_flow y2_s y3_sums p1 r12 x0_flowLong_1 y1_flow_1 y3_sums_1 hc) gX9_washes_X9_findsFlow rfl hv_X9_findsFlow ⟨nle rfl, nle rfl⟩ 9 0 rfl rfl rfl (rest := []) rfl rfl hl.1 (nle rfl) dX9_washes_12 (fun H locs hP hD hS => ?_)
    refine kb_eq (pc := 15) hexec hb dX9_washes_15 (tgt := 25) rfl hf (fun hc hf => ?_) (fun hc hf => ?_)
    · refine lv_iconst (pc := 25) hexec hb dX9_washes_25 ki_0 ?_
      cases hf
      exact ke_i hQ hexec hb hr hP hD hS dX9_washes_26 hlocks
    · refine lv_aload_n (pc := 18) hexec hb dX9_washes_18 rfl (lv_at hl 0 rfl) ?_
      obtain ⟨r19, hc, hf⟩ := bd1_e hf
      refine kVp (pc := 19) (S := ⟨hexec, hb, hml, hown, hts⟩) hP hD hG hA hS [0, 1, 2] [3] [1, 2, 3, 0] (w2 := (w_X9_washes g a0 a1 a2 a3 u0_1 u0_2 u0_3 u0_4 u0_5 u0_6 u0_11 u0_12 u0_13 u0_14 u0_15 u0_16 u0_17 u0_18 u0_19 u0_20 u0_21 u0_22 u0_23 u0_24 u0_25 u0_26 u0_27 u0_28 u0_29 u0_30 x0_thrown_1 x0_flowLong_1 y1_flow_1 y2_s y3_sums_1)) rfl rfl rfl rfl rfl rfl (by decide) (c_X9_washedBy l g a0 a1 a2 _ u0_1 u0_2 u0_3 u0_4 u0_5 u0_6 (.int x0_thrown_1) (.ref a3) u0_11 u0_12 u0_13 u0_14 u0_15 u0_16 u0_17 u0_18 u0_19 u0_20 u0_21 u0_22 u0_23 u0_24 u0_25 u0_26 u0_27 u0_28 u0_29 u0_30 x0_flowLong_1 y1_flow_1 y2_s r19 hc) gX9_washes_X9_washedBy rfl hv_X9_washedBy ⟨nle rfl, nle rfl⟩ 9 0 rfl rfl rfl (rest := []) rfl rfl hl.1 (nle rfl) dX9_washes_19 (fun H locs hP hD hS => ?_)
      refine lv_goto (pc := 22) hexec hb dX9_washes_22 (tgt := 26) rfl ?_
      cases hf
      exact ke_i hQ hexec hb hr hP hD hS dX9_washes_26 hlocks
  · refine lv_iconst (pc := 8) hexec hb dX9_washes_8 ki_0 ?_
    cases hf
    exact ke_i hQ hexec hb hr hP hD hS dX9_washes_9 hlocks
abbrev w_X9_mildest (g : GE) (a0 a1 a2 a3 : Nat) (u0_1 u0_2 u0_3 u0_4 u0_5 u0_6 u0_11 u0_12 u0_13 u0_14 u0_15 u0_16 u0_17 u0_18 u0_19 u0_20 u0_21 u0_22 u0_23 u0_24 u0_25 u0_26 u0_27 u0_28 u0_29 u0_30 : Value) (x0_thrown : Int32) (x0_flowLong : Int32) (y1_flow : Nat → Int32) (y2_s : Nat → Int32) (y3_sums : Nat → Int32) : va_W := [(a0, .inr (9, [.ref a2, u0_1, u0_2, u0_3, u0_4, u0_5, u0_6, .int x0_thrown, .ref a3, .ref a1, .int x0_flowLong, u0_11, u0_12, u0_13, u0_14, u0_15, u0_16, u0_17, u0_18, u0_19, u0_20, u0_21, u0_22, u0_23, u0_24, u0_25, u0_26, u0_27, u0_28, u0_29, u0_30])), (a1, .inl (g.2.1 0, 144, .inl y1_flow)), (a2, .inl (g.2.1 0, 552, .inl y2_s)), (a3, .inl (g.2.1 0, 144, .inl y3_sums))]
set_option maxRecDepth 20000 in
theorem c_X9_mildest (l : Launch) (g : GE) (a0 a1 a2 a3 : Nat) (sz : Nat) (u0_1 u0_2 u0_3 u0_4 u0_5 u0_6 u0_11 u0_12 u0_13 u0_14 u0_15 u0_16 u0_17 u0_18 u0_19 u0_20 u0_21 u0_22 u0_23 u0_24 u0_25 u0_26 u0_27 u0_28 u0_29 u0_30 : Value) (x0_thrown : Int32) (x0_flowLong : Int32) (y1_flow : Nat → Int32) (y2_s : Nat → Int32) (y3_sums : Nat → Int32)   (r : Int32) (o_x0_thrown : Int32) (o_x0_flowLong : Int32) (o_y1_flow : Nat → Int32) (o_y3_sums : Nat → Int32) (hf : f_X9_mildest x0_thrown x0_flowLong y1_flow y2_s y3_sums = some (r, o_x0_thrown, o_x0_flowLong, o_y1_flow, o_y3_sums)) : MI l g yX9_mildest wsX9_mildest 9 210 [.ref a0] (w_X9_mildest g a0 a1 a2 a3 u0_1 u0_2 u0_3 u0_4 u0_5 u0_6 u0_11 u0_12 u0_13 u0_14 u0_15 u0_16 u0_17 u0_18 u0_19 u0_20 u0_21 u0_22 u0_23 u0_24 u0_25 u0_26 u0_27 u0_28 u0_29 u0_30 x0_thrown x0_flowLong y1_flow y2_s y3_sums) sz (some (.int r)) (w_X9_mildest g a0 a1 a2 a3 u0_1 u0_2 u0_3 u0_4 u0_5 u0_6 u0_11 u0_12 u0_13 u0_14 u0_15 u0_16 u0_17 u0_18 u0_19 u0_20 u0_21 u0_22 u0_23 u0_24 u0_25 u0_26 u0_27 u0_28 u0_29 u0_30 o_x0_thrown o_x0_flowLong o_y1_flow y2_s o_y3_sums) := by
  refine MI.start (cc := cX9_mildest) (maxL := 6) (ret := (some .int)) rfl rfl (nle rfl) ?_
  intro p e s m args below meth c A ls Q hQ hexec hb hr hts hown hlocks hml hA hP hD hG hS hl
  unfold f_X9_mildest at hf
  have hWX9 : ∀ w ∈ wsX90, w.before args s = true := fun w h => hts w (List.mem_cons_of_mem _ (List.mem_append_right _ h))
  have hS : va_S A s.heap s.heap [] := hS
  refine lv_aload_n (pc := 0) hexec hb dX9_mildest_0 rfl (lv_at hl 0 rfl) ?_
  refine lv_iconst (pc := 1) hexec hb dX9_mildest_1 ki_0 ?_
  refine kp_put (pc := 2) hexec hb (own := RX9) hWX9 tyX9 tyX9_ok nmX9 hown hG hP hD hS 0 rfl rfl 7 (nle rfl) (hts _ (List.mem_cons_of_mem _ (List.mem_append_left _ (List.mem_append_left _ (List.mem_of_getElem? (i := 0) rfl))))) rfl rfl rfl rfl (nle rfl) dX9_mildest_2 (fun H locs (hP : va_P g.1 vwCl (w_X9_mildest g a0 a1 a2 a3 u0_1 u0_2 u0_3 u0_4 u0_5 u0_6 u0_11 u0_12 u0_13 u0_14 u0_15 u0_16 u0_17 u0_18 u0_19 u0_20 u0_21 u0_22 u0_23 u0_24 u0_25 u0_26 u0_27 u0_28 u0_29 u0_30 0 x0_flowLong y1_flow y2_s y3_sums) H) (hD : va_D A (w_X9_mildest g a0 a1 a2 a3 u0_1 u0_2 u0_3 u0_4 u0_5 u0_6 u0_11 u0_12 u0_13 u0_14 u0_15 u0_16 u0_17 u0_18 u0_19 u0_20 u0_21 u0_22 u0_23 u0_24 u0_25 u0_26 u0_27 u0_28 u0_29 u0_30 0 x0_flowLong y1_flow y2_s y3_sums)) hS => ?_)
  refine lv_aload_n (pc := 5) hexec hb dX9_mildest_5 rfl (lv_at hl 0 rfl) ?_
  obtain ⟨y3_sums_1, hc, hf⟩ := bd1_e hf
  refine kVp (pc := 6) (S := ⟨hexec, hb, hml, hown, hts⟩) hP hD hG hA hS [0, 2, 3] [1] [1, 0, 2, 3] (w2 := (w_X9_mildest g a0 a1 a2 a3 u0_1 u0_2 u0_3 u0_4 u0_5 u0_6 u0_11 u0_12 u0_13 u0_14 u0_15 u0_16 u0_17 u0_18 u0_19 u0_20 u0_21 u0_22 u0_23 u0_24 u0_25 u0_26 u0_27 u0_28 u0_29 u0_30 0 x0_flowLong y1_flow y2_s y3_sums_1)) rfl rfl rfl rfl rfl rfl (by decide) (c_X9_laysSums l g a0 a2 a3 _ u0_1 u0_2 u0_3 u0_4 u0_5 u0_6 (.int 0) (.ref a1) (.int x0_flowLong) u0_11 u0_12 u0_13 u0_14 u0_15 u0_16 u0_17 u0_18 u0_19 u0_20 u0_21 u0_22 u0_23 u0_24 u0_25 u0_26 u0_27 u0_28 u0_29 u0_30 y2_s y3_sums y3_sums_1 hc) gX9_mildest_X9_laysSums rfl hv_X9_laysSums ⟨nle rfl, nle rfl⟩ 9 0 rfl rfl rfl (rest := []) rfl rfl hl.1 (nle rfl) dX9_mildest_6 (fun H locs hP hD hS => ?_)
  refine lv_iconst (pc := 9) hexec hb dX9_mildest_9 ki_m1 ?_
  refine lv_istore_n (pc := 10) hexec hb dX9_mildest_10 rfl hl (nle rfl) rfl (fun ls (hl : lv_has ls 6 [(1, .int (-1)), (0, .ref a0)]) => ?_)
  refine lv_iconst (pc := 11) hexec hb dX9_mildest_11 ki_0 ?_
  refine lv_istore_n (pc := 12) hexec hb dX9_mildest_12 rfl hl (nle rfl) rfl (fun ls (hl : lv_has ls 6 [(2, .int 0), (1, .int (-1)), (0, .ref a0)]) => ?_)
  refine lv_iconst (pc := 13) hexec hb dX9_mildest_13 ki_0 ?_
  refine lv_istore_n (pc := 14) hexec hb dX9_mildest_14 rfl hl (nle rfl) rfl (fun ls (hl : lv_has ls 6 [(3, .int 0), (2, .int 0), (1, .int (-1)), (0, .ref a0)]) => ?_)
  refine lv_iconst (pc := 15) hexec hb dX9_mildest_15 ki_0 ?_
  refine lv_istore (pc := 16) hexec hb dX9_mildest_16 hl (nle rfl) rfl (fun ls (hl : lv_has ls 6 [(4, .int 0), (3, .int 0), (2, .int 0), (1, .int (-1)), (0, .ref a0)]) => ?_)
  obtain ⟨l18, el18, hf⟩ := bvf6 hf
  obtain ⟨v1_1, x0_flowLong_2, y1_flow_2, hz, hf⟩ := bd3_e hf
  have hE18 : ∀ (H : Heap) (locs : List Loc) (ls : Array Slot), va_P g.1 vwCl (w_X9_mildest g a0 a1 a2 a3 u0_1 u0_2 u0_3 u0_4 u0_5 u0_6 u0_11 u0_12 u0_13 u0_14 u0_15 u0_16 u0_17 u0_18 u0_19 u0_20 u0_21 u0_22 u0_23 u0_24 u0_25 u0_26 u0_27 u0_28 u0_29 u0_30 0 x0_flowLong_2 y1_flow_2 y2_s y3_sums_1) H → va_D A (w_X9_mildest g a0 a1 a2 a3 u0_1 u0_2 u0_3 u0_4 u0_5 u0_6 u0_11 u0_12 u0_13 u0_14 u0_15 u0_16 u0_17 u0_18 u0_19 u0_20 u0_21 u0_22 u0_23 u0_24 u0_25 u0_26 u0_27 u0_28 u0_29 u0_30 0 x0_flowLong_2 y1_flow_2 y2_s y3_sums_1) → va_S A s.heap H locs → lv_has ls 6 [(1, .int v1_1)] → W p l e (RM 9 210) s m args below meth c H locs 0 0 Q (F0 m 90 ls []) := by
    intro H locs ls hP hD hS hl
    refine lv_iload_n (pc := 90) hexec hb dX9_mildest_90 rfl (lv_at hl 0 rfl) ?_
    cases hf
    exact ke_i hQ hexec hb hr hP hD hS dX9_mildest_91 hlocks
  obtain ⟨n, hz⟩ := lq6_e hz
  have hL18 : ∀ (n : Nat) (v1 : Int32) (v2 : Int32) (v3 : Int32) (v4 : Int32) (x0_flowLong_1 : Int32) (y1_flow_1 : Nat → Int32) (H : Heap) (locs : List Loc) (ls : Array Slot), it6 l18 n v1 v2 v3 v4 x0_flowLong_1 y1_flow_1 = some (v1_1, x0_flowLong_2, y1_flow_2) → va_P g.1 vwCl (w_X9_mildest g a0 a1 a2 a3 u0_1 u0_2 u0_3 u0_4 u0_5 u0_6 u0_11 u0_12 u0_13 u0_14 u0_15 u0_16 u0_17 u0_18 u0_19 u0_20 u0_21 u0_22 u0_23 u0_24 u0_25 u0_26 u0_27 u0_28 u0_29 u0_30 0 x0_flowLong_1 y1_flow_1 y2_s y3_sums_1) H → va_D A (w_X9_mildest g a0 a1 a2 a3 u0_1 u0_2 u0_3 u0_4 u0_5 u0_6 u0_11 u0_12 u0_13 u0_14 u0_15 u0_16 u0_17 u0_18 u0_19 u0_20 u0_21 u0_22 u0_23 u0_24 u0_25 u0_26 u0_27 u0_28 u0_29 u0_30 0 x0_flowLong_1 y1_flow_1 y2_s y3_sums_1) → va_S A s.heap H locs → lv_has ls 6 [(0, .ref a0), (1, .int v1), (2, .int v2), (3, .int v3), (4, .int v4)] → W p l e (RM 9 210) s m args below meth c H locs 0 0 Q (F0 m 18 ls []) := by
    intro n
    induction n with
    | zero =>
      intro v1 v2 v3 v4 x0_flowLong_1 y1_flow_1 H locs ls hf hP hD hS hl
      exact it6_0 hf
    | succ n18 ih18 =>
      intro v1 v2 v3 v4 x0_flowLong_1 y1_flow_1 H locs ls hf hP hD hS hl
      obtain ⟨q18, hf, hk18⟩ := it6_e hf
      have hf := (el18 v1 v2 v3 v4 x0_flowLong_1 y1_flow_1).symm.trans hf
      refine lv_iload (pc := 18) hexec hb dX9_mildest_18 (lv_at hl 4 rfl) ?_
      refine lv_aload_n (pc := 20) hexec hb dX9_mildest_20 rfl (lv_at hl 0 rfl) ?_
      obtain ⟨r21, hc, hf⟩ := bd1_e hf
      refine kVp (pc := 21) (S := ⟨hexec, hb, hml, hown, hts⟩) hP hD hG hA hS [0, 2] [1, 3] [2, 0, 3, 1] (w2 := (w_X9_mildest g a0 a1 a2 a3 u0_1 u0_2 u0_3 u0_4 u0_5 u0_6 u0_11 u0_12 u0_13 u0_14 u0_15 u0_16 u0_17 u0_18 u0_19 u0_20 u0_21 u0_22 u0_23 u0_24 u0_25 u0_26 u0_27 u0_28 u0_29 u0_30 0 x0_flowLong_1 y1_flow_1 y2_s y3_sums_1)) rfl rfl rfl rfl rfl rfl (by decide) (c_X9_cells l g a0 a2 _ u0_1 u0_2 u0_3 u0_4 u0_5 u0_6 (.int 0) (.ref a3) (.ref a1) (.int x0_flowLong_1) u0_11 u0_12 u0_13 u0_14 u0_15 u0_16 u0_17 u0_18 u0_19 u0_20 u0_21 u0_22 u0_23 u0_24 u0_25 u0_26 u0_27 u0_28 u0_29 u0_30 y2_s r21 hc) gX9_mildest_X9_cells rfl hv_X9_cells ⟨nle rfl, nle rfl⟩ 9 0 rfl rfl rfl (rest := [.int v4]) rfl rfl hl.1 (nle rfl) dX9_mildest_21 (fun H locs hP hD hS => ?_)
      refine ki_ge (pc := 24) hexec hb dX9_mildest_24 (tgt := 90) rfl hf (fun hc hf => ?_) (fun hc hf => ?_)
      · cases sr6 hf hk18
        exact hE18 _ _ _ hP hD hS (lv_sub hl [1] rfl)
      · refine lv_aload_n (pc := 27) hexec hb dX9_mildest_27 rfl (lv_at hl 0 rfl) ?_
        refine lv_iload (pc := 28) hexec hb dX9_mildest_28 (lv_at hl 4 rfl) ?_
        obtain ⟨r30, x0_flowLong_3, y1_flow_3, hc, hf⟩ := bd3_e hf
        refine kVp (pc := 30) (S := ⟨hexec, hb, hml, hown, hts⟩) hP hD hG hA hS [0, 1, 2, 3] [] [0, 1, 2, 3] (w2 := (w_X9_mildest g a0 a1 a2 a3 u0_1 u0_2 u0_3 u0_4 u0_5 u0_6 u0_11 u0_12 u0_13 u0_14 u0_15 u0_16 u0_17 u0_18 u0_19 u0_20 u0_21 u0_22 u0_23 u0_24 u0_25 u0_26 u0_27 u0_28 u0_29 u0_30 0 x0_flowLong_3 y1_flow_3 y2_s y3_sums_1)) rfl rfl rfl rfl rfl rfl (by decide) (c_X9_laysFlow l g a0 a1 a2 a3 _ u0_1 u0_2 u0_3 u0_4 u0_5 u0_6 (.int 0) u0_11 u0_12 u0_13 u0_14 u0_15 u0_16 u0_17 u0_18 u0_19 u0_20 u0_21 u0_22 u0_23 u0_24 u0_25 u0_26 u0_27 u0_28 u0_29 u0_30 x0_flowLong_1 y1_flow_1 y2_s y3_sums_1 v4 r30 x0_flowLong_3 y1_flow_3 hc) gX9_mildest_X9_laysFlow rfl hv_X9_laysFlow ⟨nle rfl, nle rfl⟩ 9 0 rfl rfl rfl (rest := []) rfl rfl hl.1 (nle rfl) dX9_mildest_30 (fun H locs hP hD hS => ?_)
        obtain ⟨j84, ej84, hf⟩ := bvf3 hf
        have hj84 : ∀ (v1_2 : Int32) (v2_1 : Int32) (v3_1 : Int32) (H : Heap) (locs : List Loc) (ls : Array Slot), j84 v1_2 v2_1 v3_1 = some q18 → va_P g.1 vwCl (w_X9_mildest g a0 a1 a2 a3 u0_1 u0_2 u0_3 u0_4 u0_5 u0_6 u0_11 u0_12 u0_13 u0_14 u0_15 u0_16 u0_17 u0_18 u0_19 u0_20 u0_21 u0_22 u0_23 u0_24 u0_25 u0_26 u0_27 u0_28 u0_29 u0_30 0 x0_flowLong_3 y1_flow_3 y2_s y3_sums_1) H → va_D A (w_X9_mildest g a0 a1 a2 a3 u0_1 u0_2 u0_3 u0_4 u0_5 u0_6 u0_11 u0_12 u0_13 u0_14 u0_15 u0_16 u0_17 u0_18 u0_19 u0_20 u0_21 u0_22 u0_23 u0_24 u0_25 u0_26 u0_27 u0_28 u0_29 u0_30 0 x0_flowLong_3 y1_flow_3 y2_s y3_sums_1) → va_S A s.heap H locs → lv_has ls 6 [(0, .ref a0), (1, .int v1_2), (2, .int v2_1), (3, .int v3_1), (4, .int v4)] → W p l e (RM 9 210) s m args below meth c H locs 0 0 Q (F0 m 84 ls []) := by
          intro v1_2 v2_1 v3_1 H locs ls hf hP hD hS hl
          have hf := (ej84 v1_2 v2_1 v3_1).symm.trans hf
          obtain ⟨v4_1, ev4_1, hf⟩ := bv_e hf
          refine k_iinc (pc := 84) hexec hb dX9_mildest_84 kq_1 hl (k := 4) rfl ev4_1 (nle rfl) rfl (fun ls (hl : lv_has ls 6 [(4, .int v4_1), (0, .ref a0), (1, .int v1_2), (2, .int v2_1), (3, .int v3_1)]) => ?_)
          refine lv_goto (pc := 87) hexec hb dX9_mildest_87 (tgt := 18) rfl ?_
          exact ih18 _ _ _ _ _ _ _ _ _ (sl6 hf hk18) hP hD hS (lv_sub hl [1, 2, 3, 4, 0] rfl)
        refine kb_ne (pc := 33) hexec hb dX9_mildest_33 (tgt := 39) rfl hf (fun hc hf => ?_) (fun hc hf => ?_)
        · refine lv_aload_n (pc := 39) hexec hb dX9_mildest_39 rfl (lv_at hl 0 rfl) ?_
          obtain ⟨r40, hc, hf⟩ := bd1_e hf
          refine kVp (pc := 40) (S := ⟨hexec, hb, hml, hown, hts⟩) hP hD hG hA hS [0, 1, 2] [3] [1, 2, 3, 0] (w2 := (w_X9_mildest g a0 a1 a2 a3 u0_1 u0_2 u0_3 u0_4 u0_5 u0_6 u0_11 u0_12 u0_13 u0_14 u0_15 u0_16 u0_17 u0_18 u0_19 u0_20 u0_21 u0_22 u0_23 u0_24 u0_25 u0_26 u0_27 u0_28 u0_29 u0_30 0 x0_flowLong_3 y1_flow_3 y2_s y3_sums_1)) rfl rfl rfl rfl rfl rfl (by decide) (c_X9_washedBy l g a0 a1 a2 _ u0_1 u0_2 u0_3 u0_4 u0_5 u0_6 (.int 0) (.ref a3) u0_11 u0_12 u0_13 u0_14 u0_15 u0_16 u0_17 u0_18 u0_19 u0_20 u0_21 u0_22 u0_23 u0_24 u0_25 u0_26 u0_27 u0_28 u0_29 u0_30 x0_flowLong_3 y1_flow_3 y2_s r40 hc) gX9_mildest_X9_washedBy rfl hv_X9_washedBy ⟨nle rfl, nle rfl⟩ 9 0 rfl rfl rfl (rest := []) rfl rfl hl.1 (nle rfl) dX9_mildest_40 (fun H locs hP hD hS => ?_)
          obtain ⟨r43, hc, hf⟩ := bd1_e hf
          refine kSp (pc := 43) (S := ⟨hexec, hb, hml, hown, hts⟩) hP hD hG hA hS [] [0, 1, 2, 3] [0, 1, 2, 3] (w2 := (w_X9_mildest g a0 a1 a2 a3 u0_1 u0_2 u0_3 u0_4 u0_5 u0_6 u0_11 u0_12 u0_13 u0_14 u0_15 u0_16 u0_17 u0_18 u0_19 u0_20 u0_21 u0_22 u0_23 u0_24 u0_25 u0_26 u0_27 u0_28 u0_29 u0_30 0 x0_flowLong_3 y1_flow_3 y2_s y3_sums_1)) rfl rfl rfl rfl rfl rfl (by decide) (c_X9_ones l g _ r40 r43 hc) gX9_mildest_X9_ones rfl hs_X9_ones ⟨nle rfl, nle rfl⟩ (rest := []) rfl rfl hl.1 (nle rfl) dX9_mildest_43 (fun H locs hP hD hS => ?_)
          refine lv_istore (pc := 46) hexec hb dX9_mildest_46 hl (nle rfl) rfl (fun ls (hl : lv_has ls 6 [(5, .int r43), (0, .ref a0), (1, .int v1), (2, .int v2), (3, .int v3), (4, .int v4)]) => ?_)
          refine lv_iload_n (pc := 48) hexec hb dX9_mildest_48 rfl (lv_at hl 2 rfl) ?_
          refine lv_iconst (pc := 49) hexec hb dX9_mildest_49 ki_m1 ?_
          obtain ⟨j73, ej73, hf⟩ := bvf1 hf
          have hj73 : ∀ (u : Unit) (H : Heap) (locs : List Loc) (ls : Array Slot), j73 u = some q18 → va_P g.1 vwCl (w_X9_mildest g a0 a1 a2 a3 u0_1 u0_2 u0_3 u0_4 u0_5 u0_6 u0_11 u0_12 u0_13 u0_14 u0_15 u0_16 u0_17 u0_18 u0_19 u0_20 u0_21 u0_22 u0_23 u0_24 u0_25 u0_26 u0_27 u0_28 u0_29 u0_30 0 x0_flowLong_3 y1_flow_3 y2_s y3_sums_1) H → va_D A (w_X9_mildest g a0 a1 a2 a3 u0_1 u0_2 u0_3 u0_4 u0_5 u0_6 u0_11 u0_12 u0_13 u0_14 u0_15 u0_16 u0_17 u0_18 u0_19 u0_20 u0_21 u0_22 u0_23 u0_24 u0_25 u0_26 u0_27 u0_28 u0_29 u0_30 0 x0_flowLong_3 y1_flow_3 y2_s y3_sums_1) → va_S A s.heap H locs → lv_has ls 6 [(0, .ref a0), (4, .int v4), (5, .int r43)] → W p l e (RM 9 210) s m args below meth c H locs 0 0 Q (F0 m 73 ls []) := by
            intro u H locs ls hf hP hD hS hl
            have hf := (ej73 u).symm.trans hf
            refine lv_iload (pc := 73) hexec hb dX9_mildest_73 (lv_at hl 1 rfl) ?_
            refine lv_istore_n (pc := 75) hexec hb dX9_mildest_75 rfl hl (nle rfl) rfl (fun ls (hl : lv_has ls 6 [(1, .int v4), (0, .ref a0), (4, .int v4), (5, .int r43)]) => ?_)
            refine lv_iload (pc := 76) hexec hb dX9_mildest_76 (lv_at hl 3 rfl) ?_
            refine lv_istore_n (pc := 78) hexec hb dX9_mildest_78 rfl hl (nle rfl) rfl (fun ls (hl : lv_has ls 6 [(2, .int r43), (1, .int v4), (0, .ref a0), (4, .int v4), (5, .int r43)]) => ?_)
            refine lv_aload_n (pc := 79) hexec hb dX9_mildest_79 rfl (lv_at hl 2 rfl) ?_
            refine kg_get (pc := 80) hexec hb (own := RX9) hWX9 hown hG hP 0 rfl rfl 10 (nle rfl) (hts _ (List.mem_cons_of_mem _ (List.mem_append_left _ (List.mem_append_left _ (List.mem_of_getElem? (i := 1) rfl))))) rfl rfl dX9_mildest_80 ?_
            refine lv_istore_n (pc := 83) hexec hb dX9_mildest_83 rfl hl (nle rfl) rfl (fun ls (hl : lv_has ls 6 [(3, .int x0_flowLong_3), (2, .int r43), (1, .int v4), (0, .ref a0), (4, .int v4), (5, .int r43)]) => ?_)
            exact hj84 _ _ _ _ _ _ hf hP hD hS (lv_sub hl [3, 2, 1, 0, 4] rfl)
          refine ki_eq (pc := 50) hexec hb dX9_mildest_50 (tgt := 73) rfl hf (fun hc hf => ?_) (fun hc hf => ?_)
          · exact hj73 _ _ _ _ hf hP hD hS (lv_sub hl [1, 5, 0] rfl)
          · refine lv_iload (pc := 53) hexec hb dX9_mildest_53 (lv_at hl 0 rfl) ?_
            refine lv_iload_n (pc := 55) hexec hb dX9_mildest_55 rfl (lv_at hl 3 rfl) ?_
            refine ki_lt (pc := 56) hexec hb dX9_mildest_56 (tgt := 73) rfl hf (fun hc hf => ?_) (fun hc hf => ?_)
            · exact hj73 _ _ _ _ hf hP hD hS (lv_sub hl [1, 5, 0] rfl)
            · refine lv_iload (pc := 59) hexec hb dX9_mildest_59 (lv_at hl 0 rfl) ?_
              refine lv_iload_n (pc := 61) hexec hb dX9_mildest_61 rfl (lv_at hl 3 rfl) ?_
              refine ki_ne (pc := 62) hexec hb dX9_mildest_62 (tgt := 84) rfl hf (fun hc hf => ?_) (fun hc hf => ?_)
              · exact hj84 _ _ _ _ _ _ hf hP hD hS (lv_sub hl [1, 2, 3, 4, 5] rfl)
              · refine lv_aload_n (pc := 65) hexec hb dX9_mildest_65 rfl (lv_at hl 1 rfl) ?_
                refine kg_get (pc := 66) hexec hb (own := RX9) hWX9 hown hG hP 0 rfl rfl 10 (nle rfl) (hts _ (List.mem_cons_of_mem _ (List.mem_append_left _ (List.mem_append_left _ (List.mem_of_getElem? (i := 1) rfl))))) rfl rfl dX9_mildest_66 ?_
                refine lv_iload_n (pc := 69) hexec hb dX9_mildest_69 rfl (lv_at hl 4 rfl) ?_
                refine ki_le (pc := 70) hexec hb dX9_mildest_70 (tgt := 84) rfl hf (fun hc hf => ?_) (fun hc hf => ?_)
                · exact hj84 _ _ _ _ _ _ hf hP hD hS (lv_sub hl [1, 2, 3, 4, 5] rfl)
                · exact hj73 _ _ _ _ hf hP hD hS (lv_sub hl [1, 5, 0] rfl)
        · refine lv_goto (pc := 36) hexec hb dX9_mildest_36 (tgt := 84) rfl ?_
          exact hj84 _ _ _ _ _ _ hf hP hD hS (lv_sub hl [0, 1, 2, 3, 4] rfl)
  exact hL18 n _ _ _ _ _ _ _ _ _ hz hP hD hS (lv_sub hl [4, 3, 2, 1, 0] rfl)
abbrev w_X9_drowns (g : GE) (a0 a1 : Nat) (u0_1 u0_2 u0_3 u0_4 u0_5 u0_6 u0_8 u0_9 u0_10 u0_11 u0_12 u0_13 u0_14 u0_15 u0_16 u0_17 u0_18 u0_19 u0_20 u0_21 u0_22 u0_23 u0_24 u0_25 u0_26 u0_27 u0_28 u0_29 u0_30 : Value) (x0_thrown : Int32) (y1_s : Nat → Int32) : va_W := [(a0, .inr (9, [.ref a1, u0_1, u0_2, u0_3, u0_4, u0_5, u0_6, .int x0_thrown, u0_8, u0_9, u0_10, u0_11, u0_12, u0_13, u0_14, u0_15, u0_16, u0_17, u0_18, u0_19, u0_20, u0_21, u0_22, u0_23, u0_24, u0_25, u0_26, u0_27, u0_28, u0_29, u0_30])), (a1, .inl (g.2.1 0, 552, .inl y1_s))]
set_option maxRecDepth 20000 in
theorem c_X9_drowns (l : Launch) (g : GE) (a0 a1 : Nat) (sz : Nat) (u0_1 u0_2 u0_3 u0_4 u0_5 u0_6 u0_8 u0_9 u0_10 u0_11 u0_12 u0_13 u0_14 u0_15 u0_16 u0_17 u0_18 u0_19 u0_20 u0_21 u0_22 u0_23 u0_24 u0_25 u0_26 u0_27 u0_28 u0_29 u0_30 : Value) (x0_thrown : Int32) (y1_s : Nat → Int32) (p1 : Int32)  (r : Int32) (o_x0_thrown : Int32) (hf : f_X9_drowns x0_thrown y1_s p1 = some (r, o_x0_thrown)) : MI l g yX9_drowns wsX9_drowns 6 143 [.ref a0, .int p1] (w_X9_drowns g a0 a1 u0_1 u0_2 u0_3 u0_4 u0_5 u0_6 u0_8 u0_9 u0_10 u0_11 u0_12 u0_13 u0_14 u0_15 u0_16 u0_17 u0_18 u0_19 u0_20 u0_21 u0_22 u0_23 u0_24 u0_25 u0_26 u0_27 u0_28 u0_29 u0_30 x0_thrown y1_s) sz (some (.int r)) (w_X9_drowns g a0 a1 u0_1 u0_2 u0_3 u0_4 u0_5 u0_6 u0_8 u0_9 u0_10 u0_11 u0_12 u0_13 u0_14 u0_15 u0_16 u0_17 u0_18 u0_19 u0_20 u0_21 u0_22 u0_23 u0_24 u0_25 u0_26 u0_27 u0_28 u0_29 u0_30 o_x0_thrown y1_s) := by
  refine MI.start (cc := cX9_drowns) (maxL := 2) (ret := (some .int)) rfl rfl (nle rfl) ?_
  intro p e s m args below meth c A ls Q hQ hexec hb hr hts hown hlocks hml hA hP hD hG hS hl
  unfold f_X9_drowns at hf
  have hWX9 : ∀ w ∈ wsX90, w.before args s = true := fun w h => hts w (List.mem_cons_of_mem _ (List.mem_append_right _ h))
  have hS : va_S A s.heap s.heap [] := hS
  refine lv_aload_n (pc := 0) hexec hb dX9_drowns_0 rfl (lv_at hl 0 rfl) ?_
  refine lv_iload_n (pc := 1) hexec hb dX9_drowns_1 rfl (lv_at hl 1 rfl) ?_
  obtain ⟨r2, x0_thrown_1, hc, hf⟩ := bd2_e hf
  refine kVp (pc := 2) (S := ⟨hexec, hb, hml, hown, hts⟩) hP hD hG hA hS [0, 1] [] [0, 1] (w2 := (w_X9_drowns g a0 a1 u0_1 u0_2 u0_3 u0_4 u0_5 u0_6 u0_8 u0_9 u0_10 u0_11 u0_12 u0_13 u0_14 u0_15 u0_16 u0_17 u0_18 u0_19 u0_20 u0_21 u0_22 u0_23 u0_24 u0_25 u0_26 u0_27 u0_28 u0_29 u0_30 x0_thrown_1 y1_s)) rfl rfl rfl rfl rfl rfl (by decide) (c_X9_mayCell l g a0 a1 _ u0_1 u0_2 u0_3 u0_4 u0_5 u0_6 u0_8 u0_9 u0_10 u0_11 u0_12 u0_13 u0_14 u0_15 u0_16 u0_17 u0_18 u0_19 u0_20 u0_21 u0_22 u0_23 u0_24 u0_25 u0_26 u0_27 u0_28 u0_29 u0_30 x0_thrown y1_s p1 r2 x0_thrown_1 hc) gX9_drowns_X9_mayCell rfl hv_X9_mayCell ⟨nle rfl, nle rfl⟩ 9 0 rfl rfl rfl (rest := []) rfl rfl hl.1 (nle rfl) dX9_drowns_2 (fun H locs hP hD hS => ?_)
  refine kb_eq (pc := 5) hexec hb dX9_drowns_5 (tgt := 16) rfl hf (fun hc hf => ?_) (fun hc hf => ?_)
  · refine lv_iconst (pc := 16) hexec hb dX9_drowns_16 ki_0 ?_
    cases hf
    exact ke_i hQ hexec hb hr hP hD hS dX9_drowns_17 hlocks
  · refine lv_aload_n (pc := 8) hexec hb dX9_drowns_8 rfl (lv_at hl 0 rfl) ?_
    refine lv_iload_n (pc := 9) hexec hb dX9_drowns_9 rfl (lv_at hl 1 rfl) ?_
    obtain ⟨r10, hc, hf⟩ := bd1_e hf
    refine kVp (pc := 10) (S := ⟨hexec, hb, hml, hown, hts⟩) hP hD hG hA hS [0, 1] [] [0, 1] (w2 := (w_X9_drowns g a0 a1 u0_1 u0_2 u0_3 u0_4 u0_5 u0_6 u0_8 u0_9 u0_10 u0_11 u0_12 u0_13 u0_14 u0_15 u0_16 u0_17 u0_18 u0_19 u0_20 u0_21 u0_22 u0_23 u0_24 u0_25 u0_26 u0_27 u0_28 u0_29 u0_30 x0_thrown_1 y1_s)) rfl rfl rfl rfl rfl rfl (by decide) (c_X9_namesIn l g a0 a1 _ u0_1 u0_2 u0_3 u0_4 u0_5 u0_6 (.int x0_thrown_1) u0_8 u0_9 u0_10 u0_11 u0_12 u0_13 u0_14 u0_15 u0_16 u0_17 u0_18 u0_19 u0_20 u0_21 u0_22 u0_23 u0_24 u0_25 u0_26 u0_27 u0_28 u0_29 u0_30 y1_s p1 r10 hc) gX9_drowns_X9_namesIn rfl hv_X9_namesIn ⟨nle rfl, nle rfl⟩ 9 0 rfl rfl rfl (rest := []) rfl rfl hl.1 (nle rfl) dX9_drowns_10 (fun H locs hP hD hS => ?_)
    refine lv_goto (pc := 13) hexec hb dX9_drowns_13 (tgt := 17) rfl ?_
    cases hf
    exact ke_i hQ hexec hb hr hP hD hS dX9_drowns_17 hlocks
abbrev w_X9_place (g : GE) (a0 a1 a2 : Nat) (u0_1 u0_2 u0_4 u0_5 u0_8 u0_9 u0_10 u0_11 u0_12 u0_13 u0_14 u0_15 u0_16 u0_17 u0_18 u0_19 u0_20 u0_21 u0_22 u0_23 u0_24 u0_25 u0_26 u0_27 u0_28 u0_29 u0_30 : Value) (x0_acts : Int32) (x0_thrown : Int32) (y1_past : Nat → Int32) (y2_s : Nat → Int32) : va_W := [(a0, .inr (9, [.ref a2, u0_1, u0_2, .ref a1, u0_4, u0_5, .int x0_acts, .int x0_thrown, u0_8, u0_9, u0_10, u0_11, u0_12, u0_13, u0_14, u0_15, u0_16, u0_17, u0_18, u0_19, u0_20, u0_21, u0_22, u0_23, u0_24, u0_25, u0_26, u0_27, u0_28, u0_29, u0_30])), (a1, .inl (g.2.1 0, 4416, .inl y1_past)), (a2, .inl (g.2.1 0, 552, .inl y2_s))]
set_option maxRecDepth 20000 in
theorem c_X9_place (l : Launch) (g : GE) (a0 a1 a2 : Nat) (sz : Nat) (u0_1 u0_2 u0_4 u0_5 u0_8 u0_9 u0_10 u0_11 u0_12 u0_13 u0_14 u0_15 u0_16 u0_17 u0_18 u0_19 u0_20 u0_21 u0_22 u0_23 u0_24 u0_25 u0_26 u0_27 u0_28 u0_29 u0_30 : Value) (x0_acts : Int32) (x0_thrown : Int32) (y1_past : Nat → Int32) (y2_s : Nat → Int32) (p1 : Int32) (p2 : Int32)  (r : Int32) (o_x0_acts : Int32) (o_x0_thrown : Int32) (o_y1_past : Nat → Int32) (o_y2_s : Nat → Int32) (hf : f_X9_place x0_acts x0_thrown y1_past y2_s p1 p2 = some (r, o_x0_acts, o_x0_thrown, o_y1_past, o_y2_s)) : MI l g yX9_place wsX9_place 6 151 [.ref a0, .int p1, .int p2] (w_X9_place g a0 a1 a2 u0_1 u0_2 u0_4 u0_5 u0_8 u0_9 u0_10 u0_11 u0_12 u0_13 u0_14 u0_15 u0_16 u0_17 u0_18 u0_19 u0_20 u0_21 u0_22 u0_23 u0_24 u0_25 u0_26 u0_27 u0_28 u0_29 u0_30 x0_acts x0_thrown y1_past y2_s) sz (some (.int r)) (w_X9_place g a0 a1 a2 u0_1 u0_2 u0_4 u0_5 u0_8 u0_9 u0_10 u0_11 u0_12 u0_13 u0_14 u0_15 u0_16 u0_17 u0_18 u0_19 u0_20 u0_21 u0_22 u0_23 u0_24 u0_25 u0_26 u0_27 u0_28 u0_29 u0_30 o_x0_acts o_x0_thrown o_y1_past o_y2_s) := by
  refine MI.start (cc := cX9_place) (maxL := 4) (ret := (some .int)) rfl rfl (nle rfl) ?_
  intro p e s m args below meth c A ls Q hQ hexec hb hr hts hown hlocks hml hA hP hD hG hS hl
  unfold f_X9_place at hf
  have hWX9 : ∀ w ∈ wsX90, w.before args s = true := fun w h => hts w (List.mem_cons_of_mem _ (List.mem_append_right _ h))
  have hS : va_S A s.heap s.heap [] := hS
  refine lv_aload_n (pc := 0) hexec hb dX9_place_0 rfl (lv_at hl 0 rfl) ?_
  refine lv_aload_n (pc := 1) hexec hb dX9_place_1 rfl (lv_at hl 0 rfl) ?_
  refine lv_iload_n (pc := 2) hexec hb dX9_place_2 rfl (lv_at hl 1 rfl) ?_
  obtain ⟨r3, hc, hf⟩ := bd1_e hf
  refine kVp (pc := 3) (S := ⟨hexec, hb, hml, hown, hts⟩) hP hD hG hA hS [0, 2] [1] [1, 0, 2] (w2 := (w_X9_place g a0 a1 a2 u0_1 u0_2 u0_4 u0_5 u0_8 u0_9 u0_10 u0_11 u0_12 u0_13 u0_14 u0_15 u0_16 u0_17 u0_18 u0_19 u0_20 u0_21 u0_22 u0_23 u0_24 u0_25 u0_26 u0_27 u0_28 u0_29 u0_30 x0_acts x0_thrown y1_past y2_s)) rfl rfl rfl rfl rfl rfl (by decide) (c_X9_isHarbour l g a0 a2 _ u0_1 u0_2 (.ref a1) u0_4 u0_5 (.int x0_acts) (.int x0_thrown) u0_8 u0_9 u0_10 u0_11 u0_12 u0_13 u0_14 u0_15 u0_16 u0_17 u0_18 u0_19 u0_20 u0_21 u0_22 u0_23 u0_24 u0_25 u0_26 u0_27 u0_28 u0_29 u0_30 y2_s p1 r3 hc) gX9_place_X9_isHarbour rfl hv_X9_isHarbour ⟨nle rfl, nle rfl⟩ 9 0 rfl rfl rfl (rest := [.ref a0]) rfl rfl hl.1 (nle rfl) dX9_place_3 (fun H locs hP hD hS => ?_)
  refine lv_iload_n (pc := 6) hexec hb dX9_place_6 rfl (lv_at hl 2 rfl) ?_
  obtain ⟨r7, hc, hf⟩ := bd1_e hf
  refine kSp (pc := 7) (S := ⟨hexec, hb, hml, hown, hts⟩) hP hD hG hA hS [] [0, 1, 2] [0, 1, 2] (w2 := (w_X9_place g a0 a1 a2 u0_1 u0_2 u0_4 u0_5 u0_8 u0_9 u0_10 u0_11 u0_12 u0_13 u0_14 u0_15 u0_16 u0_17 u0_18 u0_19 u0_20 u0_21 u0_22 u0_23 u0_24 u0_25 u0_26 u0_27 u0_28 u0_29 u0_30 x0_acts x0_thrown y1_past y2_s)) rfl rfl rfl rfl rfl rfl (by decide) (c_X9_isWay l g _ p2 r7 hc) gX9_place_X9_isWay rfl hs_X9_isWay ⟨nle rfl, nle rfl⟩ (rest := [.int r3, .ref a0]) rfl rfl hl.1 (nle rfl) dX9_place_7 (fun H locs hP hD hS => ?_)
  obtain ⟨r10, x0_thrown_1, hc, hf⟩ := bd2_e hf
  refine kVp (pc := 10) (S := ⟨hexec, hb, hml, hown, hts⟩) hP hD hG hA hS [0] [1, 2] [2, 0, 1] (w2 := (w_X9_place g a0 a1 a2 u0_1 u0_2 u0_4 u0_5 u0_8 u0_9 u0_10 u0_11 u0_12 u0_13 u0_14 u0_15 u0_16 u0_17 u0_18 u0_19 u0_20 u0_21 u0_22 u0_23 u0_24 u0_25 u0_26 u0_27 u0_28 u0_29 u0_30 x0_acts x0_thrown_1 y1_past y2_s)) rfl rfl rfl rfl rfl rfl (by decide) (c_X9_passes l g a0 _ (.ref a2) u0_1 u0_2 (.ref a1) u0_4 u0_5 (.int x0_acts) u0_8 u0_9 u0_10 u0_11 u0_12 u0_13 u0_14 u0_15 u0_16 u0_17 u0_18 u0_19 u0_20 u0_21 u0_22 u0_23 u0_24 u0_25 u0_26 u0_27 u0_28 u0_29 u0_30 x0_thrown r3 r7 r10 x0_thrown_1 hc) gX9_place_X9_passes rfl hv_X9_passes ⟨nle rfl, nle rfl⟩ 9 0 rfl rfl rfl (rest := []) rfl rfl hl.1 (nle rfl) dX9_place_10 (fun H locs hP hD hS => ?_)
  refine kb_ne (pc := 13) hexec hb dX9_place_13 (tgt := 18) rfl hf (fun hc hf => ?_) (fun hc hf => ?_)
  · refine lv_aload_n (pc := 18) hexec hb dX9_place_18 rfl (lv_at hl 0 rfl) ?_
    refine lv_iload_n (pc := 19) hexec hb dX9_place_19 rfl (lv_at hl 1 rfl) ?_
    refine lv_iload_n (pc := 20) hexec hb dX9_place_20 rfl (lv_at hl 2 rfl) ?_
    obtain ⟨r21, hc, hf⟩ := bd1_e hf
    refine kVp (pc := 21) (S := ⟨hexec, hb, hml, hown, hts⟩) hP hD hG hA hS [0, 2] [1] [1, 0, 2] (w2 := (w_X9_place g a0 a1 a2 u0_1 u0_2 u0_4 u0_5 u0_8 u0_9 u0_10 u0_11 u0_12 u0_13 u0_14 u0_15 u0_16 u0_17 u0_18 u0_19 u0_20 u0_21 u0_22 u0_23 u0_24 u0_25 u0_26 u0_27 u0_28 u0_29 u0_30 x0_acts x0_thrown_1 y1_past y2_s)) rfl rfl rfl rfl rfl rfl (by decide) (c_X9_reason l g a0 a2 _ u0_1 u0_2 (.ref a1) u0_4 u0_5 (.int x0_acts) (.int x0_thrown_1) u0_8 u0_9 u0_10 u0_11 u0_12 u0_13 u0_14 u0_15 u0_16 u0_17 u0_18 u0_19 u0_20 u0_21 u0_22 u0_23 u0_24 u0_25 u0_26 u0_27 u0_28 u0_29 u0_30 y2_s p1 p2 r21 hc) gX9_place_X9_reason rfl hv_X9_reason ⟨nle rfl, nle rfl⟩ 9 0 rfl rfl rfl (rest := []) rfl rfl hl.1 (nle rfl) dX9_place_21 (fun H locs hP hD hS => ?_)
    refine kb_eq (pc := 24) hexec hb dX9_place_24 (tgt := 30) rfl hf (fun hc hf => ?_) (fun hc hf => ?_)
    · refine lv_aload_n (pc := 30) hexec hb dX9_place_30 rfl (lv_at hl 0 rfl) ?_
      obtain ⟨x0_acts_1, y1_past_1, hc, hf⟩ := bd2_e hf
      refine kVp (pc := 31) (S := ⟨hexec, hb, hml, hown, hts⟩) hP hD hG hA hS [0, 1, 2] [] [0, 1, 2] (w2 := (w_X9_place g a0 a1 a2 u0_1 u0_2 u0_4 u0_5 u0_8 u0_9 u0_10 u0_11 u0_12 u0_13 u0_14 u0_15 u0_16 u0_17 u0_18 u0_19 u0_20 u0_21 u0_22 u0_23 u0_24 u0_25 u0_26 u0_27 u0_28 u0_29 u0_30 x0_acts_1 x0_thrown_1 y1_past_1 y2_s)) rfl rfl rfl rfl rfl rfl (by decide) (c_X9_keeps l g a0 a1 a2 _ u0_1 u0_2 u0_4 u0_5 (.int x0_thrown_1) u0_8 u0_9 u0_10 u0_11 u0_12 u0_13 u0_14 u0_15 u0_16 u0_17 u0_18 u0_19 u0_20 u0_21 u0_22 u0_23 u0_24 u0_25 u0_26 u0_27 u0_28 u0_29 u0_30 x0_acts y1_past y2_s x0_acts_1 y1_past_1 hc) gX9_place_X9_keeps rfl hv_X9_keeps ⟨nle rfl, nle rfl⟩ 9 0 rfl rfl rfl (rest := []) rfl rfl hl.1 (nle rfl) dX9_place_31 (fun H locs hP hD hS => ?_)
      refine lv_aload_n (pc := 34) hexec hb dX9_place_34 rfl (lv_at hl 0 rfl) ?_
      refine lv_iload_n (pc := 35) hexec hb dX9_place_35 rfl (lv_at hl 1 rfl) ?_
      refine lv_iconst (pc := 36) hexec hb dX9_place_36 ki_2 ?_
      obtain ⟨r37, hc, hf⟩ := bd1_e hf
      refine kVp (pc := 37) (S := ⟨hexec, hb, hml, hown, hts⟩) hP hD hG hA hS [0, 2] [1] [1, 0, 2] (w2 := (w_X9_place g a0 a1 a2 u0_1 u0_2 u0_4 u0_5 u0_8 u0_9 u0_10 u0_11 u0_12 u0_13 u0_14 u0_15 u0_16 u0_17 u0_18 u0_19 u0_20 u0_21 u0_22 u0_23 u0_24 u0_25 u0_26 u0_27 u0_28 u0_29 u0_30 x0_acts_1 x0_thrown_1 y1_past_1 y2_s)) rfl rfl rfl rfl rfl rfl (by decide) (c_X9_of l g a0 a2 _ u0_1 u0_2 (.ref a1) u0_4 u0_5 (.int x0_acts_1) (.int x0_thrown_1) u0_8 u0_9 u0_10 u0_11 u0_12 u0_13 u0_14 u0_15 u0_16 u0_17 u0_18 u0_19 u0_20 u0_21 u0_22 u0_23 u0_24 u0_25 u0_26 u0_27 u0_28 u0_29 u0_30 y2_s p1 2 r37 hc) gX9_place_X9_of rfl hv_X9_of ⟨nle rfl, nle rfl⟩ 9 0 rfl rfl rfl (rest := []) rfl rfl hl.1 (nle rfl) dX9_place_37 (fun H locs hP hD hS => ?_)
      refine lv_istore_n (pc := 40) hexec hb dX9_place_40 rfl hl (nle rfl) rfl (fun ls (hl : lv_has ls 4 [(3, .int r37), (0, .ref a0), (1, .int p1), (2, .int p2)]) => ?_)
      refine lv_aload_n (pc := 41) hexec hb dX9_place_41 rfl (lv_at hl 1 rfl) ?_
      refine lv_iload_n (pc := 42) hexec hb dX9_place_42 rfl (lv_at hl 2 rfl) ?_
      refine lv_iconst (pc := 43) hexec hb dX9_place_43 ki_2 ?_
      refine lv_iload_n (pc := 44) hexec hb dX9_place_44 rfl (lv_at hl 3 rfl) ?_
      obtain ⟨y2_s_1, hc, hf⟩ := bd1_e hf
      refine kVp (pc := 45) (S := ⟨hexec, hb, hml, hown, hts⟩) hP hD hG hA hS [0, 2] [1] [1, 0, 2] (w2 := (w_X9_place g a0 a1 a2 u0_1 u0_2 u0_4 u0_5 u0_8 u0_9 u0_10 u0_11 u0_12 u0_13 u0_14 u0_15 u0_16 u0_17 u0_18 u0_19 u0_20 u0_21 u0_22 u0_23 u0_24 u0_25 u0_26 u0_27 u0_28 u0_29 u0_30 x0_acts_1 x0_thrown_1 y1_past_1 y2_s_1)) rfl rfl rfl rfl rfl rfl (by decide) (c_X9_puts l g a0 a2 _ u0_1 u0_2 (.ref a1) u0_4 u0_5 (.int x0_acts_1) (.int x0_thrown_1) u0_8 u0_9 u0_10 u0_11 u0_12 u0_13 u0_14 u0_15 u0_16 u0_17 u0_18 u0_19 u0_20 u0_21 u0_22 u0_23 u0_24 u0_25 u0_26 u0_27 u0_28 u0_29 u0_30 y2_s p1 2 p2 y2_s_1 hc) gX9_place_X9_puts rfl hv_X9_puts ⟨nle rfl, nle rfl⟩ 9 0 rfl rfl rfl (rest := []) rfl rfl hl.1 (nle rfl) dX9_place_45 (fun H locs hP hD hS => ?_)
      refine lv_iload_n (pc := 48) hexec hb dX9_place_48 rfl (lv_at hl 0 rfl) ?_
      cases hf
      exact ke_i hQ hexec hb hr hP hD hS dX9_place_49 hlocks
    · refine lv_bipush (pc := 27) hexec hb dX9_place_27 kb_m3 ?_
      cases hf
      exact ke_i hQ hexec hb hr hP hD hS dX9_place_29 hlocks
  · refine lv_iconst (pc := 16) hexec hb dX9_place_16 ki_0 ?_
    cases hf
    exact ke_i hQ hexec hb hr hP hD hS dX9_place_17 hlocks
abbrev w_X9_lift (g : GE) (a0 a1 a2 : Nat) (u0_1 u0_2 u0_4 u0_5 u0_8 u0_9 u0_10 u0_11 u0_12 u0_13 u0_14 u0_15 u0_16 u0_17 u0_18 u0_19 u0_20 u0_21 u0_22 u0_23 u0_24 u0_25 u0_26 u0_27 u0_28 u0_29 u0_30 : Value) (x0_acts : Int32) (x0_thrown : Int32) (y1_past : Nat → Int32) (y2_s : Nat → Int32) : va_W := [(a0, .inr (9, [.ref a2, u0_1, u0_2, .ref a1, u0_4, u0_5, .int x0_acts, .int x0_thrown, u0_8, u0_9, u0_10, u0_11, u0_12, u0_13, u0_14, u0_15, u0_16, u0_17, u0_18, u0_19, u0_20, u0_21, u0_22, u0_23, u0_24, u0_25, u0_26, u0_27, u0_28, u0_29, u0_30])), (a1, .inl (g.2.1 0, 4416, .inl y1_past)), (a2, .inl (g.2.1 0, 552, .inl y2_s))]
set_option maxRecDepth 20000 in
theorem c_X9_lift (l : Launch) (g : GE) (a0 a1 a2 : Nat) (sz : Nat) (u0_1 u0_2 u0_4 u0_5 u0_8 u0_9 u0_10 u0_11 u0_12 u0_13 u0_14 u0_15 u0_16 u0_17 u0_18 u0_19 u0_20 u0_21 u0_22 u0_23 u0_24 u0_25 u0_26 u0_27 u0_28 u0_29 u0_30 : Value) (x0_acts : Int32) (x0_thrown : Int32) (y1_past : Nat → Int32) (y2_s : Nat → Int32) (p1 : Int32)  (r : Int32) (o_x0_acts : Int32) (o_x0_thrown : Int32) (o_y1_past : Nat → Int32) (o_y2_s : Nat → Int32) (hf : f_X9_lift x0_acts x0_thrown y1_past y2_s p1 = some (r, o_x0_acts, o_x0_thrown, o_y1_past, o_y2_s)) : MI l g yX9_lift wsX9_lift 4 91 [.ref a0, .int p1] (w_X9_lift g a0 a1 a2 u0_1 u0_2 u0_4 u0_5 u0_8 u0_9 u0_10 u0_11 u0_12 u0_13 u0_14 u0_15 u0_16 u0_17 u0_18 u0_19 u0_20 u0_21 u0_22 u0_23 u0_24 u0_25 u0_26 u0_27 u0_28 u0_29 u0_30 x0_acts x0_thrown y1_past y2_s) sz (some (.int r)) (w_X9_lift g a0 a1 a2 u0_1 u0_2 u0_4 u0_5 u0_8 u0_9 u0_10 u0_11 u0_12 u0_13 u0_14 u0_15 u0_16 u0_17 u0_18 u0_19 u0_20 u0_21 u0_22 u0_23 u0_24 u0_25 u0_26 u0_27 u0_28 u0_29 u0_30 o_x0_acts o_x0_thrown o_y1_past o_y2_s) := by
  refine MI.start (cc := cX9_lift) (maxL := 3) (ret := (some .int)) rfl rfl (nle rfl) ?_
  intro p e s m args below meth c A ls Q hQ hexec hb hr hts hown hlocks hml hA hP hD hG hS hl
  unfold f_X9_lift at hf
  have hWX9 : ∀ w ∈ wsX90, w.before args s = true := fun w h => hts w (List.mem_cons_of_mem _ (List.mem_append_right _ h))
  have hS : va_S A s.heap s.heap [] := hS
  refine lv_aload_n (pc := 0) hexec hb dX9_lift_0 rfl (lv_at hl 0 rfl) ?_
  refine lv_iload_n (pc := 1) hexec hb dX9_lift_1 rfl (lv_at hl 1 rfl) ?_
  obtain ⟨r2, x0_thrown_1, hc, hf⟩ := bd2_e hf
  refine kVp (pc := 2) (S := ⟨hexec, hb, hml, hown, hts⟩) hP hD hG hA hS [0, 2] [1] [1, 0, 2] (w2 := (w_X9_lift g a0 a1 a2 u0_1 u0_2 u0_4 u0_5 u0_8 u0_9 u0_10 u0_11 u0_12 u0_13 u0_14 u0_15 u0_16 u0_17 u0_18 u0_19 u0_20 u0_21 u0_22 u0_23 u0_24 u0_25 u0_26 u0_27 u0_28 u0_29 u0_30 x0_acts x0_thrown_1 y1_past y2_s)) rfl rfl rfl rfl rfl rfl (by decide) (c_X9_mayHarbour l g a0 a2 _ u0_1 u0_2 (.ref a1) u0_4 u0_5 (.int x0_acts) u0_8 u0_9 u0_10 u0_11 u0_12 u0_13 u0_14 u0_15 u0_16 u0_17 u0_18 u0_19 u0_20 u0_21 u0_22 u0_23 u0_24 u0_25 u0_26 u0_27 u0_28 u0_29 u0_30 x0_thrown y2_s p1 r2 x0_thrown_1 hc) gX9_lift_X9_mayHarbour rfl hv_X9_mayHarbour ⟨nle rfl, nle rfl⟩ 9 0 rfl rfl rfl (rest := []) rfl rfl hl.1 (nle rfl) dX9_lift_2 (fun H locs hP hD hS => ?_)
  refine kb_ne (pc := 5) hexec hb dX9_lift_5 (tgt := 10) rfl hf (fun hc hf => ?_) (fun hc hf => ?_)
  · refine lv_aload_n (pc := 10) hexec hb dX9_lift_10 rfl (lv_at hl 0 rfl) ?_
    refine lv_iload_n (pc := 11) hexec hb dX9_lift_11 rfl (lv_at hl 1 rfl) ?_
    refine lv_iconst (pc := 12) hexec hb dX9_lift_12 ki_2 ?_
    obtain ⟨r13, hc, hf⟩ := bd1_e hf
    refine kVp (pc := 13) (S := ⟨hexec, hb, hml, hown, hts⟩) hP hD hG hA hS [0, 2] [1] [1, 0, 2] (w2 := (w_X9_lift g a0 a1 a2 u0_1 u0_2 u0_4 u0_5 u0_8 u0_9 u0_10 u0_11 u0_12 u0_13 u0_14 u0_15 u0_16 u0_17 u0_18 u0_19 u0_20 u0_21 u0_22 u0_23 u0_24 u0_25 u0_26 u0_27 u0_28 u0_29 u0_30 x0_acts x0_thrown_1 y1_past y2_s)) rfl rfl rfl rfl rfl rfl (by decide) (c_X9_of l g a0 a2 _ u0_1 u0_2 (.ref a1) u0_4 u0_5 (.int x0_acts) (.int x0_thrown_1) u0_8 u0_9 u0_10 u0_11 u0_12 u0_13 u0_14 u0_15 u0_16 u0_17 u0_18 u0_19 u0_20 u0_21 u0_22 u0_23 u0_24 u0_25 u0_26 u0_27 u0_28 u0_29 u0_30 y2_s p1 2 r13 hc) gX9_lift_X9_of rfl hv_X9_of ⟨nle rfl, nle rfl⟩ 9 0 rfl rfl rfl (rest := []) rfl rfl hl.1 (nle rfl) dX9_lift_13 (fun H locs hP hD hS => ?_)
    refine lv_istore_n (pc := 16) hexec hb dX9_lift_16 rfl hl (nle rfl) rfl (fun ls (hl : lv_has ls 3 [(2, .int r13), (0, .ref a0), (1, .int p1)]) => ?_)
    refine lv_iload_n (pc := 17) hexec hb dX9_lift_17 rfl (lv_at hl 0 rfl) ?_
    refine lv_iconst (pc := 18) hexec hb dX9_lift_18 ki_m1 ?_
    refine ki_ne (pc := 19) hexec hb dX9_lift_19 (tgt := 25) rfl hf (fun hc hf => ?_) (fun hc hf => ?_)
    · refine lv_aload_n (pc := 25) hexec hb dX9_lift_25 rfl (lv_at hl 1 rfl) ?_
      obtain ⟨x0_acts_1, y1_past_1, hc, hf⟩ := bd2_e hf
      refine kVp (pc := 26) (S := ⟨hexec, hb, hml, hown, hts⟩) hP hD hG hA hS [0, 1, 2] [] [0, 1, 2] (w2 := (w_X9_lift g a0 a1 a2 u0_1 u0_2 u0_4 u0_5 u0_8 u0_9 u0_10 u0_11 u0_12 u0_13 u0_14 u0_15 u0_16 u0_17 u0_18 u0_19 u0_20 u0_21 u0_22 u0_23 u0_24 u0_25 u0_26 u0_27 u0_28 u0_29 u0_30 x0_acts_1 x0_thrown_1 y1_past_1 y2_s)) rfl rfl rfl rfl rfl rfl (by decide) (c_X9_keeps l g a0 a1 a2 _ u0_1 u0_2 u0_4 u0_5 (.int x0_thrown_1) u0_8 u0_9 u0_10 u0_11 u0_12 u0_13 u0_14 u0_15 u0_16 u0_17 u0_18 u0_19 u0_20 u0_21 u0_22 u0_23 u0_24 u0_25 u0_26 u0_27 u0_28 u0_29 u0_30 x0_acts y1_past y2_s x0_acts_1 y1_past_1 hc) gX9_lift_X9_keeps rfl hv_X9_keeps ⟨nle rfl, nle rfl⟩ 9 0 rfl rfl rfl (rest := []) rfl rfl hl.1 (nle rfl) dX9_lift_26 (fun H locs hP hD hS => ?_)
      refine lv_aload_n (pc := 29) hexec hb dX9_lift_29 rfl (lv_at hl 1 rfl) ?_
      refine lv_iload_n (pc := 30) hexec hb dX9_lift_30 rfl (lv_at hl 2 rfl) ?_
      refine lv_iconst (pc := 31) hexec hb dX9_lift_31 ki_2 ?_
      refine lv_iconst (pc := 32) hexec hb dX9_lift_32 ki_m1 ?_
      obtain ⟨y2_s_1, hc, hf⟩ := bd1_e hf
      refine kVp (pc := 33) (S := ⟨hexec, hb, hml, hown, hts⟩) hP hD hG hA hS [0, 2] [1] [1, 0, 2] (w2 := (w_X9_lift g a0 a1 a2 u0_1 u0_2 u0_4 u0_5 u0_8 u0_9 u0_10 u0_11 u0_12 u0_13 u0_14 u0_15 u0_16 u0_17 u0_18 u0_19 u0_20 u0_21 u0_22 u0_23 u0_24 u0_25 u0_26 u0_27 u0_28 u0_29 u0_30 x0_acts_1 x0_thrown_1 y1_past_1 y2_s_1)) rfl rfl rfl rfl rfl rfl (by decide) (c_X9_puts l g a0 a2 _ u0_1 u0_2 (.ref a1) u0_4 u0_5 (.int x0_acts_1) (.int x0_thrown_1) u0_8 u0_9 u0_10 u0_11 u0_12 u0_13 u0_14 u0_15 u0_16 u0_17 u0_18 u0_19 u0_20 u0_21 u0_22 u0_23 u0_24 u0_25 u0_26 u0_27 u0_28 u0_29 u0_30 y2_s p1 2 (-1) y2_s_1 hc) gX9_lift_X9_puts rfl hv_X9_puts ⟨nle rfl, nle rfl⟩ 9 0 rfl rfl rfl (rest := []) rfl rfl hl.1 (nle rfl) dX9_lift_33 (fun H locs hP hD hS => ?_)
      refine lv_iload_n (pc := 36) hexec hb dX9_lift_36 rfl (lv_at hl 0 rfl) ?_
      cases hf
      exact ke_i hQ hexec hb hr hP hD hS dX9_lift_37 hlocks
    · refine lv_bipush (pc := 22) hexec hb dX9_lift_22 kb_m3 ?_
      cases hf
      exact ke_i hQ hexec hb hr hP hD hS dX9_lift_24 hlocks
  · refine lv_iconst (pc := 8) hexec hb dX9_lift_8 ki_0 ?_
    cases hf
    exact ke_i hQ hexec hb hr hP hD hS dX9_lift_9 hlocks
abbrev w_X9_arrange (g : GE) (a0 a1 a2 a3 a4 a5 a6 a7 : Nat) (u0_1 u0_2 u0_4 u0_5 u0_8 u0_9 u0_10 u0_19 u0_20 u0_21 u0_22 u0_23 u0_24 u0_25 u0_26 u0_27 u0_28 u0_29 u0_30 : Value) (x0_acts : Int32) (x0_thrown : Int32) (x0_bestReds : Int32) (x0_bestPlaced : Int32) (x0_bestTurning : Int32) (y1_against : Nat → Int32) (y2_best : Nat → Int32) (y3_may : Nat → Int32) (y4_past : Nat → Int32) (y5_redThen : Nat → Int32) (y6_s : Nat → Int32) (y7_ways : Nat → Int32) : va_W := [(a0, .inr (9, [.ref a6, u0_1, u0_2, .ref a4, u0_4, u0_5, .int x0_acts, .int x0_thrown, u0_8, u0_9, u0_10, .ref a7, .ref a2, .int x0_bestReds, .int x0_bestPlaced, .int x0_bestTurning, .ref a5, .ref a3, .ref a1, u0_19, u0_20, u0_21, u0_22, u0_23, u0_24, u0_25, u0_26, u0_27, u0_28, u0_29, u0_30])), (a1, .inl (g.2.1 1, 1024, .inl y1_against)), (a2, .inl (g.2.1 0, 8, .inl y2_best)), (a3, .inl (g.2.1 1, 32, .inl y3_may)), (a4, .inl (g.2.1 0, 4416, .inl y4_past)), (a5, .inl (g.2.1 1, 8, .inl y5_redThen)), (a6, .inl (g.2.1 0, 552, .inl y6_s)), (a7, .inl (g.2.1 0, 8, .inl y7_ways))]
set_option maxRecDepth 20000 in
theorem c_X9_arrange (l : Launch) (g : GE) (a0 a1 a2 a3 a4 a5 a6 a7 : Nat) (sz : Nat) (u0_1 u0_2 u0_4 u0_5 u0_8 u0_9 u0_10 u0_19 u0_20 u0_21 u0_22 u0_23 u0_24 u0_25 u0_26 u0_27 u0_28 u0_29 u0_30 : Value) (x0_acts : Int32) (x0_thrown : Int32) (x0_bestReds : Int32) (x0_bestPlaced : Int32) (x0_bestTurning : Int32) (y1_against : Nat → Int32) (y2_best : Nat → Int32) (y3_may : Nat → Int32) (y4_past : Nat → Int32) (y5_redThen : Nat → Int32) (y6_s : Nat → Int32) (y7_ways : Nat → Int32)   (r : Int32) (o_x0_acts : Int32) (o_x0_thrown : Int32) (o_x0_bestReds : Int32) (o_x0_bestPlaced : Int32) (o_x0_bestTurning : Int32) (o_y1_against : Nat → Int32) (o_y2_best : Nat → Int32) (o_y3_may : Nat → Int32) (o_y4_past : Nat → Int32) (o_y5_redThen : Nat → Int32) (o_y6_s : Nat → Int32) (o_y7_ways : Nat → Int32) (hf : f_X9_arrange x0_acts x0_thrown x0_bestReds x0_bestPlaced x0_bestTurning y1_against y2_best y3_may y4_past y5_redThen y6_s y7_ways = some (r, o_x0_acts, o_x0_thrown, o_x0_bestReds, o_x0_bestPlaced, o_x0_bestTurning, o_y1_against, o_y2_best, o_y3_may, o_y4_past, o_y5_redThen, o_y6_s, o_y7_ways)) : MI l g yX9_arrange wsX9_arrange 17 401 [.ref a0] (w_X9_arrange g a0 a1 a2 a3 a4 a5 a6 a7 u0_1 u0_2 u0_4 u0_5 u0_8 u0_9 u0_10 u0_19 u0_20 u0_21 u0_22 u0_23 u0_24 u0_25 u0_26 u0_27 u0_28 u0_29 u0_30 x0_acts x0_thrown x0_bestReds x0_bestPlaced x0_bestTurning y1_against y2_best y3_may y4_past y5_redThen y6_s y7_ways) sz (some (.int r)) (w_X9_arrange g a0 a1 a2 a3 a4 a5 a6 a7 u0_1 u0_2 u0_4 u0_5 u0_8 u0_9 u0_10 u0_19 u0_20 u0_21 u0_22 u0_23 u0_24 u0_25 u0_26 u0_27 u0_28 u0_29 u0_30 o_x0_acts o_x0_thrown o_x0_bestReds o_x0_bestPlaced o_x0_bestTurning o_y1_against o_y2_best o_y3_may o_y4_past o_y5_redThen o_y6_s o_y7_ways) := by
  refine MI.start (cc := cX9_arrange) (maxL := 2) (ret := (some .int)) rfl rfl (nle rfl) ?_
  intro p e s m args below meth c A ls Q hQ hexec hb hr hts hown hlocks hml hA hP hD hG hS hl
  unfold f_X9_arrange at hf
  have hWX9 : ∀ w ∈ wsX90, w.before args s = true := fun w h => hts w (List.mem_cons_of_mem _ (List.mem_append_right _ h))
  have hS : va_S A s.heap s.heap [] := hS
  refine lv_aload_n (pc := 0) hexec hb dX9_arrange_0 rfl (lv_at hl 0 rfl) ?_
  refine lv_iconst (pc := 1) hexec hb dX9_arrange_1 ki_0 ?_
  refine kp_put (pc := 2) hexec hb (own := RX9) hWX9 tyX9 tyX9_ok nmX9 hown hG hP hD hS 0 rfl rfl 7 (nle rfl) (hts _ (List.mem_cons_of_mem _ (List.mem_append_left _ (List.mem_append_left _ (List.mem_of_getElem? (i := 0) rfl))))) rfl rfl rfl rfl (nle rfl) dX9_arrange_2 (fun H locs (hP : va_P g.1 vwCl (w_X9_arrange g a0 a1 a2 a3 a4 a5 a6 a7 u0_1 u0_2 u0_4 u0_5 u0_8 u0_9 u0_10 u0_19 u0_20 u0_21 u0_22 u0_23 u0_24 u0_25 u0_26 u0_27 u0_28 u0_29 u0_30 x0_acts 0 x0_bestReds x0_bestPlaced x0_bestTurning y1_against y2_best y3_may y4_past y5_redThen y6_s y7_ways) H) (hD : va_D A (w_X9_arrange g a0 a1 a2 a3 a4 a5 a6 a7 u0_1 u0_2 u0_4 u0_5 u0_8 u0_9 u0_10 u0_19 u0_20 u0_21 u0_22 u0_23 u0_24 u0_25 u0_26 u0_27 u0_28 u0_29 u0_30 x0_acts 0 x0_bestReds x0_bestPlaced x0_bestTurning y1_against y2_best y3_may y4_past y5_redThen y6_s y7_ways)) hS => ?_)
  refine lv_aload_n (pc := 5) hexec hb dX9_arrange_5 rfl (lv_at hl 0 rfl) ?_
  obtain ⟨x0_bestReds_1, x0_bestPlaced_1, x0_bestTurning_1, y1_against_1, y2_best_1, y3_may_1, y5_redThen_1, y7_ways_1, hc, hf⟩ := bd8_e hf
  refine kVp (pc := 6) (S := ⟨hexec, hb, hml, hown, hts⟩) hP hD hG hA hS [0, 1, 2, 3, 5, 6, 7] [4] [1, 2, 3, 4, 0, 5, 6, 7] (w2 := (w_X9_arrange g a0 a1 a2 a3 a4 a5 a6 a7 u0_1 u0_2 u0_4 u0_5 u0_8 u0_9 u0_10 u0_19 u0_20 u0_21 u0_22 u0_23 u0_24 u0_25 u0_26 u0_27 u0_28 u0_29 u0_30 x0_acts 0 x0_bestReds_1 x0_bestPlaced_1 x0_bestTurning_1 y1_against_1 y2_best_1 y3_may_1 y4_past y5_redThen_1 y6_s y7_ways_1)) rfl rfl rfl rfl rfl rfl (by decide) (c_X9_arrangesNow l g a0 a1 a2 a3 a5 a6 a7 _ u0_1 u0_2 (.ref a4) u0_4 u0_5 (.int x0_acts) (.int 0) u0_8 u0_9 u0_10 u0_19 u0_20 u0_21 u0_22 u0_23 u0_24 u0_25 u0_26 u0_27 u0_28 u0_29 u0_30 x0_bestReds x0_bestPlaced x0_bestTurning y1_against y2_best y3_may y5_redThen y6_s y7_ways x0_bestReds_1 x0_bestPlaced_1 x0_bestTurning_1 y1_against_1 y2_best_1 y3_may_1 y5_redThen_1 y7_ways_1 hc) gX9_arrange_X9_arrangesNow rfl hv_X9_arrangesNow ⟨nle rfl, nle rfl⟩ 9 0 rfl rfl rfl (rest := []) rfl rfl hl.1 (nle rfl) dX9_arrange_6 (fun H locs hP hD hS => ?_)
  refine lv_aload_n (pc := 9) hexec hb dX9_arrange_9 rfl (lv_at hl 0 rfl) ?_
  obtain ⟨x0_acts_1, y4_past_1, hc, hf⟩ := bd2_e hf
  refine kVp (pc := 10) (S := ⟨hexec, hb, hml, hown, hts⟩) hP hD hG hA hS [0, 4, 6] [1, 2, 3, 5, 7] [5, 0, 1, 2, 6, 3, 7, 4] (w2 := (w_X9_arrange g a0 a1 a2 a3 a4 a5 a6 a7 u0_1 u0_2 u0_4 u0_5 u0_8 u0_9 u0_10 u0_19 u0_20 u0_21 u0_22 u0_23 u0_24 u0_25 u0_26 u0_27 u0_28 u0_29 u0_30 x0_acts_1 0 x0_bestReds_1 x0_bestPlaced_1 x0_bestTurning_1 y1_against_1 y2_best_1 y3_may_1 y4_past_1 y5_redThen_1 y6_s y7_ways_1)) rfl rfl rfl rfl rfl rfl (by decide) (c_X9_keeps l g a0 a4 a6 _ u0_1 u0_2 u0_4 u0_5 (.int 0) u0_8 u0_9 u0_10 (.ref a7) (.ref a2) (.int x0_bestReds_1) (.int x0_bestPlaced_1) (.int x0_bestTurning_1) (.ref a5) (.ref a3) (.ref a1) u0_19 u0_20 u0_21 u0_22 u0_23 u0_24 u0_25 u0_26 u0_27 u0_28 u0_29 u0_30 x0_acts y4_past y6_s x0_acts_1 y4_past_1 hc) gX9_arrange_X9_keeps rfl hv_X9_keeps ⟨nle rfl, nle rfl⟩ 9 0 rfl rfl rfl (rest := []) rfl rfl hl.1 (nle rfl) dX9_arrange_10 (fun H locs hP hD hS => ?_)
  refine lv_iconst (pc := 13) hexec hb dX9_arrange_13 ki_0 ?_
  refine lv_istore_n (pc := 14) hexec hb dX9_arrange_14 rfl hl (nle rfl) rfl (fun ls (hl : lv_has ls 2 [(1, .int 0), (0, .ref a0)]) => ?_)
  obtain ⟨l15, el15, hf⟩ := bvf2 hf
  obtain ⟨y6_s_2, hz, hf⟩ := bd1_e hf
  have hE15 : ∀ (H : Heap) (locs : List Loc) (ls : Array Slot), va_P g.1 vwCl (w_X9_arrange g a0 a1 a2 a3 a4 a5 a6 a7 u0_1 u0_2 u0_4 u0_5 u0_8 u0_9 u0_10 u0_19 u0_20 u0_21 u0_22 u0_23 u0_24 u0_25 u0_26 u0_27 u0_28 u0_29 u0_30 x0_acts_1 0 x0_bestReds_1 x0_bestPlaced_1 x0_bestTurning_1 y1_against_1 y2_best_1 y3_may_1 y4_past_1 y5_redThen_1 y6_s_2 y7_ways_1) H → va_D A (w_X9_arrange g a0 a1 a2 a3 a4 a5 a6 a7 u0_1 u0_2 u0_4 u0_5 u0_8 u0_9 u0_10 u0_19 u0_20 u0_21 u0_22 u0_23 u0_24 u0_25 u0_26 u0_27 u0_28 u0_29 u0_30 x0_acts_1 0 x0_bestReds_1 x0_bestPlaced_1 x0_bestTurning_1 y1_against_1 y2_best_1 y3_may_1 y4_past_1 y5_redThen_1 y6_s_2 y7_ways_1) → va_S A s.heap H locs → lv_has ls 2 [(0, .ref a0)] → W p l e (RM 17 401) s m args below meth c H locs 0 0 Q (F0 m 43 ls []) := by
    intro H locs ls hP hD hS hl
    refine lv_aload_n (pc := 43) hexec hb dX9_arrange_43 rfl (lv_at hl 0 rfl) ?_
    refine kg_get (pc := 44) hexec hb (own := RX9) hWX9 hown hG hP 0 rfl rfl 14 (nle rfl) (hts _ (List.mem_cons_of_mem _ (List.mem_append_left _ (List.mem_append_left _ (List.mem_of_getElem? (i := 3) rfl))))) rfl rfl dX9_arrange_44 ?_
    simp only [Option.some.injEq, Prod.mk.injEq] at hf
    obtain ⟨rfl, rfl, rfl, rfl, rfl, rfl, rfl, rfl, rfl, rfl, rfl, rfl, rfl⟩ := hf
    exact ke_i hQ hexec hb hr hP hD hS dX9_arrange_47 hlocks
  obtain ⟨n, hz⟩ := lq2_e hz
  have hL15 : ∀ (n : Nat) (v1 : Int32) (y6_s_1 : Nat → Int32) (H : Heap) (locs : List Loc) (ls : Array Slot), it2 l15 n v1 y6_s_1 = some y6_s_2 → va_P g.1 vwCl (w_X9_arrange g a0 a1 a2 a3 a4 a5 a6 a7 u0_1 u0_2 u0_4 u0_5 u0_8 u0_9 u0_10 u0_19 u0_20 u0_21 u0_22 u0_23 u0_24 u0_25 u0_26 u0_27 u0_28 u0_29 u0_30 x0_acts_1 0 x0_bestReds_1 x0_bestPlaced_1 x0_bestTurning_1 y1_against_1 y2_best_1 y3_may_1 y4_past_1 y5_redThen_1 y6_s_1 y7_ways_1) H → va_D A (w_X9_arrange g a0 a1 a2 a3 a4 a5 a6 a7 u0_1 u0_2 u0_4 u0_5 u0_8 u0_9 u0_10 u0_19 u0_20 u0_21 u0_22 u0_23 u0_24 u0_25 u0_26 u0_27 u0_28 u0_29 u0_30 x0_acts_1 0 x0_bestReds_1 x0_bestPlaced_1 x0_bestTurning_1 y1_against_1 y2_best_1 y3_may_1 y4_past_1 y5_redThen_1 y6_s_1 y7_ways_1) → va_S A s.heap H locs → lv_has ls 2 [(0, .ref a0), (1, .int v1)] → W p l e (RM 17 401) s m args below meth c H locs 0 0 Q (F0 m 15 ls []) := by
    intro n
    induction n with
    | zero =>
      intro v1 y6_s_1 H locs ls hf hP hD hS hl
      exact it2_0 hf
    | succ n15 ih15 =>
      intro v1 y6_s_1 H locs ls hf hP hD hS hl
      obtain ⟨q15, hf, hk15⟩ := it2_e hf
      have hf := (el15 v1 y6_s_1).symm.trans hf
      refine lv_iload_n (pc := 15) hexec hb dX9_arrange_15 rfl (lv_at hl 1 rfl) ?_
      refine lv_aload_n (pc := 16) hexec hb dX9_arrange_16 rfl (lv_at hl 0 rfl) ?_
      refine kg_get (pc := 17) hexec hb (own := RX9) hWX9 hown hG hP 0 rfl rfl 0 (nle rfl) (hts _ (List.mem_cons_of_mem _ (List.mem_append_left _ (List.mem_append_left _ (List.mem_of_getElem? (i := 1) rfl))))) rfl rfl dX9_arrange_17 ?_
      refine lv_iconst (pc := 20) hexec hb dX9_arrange_20 ki_2 ?_
      refine kr_iald (pc := 21) hexec hb hG hP 6 rfl hf dX9_arrange_21 (fun hf => ?_)
      refine ki_ge (pc := 22) hexec hb dX9_arrange_22 (tgt := 43) rfl hf (fun hc hf => ?_) (fun hc hf => ?_)
      · cases sr2 hf hk15
        exact hE15 _ _ _ hP hD hS (lv_sub hl [0] rfl)
      · refine lv_aload_n (pc := 25) hexec hb dX9_arrange_25 rfl (lv_at hl 0 rfl) ?_
        refine lv_iload_n (pc := 26) hexec hb dX9_arrange_26 rfl (lv_at hl 1 rfl) ?_
        refine lv_iconst (pc := 27) hexec hb dX9_arrange_27 ki_2 ?_
        refine lv_aload_n (pc := 28) hexec hb dX9_arrange_28 rfl (lv_at hl 0 rfl) ?_
        refine kg_get (pc := 29) hexec hb (own := RX9) hWX9 hown hG hP 0 rfl rfl 12 (nle rfl) (hts _ (List.mem_cons_of_mem _ (List.mem_append_left _ (List.mem_append_left _ (List.mem_of_getElem? (i := 2) rfl))))) rfl rfl dX9_arrange_29 ?_
        refine lv_iload_n (pc := 32) hexec hb dX9_arrange_32 rfl (lv_at hl 1 rfl) ?_
        refine kr_iald (pc := 33) hexec hb hG hP 2 rfl hf dX9_arrange_33 (fun hf => ?_)
        obtain ⟨y6_s_3, hc, hf⟩ := bd1_e hf
        refine kVp (pc := 34) (S := ⟨hexec, hb, hml, hown, hts⟩) hP hD hG hA hS [0, 6] [1, 2, 3, 4, 5, 7] [6, 0, 1, 2, 3, 4, 7, 5] (w2 := (w_X9_arrange g a0 a1 a2 a3 a4 a5 a6 a7 u0_1 u0_2 u0_4 u0_5 u0_8 u0_9 u0_10 u0_19 u0_20 u0_21 u0_22 u0_23 u0_24 u0_25 u0_26 u0_27 u0_28 u0_29 u0_30 x0_acts_1 0 x0_bestReds_1 x0_bestPlaced_1 x0_bestTurning_1 y1_against_1 y2_best_1 y3_may_1 y4_past_1 y5_redThen_1 y6_s_3 y7_ways_1)) rfl rfl rfl rfl rfl rfl (by decide) (c_X9_puts l g a0 a6 _ u0_1 u0_2 (.ref a4) u0_4 u0_5 (.int x0_acts_1) (.int 0) u0_8 u0_9 u0_10 (.ref a7) (.ref a2) (.int x0_bestReds_1) (.int x0_bestPlaced_1) (.int x0_bestTurning_1) (.ref a5) (.ref a3) (.ref a1) u0_19 u0_20 u0_21 u0_22 u0_23 u0_24 u0_25 u0_26 u0_27 u0_28 u0_29 u0_30 y6_s_1 v1 2 (y2_best_1 v1.toNatClampNeg) y6_s_3 hc) gX9_arrange_X9_puts rfl hv_X9_puts ⟨nle rfl, nle rfl⟩ 9 0 rfl rfl rfl (rest := []) rfl rfl hl.1 (nle rfl) dX9_arrange_34 (fun H locs hP hD hS => ?_)
        obtain ⟨v1_1, ev1_1, hf⟩ := bv_e hf
        refine k_iinc (pc := 37) hexec hb dX9_arrange_37 kq_1 hl (k := 1) rfl ev1_1 (nle rfl) rfl (fun ls (hl : lv_has ls 2 [(1, .int v1_1), (0, .ref a0)]) => ?_)
        refine lv_goto (pc := 40) hexec hb dX9_arrange_40 (tgt := 15) rfl ?_
        exact ih15 _ _ _ _ _ (sl2 hf hk15) hP hD hS (lv_sub hl [1, 0] rfl)
  exact hL15 n _ _ _ _ _ hz hP hD hS (lv_sub hl [1, 0] rfl)
abbrev w_X9_setRed (g : GE) (a0 a1 a2 : Nat) (u0_1 u0_2 u0_4 u0_5 u0_8 u0_9 u0_10 u0_11 u0_12 u0_13 u0_14 u0_15 u0_16 u0_17 u0_18 u0_19 u0_20 u0_21 u0_22 u0_23 u0_24 u0_25 u0_26 u0_27 u0_28 u0_29 u0_30 : Value) (x0_acts : Int32) (x0_thrown : Int32) (y1_past : Nat → Int32) (y2_s : Nat → Int32) : va_W := [(a0, .inr (9, [.ref a2, u0_1, u0_2, .ref a1, u0_4, u0_5, .int x0_acts, .int x0_thrown, u0_8, u0_9, u0_10, u0_11, u0_12, u0_13, u0_14, u0_15, u0_16, u0_17, u0_18, u0_19, u0_20, u0_21, u0_22, u0_23, u0_24, u0_25, u0_26, u0_27, u0_28, u0_29, u0_30])), (a1, .inl (g.2.1 0, 4416, .inl y1_past)), (a2, .inl (g.2.1 0, 552, .inl y2_s))]
set_option maxRecDepth 20000 in
theorem c_X9_setRed (l : Launch) (g : GE) (a0 a1 a2 : Nat) (sz : Nat) (u0_1 u0_2 u0_4 u0_5 u0_8 u0_9 u0_10 u0_11 u0_12 u0_13 u0_14 u0_15 u0_16 u0_17 u0_18 u0_19 u0_20 u0_21 u0_22 u0_23 u0_24 u0_25 u0_26 u0_27 u0_28 u0_29 u0_30 : Value) (x0_acts : Int32) (x0_thrown : Int32) (y1_past : Nat → Int32) (y2_s : Nat → Int32) (p1 : Int32) (p2 : Int32)  (r : Int32) (o_x0_acts : Int32) (o_x0_thrown : Int32) (o_y1_past : Nat → Int32) (o_y2_s : Nat → Int32) (hf : f_X9_setRed x0_acts x0_thrown y1_past y2_s p1 p2 = some (r, o_x0_acts, o_x0_thrown, o_y1_past, o_y2_s)) : MI l g yX9_setRed wsX9_setRed 7 167 [.ref a0, .int p1, .int p2] (w_X9_setRed g a0 a1 a2 u0_1 u0_2 u0_4 u0_5 u0_8 u0_9 u0_10 u0_11 u0_12 u0_13 u0_14 u0_15 u0_16 u0_17 u0_18 u0_19 u0_20 u0_21 u0_22 u0_23 u0_24 u0_25 u0_26 u0_27 u0_28 u0_29 u0_30 x0_acts x0_thrown y1_past y2_s) sz (some (.int r)) (w_X9_setRed g a0 a1 a2 u0_1 u0_2 u0_4 u0_5 u0_8 u0_9 u0_10 u0_11 u0_12 u0_13 u0_14 u0_15 u0_16 u0_17 u0_18 u0_19 u0_20 u0_21 u0_22 u0_23 u0_24 u0_25 u0_26 u0_27 u0_28 u0_29 u0_30 o_x0_acts o_x0_thrown o_y1_past o_y2_s) := by
  refine MI.start (cc := cX9_setRed) (maxL := 5) (ret := (some .boolean)) rfl rfl (nle rfl) ?_
  intro p e s m args below meth c A ls Q hQ hexec hb hr hts hown hlocks hml hA hP hD hG hS hl
  unfold f_X9_setRed at hf
  have hWX9 : ∀ w ∈ wsX90, w.before args s = true := fun w h => hts w (List.mem_cons_of_mem _ (List.mem_append_right _ h))
  have hS : va_S A s.heap s.heap [] := hS
  refine lv_aload_n (pc := 0) hexec hb dX9_setRed_0 rfl (lv_at hl 0 rfl) ?_
  refine lv_iload_n (pc := 1) hexec hb dX9_setRed_1 rfl (lv_at hl 1 rfl) ?_
  obtain ⟨r2, x0_thrown_1, hc, hf⟩ := bd2_e hf
  refine kVp (pc := 2) (S := ⟨hexec, hb, hml, hown, hts⟩) hP hD hG hA hS [0, 2] [1] [1, 0, 2] (w2 := (w_X9_setRed g a0 a1 a2 u0_1 u0_2 u0_4 u0_5 u0_8 u0_9 u0_10 u0_11 u0_12 u0_13 u0_14 u0_15 u0_16 u0_17 u0_18 u0_19 u0_20 u0_21 u0_22 u0_23 u0_24 u0_25 u0_26 u0_27 u0_28 u0_29 u0_30 x0_acts x0_thrown_1 y1_past y2_s)) rfl rfl rfl rfl rfl rfl (by decide) (c_X9_mayHarbour l g a0 a2 _ u0_1 u0_2 (.ref a1) u0_4 u0_5 (.int x0_acts) u0_8 u0_9 u0_10 u0_11 u0_12 u0_13 u0_14 u0_15 u0_16 u0_17 u0_18 u0_19 u0_20 u0_21 u0_22 u0_23 u0_24 u0_25 u0_26 u0_27 u0_28 u0_29 u0_30 x0_thrown y2_s p1 r2 x0_thrown_1 hc) gX9_setRed_X9_mayHarbour rfl hv_X9_mayHarbour ⟨nle rfl, nle rfl⟩ 9 0 rfl rfl rfl (rest := []) rfl rfl hl.1 (nle rfl) dX9_setRed_2 (fun H locs hP hD hS => ?_)
  refine kb_ne (pc := 5) hexec hb dX9_setRed_5 (tgt := 10) rfl hf (fun hc hf => ?_) (fun hc hf => ?_)
  · refine lv_aload_n (pc := 10) hexec hb dX9_setRed_10 rfl (lv_at hl 0 rfl) ?_
    obtain ⟨x0_acts_1, y1_past_1, hc, hf⟩ := bd2_e hf
    refine kVp (pc := 11) (S := ⟨hexec, hb, hml, hown, hts⟩) hP hD hG hA hS [0, 1, 2] [] [0, 1, 2] (w2 := (w_X9_setRed g a0 a1 a2 u0_1 u0_2 u0_4 u0_5 u0_8 u0_9 u0_10 u0_11 u0_12 u0_13 u0_14 u0_15 u0_16 u0_17 u0_18 u0_19 u0_20 u0_21 u0_22 u0_23 u0_24 u0_25 u0_26 u0_27 u0_28 u0_29 u0_30 x0_acts_1 x0_thrown_1 y1_past_1 y2_s)) rfl rfl rfl rfl rfl rfl (by decide) (c_X9_keeps l g a0 a1 a2 _ u0_1 u0_2 u0_4 u0_5 (.int x0_thrown_1) u0_8 u0_9 u0_10 u0_11 u0_12 u0_13 u0_14 u0_15 u0_16 u0_17 u0_18 u0_19 u0_20 u0_21 u0_22 u0_23 u0_24 u0_25 u0_26 u0_27 u0_28 u0_29 u0_30 x0_acts y1_past y2_s x0_acts_1 y1_past_1 hc) gX9_setRed_X9_keeps rfl hv_X9_keeps ⟨nle rfl, nle rfl⟩ 9 0 rfl rfl rfl (rest := []) rfl rfl hl.1 (nle rfl) dX9_setRed_11 (fun H locs hP hD hS => ?_)
    refine lv_aload_n (pc := 14) hexec hb dX9_setRed_14 rfl (lv_at hl 0 rfl) ?_
    refine lv_iload_n (pc := 15) hexec hb dX9_setRed_15 rfl (lv_at hl 1 rfl) ?_
    obtain ⟨r16, hc, hf⟩ := bd1_e hf
    refine kVp (pc := 16) (S := ⟨hexec, hb, hml, hown, hts⟩) hP hD hG hA hS [0, 2] [1] [1, 0, 2] (w2 := (w_X9_setRed g a0 a1 a2 u0_1 u0_2 u0_4 u0_5 u0_8 u0_9 u0_10 u0_11 u0_12 u0_13 u0_14 u0_15 u0_16 u0_17 u0_18 u0_19 u0_20 u0_21 u0_22 u0_23 u0_24 u0_25 u0_26 u0_27 u0_28 u0_29 u0_30 x0_acts_1 x0_thrown_1 y1_past_1 y2_s)) rfl rfl rfl rfl rfl rfl (by decide) (c_X9_isRed l g a0 a2 _ u0_1 u0_2 (.ref a1) u0_4 u0_5 (.int x0_acts_1) (.int x0_thrown_1) u0_8 u0_9 u0_10 u0_11 u0_12 u0_13 u0_14 u0_15 u0_16 u0_17 u0_18 u0_19 u0_20 u0_21 u0_22 u0_23 u0_24 u0_25 u0_26 u0_27 u0_28 u0_29 u0_30 y2_s p1 r16 hc) gX9_setRed_X9_isRed rfl hv_X9_isRed ⟨nle rfl, nle rfl⟩ 9 0 rfl rfl rfl (rest := []) rfl rfl hl.1 (nle rfl) dX9_setRed_16 (fun H locs hP hD hS => ?_)
    refine lv_istore_n (pc := 19) hexec hb dX9_setRed_19 rfl hl (nle rfl) rfl (fun ls (hl : lv_has ls 5 [(3, .int r16), (0, .ref a0), (1, .int p1), (2, .int p2)]) => ?_)
    refine lv_aload_n (pc := 20) hexec hb dX9_setRed_20 rfl (lv_at hl 1 rfl) ?_
    refine lv_iload_n (pc := 21) hexec hb dX9_setRed_21 rfl (lv_at hl 2 rfl) ?_
    refine lv_iconst (pc := 22) hexec hb dX9_setRed_22 ki_1 ?_
    refine lv_iload_n (pc := 23) hexec hb dX9_setRed_23 rfl (lv_at hl 3 rfl) ?_
    obtain ⟨j32, ej32, hf⟩ := bvf1 hf
    have hj32 : ∀ (t32 : Int32) (H : Heap) (locs : List Loc) (ls : Array Slot), j32 t32 = some (r, o_x0_acts, o_x0_thrown, o_y1_past, o_y2_s) → va_P g.1 vwCl (w_X9_setRed g a0 a1 a2 u0_1 u0_2 u0_4 u0_5 u0_8 u0_9 u0_10 u0_11 u0_12 u0_13 u0_14 u0_15 u0_16 u0_17 u0_18 u0_19 u0_20 u0_21 u0_22 u0_23 u0_24 u0_25 u0_26 u0_27 u0_28 u0_29 u0_30 x0_acts_1 x0_thrown_1 y1_past_1 y2_s) H → va_D A (w_X9_setRed g a0 a1 a2 u0_1 u0_2 u0_4 u0_5 u0_8 u0_9 u0_10 u0_11 u0_12 u0_13 u0_14 u0_15 u0_16 u0_17 u0_18 u0_19 u0_20 u0_21 u0_22 u0_23 u0_24 u0_25 u0_26 u0_27 u0_28 u0_29 u0_30 x0_acts_1 x0_thrown_1 y1_past_1 y2_s) → va_S A s.heap H locs → lv_has ls 5 [(0, .ref a0), (1, .int p1), (2, .int p2), (3, .int r16)] → W p l e (RM 7 167) s m args below meth c H locs 0 0 Q (F0 m 32 ls [.int t32, .int 1, .int p1, .ref a0]) := by
      intro t32 H locs ls hf hP hD hS hl
      have hf := (ej32 t32).symm.trans hf
      obtain ⟨y2_s_1, hc, hf⟩ := bd1_e hf
      refine kVp (pc := 32) (S := ⟨hexec, hb, hml, hown, hts⟩) hP hD hG hA hS [0, 2] [1] [1, 0, 2] (w2 := (w_X9_setRed g a0 a1 a2 u0_1 u0_2 u0_4 u0_5 u0_8 u0_9 u0_10 u0_11 u0_12 u0_13 u0_14 u0_15 u0_16 u0_17 u0_18 u0_19 u0_20 u0_21 u0_22 u0_23 u0_24 u0_25 u0_26 u0_27 u0_28 u0_29 u0_30 x0_acts_1 x0_thrown_1 y1_past_1 y2_s_1)) rfl rfl rfl rfl rfl rfl (by decide) (c_X9_puts l g a0 a2 _ u0_1 u0_2 (.ref a1) u0_4 u0_5 (.int x0_acts_1) (.int x0_thrown_1) u0_8 u0_9 u0_10 u0_11 u0_12 u0_13 u0_14 u0_15 u0_16 u0_17 u0_18 u0_19 u0_20 u0_21 u0_22 u0_23 u0_24 u0_25 u0_26 u0_27 u0_28 u0_29 u0_30 y2_s p1 1 t32 y2_s_1 hc) gX9_setRed_X9_puts rfl hv_X9_puts ⟨nle rfl, nle rfl⟩ 9 0 rfl rfl rfl (rest := []) rfl rfl hl.1 (nle rfl) dX9_setRed_32 (fun H locs hP hD hS => ?_)
      refine lv_iload_n (pc := 35) hexec hb dX9_setRed_35 rfl (lv_at hl 2 rfl) ?_
      refine kb_eq (pc := 36) hexec hb dX9_setRed_36 (tgt := 50) rfl hf (fun hc hf => ?_) (fun hc hf => ?_)
      · refine lv_iload_n (pc := 50) hexec hb dX9_setRed_50 rfl (lv_at hl 3 rfl) ?_
        obtain ⟨hx, hf⟩ := zb_e hf
        cases hf
        exact ke_z hQ hexec hb hr hx hP hD hS dX9_setRed_51 hlocks
      · refine lv_aload_n (pc := 39) hexec hb dX9_setRed_39 rfl (lv_at hl 0 rfl) ?_
        refine lv_aload_n (pc := 40) hexec hb dX9_setRed_40 rfl (lv_at hl 0 rfl) ?_
        refine lv_iload_n (pc := 41) hexec hb dX9_setRed_41 rfl (lv_at hl 1 rfl) ?_
        obtain ⟨r42, hc, hf⟩ := bd1_e hf
        refine kVp (pc := 42) (S := ⟨hexec, hb, hml, hown, hts⟩) hP hD hG hA hS [0, 2] [1] [1, 0, 2] (w2 := (w_X9_setRed g a0 a1 a2 u0_1 u0_2 u0_4 u0_5 u0_8 u0_9 u0_10 u0_11 u0_12 u0_13 u0_14 u0_15 u0_16 u0_17 u0_18 u0_19 u0_20 u0_21 u0_22 u0_23 u0_24 u0_25 u0_26 u0_27 u0_28 u0_29 u0_30 x0_acts_1 x0_thrown_1 y1_past_1 y2_s_1)) rfl rfl rfl rfl rfl rfl (by decide) (c_X9_crossedBy l g a0 a2 _ u0_1 u0_2 (.ref a1) u0_4 u0_5 (.int x0_acts_1) (.int x0_thrown_1) u0_8 u0_9 u0_10 u0_11 u0_12 u0_13 u0_14 u0_15 u0_16 u0_17 u0_18 u0_19 u0_20 u0_21 u0_22 u0_23 u0_24 u0_25 u0_26 u0_27 u0_28 u0_29 u0_30 y2_s_1 p1 r42 hc) gX9_setRed_X9_crossedBy rfl hv_X9_crossedBy ⟨nle rfl, nle rfl⟩ 9 0 rfl rfl rfl (rest := [.ref a0]) rfl rfl hl.1 (nle rfl) dX9_setRed_42 (fun H locs hP hD hS => ?_)
        obtain ⟨r45, y2_s_2, hc, hf⟩ := bd2_e hf
        refine kVp (pc := 45) (S := ⟨hexec, hb, hml, hown, hts⟩) hP hD hG hA hS [0, 2] [1] [1, 0, 2] (w2 := (w_X9_setRed g a0 a1 a2 u0_1 u0_2 u0_4 u0_5 u0_8 u0_9 u0_10 u0_11 u0_12 u0_13 u0_14 u0_15 u0_16 u0_17 u0_18 u0_19 u0_20 u0_21 u0_22 u0_23 u0_24 u0_25 u0_26 u0_27 u0_28 u0_29 u0_30 x0_acts_1 x0_thrown_1 y1_past_1 y2_s_2)) rfl rfl rfl rfl rfl rfl (by decide) (c_X9_lifts l g a0 a2 _ u0_1 u0_2 (.ref a1) u0_4 u0_5 (.int x0_acts_1) (.int x0_thrown_1) u0_8 u0_9 u0_10 u0_11 u0_12 u0_13 u0_14 u0_15 u0_16 u0_17 u0_18 u0_19 u0_20 u0_21 u0_22 u0_23 u0_24 u0_25 u0_26 u0_27 u0_28 u0_29 u0_30 y2_s_1 r42 r45 y2_s_2 hc) gX9_setRed_X9_lifts rfl hv_X9_lifts ⟨nle rfl, nle rfl⟩ 9 0 rfl rfl rfl (rest := []) rfl rfl hl.1 (nle rfl) dX9_setRed_45 (fun H locs hP hD hS => ?_)
        refine lv_istore (pc := 48) hexec hb dX9_setRed_48 hl (nle rfl) rfl (fun ls (hl : lv_has ls 5 [(4, .int r45), (0, .ref a0), (1, .int p1), (2, .int p2), (3, .int r16)]) => ?_)
        refine lv_iload_n (pc := 50) hexec hb dX9_setRed_50 rfl (lv_at hl 4 rfl) ?_
        obtain ⟨hx, hf⟩ := zb_e hf
        cases hf
        exact ke_z hQ hexec hb hr hx hP hD hS dX9_setRed_51 hlocks
    refine kb_eq (pc := 24) hexec hb dX9_setRed_24 (tgt := 31) rfl hf (fun hc hf => ?_) (fun hc hf => ?_)
    · refine lv_iconst (pc := 31) hexec hb dX9_setRed_31 ki_0 ?_
      exact hj32 _ _ _ _ hf hP hD hS (lv_sub hl [1, 2, 3, 0] rfl)
    · refine lv_iconst (pc := 27) hexec hb dX9_setRed_27 ki_1 ?_
      refine lv_goto (pc := 28) hexec hb dX9_setRed_28 (tgt := 32) rfl ?_
      exact hj32 _ _ _ _ hf hP hD hS (lv_sub hl [1, 2, 3, 0] rfl)
  · refine lv_iconst (pc := 8) hexec hb dX9_setRed_8 ki_0 ?_
    cases hf
    exact ke_z hQ hexec hb hr (.inl rfl) hP hD hS dX9_setRed_9 hlocks
abbrev w_X9_addRiver (g : GE) (a0 a1 a2 a3 a4 : Nat) (u0_1 u0_2 u0_4 u0_5 u0_11 u0_12 u0_13 u0_14 u0_15 u0_16 u0_17 u0_18 u0_19 u0_20 u0_21 u0_22 u0_23 u0_24 u0_25 u0_26 u0_27 u0_28 u0_29 u0_30 : Value) (x0_acts : Int32) (x0_thrown : Int32) (x0_flowLong : Int32) (y1_flow : Nat → Int32) (y2_past : Nat → Int32) (y3_s : Nat → Int32) (y4_sums : Nat → Int32) : va_W := [(a0, .inr (9, [.ref a3, u0_1, u0_2, .ref a2, u0_4, u0_5, .int x0_acts, .int x0_thrown, .ref a4, .ref a1, .int x0_flowLong, u0_11, u0_12, u0_13, u0_14, u0_15, u0_16, u0_17, u0_18, u0_19, u0_20, u0_21, u0_22, u0_23, u0_24, u0_25, u0_26, u0_27, u0_28, u0_29, u0_30])), (a1, .inl (g.2.1 0, 144, .inl y1_flow)), (a2, .inl (g.2.1 0, 4416, .inl y2_past)), (a3, .inl (g.2.1 0, 552, .inl y3_s)), (a4, .inl (g.2.1 0, 144, .inl y4_sums))]
set_option maxRecDepth 20000 in
theorem c_X9_addRiver (l : Launch) (g : GE) (a0 a1 a2 a3 a4 : Nat) (sz : Nat) (u0_1 u0_2 u0_4 u0_5 u0_11 u0_12 u0_13 u0_14 u0_15 u0_16 u0_17 u0_18 u0_19 u0_20 u0_21 u0_22 u0_23 u0_24 u0_25 u0_26 u0_27 u0_28 u0_29 u0_30 : Value) (x0_acts : Int32) (x0_thrown : Int32) (x0_flowLong : Int32) (y1_flow : Nat → Int32) (y2_past : Nat → Int32) (y3_s : Nat → Int32) (y4_sums : Nat → Int32) (p1 : Int32)  (r : Int32) (o_x0_acts : Int32) (o_x0_thrown : Int32) (o_x0_flowLong : Int32) (o_y1_flow : Nat → Int32) (o_y2_past : Nat → Int32) (o_y3_s : Nat → Int32) (o_y4_sums : Nat → Int32) (hf : f_X9_addRiver x0_acts x0_thrown x0_flowLong y1_flow y2_past y3_s y4_sums p1 = some (r, o_x0_acts, o_x0_thrown, o_x0_flowLong, o_y1_flow, o_y2_past, o_y3_s, o_y4_sums)) : MI l g yX9_addRiver wsX9_addRiver 10 231 [.ref a0, .int p1] (w_X9_addRiver g a0 a1 a2 a3 a4 u0_1 u0_2 u0_4 u0_5 u0_11 u0_12 u0_13 u0_14 u0_15 u0_16 u0_17 u0_18 u0_19 u0_20 u0_21 u0_22 u0_23 u0_24 u0_25 u0_26 u0_27 u0_28 u0_29 u0_30 x0_acts x0_thrown x0_flowLong y1_flow y2_past y3_s y4_sums) sz (some (.int r)) (w_X9_addRiver g a0 a1 a2 a3 a4 u0_1 u0_2 u0_4 u0_5 u0_11 u0_12 u0_13 u0_14 u0_15 u0_16 u0_17 u0_18 u0_19 u0_20 u0_21 u0_22 u0_23 u0_24 u0_25 u0_26 u0_27 u0_28 u0_29 u0_30 o_x0_acts o_x0_thrown o_x0_flowLong o_y1_flow o_y2_past o_y3_s o_y4_sums) := by
  refine MI.start (cc := cX9_addRiver) (maxL := 2) (ret := (some .int)) rfl rfl (nle rfl) ?_
  intro p e s m args below meth c A ls Q hQ hexec hb hr hts hown hlocks hml hA hP hD hG hS hl
  unfold f_X9_addRiver at hf
  have hWX9 : ∀ w ∈ wsX90, w.before args s = true := fun w h => hts w (List.mem_cons_of_mem _ (List.mem_append_right _ h))
  have hS : va_S A s.heap s.heap [] := hS
  refine lv_aload_n (pc := 0) hexec hb dX9_addRiver_0 rfl (lv_at hl 0 rfl) ?_
  refine lv_iload_n (pc := 1) hexec hb dX9_addRiver_1 rfl (lv_at hl 1 rfl) ?_
  obtain ⟨r2, x0_thrown_1, hc, hf⟩ := bd2_e hf
  refine kVp (pc := 2) (S := ⟨hexec, hb, hml, hown, hts⟩) hP hD hG hA hS [0, 3] [1, 2, 4] [3, 0, 1, 4, 2] (w2 := (w_X9_addRiver g a0 a1 a2 a3 a4 u0_1 u0_2 u0_4 u0_5 u0_11 u0_12 u0_13 u0_14 u0_15 u0_16 u0_17 u0_18 u0_19 u0_20 u0_21 u0_22 u0_23 u0_24 u0_25 u0_26 u0_27 u0_28 u0_29 u0_30 x0_acts x0_thrown_1 x0_flowLong y1_flow y2_past y3_s y4_sums)) rfl rfl rfl rfl rfl rfl (by decide) (c_X9_mayCell l g a0 a3 _ u0_1 u0_2 (.ref a2) u0_4 u0_5 (.int x0_acts) (.ref a4) (.ref a1) (.int x0_flowLong) u0_11 u0_12 u0_13 u0_14 u0_15 u0_16 u0_17 u0_18 u0_19 u0_20 u0_21 u0_22 u0_23 u0_24 u0_25 u0_26 u0_27 u0_28 u0_29 u0_30 x0_thrown y3_s p1 r2 x0_thrown_1 hc) gX9_addRiver_X9_mayCell rfl hv_X9_mayCell ⟨nle rfl, nle rfl⟩ 9 0 rfl rfl rfl (rest := []) rfl rfl hl.1 (nle rfl) dX9_addRiver_2 (fun H locs hP hD hS => ?_)
  refine kb_ne (pc := 5) hexec hb dX9_addRiver_5 (tgt := 10) rfl hf (fun hc hf => ?_) (fun hc hf => ?_)
  · refine lv_aload_n (pc := 10) hexec hb dX9_addRiver_10 rfl (lv_at hl 0 rfl) ?_
    refine kg_get (pc := 11) hexec hb (own := RX9) hWX9 hown hG hP 0 rfl rfl 0 (nle rfl) (hts _ (List.mem_cons_of_mem _ (List.mem_append_left _ (List.mem_append_left _ (List.mem_of_getElem? (i := 0) rfl))))) rfl rfl dX9_addRiver_11 ?_
    refine lv_iconst (pc := 14) hexec hb dX9_addRiver_14 ki_3 ?_
    refine kr_iald (pc := 15) hexec hb hG hP 3 rfl hf dX9_addRiver_15 (fun hf => ?_)
    refine lv_bipush (pc := 16) hexec hb dX9_addRiver_16 kb_8 ?_
    refine ki_ne (pc := 18) hexec hb dX9_addRiver_18 (tgt := 24) rfl hf (fun hc hf => ?_) (fun hc hf => ?_)
    · refine lv_aload_n (pc := 24) hexec hb dX9_addRiver_24 rfl (lv_at hl 0 rfl) ?_
      refine lv_iload_n (pc := 25) hexec hb dX9_addRiver_25 rfl (lv_at hl 1 rfl) ?_
      obtain ⟨r26, x0_flowLong_1, y1_flow_1, y4_sums_1, hc, hf⟩ := bd4_e hf
      refine kVp (pc := 26) (S := ⟨hexec, hb, hml, hown, hts⟩) hP hD hG hA hS [0, 1, 3, 4] [2] [1, 2, 0, 3, 4] (w2 := (w_X9_addRiver g a0 a1 a2 a3 a4 u0_1 u0_2 u0_4 u0_5 u0_11 u0_12 u0_13 u0_14 u0_15 u0_16 u0_17 u0_18 u0_19 u0_20 u0_21 u0_22 u0_23 u0_24 u0_25 u0_26 u0_27 u0_28 u0_29 u0_30 x0_acts x0_thrown_1 x0_flowLong_1 y1_flow_1 y2_past y3_s y4_sums_1)) rfl rfl rfl rfl rfl rfl (by decide) (c_X9_findsFlow l g a0 a1 a3 a4 _ u0_1 u0_2 (.ref a2) u0_4 u0_5 (.int x0_acts) (.int x0_thrown_1) u0_11 u0_12 u0_13 u0_14 u0_15 u0_16 u0_17 u0_18 u0_19 u0_20 u0_21 u0_22 u0_23 u0_24 u0_25 u0_26 u0_27 u0_28 u0_29 u0_30 x0_flowLong y1_flow y3_s y4_sums p1 r26 x0_flowLong_1 y1_flow_1 y4_sums_1 hc) gX9_addRiver_X9_findsFlow rfl hv_X9_findsFlow ⟨nle rfl, nle rfl⟩ 9 0 rfl rfl rfl (rest := []) rfl rfl hl.1 (nle rfl) dX9_addRiver_26 (fun H locs hP hD hS => ?_)
      refine kb_ne (pc := 29) hexec hb dX9_addRiver_29 (tgt := 35) rfl hf (fun hc hf => ?_) (fun hc hf => ?_)
      · refine lv_aload_n (pc := 35) hexec hb dX9_addRiver_35 rfl (lv_at hl 0 rfl) ?_
        obtain ⟨x0_acts_1, y2_past_1, hc, hf⟩ := bd2_e hf
        refine kVp (pc := 36) (S := ⟨hexec, hb, hml, hown, hts⟩) hP hD hG hA hS [0, 2, 3] [1, 4] [2, 0, 3, 4, 1] (w2 := (w_X9_addRiver g a0 a1 a2 a3 a4 u0_1 u0_2 u0_4 u0_5 u0_11 u0_12 u0_13 u0_14 u0_15 u0_16 u0_17 u0_18 u0_19 u0_20 u0_21 u0_22 u0_23 u0_24 u0_25 u0_26 u0_27 u0_28 u0_29 u0_30 x0_acts_1 x0_thrown_1 x0_flowLong_1 y1_flow_1 y2_past_1 y3_s y4_sums_1)) rfl rfl rfl rfl rfl rfl (by decide) (c_X9_keeps l g a0 a2 a3 _ u0_1 u0_2 u0_4 u0_5 (.int x0_thrown_1) (.ref a4) (.ref a1) (.int x0_flowLong_1) u0_11 u0_12 u0_13 u0_14 u0_15 u0_16 u0_17 u0_18 u0_19 u0_20 u0_21 u0_22 u0_23 u0_24 u0_25 u0_26 u0_27 u0_28 u0_29 u0_30 x0_acts y2_past y3_s x0_acts_1 y2_past_1 hc) gX9_addRiver_X9_keeps rfl hv_X9_keeps ⟨nle rfl, nle rfl⟩ 9 0 rfl rfl rfl (rest := []) rfl rfl hl.1 (nle rfl) dX9_addRiver_36 (fun H locs hP hD hS => ?_)
        refine lv_aload_n (pc := 39) hexec hb dX9_addRiver_39 rfl (lv_at hl 0 rfl) ?_
        obtain ⟨y3_s_1, hc, hf⟩ := bd1_e hf
        refine kVp (pc := 40) (S := ⟨hexec, hb, hml, hown, hts⟩) hP hD hG hA hS [0, 1, 3] [2, 4] [2, 3, 0, 4, 1] (w2 := (w_X9_addRiver g a0 a1 a2 a3 a4 u0_1 u0_2 u0_4 u0_5 u0_11 u0_12 u0_13 u0_14 u0_15 u0_16 u0_17 u0_18 u0_19 u0_20 u0_21 u0_22 u0_23 u0_24 u0_25 u0_26 u0_27 u0_28 u0_29 u0_30 x0_acts_1 x0_thrown_1 x0_flowLong_1 y1_flow_1 y2_past_1 y3_s_1 y4_sums_1)) rfl rfl rfl rfl rfl rfl (by decide) (c_X9_flows l g a0 a1 a3 _ u0_1 u0_2 (.ref a2) u0_4 u0_5 (.int x0_acts_1) (.int x0_thrown_1) (.ref a4) u0_11 u0_12 u0_13 u0_14 u0_15 u0_16 u0_17 u0_18 u0_19 u0_20 u0_21 u0_22 u0_23 u0_24 u0_25 u0_26 u0_27 u0_28 u0_29 u0_30 x0_flowLong_1 y1_flow_1 y3_s y3_s_1 hc) gX9_addRiver_X9_flows rfl hv_X9_flows ⟨nle rfl, nle rfl⟩ 9 0 rfl rfl rfl (rest := []) rfl rfl hl.1 (nle rfl) dX9_addRiver_40 (fun H locs hP hD hS => ?_)
        refine lv_aload_n (pc := 43) hexec hb dX9_addRiver_43 rfl (lv_at hl 0 rfl) ?_
        refine kg_get (pc := 44) hexec hb (own := RX9) hWX9 hown hG hP 0 rfl rfl 0 (nle rfl) (hts _ (List.mem_cons_of_mem _ (List.mem_append_left _ (List.mem_append_left _ (List.mem_of_getElem? (i := 0) rfl))))) rfl rfl dX9_addRiver_44 ?_
        refine lv_iconst (pc := 47) hexec hb dX9_addRiver_47 ki_3 ?_
        refine kr_iald (pc := 48) hexec hb hG hP 3 rfl hf dX9_addRiver_48 (fun hf => ?_)
        refine lv_iconst (pc := 49) hexec hb dX9_addRiver_49 ki_1 ?_
        refine lv_isub (pc := 50) hexec hb dX9_addRiver_50 ?_
        cases hf
        exact ke_i hQ hexec hb hr hP hD hS dX9_addRiver_51 hlocks
      · refine lv_bipush (pc := 32) hexec hb dX9_addRiver_32 kb_m3 ?_
        cases hf
        exact ke_i hQ hexec hb hr hP hD hS dX9_addRiver_34 hlocks
    · refine lv_bipush (pc := 21) hexec hb dX9_addRiver_21 kb_m2 ?_
      cases hf
      exact ke_i hQ hexec hb hr hP hD hS dX9_addRiver_23 hlocks
  · refine lv_iconst (pc := 8) hexec hb dX9_addRiver_8 ki_0 ?_
    cases hf
    exact ke_i hQ hexec hb hr hP hD hS dX9_addRiver_9 hlocks
