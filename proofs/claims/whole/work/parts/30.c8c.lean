abbrev w_X8_shy (g : GE) (a0 a1 a2 a3 a4 a5 a6 a7 a8 a9 a10 a11 a12 a13 a14 a15 a16 a17 : Nat) (u0_1 u0_2 u0_4 u0_5 u0_6 u0_7 u0_8 u0_9 u2_3 u2_4 u9_2 u9_5 u10_3 u11_1 u11_3 : Value) (x1_reds : Int32) (x1_bestReds : Int32) (x1_bestCount : Int32) (x1_bestTurning : Int32) (y3_allowed : Nat → Int32) (y4_best : Nat → Int32) (y5_foes : Nat → Int32) (y6_namesLeft : Nat → Int32) (y7_redsLeft : Nat → Int32) (y8_trial : Nat → Int32) (x9_rows : Int32) (x9_columns : Int32) (x10_count : Int32) (x10_reds : Int32) (x11_count : Int32) (x11_turn : Int32) (y12_land : Nat → Int32) (y13_riverOf : Nat → Int32) (y14_home : Nat → Int32) (y15_length : Nat → Int32) (y16_letters : Nat → Int32) (y17_stops : Nat → Int32) : va_W := [(a0, .inr (8, [.ref a2, u0_1, u0_2, .ref a1, u0_4, u0_5, u0_6, u0_7, u0_8, u0_9])), (a1, .inr (0, [.int x1_reds, .int x1_bestReds, .int x1_bestCount, .int x1_bestTurning, .ref a3, .ref a5, .ref a6, .ref a7, .ref a8, .ref a4])), (a2, .inr (6, [.ref a9, .ref a10, .ref a11, u2_3, u2_4])), (a3, .inl (g.2.1 0, 8, .inl y3_allowed)), (a4, .inl (g.2.1 0, 8, .inl y4_best)), (a5, .inl (g.2.1 0, 32, .inl y5_foes)), (a6, .inl (g.2.1 0, 9, .inl y6_namesLeft)), (a7, .inl (g.2.1 0, 9, .inl y7_redsLeft)), (a8, .inl (g.2.1 0, 8, .inl y8_trial)), (a9, .inr (1, [.int x9_rows, .int x9_columns, u9_2, .ref a12, .ref a13, u9_5])), (a10, .inr (2, [.int x10_count, .int x10_reds, .ref a14, u10_3, .ref a15, .ref a16])), (a11, .inr (4, [.int x11_count, u11_1, .int x11_turn, u11_3, .ref a17])), (a12, .inl (g.2.1 1, 144, .inl y12_land)), (a13, .inl (g.2.1 0, 144, .inl y13_riverOf)), (a14, .inl (g.2.1 0, 8, .inl y14_home)), (a15, .inl (g.2.1 0, 8, .inl y15_length)), (a16, .inl (g.2.1 0, 64, .inl y16_letters)), (a17, .inl (g.2.1 0, 16, .inl y17_stops))]
set_option maxRecDepth 20000 in
theorem c_X8_shy (l : Launch) (g : GE) (a0 a1 a2 a3 a4 a5 a6 a7 a8 a9 a10 a11 a12 a13 a14 a15 a16 a17 : Nat) (sz : Nat) (u0_1 u0_2 u0_4 u0_5 u0_6 u0_7 u0_8 u0_9 u2_3 u2_4 u9_2 u9_5 u10_3 u11_1 u11_3 : Value) (x1_reds : Int32) (x1_bestReds : Int32) (x1_bestCount : Int32) (x1_bestTurning : Int32) (y3_allowed : Nat → Int32) (y4_best : Nat → Int32) (y5_foes : Nat → Int32) (y6_namesLeft : Nat → Int32) (y7_redsLeft : Nat → Int32) (y8_trial : Nat → Int32) (x9_rows : Int32) (x9_columns : Int32) (x10_count : Int32) (x10_reds : Int32) (x11_count : Int32) (x11_turn : Int32) (y12_land : Nat → Int32) (y13_riverOf : Nat → Int32) (y14_home : Nat → Int32) (y15_length : Nat → Int32) (y16_letters : Nat → Int32) (y17_stops : Nat → Int32)   (r : Int32) (o_x1_reds : Int32) (o_x1_bestReds : Int32) (o_x1_bestCount : Int32) (o_x1_bestTurning : Int32) (o_y3_allowed : Nat → Int32) (o_y4_best : Nat → Int32) (o_y5_foes : Nat → Int32) (o_y6_namesLeft : Nat → Int32) (o_y7_redsLeft : Nat → Int32) (o_y8_trial : Nat → Int32) (hf : f_X8_shy x1_reds x1_bestReds x1_bestCount x1_bestTurning y3_allowed y4_best y5_foes y6_namesLeft y7_redsLeft y8_trial x9_rows x9_columns x10_count x10_reds x11_count x11_turn y12_land y13_riverOf y14_home y15_length y16_letters y17_stops = some (r, o_x1_reds, o_x1_bestReds, o_x1_bestCount, o_x1_bestTurning, o_y3_allowed, o_y4_best, o_y5_foes, o_y6_namesLeft, o_y7_redsLeft, o_y8_trial)) : MI l g yX8_shy wsX8_shy 16 432 [.ref a0] (w_X8_shy g a0 a1 a2 a3 a4 a5 a6 a7 a8 a9 a10 a11 a12 a13 a14 a15 a16 a17 u0_1 u0_2 u0_4 u0_5 u0_6 u0_7 u0_8 u0_9 u2_3 u2_4 u9_2 u9_5 u10_3 u11_1 u11_3 x1_reds x1_bestReds x1_bestCount x1_bestTurning y3_allowed y4_best y5_foes y6_namesLeft y7_redsLeft y8_trial x9_rows x9_columns x10_count x10_reds x11_count x11_turn y12_land y13_riverOf y14_home y15_length y16_letters y17_stops) sz (some (.int r)) (w_X8_shy g a0 a1 a2 a3 a4 a5 a6 a7 a8 a9 a10 a11 a12 a13 a14 a15 a16 a17 u0_1 u0_2 u0_4 u0_5 u0_6 u0_7 u0_8 u0_9 u2_3 u2_4 u9_2 u9_5 u10_3 u11_1 u11_3 o_x1_reds o_x1_bestReds o_x1_bestCount o_x1_bestTurning o_y3_allowed o_y4_best o_y5_foes o_y6_namesLeft o_y7_redsLeft o_y8_trial x9_rows x9_columns x10_count x10_reds x11_count x11_turn y12_land y13_riverOf y14_home y15_length y16_letters y17_stops) := by
  refine MI.start (cc := cX8_shy) (maxL := 4) (ret := (some .int)) rfl rfl (nle rfl) ?_
  intro p e s m args below meth c A ls Q hQ hexec hb hr hts hown hlocks hml hA hP hD hG hS hl
  unfold f_X8_shy at hf
  have hWX0 : ∀ w ∈ wsX00, w.before args s = true := fun w h => hts w (List.mem_cons_of_mem _ (List.mem_append_left _ (List.mem_append_left _ (List.mem_append_right _ h))))
  have hWX1 : ∀ w ∈ wsX10, w.before args s = true := fun w h => hts w (List.mem_cons_of_mem _ (List.mem_append_left _ (List.mem_append_right _ h)))
  have hWX2 : ∀ w ∈ wsX20, w.before args s = true := fun w h => hts w (List.mem_cons_of_mem _ (List.mem_append_left _ (List.mem_append_left _ (List.mem_append_left _ (List.mem_append_right _ h)))))
  have hWX4 : ∀ w ∈ wsX40, w.before args s = true := fun w h => hts w (List.mem_cons_of_mem _ (List.mem_append_right _ h))
  have hWX6 : ∀ w ∈ wsX60, w.before args s = true := fun w h => hts w (List.mem_cons_of_mem _ (List.mem_append_left _ (List.mem_append_left _ (List.mem_append_left _ (List.mem_append_left _ (List.mem_append_right _ h))))))
  have hWX8 : ∀ w ∈ wsX80, w.before args s = true := fun w h => hts w (List.mem_cons_of_mem _ (List.mem_append_left _ (List.mem_append_left _ (List.mem_append_left _ (List.mem_append_left _ (List.mem_append_left _ (List.mem_append_right _ h)))))))
  have hS : va_S A s.heap s.heap [] := hS
  refine lv_aload_n (pc := 0) hexec hb dX8_shy_0 rfl (lv_at hl 0 rfl) ?_
  refine kg_get (pc := 1) hexec hb (own := RX8) hWX8 hown hG hP 0 rfl rfl 0 (nle rfl) (hts _ (List.mem_cons_of_mem _ (List.mem_append_left _ (List.mem_append_left _ (List.mem_append_left _ (List.mem_append_left _ (List.mem_append_left _ (List.mem_append_left _ (List.mem_append_left _ (List.mem_of_getElem? (i := 0) rfl)))))))))) rfl rfl dX8_shy_1 ?_
  refine kg_getN (pc := 4) hexec hb (own := RX8) hWX6 hown hG hP 2 rfl rfl 1 (nle rfl) 24 rfl rfl rfl dX8_shy_4 ?_
  refine kg_getN (pc := 7) hexec hb (own := RX8) hWX2 hown hG hP 10 rfl rfl 0 (nle rfl) 6 rfl rfl rfl dX8_shy_7 ?_
  refine lv_iconst (pc := 10) hexec hb dX8_shy_10 ki_1 ?_
  refine lv_isub (pc := 11) hexec hb dX8_shy_11 ?_
  obtain ⟨v1, ev1, hf⟩ := bv_e hf
  refine kn_i ev1 ?_
  refine lv_istore_n (pc := 12) hexec hb dX8_shy_12 rfl hl (nle rfl) rfl (fun ls (hl : lv_has ls 4 [(1, .int v1), (0, .ref a0)]) => ?_)
  refine lv_iconst (pc := 13) hexec hb dX8_shy_13 ki_0 ?_
  refine lv_istore_n (pc := 14) hexec hb dX8_shy_14 rfl hl (nle rfl) rfl (fun ls (hl : lv_has ls 4 [(2, .int 0), (1, .int v1), (0, .ref a0)]) => ?_)
  refine lv_iconst (pc := 15) hexec hb dX8_shy_15 ki_0 ?_
  refine lv_istore_n (pc := 16) hexec hb dX8_shy_16 rfl hl (nle rfl) rfl (fun ls (hl : lv_has ls 4 [(3, .int 0), (2, .int 0), (1, .int v1), (0, .ref a0)]) => ?_)
  obtain ⟨l17, el17, hf⟩ := bvf12 hf
  obtain ⟨v2_1, x1_reds_2, x1_bestReds_2, x1_bestCount_2, x1_bestTurning_2, y3_allowed_2, y4_best_2, y5_foes_2, y6_namesLeft_2, y7_redsLeft_2, y8_trial_2, hz, hf⟩ := bd11_e hf
  have hE17 : ∀ (H : Heap) (locs : List Loc) (ls : Array Slot), va_P g.1 vwCl (w_X8_shy g a0 a1 a2 a3 a4 a5 a6 a7 a8 a9 a10 a11 a12 a13 a14 a15 a16 a17 u0_1 u0_2 u0_4 u0_5 u0_6 u0_7 u0_8 u0_9 u2_3 u2_4 u9_2 u9_5 u10_3 u11_1 u11_3 x1_reds_2 x1_bestReds_2 x1_bestCount_2 x1_bestTurning_2 y3_allowed_2 y4_best_2 y5_foes_2 y6_namesLeft_2 y7_redsLeft_2 y8_trial_2 x9_rows x9_columns x10_count x10_reds x11_count x11_turn y12_land y13_riverOf y14_home y15_length y16_letters y17_stops) H → va_D A (w_X8_shy g a0 a1 a2 a3 a4 a5 a6 a7 a8 a9 a10 a11 a12 a13 a14 a15 a16 a17 u0_1 u0_2 u0_4 u0_5 u0_6 u0_7 u0_8 u0_9 u2_3 u2_4 u9_2 u9_5 u10_3 u11_1 u11_3 x1_reds_2 x1_bestReds_2 x1_bestCount_2 x1_bestTurning_2 y3_allowed_2 y4_best_2 y5_foes_2 y6_namesLeft_2 y7_redsLeft_2 y8_trial_2 x9_rows x9_columns x10_count x10_reds x11_count x11_turn y12_land y13_riverOf y14_home y15_length y16_letters y17_stops) → va_S A s.heap H locs → lv_has ls 4 [(2, .int v2_1)] → W p l e (RM 16 432) s m args below meth c H locs 0 0 Q (F0 m 76 ls []) := by
    intro H locs ls hP hD hS hl
    refine lv_iload_n (pc := 76) hexec hb dX8_shy_76 rfl (lv_at hl 0 rfl) ?_
    cases hf
    exact ke_i hQ hexec hb hr hP hD hS dX8_shy_77 hlocks
  obtain ⟨n, hz⟩ := lq12_e hz
  have hL17 : ∀ (n : Nat) (v2 : Int32) (v3 : Int32) (x1_reds_1 : Int32) (x1_bestReds_1 : Int32) (x1_bestCount_1 : Int32) (x1_bestTurning_1 : Int32) (y3_allowed_1 : Nat → Int32) (y4_best_1 : Nat → Int32) (y5_foes_1 : Nat → Int32) (y6_namesLeft_1 : Nat → Int32) (y7_redsLeft_1 : Nat → Int32) (y8_trial_1 : Nat → Int32) (H : Heap) (locs : List Loc) (ls : Array Slot), it12 l17 n v2 v3 x1_reds_1 x1_bestReds_1 x1_bestCount_1 x1_bestTurning_1 y3_allowed_1 y4_best_1 y5_foes_1 y6_namesLeft_1 y7_redsLeft_1 y8_trial_1 = some (v2_1, x1_reds_2, x1_bestReds_2, x1_bestCount_2, x1_bestTurning_2, y3_allowed_2, y4_best_2, y5_foes_2, y6_namesLeft_2, y7_redsLeft_2, y8_trial_2) → va_P g.1 vwCl (w_X8_shy g a0 a1 a2 a3 a4 a5 a6 a7 a8 a9 a10 a11 a12 a13 a14 a15 a16 a17 u0_1 u0_2 u0_4 u0_5 u0_6 u0_7 u0_8 u0_9 u2_3 u2_4 u9_2 u9_5 u10_3 u11_1 u11_3 x1_reds_1 x1_bestReds_1 x1_bestCount_1 x1_bestTurning_1 y3_allowed_1 y4_best_1 y5_foes_1 y6_namesLeft_1 y7_redsLeft_1 y8_trial_1 x9_rows x9_columns x10_count x10_reds x11_count x11_turn y12_land y13_riverOf y14_home y15_length y16_letters y17_stops) H → va_D A (w_X8_shy g a0 a1 a2 a3 a4 a5 a6 a7 a8 a9 a10 a11 a12 a13 a14 a15 a16 a17 u0_1 u0_2 u0_4 u0_5 u0_6 u0_7 u0_8 u0_9 u2_3 u2_4 u9_2 u9_5 u10_3 u11_1 u11_3 x1_reds_1 x1_bestReds_1 x1_bestCount_1 x1_bestTurning_1 y3_allowed_1 y4_best_1 y5_foes_1 y6_namesLeft_1 y7_redsLeft_1 y8_trial_1 x9_rows x9_columns x10_count x10_reds x11_count x11_turn y12_land y13_riverOf y14_home y15_length y16_letters y17_stops) → va_S A s.heap H locs → lv_has ls 4 [(0, .ref a0), (1, .int v1), (2, .int v2), (3, .int v3)] → W p l e (RM 16 432) s m args below meth c H locs 0 0 Q (F0 m 17 ls []) := by
    intro n
    induction n with
    | zero =>
      intro v2 v3 x1_reds_1 x1_bestReds_1 x1_bestCount_1 x1_bestTurning_1 y3_allowed_1 y4_best_1 y5_foes_1 y6_namesLeft_1 y7_redsLeft_1 y8_trial_1 H locs ls hf hP hD hS hl
      exact it12_0 hf
    | succ n17 ih17 =>
      intro v2 v3 x1_reds_1 x1_bestReds_1 x1_bestCount_1 x1_bestTurning_1 y3_allowed_1 y4_best_1 y5_foes_1 y6_namesLeft_1 y7_redsLeft_1 y8_trial_1 H locs ls hf hP hD hS hl
      obtain ⟨q17, hf, hk17⟩ := it12_e hf
      have hf := (el17 v2 v3 x1_reds_1 x1_bestReds_1 x1_bestCount_1 x1_bestTurning_1 y3_allowed_1 y4_best_1 y5_foes_1 y6_namesLeft_1 y7_redsLeft_1 y8_trial_1).symm.trans hf
      refine lv_iload_n (pc := 17) hexec hb dX8_shy_17 rfl (lv_at hl 3 rfl) ?_
      refine lv_aload_n (pc := 18) hexec hb dX8_shy_18 rfl (lv_at hl 0 rfl) ?_
      refine kg_get (pc := 19) hexec hb (own := RX8) hWX8 hown hG hP 0 rfl rfl 0 (nle rfl) (hts _ (List.mem_cons_of_mem _ (List.mem_append_left _ (List.mem_append_left _ (List.mem_append_left _ (List.mem_append_left _ (List.mem_append_left _ (List.mem_append_left _ (List.mem_append_left _ (List.mem_of_getElem? (i := 0) rfl)))))))))) rfl rfl dX8_shy_19 ?_
      refine kg_getN (pc := 22) hexec hb (own := RX8) hWX6 hown hG hP 2 rfl rfl 1 (nle rfl) 24 rfl rfl rfl dX8_shy_22 ?_
      refine kg_getN (pc := 25) hexec hb (own := RX8) hWX2 hown hG hP 10 rfl rfl 0 (nle rfl) 6 rfl rfl rfl dX8_shy_25 ?_
      refine ki_ge (pc := 28) hexec hb dX8_shy_28 (tgt := 76) rfl hf (fun hc hf => ?_) (fun hc hf => ?_)
      · cases sr12 hf hk17
        exact hE17 _ _ _ hP hD hS (lv_sub hl [2] rfl)
      · refine lv_aload_n (pc := 31) hexec hb dX8_shy_31 rfl (lv_at hl 0 rfl) ?_
        refine kg_get (pc := 32) hexec hb (own := RX8) hWX8 hown hG hP 0 rfl rfl 3 (nle rfl) (hts _ (List.mem_cons_of_mem _ (List.mem_append_left _ (List.mem_append_left _ (List.mem_append_left _ (List.mem_append_left _ (List.mem_append_left _ (List.mem_append_left _ (List.mem_append_left _ (List.mem_of_getElem? (i := 1) rfl)))))))))) rfl rfl dX8_shy_32 ?_
        refine lv_aload_n (pc := 35) hexec hb dX8_shy_35 rfl (lv_at hl 0 rfl) ?_
        refine kg_get (pc := 36) hexec hb (own := RX8) hWX8 hown hG hP 0 rfl rfl 0 (nle rfl) (hts _ (List.mem_cons_of_mem _ (List.mem_append_left _ (List.mem_append_left _ (List.mem_append_left _ (List.mem_append_left _ (List.mem_append_left _ (List.mem_append_left _ (List.mem_append_left _ (List.mem_of_getElem? (i := 0) rfl)))))))))) rfl rfl dX8_shy_36 ?_
        refine lv_iload_n (pc := 39) hexec hb dX8_shy_39 rfl (lv_at hl 3 rfl) ?_
        refine lv_aload_n (pc := 40) hexec hb dX8_shy_40 rfl (lv_at hl 0 rfl) ?_
        refine kg_get (pc := 41) hexec hb (own := RX8) hWX8 hown hG hP 0 rfl rfl 0 (nle rfl) (hts _ (List.mem_cons_of_mem _ (List.mem_append_left _ (List.mem_append_left _ (List.mem_append_left _ (List.mem_append_left _ (List.mem_append_left _ (List.mem_append_left _ (List.mem_append_left _ (List.mem_of_getElem? (i := 0) rfl)))))))))) rfl rfl dX8_shy_41 ?_
        refine kg_getN (pc := 44) hexec hb (own := RX8) hWX6 hown hG hP 2 rfl rfl 1 (nle rfl) 24 rfl rfl rfl dX8_shy_44 ?_
        refine kg_getN (pc := 47) hexec hb (own := RX8) hWX2 hown hG hP 10 rfl rfl 1 (nle rfl) 10 rfl rfl rfl dX8_shy_47 ?_
        obtain ⟨x1_reds_3, x1_bestReds_3, x1_bestCount_3, x1_bestTurning_3, y3_allowed_3, y4_best_3, y5_foes_3, y6_namesLeft_3, y7_redsLeft_3, y8_trial_3, hc, hf⟩ := bd10_e hf
        refine kVp (pc := 50) (S := ⟨hexec, hb, hml, hown, hts⟩) hP hD hG hA hS [1, 3, 4, 5, 6, 7, 8, 2, 9, 10, 11, 12, 13, 14, 15, 16, 17] [0] [0, 1, 8, 2, 3, 4, 5, 6, 7, 9, 10, 11, 12, 13, 14, 15, 16, 17] (w2 := (w_X8_shy g a0 a1 a2 a3 a4 a5 a6 a7 a8 a9 a10 a11 a12 a13 a14 a15 a16 a17 u0_1 u0_2 u0_4 u0_5 u0_6 u0_7 u0_8 u0_9 u2_3 u2_4 u9_2 u9_5 u10_3 u11_1 u11_3 x1_reds_3 x1_bestReds_3 x1_bestCount_3 x1_bestTurning_3 y3_allowed_3 y4_best_3 y5_foes_3 y6_namesLeft_3 y7_redsLeft_3 y8_trial_3 x9_rows x9_columns x10_count x10_reds x11_count x11_turn y12_land y13_riverOf y14_home y15_length y16_letters y17_stops)) rfl rfl rfl rfl rfl rfl (by decide) (c_X0_findBest l g a1 a3 a4 a5 a6 a7 a8 a2 a9 a10 a11 a12 a13 a14 a15 a16 a17 _ u2_3 u2_4 u9_2 u9_5 (.int x10_reds) u10_3 u11_1 u11_3 x1_reds_1 x1_bestReds_1 x1_bestCount_1 x1_bestTurning_1 y3_allowed_1 y4_best_1 y5_foes_1 y6_namesLeft_1 y7_redsLeft_1 y8_trial_1 x9_rows x9_columns x10_count x11_count x11_turn y12_land y13_riverOf y14_home y15_length y16_letters y17_stops v3 x10_reds x1_reds_3 x1_bestReds_3 x1_bestCount_3 x1_bestTurning_3 y3_allowed_3 y4_best_3 y5_foes_3 y6_namesLeft_3 y7_redsLeft_3 y8_trial_3 hc) gX8_shy_X0_findBest rfl hv_X0_findBest ⟨nle rfl, nle rfl⟩ 0 0 rfl rfl rfl (rest := []) rfl rfl hl.1 (nle rfl) dX8_shy_50 (fun H locs hP hD hS => ?_)
        refine lv_aload_n (pc := 53) hexec hb dX8_shy_53 rfl (lv_at hl 0 rfl) ?_
        refine kg_get (pc := 54) hexec hb (own := RX8) hWX8 hown hG hP 0 rfl rfl 3 (nle rfl) (hts _ (List.mem_cons_of_mem _ (List.mem_append_left _ (List.mem_append_left _ (List.mem_append_left _ (List.mem_append_left _ (List.mem_append_left _ (List.mem_append_left _ (List.mem_append_left _ (List.mem_of_getElem? (i := 1) rfl)))))))))) rfl rfl dX8_shy_54 ?_
        refine kg_getN (pc := 57) hexec hb (own := RX8) hWX0 hown hG hP 1 rfl rfl 2 (nle rfl) 35 rfl rfl rfl dX8_shy_57 ?_
        refine lv_iload_n (pc := 60) hexec hb dX8_shy_60 rfl (lv_at hl 1 rfl) ?_
        obtain ⟨j70, ej70, hf⟩ := bvf1 hf
        have hj70 : ∀ (v2_2 : Int32) (H : Heap) (locs : List Loc) (ls : Array Slot), j70 v2_2 = some q17 → va_P g.1 vwCl (w_X8_shy g a0 a1 a2 a3 a4 a5 a6 a7 a8 a9 a10 a11 a12 a13 a14 a15 a16 a17 u0_1 u0_2 u0_4 u0_5 u0_6 u0_7 u0_8 u0_9 u2_3 u2_4 u9_2 u9_5 u10_3 u11_1 u11_3 x1_reds_3 x1_bestReds_3 x1_bestCount_3 x1_bestTurning_3 y3_allowed_3 y4_best_3 y5_foes_3 y6_namesLeft_3 y7_redsLeft_3 y8_trial_3 x9_rows x9_columns x10_count x10_reds x11_count x11_turn y12_land y13_riverOf y14_home y15_length y16_letters y17_stops) H → va_D A (w_X8_shy g a0 a1 a2 a3 a4 a5 a6 a7 a8 a9 a10 a11 a12 a13 a14 a15 a16 a17 u0_1 u0_2 u0_4 u0_5 u0_6 u0_7 u0_8 u0_9 u2_3 u2_4 u9_2 u9_5 u10_3 u11_1 u11_3 x1_reds_3 x1_bestReds_3 x1_bestCount_3 x1_bestTurning_3 y3_allowed_3 y4_best_3 y5_foes_3 y6_namesLeft_3 y7_redsLeft_3 y8_trial_3 x9_rows x9_columns x10_count x10_reds x11_count x11_turn y12_land y13_riverOf y14_home y15_length y16_letters y17_stops) → va_S A s.heap H locs → lv_has ls 4 [(0, .ref a0), (1, .int v1), (2, .int v2_2), (3, .int v3)] → W p l e (RM 16 432) s m args below meth c H locs 0 0 Q (F0 m 70 ls []) := by
          intro v2_2 H locs ls hf hP hD hS hl
          have hf := (ej70 v2_2).symm.trans hf
          obtain ⟨v3_1, ev3_1, hf⟩ := bv_e hf
          refine k_iinc (pc := 70) hexec hb dX8_shy_70 kq_1 hl (k := 3) rfl ev3_1 (nle rfl) rfl (fun ls (hl : lv_has ls 4 [(3, .int v3_1), (0, .ref a0), (1, .int v1), (2, .int v2_2)]) => ?_)
          refine lv_goto (pc := 73) hexec hb dX8_shy_73 (tgt := 17) rfl ?_
          exact ih17 _ _ _ _ _ _ _ _ _ _ _ _ _ _ _ (sl12 hf hk17) hP hD hS (lv_sub hl [1, 2, 3, 0] rfl)
        refine ki_ne (pc := 61) hexec hb dX8_shy_61 (tgt := 70) rfl hf (fun hc hf => ?_) (fun hc hf => ?_)
        · exact hj70 _ _ _ _ hf hP hD hS (lv_sub hl [0, 1, 2, 3] rfl)
        · refine lv_iload_n (pc := 64) hexec hb dX8_shy_64 rfl (lv_at hl 2 rfl) ?_
          refine lv_iconst (pc := 65) hexec hb dX8_shy_65 ki_1 ?_
          refine lv_iload_n (pc := 66) hexec hb dX8_shy_66 rfl (lv_at hl 3 rfl) ?_
          refine lv_ishl (pc := 67) hexec hb dX8_shy_67 ?_
          refine lv_ior (pc := 68) hexec hb dX8_shy_68 ?_
          obtain ⟨v2_3, ev2_3, hf⟩ := bv_e hf
          refine kn_i ev2_3 ?_
          refine lv_istore_n (pc := 69) hexec hb dX8_shy_69 rfl hl (nle rfl) rfl (fun ls (hl : lv_has ls 4 [(2, .int v2_3), (0, .ref a0), (1, .int v1), (3, .int v3)]) => ?_)
          exact hj70 _ _ _ _ hf hP hD hS (lv_sub hl [1, 2, 0, 3] rfl)
  exact hL17 n _ _ _ _ _ _ _ _ _ _ _ _ _ _ _ hz hP hD hS (lv_sub hl [3, 2, 1, 0] rfl)
abbrev w_X8_wayFrom (g : GE) (a0 a1 a2 a3 a4 a5 a6 a7 a8 a9 a10 a11 : Nat) (u0_1 u0_3 u0_4 u0_5 u0_6 u0_7 u0_8 u0_9 u1_2 u1_4 u3_2 u3_5 u4_1 u4_3 u4_4 u4_5 : Value) (x2_length : Int32) (x3_rows : Int32) (x3_columns : Int32) (x4_count : Int32) (y5_namesOn : Nat → Int32) (y6_costs : Nat → Int32) (y7_sums : Nat → Int32) (y8_way : Nat → Int32) (y9_land : Nat → Int32) (y10_riverOf : Nat → Int32) (y11_home : Nat → Int32) : va_W := [(a0, .inr (8, [.ref a1, u0_1, .ref a2, u0_3, u0_4, u0_5, u0_6, u0_7, u0_8, u0_9])), (a1, .inr (6, [.ref a3, .ref a4, u1_2, .ref a5, u1_4])), (a2, .inr (7, [.ref a6, .ref a7, .ref a8, .int x2_length])), (a3, .inr (1, [.int x3_rows, .int x3_columns, u3_2, .ref a9, .ref a10, u3_5])), (a4, .inr (2, [.int x4_count, u4_1, .ref a11, u4_3, u4_4, u4_5])), (a5, .inl (g.2.1 0, 144, .inl y5_namesOn)), (a6, .inl (g.2.1 0, 144, .inl y6_costs)), (a7, .inl (g.2.1 0, 144, .inl y7_sums)), (a8, .inl (g.2.1 0, 144, .inl y8_way)), (a9, .inl (g.2.1 1, 144, .inl y9_land)), (a10, .inl (g.2.1 0, 144, .inl y10_riverOf)), (a11, .inl (g.2.1 0, 8, .inl y11_home))]
set_option maxRecDepth 20000 in
theorem c_X8_wayFrom (l : Launch) (g : GE) (a0 a1 a2 a3 a4 a5 a6 a7 a8 a9 a10 a11 : Nat) (sz : Nat) (u0_1 u0_3 u0_4 u0_5 u0_6 u0_7 u0_8 u0_9 u1_2 u1_4 u3_2 u3_5 u4_1 u4_3 u4_4 u4_5 : Value) (x2_length : Int32) (x3_rows : Int32) (x3_columns : Int32) (x4_count : Int32) (y5_namesOn : Nat → Int32) (y6_costs : Nat → Int32) (y7_sums : Nat → Int32) (y8_way : Nat → Int32) (y9_land : Nat → Int32) (y10_riverOf : Nat → Int32) (y11_home : Nat → Int32) (p1 : Int32)  (r : Int32) (o_x2_length : Int32) (o_y6_costs : Nat → Int32) (o_y7_sums : Nat → Int32) (o_y8_way : Nat → Int32) (hf : f_X8_wayFrom x2_length x3_rows x3_columns x4_count y5_namesOn y6_costs y7_sums y8_way y9_land y10_riverOf y11_home p1 = some (r, o_x2_length, o_y6_costs, o_y7_sums, o_y8_way)) : MI l g yX8_wayFrom wsX8_wayFrom 4 100 [.ref a0, .int p1] (w_X8_wayFrom g a0 a1 a2 a3 a4 a5 a6 a7 a8 a9 a10 a11 u0_1 u0_3 u0_4 u0_5 u0_6 u0_7 u0_8 u0_9 u1_2 u1_4 u3_2 u3_5 u4_1 u4_3 u4_4 u4_5 x2_length x3_rows x3_columns x4_count y5_namesOn y6_costs y7_sums y8_way y9_land y10_riverOf y11_home) sz (some (.int r)) (w_X8_wayFrom g a0 a1 a2 a3 a4 a5 a6 a7 a8 a9 a10 a11 u0_1 u0_3 u0_4 u0_5 u0_6 u0_7 u0_8 u0_9 u1_2 u1_4 u3_2 u3_5 u4_1 u4_3 u4_4 u4_5 o_x2_length x3_rows x3_columns x4_count y5_namesOn o_y6_costs o_y7_sums o_y8_way y9_land y10_riverOf y11_home) := by
  refine MI.start (cc := cX8_wayFrom) (maxL := 2) (ret := (some .int)) rfl rfl (nle rfl) ?_
  intro p e s m args below meth c A ls Q hQ hexec hb hr hts hown hlocks hml hA hP hD hG hS hl
  unfold f_X8_wayFrom at hf
  have hWX1 : ∀ w ∈ wsX10, w.before args s = true := fun w h => hts w (List.mem_cons_of_mem _ (List.mem_append_left _ (List.mem_append_right _ h)))
  have hWX2 : ∀ w ∈ wsX20, w.before args s = true := fun w h => hts w (List.mem_cons_of_mem _ (List.mem_append_right _ h))
  have hWX6 : ∀ w ∈ wsX60, w.before args s = true := fun w h => hts w (List.mem_cons_of_mem _ (List.mem_append_left _ (List.mem_append_left _ (List.mem_append_left _ (List.mem_append_right _ h)))))
  have hWX7 : ∀ w ∈ wsX70, w.before args s = true := fun w h => hts w (List.mem_cons_of_mem _ (List.mem_append_left _ (List.mem_append_left _ (List.mem_append_right _ h))))
  have hWX8 : ∀ w ∈ wsX80, w.before args s = true := fun w h => hts w (List.mem_cons_of_mem _ (List.mem_append_left _ (List.mem_append_left _ (List.mem_append_left _ (List.mem_append_left _ (List.mem_append_right _ h))))))
  have hS : va_S A s.heap s.heap [] := hS
  refine lv_aload_n (pc := 0) hexec hb dX8_wayFrom_0 rfl (lv_at hl 0 rfl) ?_
  refine kg_get (pc := 1) hexec hb (own := RX8) hWX8 hown hG hP 0 rfl rfl 2 (nle rfl) (hts _ (List.mem_cons_of_mem _ (List.mem_append_left _ (List.mem_append_left _ (List.mem_append_left _ (List.mem_append_left _ (List.mem_append_left _ (List.mem_append_left _ (List.mem_of_getElem? (i := 0) rfl))))))))) rfl rfl dX8_wayFrom_1 ?_
  refine lv_aload_n (pc := 4) hexec hb dX8_wayFrom_4 rfl (lv_at hl 0 rfl) ?_
  refine kg_get (pc := 5) hexec hb (own := RX8) hWX8 hown hG hP 0 rfl rfl 0 (nle rfl) (hts _ (List.mem_cons_of_mem _ (List.mem_append_left _ (List.mem_append_left _ (List.mem_append_left _ (List.mem_append_left _ (List.mem_append_left _ (List.mem_append_left _ (List.mem_of_getElem? (i := 1) rfl))))))))) rfl rfl dX8_wayFrom_5 ?_
  obtain ⟨y6_costs_1, y7_sums_1, hc, hf⟩ := bd2_e hf
  refine kVp (pc := 8) (S := ⟨hexec, hb, hml, hown, hts⟩) hP hD hG hA hS [2, 6, 7, 1, 3, 4, 5, 9, 10, 11] [0, 8] [0, 5, 2, 6, 7, 8, 3, 4, 1, 9, 10, 11] (w2 := (w_X8_wayFrom g a0 a1 a2 a3 a4 a5 a6 a7 a8 a9 a10 a11 u0_1 u0_3 u0_4 u0_5 u0_6 u0_7 u0_8 u0_9 u1_2 u1_4 u3_2 u3_5 u4_1 u4_3 u4_4 u4_5 x2_length x3_rows x3_columns x4_count y5_namesOn y6_costs_1 y7_sums_1 y8_way y9_land y10_riverOf y11_home)) rfl rfl rfl rfl rfl rfl (by decide) (c_X7_survey l g a2 a6 a7 a1 a3 a4 a5 a9 a10 a11 _ (.ref a8) (.int x2_length) u1_2 u1_4 u3_2 u3_5 u4_1 u4_3 u4_4 u4_5 y6_costs y7_sums x3_rows x3_columns x4_count y5_namesOn y9_land y10_riverOf y11_home y6_costs_1 y7_sums_1 hc) gX8_wayFrom_X7_survey rfl hv_X7_survey ⟨nle rfl, nle rfl⟩ 7 0 rfl rfl rfl (rest := []) rfl rfl hl.1 (nle rfl) dX8_wayFrom_8 (fun H locs hP hD hS => ?_)
  refine lv_aload_n (pc := 11) hexec hb dX8_wayFrom_11 rfl (lv_at hl 0 rfl) ?_
  refine kg_get (pc := 12) hexec hb (own := RX8) hWX8 hown hG hP 0 rfl rfl 2 (nle rfl) (hts _ (List.mem_cons_of_mem _ (List.mem_append_left _ (List.mem_append_left _ (List.mem_append_left _ (List.mem_append_left _ (List.mem_append_left _ (List.mem_append_left _ (List.mem_of_getElem? (i := 0) rfl))))))))) rfl rfl dX8_wayFrom_12 ?_
  refine lv_aload_n (pc := 15) hexec hb dX8_wayFrom_15 rfl (lv_at hl 0 rfl) ?_
  refine kg_get (pc := 16) hexec hb (own := RX8) hWX8 hown hG hP 0 rfl rfl 0 (nle rfl) (hts _ (List.mem_cons_of_mem _ (List.mem_append_left _ (List.mem_append_left _ (List.mem_append_left _ (List.mem_append_left _ (List.mem_append_left _ (List.mem_append_left _ (List.mem_of_getElem? (i := 1) rfl))))))))) rfl rfl dX8_wayFrom_16 ?_
  refine kg_getN (pc := 19) hexec hb (own := RX8) hWX6 hown hG hP 1 rfl rfl 0 (nle rfl) 21 rfl rfl rfl dX8_wayFrom_19 ?_
  refine lv_iload_n (pc := 22) hexec hb dX8_wayFrom_22 rfl (lv_at hl 1 rfl) ?_
  obtain ⟨r23, x2_length_1, y8_way_1, hc, hf⟩ := bd3_e hf
  refine kVp (pc := 23) (S := ⟨hexec, hb, hml, hown, hts⟩) hP hD hG hA hS [2, 6, 7, 8, 3] [0, 1, 4, 5, 9, 10, 11] [0, 1, 7, 11, 2, 3, 8, 9, 10, 4, 5, 6] (w2 := (w_X8_wayFrom g a0 a1 a2 a3 a4 a5 a6 a7 a8 a9 a10 a11 u0_1 u0_3 u0_4 u0_5 u0_6 u0_7 u0_8 u0_9 u1_2 u1_4 u3_2 u3_5 u4_1 u4_3 u4_4 u4_5 x2_length_1 x3_rows x3_columns x4_count y5_namesOn y6_costs_1 y7_sums_1 y8_way_1 y9_land y10_riverOf y11_home)) rfl rfl rfl rfl rfl rfl (by decide) (c_X7_trace l g a2 a6 a7 a8 a3 _ u3_2 (.ref a9) (.ref a10) u3_5 x2_length y6_costs_1 y7_sums_1 y8_way x3_rows x3_columns p1 r23 x2_length_1 y8_way_1 hc) gX8_wayFrom_X7_trace rfl hv_X7_trace ⟨nle rfl, nle rfl⟩ 7 0 rfl rfl rfl (rest := []) rfl rfl hl.1 (nle rfl) dX8_wayFrom_23 (fun H locs hP hD hS => ?_)
  cases hf
  exact ke_i hQ hexec hb hr hP hD hS dX8_wayFrom_26 hlocks
abbrev w_X8_wayLength (g : GE) (a0 a1 a2 a3 a4 a5 a6 a7 a8 a9 a10 a11 : Nat) (u0_1 u0_3 u0_4 u0_5 u0_6 u0_7 u0_8 u0_9 u1_2 u1_4 u3_2 u3_5 u4_1 u4_3 u4_4 u4_5 : Value) (x2_length : Int32) (x3_rows : Int32) (x3_columns : Int32) (x4_count : Int32) (y5_namesOn : Nat → Int32) (y6_costs : Nat → Int32) (y7_sums : Nat → Int32) (y8_way : Nat → Int32) (y9_land : Nat → Int32) (y10_riverOf : Nat → Int32) (y11_home : Nat → Int32) : va_W := [(a0, .inr (8, [.ref a1, u0_1, .ref a2, u0_3, u0_4, u0_5, u0_6, u0_7, u0_8, u0_9])), (a1, .inr (6, [.ref a3, .ref a4, u1_2, .ref a5, u1_4])), (a2, .inr (7, [.ref a6, .ref a7, .ref a8, .int x2_length])), (a3, .inr (1, [.int x3_rows, .int x3_columns, u3_2, .ref a9, .ref a10, u3_5])), (a4, .inr (2, [.int x4_count, u4_1, .ref a11, u4_3, u4_4, u4_5])), (a5, .inl (g.2.1 0, 144, .inl y5_namesOn)), (a6, .inl (g.2.1 0, 144, .inl y6_costs)), (a7, .inl (g.2.1 0, 144, .inl y7_sums)), (a8, .inl (g.2.1 0, 144, .inl y8_way)), (a9, .inl (g.2.1 1, 144, .inl y9_land)), (a10, .inl (g.2.1 0, 144, .inl y10_riverOf)), (a11, .inl (g.2.1 0, 8, .inl y11_home))]
set_option maxRecDepth 20000 in
theorem c_X8_wayLength (l : Launch) (g : GE) (a0 a1 a2 a3 a4 a5 a6 a7 a8 a9 a10 a11 : Nat) (sz : Nat) (u0_1 u0_3 u0_4 u0_5 u0_6 u0_7 u0_8 u0_9 u1_2 u1_4 u3_2 u3_5 u4_1 u4_3 u4_4 u4_5 : Value) (x2_length : Int32) (x3_rows : Int32) (x3_columns : Int32) (x4_count : Int32) (y5_namesOn : Nat → Int32) (y6_costs : Nat → Int32) (y7_sums : Nat → Int32) (y8_way : Nat → Int32) (y9_land : Nat → Int32) (y10_riverOf : Nat → Int32) (y11_home : Nat → Int32) (p1 : Int32)  (r : Int32) (o_x2_length : Int32) (o_y6_costs : Nat → Int32) (o_y7_sums : Nat → Int32) (o_y8_way : Nat → Int32) (hf : f_X8_wayLength x2_length x3_rows x3_columns x4_count y5_namesOn y6_costs y7_sums y8_way y9_land y10_riverOf y11_home p1 = some (r, o_x2_length, o_y6_costs, o_y7_sums, o_y8_way)) : MI l g yX8_wayLength wsX8_wayLength 5 121 [.ref a0, .int p1] (w_X8_wayLength g a0 a1 a2 a3 a4 a5 a6 a7 a8 a9 a10 a11 u0_1 u0_3 u0_4 u0_5 u0_6 u0_7 u0_8 u0_9 u1_2 u1_4 u3_2 u3_5 u4_1 u4_3 u4_4 u4_5 x2_length x3_rows x3_columns x4_count y5_namesOn y6_costs y7_sums y8_way y9_land y10_riverOf y11_home) sz (some (.int r)) (w_X8_wayLength g a0 a1 a2 a3 a4 a5 a6 a7 a8 a9 a10 a11 u0_1 u0_3 u0_4 u0_5 u0_6 u0_7 u0_8 u0_9 u1_2 u1_4 u3_2 u3_5 u4_1 u4_3 u4_4 u4_5 o_x2_length x3_rows x3_columns x4_count y5_namesOn o_y6_costs o_y7_sums o_y8_way y9_land y10_riverOf y11_home) := by
  refine MI.start (cc := cX8_wayLength) (maxL := 3) (ret := (some .int)) rfl rfl (nle rfl) ?_
  intro p e s m args below meth c A ls Q hQ hexec hb hr hts hown hlocks hml hA hP hD hG hS hl
  unfold f_X8_wayLength at hf
  have hWX1 : ∀ w ∈ wsX10, w.before args s = true := fun w h => hts w (List.mem_cons_of_mem _ (List.mem_append_left _ (List.mem_append_left _ (List.mem_append_left _ (List.mem_append_right _ h)))))
  have hWX2 : ∀ w ∈ wsX20, w.before args s = true := fun w h => hts w (List.mem_cons_of_mem _ (List.mem_append_left _ (List.mem_append_right _ h)))
  have hWX6 : ∀ w ∈ wsX60, w.before args s = true := fun w h => hts w (List.mem_cons_of_mem _ (List.mem_append_left _ (List.mem_append_left _ (List.mem_append_left _ (List.mem_append_left _ (List.mem_append_right _ h))))))
  have hWX7 : ∀ w ∈ wsX70, w.before args s = true := fun w h => hts w (List.mem_cons_of_mem _ (List.mem_append_left _ (List.mem_append_left _ (List.mem_append_right _ h))))
  have hWX8 : ∀ w ∈ wsX80, w.before args s = true := fun w h => hts w (List.mem_cons_of_mem _ (List.mem_append_left _ (List.mem_append_left _ (List.mem_append_left _ (List.mem_append_left _ (List.mem_append_left _ (List.mem_append_right _ h)))))))
  have hS : va_S A s.heap s.heap [] := hS
  refine lv_aload_n (pc := 0) hexec hb dX8_wayLength_0 rfl (lv_at hl 0 rfl) ?_
  refine lv_iload_n (pc := 1) hexec hb dX8_wayLength_1 rfl (lv_at hl 1 rfl) ?_
  obtain ⟨_, hc, hf⟩ := bd1_e hf
  refine kVp (pc := 2) (S := ⟨hexec, hb, hml, hown, hts⟩) hP hD hG hA hS [0, 1, 3] [2, 4, 5, 6, 7, 8, 9, 10, 11] [9, 10, 0, 11, 1, 2, 3, 4, 5, 6, 7, 8] (w2 := (w_X8_wayLength g a0 a1 a2 a3 a4 a5 a6 a7 a8 a9 a10 a11 u0_1 u0_3 u0_4 u0_5 u0_6 u0_7 u0_8 u0_9 u1_2 u1_4 u3_2 u3_5 u4_1 u4_3 u4_4 u4_5 x2_length x3_rows x3_columns x4_count y5_namesOn y6_costs y7_sums y8_way y9_land y10_riverOf y11_home)) rfl rfl rfl rfl rfl rfl (by decide) (c_X8_needCell l g a0 a1 a3 _ u0_1 (.ref a2) u0_3 u0_4 u0_5 u0_6 u0_7 u0_8 u0_9 (.ref a4) u1_2 (.ref a5) u1_4 u3_2 (.ref a9) (.ref a10) u3_5 x3_rows x3_columns p1 hc) gX8_wayLength_X8_needCell rfl hv_X8_needCell ⟨nle rfl, nle rfl⟩ 8 0 rfl rfl rfl (rest := []) rfl rfl hl.1 (nle rfl) dX8_wayLength_2 (fun H locs hP hD hS => ?_)
  refine lv_aload_n (pc := 5) hexec hb dX8_wayLength_5 rfl (lv_at hl 0 rfl) ?_
  refine lv_iload_n (pc := 6) hexec hb dX8_wayLength_6 rfl (lv_at hl 1 rfl) ?_
  obtain ⟨r7, x2_length_1, y6_costs_1, y7_sums_1, y8_way_1, hc, hf⟩ := bd5_e hf
  refine kVp (pc := 7) (S := ⟨hexec, hb, hml, hown, hts⟩) hP hD hG hA hS [0, 1, 2, 3, 4, 5, 6, 7, 8, 9, 10, 11] [] [0, 1, 2, 3, 4, 5, 6, 7, 8, 9, 10, 11] (w2 := (w_X8_wayLength g a0 a1 a2 a3 a4 a5 a6 a7 a8 a9 a10 a11 u0_1 u0_3 u0_4 u0_5 u0_6 u0_7 u0_8 u0_9 u1_2 u1_4 u3_2 u3_5 u4_1 u4_3 u4_4 u4_5 x2_length_1 x3_rows x3_columns x4_count y5_namesOn y6_costs_1 y7_sums_1 y8_way_1 y9_land y10_riverOf y11_home)) rfl rfl rfl rfl rfl rfl (by decide) (c_X8_wayFrom l g a0 a1 a2 a3 a4 a5 a6 a7 a8 a9 a10 a11 _ u0_1 u0_3 u0_4 u0_5 u0_6 u0_7 u0_8 u0_9 u1_2 u1_4 u3_2 u3_5 u4_1 u4_3 u4_4 u4_5 x2_length x3_rows x3_columns x4_count y5_namesOn y6_costs y7_sums y8_way y9_land y10_riverOf y11_home p1 r7 x2_length_1 y6_costs_1 y7_sums_1 y8_way_1 hc) gX8_wayLength_X8_wayFrom rfl hv_X8_wayFrom ⟨nle rfl, nle rfl⟩ 8 0 rfl rfl rfl (rest := []) rfl rfl hl.1 (nle rfl) dX8_wayLength_7 (fun H locs hP hD hS => ?_)
  refine lv_istore_n (pc := 10) hexec hb dX8_wayLength_10 rfl hl (nle rfl) rfl (fun ls (hl : lv_has ls 3 [(2, .int r7), (0, .ref a0), (1, .int p1)]) => ?_)
  refine lv_iload_n (pc := 11) hexec hb dX8_wayLength_11 rfl (lv_at hl 0 rfl) ?_
  refine kb_ne (pc := 12) hexec hb dX8_wayLength_12 (tgt := 20) rfl hf (fun hc hf => ?_) (fun hc hf => ?_)
  · refine lv_iload_n (pc := 20) hexec hb dX8_wayLength_20 rfl (lv_at hl 0 rfl) ?_
    cases hf
    exact ke_i hQ hexec hb hr hP hD hS dX8_wayLength_21 hlocks
  · refine lv_bipush (pc := 15) hexec hb dX8_wayLength_15 kb_m3 ?_
    refine lv_goto (pc := 17) hexec hb dX8_wayLength_17 (tgt := 21) rfl ?_
    cases hf
    exact ke_i hQ hexec hb hr hP hD hS dX8_wayLength_21 hlocks
abbrev w_X8_wayCell (g : GE) (a0 a1 a2 a3 a4 a5 a6 a7 a8 a9 a10 a11 : Nat) (u0_1 u0_3 u0_4 u0_5 u0_6 u0_7 u0_8 u0_9 u1_2 u1_4 u3_2 u3_5 u4_1 u4_3 u4_4 u4_5 : Value) (x2_length : Int32) (x3_rows : Int32) (x3_columns : Int32) (x4_count : Int32) (y5_namesOn : Nat → Int32) (y6_costs : Nat → Int32) (y7_sums : Nat → Int32) (y8_way : Nat → Int32) (y9_land : Nat → Int32) (y10_riverOf : Nat → Int32) (y11_home : Nat → Int32) : va_W := [(a0, .inr (8, [.ref a1, u0_1, .ref a2, u0_3, u0_4, u0_5, u0_6, u0_7, u0_8, u0_9])), (a1, .inr (6, [.ref a3, .ref a4, u1_2, .ref a5, u1_4])), (a2, .inr (7, [.ref a6, .ref a7, .ref a8, .int x2_length])), (a3, .inr (1, [.int x3_rows, .int x3_columns, u3_2, .ref a9, .ref a10, u3_5])), (a4, .inr (2, [.int x4_count, u4_1, .ref a11, u4_3, u4_4, u4_5])), (a5, .inl (g.2.1 0, 144, .inl y5_namesOn)), (a6, .inl (g.2.1 0, 144, .inl y6_costs)), (a7, .inl (g.2.1 0, 144, .inl y7_sums)), (a8, .inl (g.2.1 0, 144, .inl y8_way)), (a9, .inl (g.2.1 1, 144, .inl y9_land)), (a10, .inl (g.2.1 0, 144, .inl y10_riverOf)), (a11, .inl (g.2.1 0, 8, .inl y11_home))]
set_option maxRecDepth 20000 in
theorem c_X8_wayCell (l : Launch) (g : GE) (a0 a1 a2 a3 a4 a5 a6 a7 a8 a9 a10 a11 : Nat) (sz : Nat) (u0_1 u0_3 u0_4 u0_5 u0_6 u0_7 u0_8 u0_9 u1_2 u1_4 u3_2 u3_5 u4_1 u4_3 u4_4 u4_5 : Value) (x2_length : Int32) (x3_rows : Int32) (x3_columns : Int32) (x4_count : Int32) (y5_namesOn : Nat → Int32) (y6_costs : Nat → Int32) (y7_sums : Nat → Int32) (y8_way : Nat → Int32) (y9_land : Nat → Int32) (y10_riverOf : Nat → Int32) (y11_home : Nat → Int32) (p1 : Int32) (p2 : Int32)  (r : Int32) (o_x2_length : Int32) (o_y6_costs : Nat → Int32) (o_y7_sums : Nat → Int32) (o_y8_way : Nat → Int32) (hf : f_X8_wayCell x2_length x3_rows x3_columns x4_count y5_namesOn y6_costs y7_sums y8_way y9_land y10_riverOf y11_home p1 p2 = some (r, o_x2_length, o_y6_costs, o_y7_sums, o_y8_way)) : MI l g yX8_wayCell wsX8_wayCell 5 121 [.ref a0, .int p1, .int p2] (w_X8_wayCell g a0 a1 a2 a3 a4 a5 a6 a7 a8 a9 a10 a11 u0_1 u0_3 u0_4 u0_5 u0_6 u0_7 u0_8 u0_9 u1_2 u1_4 u3_2 u3_5 u4_1 u4_3 u4_4 u4_5 x2_length x3_rows x3_columns x4_count y5_namesOn y6_costs y7_sums y8_way y9_land y10_riverOf y11_home) sz (some (.int r)) (w_X8_wayCell g a0 a1 a2 a3 a4 a5 a6 a7 a8 a9 a10 a11 u0_1 u0_3 u0_4 u0_5 u0_6 u0_7 u0_8 u0_9 u1_2 u1_4 u3_2 u3_5 u4_1 u4_3 u4_4 u4_5 o_x2_length x3_rows x3_columns x4_count y5_namesOn o_y6_costs o_y7_sums o_y8_way y9_land y10_riverOf y11_home) := by
  refine MI.start (cc := cX8_wayCell) (maxL := 3) (ret := (some .int)) rfl rfl (nle rfl) ?_
  intro p e s m args below meth c A ls Q hQ hexec hb hr hts hown hlocks hml hA hP hD hG hS hl
  unfold f_X8_wayCell at hf
  have hWX1 : ∀ w ∈ wsX10, w.before args s = true := fun w h => hts w (List.mem_cons_of_mem _ (List.mem_append_left _ (List.mem_append_left _ (List.mem_append_left _ (List.mem_append_right _ h)))))
  have hWX2 : ∀ w ∈ wsX20, w.before args s = true := fun w h => hts w (List.mem_cons_of_mem _ (List.mem_append_left _ (List.mem_append_right _ h)))
  have hWX6 : ∀ w ∈ wsX60, w.before args s = true := fun w h => hts w (List.mem_cons_of_mem _ (List.mem_append_left _ (List.mem_append_left _ (List.mem_append_left _ (List.mem_append_left _ (List.mem_append_right _ h))))))
  have hWX7 : ∀ w ∈ wsX70, w.before args s = true := fun w h => hts w (List.mem_cons_of_mem _ (List.mem_append_left _ (List.mem_append_left _ (List.mem_append_right _ h))))
  have hWX8 : ∀ w ∈ wsX80, w.before args s = true := fun w h => hts w (List.mem_cons_of_mem _ (List.mem_append_left _ (List.mem_append_left _ (List.mem_append_left _ (List.mem_append_left _ (List.mem_append_left _ (List.mem_append_right _ h)))))))
  have hS : va_S A s.heap s.heap [] := hS
  refine lv_aload_n (pc := 0) hexec hb dX8_wayCell_0 rfl (lv_at hl 0 rfl) ?_
  refine lv_iload_n (pc := 1) hexec hb dX8_wayCell_1 rfl (lv_at hl 1 rfl) ?_
  obtain ⟨_, hc, hf⟩ := bd1_e hf
  refine kVp (pc := 2) (S := ⟨hexec, hb, hml, hown, hts⟩) hP hD hG hA hS [0, 1, 3] [2, 4, 5, 6, 7, 8, 9, 10, 11] [9, 10, 0, 11, 1, 2, 3, 4, 5, 6, 7, 8] (w2 := (w_X8_wayCell g a0 a1 a2 a3 a4 a5 a6 a7 a8 a9 a10 a11 u0_1 u0_3 u0_4 u0_5 u0_6 u0_7 u0_8 u0_9 u1_2 u1_4 u3_2 u3_5 u4_1 u4_3 u4_4 u4_5 x2_length x3_rows x3_columns x4_count y5_namesOn y6_costs y7_sums y8_way y9_land y10_riverOf y11_home)) rfl rfl rfl rfl rfl rfl (by decide) (c_X8_needCell l g a0 a1 a3 _ u0_1 (.ref a2) u0_3 u0_4 u0_5 u0_6 u0_7 u0_8 u0_9 (.ref a4) u1_2 (.ref a5) u1_4 u3_2 (.ref a9) (.ref a10) u3_5 x3_rows x3_columns p1 hc) gX8_wayCell_X8_needCell rfl hv_X8_needCell ⟨nle rfl, nle rfl⟩ 8 0 rfl rfl rfl (rest := []) rfl rfl hl.1 (nle rfl) dX8_wayCell_2 (fun H locs hP hD hS => ?_)
  refine lv_aload_n (pc := 5) hexec hb dX8_wayCell_5 rfl (lv_at hl 0 rfl) ?_
  refine lv_iload_n (pc := 6) hexec hb dX8_wayCell_6 rfl (lv_at hl 1 rfl) ?_
  obtain ⟨r7, x2_length_1, y6_costs_1, y7_sums_1, y8_way_1, hc, hf⟩ := bd5_e hf
  refine kVp (pc := 7) (S := ⟨hexec, hb, hml, hown, hts⟩) hP hD hG hA hS [0, 1, 2, 3, 4, 5, 6, 7, 8, 9, 10, 11] [] [0, 1, 2, 3, 4, 5, 6, 7, 8, 9, 10, 11] (w2 := (w_X8_wayCell g a0 a1 a2 a3 a4 a5 a6 a7 a8 a9 a10 a11 u0_1 u0_3 u0_4 u0_5 u0_6 u0_7 u0_8 u0_9 u1_2 u1_4 u3_2 u3_5 u4_1 u4_3 u4_4 u4_5 x2_length_1 x3_rows x3_columns x4_count y5_namesOn y6_costs_1 y7_sums_1 y8_way_1 y9_land y10_riverOf y11_home)) rfl rfl rfl rfl rfl rfl (by decide) (c_X8_wayFrom l g a0 a1 a2 a3 a4 a5 a6 a7 a8 a9 a10 a11 _ u0_1 u0_3 u0_4 u0_5 u0_6 u0_7 u0_8 u0_9 u1_2 u1_4 u3_2 u3_5 u4_1 u4_3 u4_4 u4_5 x2_length x3_rows x3_columns x4_count y5_namesOn y6_costs y7_sums y8_way y9_land y10_riverOf y11_home p1 r7 x2_length_1 y6_costs_1 y7_sums_1 y8_way_1 hc) gX8_wayCell_X8_wayFrom rfl hv_X8_wayFrom ⟨nle rfl, nle rfl⟩ 8 0 rfl rfl rfl (rest := []) rfl rfl hl.1 (nle rfl) dX8_wayCell_7 (fun H locs hP hD hS => ?_)
  refine lv_pop (pc := 10) hexec hb dX8_wayCell_10 rfl ?_
  refine lv_aload_n (pc := 11) hexec hb dX8_wayCell_11 rfl (lv_at hl 0 rfl) ?_
  refine kg_get (pc := 12) hexec hb (own := RX8) hWX8 hown hG hP 0 rfl rfl 2 (nle rfl) (hts _ (List.mem_cons_of_mem _ (List.mem_append_left _ (List.mem_append_left _ (List.mem_append_left _ (List.mem_append_left _ (List.mem_append_left _ (List.mem_append_left _ (List.mem_append_left _ (List.mem_of_getElem? (i := 0) rfl)))))))))) rfl rfl dX8_wayCell_12 ?_
  refine lv_iload_n (pc := 15) hexec hb dX8_wayCell_15 rfl (lv_at hl 2 rfl) ?_
  obtain ⟨r16, hc, hf⟩ := bd1_e hf
  refine kVp (pc := 16) (S := ⟨hexec, hb, hml, hown, hts⟩) hP hD hG hA hS [2, 8] [0, 1, 3, 4, 5, 6, 7, 9, 10, 11] [0, 1, 10, 2, 3, 4, 5, 6, 11, 7, 8, 9] (w2 := (w_X8_wayCell g a0 a1 a2 a3 a4 a5 a6 a7 a8 a9 a10 a11 u0_1 u0_3 u0_4 u0_5 u0_6 u0_7 u0_8 u0_9 u1_2 u1_4 u3_2 u3_5 u4_1 u4_3 u4_4 u4_5 x2_length_1 x3_rows x3_columns x4_count y5_namesOn y6_costs_1 y7_sums_1 y8_way_1 y9_land y10_riverOf y11_home)) rfl rfl rfl rfl rfl rfl (by decide) (c_X7_wayAt l g a2 a8 _ (.ref a6) (.ref a7) x2_length_1 y8_way_1 p2 r16 hc) gX8_wayCell_X7_wayAt rfl hv_X7_wayAt ⟨nle rfl, nle rfl⟩ 7 0 rfl rfl rfl (rest := []) rfl rfl hl.1 (nle rfl) dX8_wayCell_16 (fun H locs hP hD hS => ?_)
  cases hf
  exact ke_i hQ hexec hb hr hP hD hS dX8_wayCell_19 hlocks
abbrev w_X8_washes (g : GE) (a0 a1 a2 a3 a4 a5 a6 a7 a8 a9 a10 a11 : Nat) (u0_1 u0_3 u0_4 u0_5 u0_6 u0_7 u0_8 u0_9 u1_2 u1_4 u3_2 u3_5 u4_1 u4_3 u4_4 u4_5 : Value) (x2_length : Int32) (x3_rows : Int32) (x3_columns : Int32) (x4_count : Int32) (y5_namesOn : Nat → Int32) (y6_costs : Nat → Int32) (y7_sums : Nat → Int32) (y8_way : Nat → Int32) (y9_land : Nat → Int32) (y10_riverOf : Nat → Int32) (y11_home : Nat → Int32) : va_W := [(a0, .inr (8, [.ref a1, u0_1, .ref a2, u0_3, u0_4, u0_5, u0_6, u0_7, u0_8, u0_9])), (a1, .inr (6, [.ref a3, .ref a4, u1_2, .ref a5, u1_4])), (a2, .inr (7, [.ref a6, .ref a7, .ref a8, .int x2_length])), (a3, .inr (1, [.int x3_rows, .int x3_columns, u3_2, .ref a9, .ref a10, u3_5])), (a4, .inr (2, [.int x4_count, u4_1, .ref a11, u4_3, u4_4, u4_5])), (a5, .inl (g.2.1 0, 144, .inl y5_namesOn)), (a6, .inl (g.2.1 0, 144, .inl y6_costs)), (a7, .inl (g.2.1 0, 144, .inl y7_sums)), (a8, .inl (g.2.1 0, 144, .inl y8_way)), (a9, .inl (g.2.1 1, 144, .inl y9_land)), (a10, .inl (g.2.1 0, 144, .inl y10_riverOf)), (a11, .inl (g.2.1 0, 8, .inl y11_home))]
set_option maxRecDepth 20000 in
theorem c_X8_washes (l : Launch) (g : GE) (a0 a1 a2 a3 a4 a5 a6 a7 a8 a9 a10 a11 : Nat) (sz : Nat) (u0_1 u0_3 u0_4 u0_5 u0_6 u0_7 u0_8 u0_9 u1_2 u1_4 u3_2 u3_5 u4_1 u4_3 u4_4 u4_5 : Value) (x2_length : Int32) (x3_rows : Int32) (x3_columns : Int32) (x4_count : Int32) (y5_namesOn : Nat → Int32) (y6_costs : Nat → Int32) (y7_sums : Nat → Int32) (y8_way : Nat → Int32) (y9_land : Nat → Int32) (y10_riverOf : Nat → Int32) (y11_home : Nat → Int32) (p1 : Int32)  (r : Int32) (o_x2_length : Int32) (o_y6_costs : Nat → Int32) (o_y7_sums : Nat → Int32) (o_y8_way : Nat → Int32) (hf : f_X8_washes x2_length x3_rows x3_columns x4_count y5_namesOn y6_costs y7_sums y8_way y9_land y10_riverOf y11_home p1 = some (r, o_x2_length, o_y6_costs, o_y7_sums, o_y8_way)) : MI l g yX8_washes wsX8_washes 5 121 [.ref a0, .int p1] (w_X8_washes g a0 a1 a2 a3 a4 a5 a6 a7 a8 a9 a10 a11 u0_1 u0_3 u0_4 u0_5 u0_6 u0_7 u0_8 u0_9 u1_2 u1_4 u3_2 u3_5 u4_1 u4_3 u4_4 u4_5 x2_length x3_rows x3_columns x4_count y5_namesOn y6_costs y7_sums y8_way y9_land y10_riverOf y11_home) sz (some (.int r)) (w_X8_washes g a0 a1 a2 a3 a4 a5 a6 a7 a8 a9 a10 a11 u0_1 u0_3 u0_4 u0_5 u0_6 u0_7 u0_8 u0_9 u1_2 u1_4 u3_2 u3_5 u4_1 u4_3 u4_4 u4_5 o_x2_length x3_rows x3_columns x4_count y5_namesOn o_y6_costs o_y7_sums o_y8_way y9_land y10_riverOf y11_home) := by
  refine MI.start (cc := cX8_washes) (maxL := 2) (ret := (some .int)) rfl rfl (nle rfl) ?_
  intro p e s m args below meth c A ls Q hQ hexec hb hr hts hown hlocks hml hA hP hD hG hS hl
  unfold f_X8_washes at hf
  have hWX1 : ∀ w ∈ wsX10, w.before args s = true := fun w h => hts w (List.mem_cons_of_mem _ (List.mem_append_left _ (List.mem_append_left _ (List.mem_append_left _ (List.mem_append_right _ h)))))
  have hWX2 : ∀ w ∈ wsX20, w.before args s = true := fun w h => hts w (List.mem_cons_of_mem _ (List.mem_append_left _ (List.mem_append_right _ h)))
  have hWX6 : ∀ w ∈ wsX60, w.before args s = true := fun w h => hts w (List.mem_cons_of_mem _ (List.mem_append_left _ (List.mem_append_left _ (List.mem_append_left _ (List.mem_append_left _ (List.mem_append_right _ h))))))
  have hWX7 : ∀ w ∈ wsX70, w.before args s = true := fun w h => hts w (List.mem_cons_of_mem _ (List.mem_append_left _ (List.mem_append_left _ (List.mem_append_right _ h))))
  have hWX8 : ∀ w ∈ wsX80, w.before args s = true := fun w h => hts w (List.mem_cons_of_mem _ (List.mem_append_left _ (List.mem_append_left _ (List.mem_append_left _ (List.mem_append_left _ (List.mem_append_left _ (List.mem_append_right _ h)))))))
  have hS : va_S A s.heap s.heap [] := hS
  refine lv_aload_n (pc := 0) hexec hb dX8_washes_0 rfl (lv_at hl 0 rfl) ?_
  refine lv_iload_n (pc := 1) hexec hb dX8_washes_1 rfl (lv_at hl 1 rfl) ?_
  obtain ⟨_, hc, hf⟩ := bd1_e hf
  refine kVp (pc := 2) (S := ⟨hexec, hb, hml, hown, hts⟩) hP hD hG hA hS [0, 1, 3] [2, 4, 5, 6, 7, 8, 9, 10, 11] [9, 10, 0, 11, 1, 2, 3, 4, 5, 6, 7, 8] (w2 := (w_X8_washes g a0 a1 a2 a3 a4 a5 a6 a7 a8 a9 a10 a11 u0_1 u0_3 u0_4 u0_5 u0_6 u0_7 u0_8 u0_9 u1_2 u1_4 u3_2 u3_5 u4_1 u4_3 u4_4 u4_5 x2_length x3_rows x3_columns x4_count y5_namesOn y6_costs y7_sums y8_way y9_land y10_riverOf y11_home)) rfl rfl rfl rfl rfl rfl (by decide) (c_X8_needCell l g a0 a1 a3 _ u0_1 (.ref a2) u0_3 u0_4 u0_5 u0_6 u0_7 u0_8 u0_9 (.ref a4) u1_2 (.ref a5) u1_4 u3_2 (.ref a9) (.ref a10) u3_5 x3_rows x3_columns p1 hc) gX8_washes_X8_needCell rfl hv_X8_needCell ⟨nle rfl, nle rfl⟩ 8 0 rfl rfl rfl (rest := []) rfl rfl hl.1 (nle rfl) dX8_washes_2 (fun H locs hP hD hS => ?_)
  refine lv_aload_n (pc := 5) hexec hb dX8_washes_5 rfl (lv_at hl 0 rfl) ?_
  refine lv_iload_n (pc := 6) hexec hb dX8_washes_6 rfl (lv_at hl 1 rfl) ?_
  obtain ⟨r7, x2_length_1, y6_costs_1, y7_sums_1, y8_way_1, hc, hf⟩ := bd5_e hf
  refine kVp (pc := 7) (S := ⟨hexec, hb, hml, hown, hts⟩) hP hD hG hA hS [0, 1, 2, 3, 4, 5, 6, 7, 8, 9, 10, 11] [] [0, 1, 2, 3, 4, 5, 6, 7, 8, 9, 10, 11] (w2 := (w_X8_washes g a0 a1 a2 a3 a4 a5 a6 a7 a8 a9 a10 a11 u0_1 u0_3 u0_4 u0_5 u0_6 u0_7 u0_8 u0_9 u1_2 u1_4 u3_2 u3_5 u4_1 u4_3 u4_4 u4_5 x2_length_1 x3_rows x3_columns x4_count y5_namesOn y6_costs_1 y7_sums_1 y8_way_1 y9_land y10_riverOf y11_home)) rfl rfl rfl rfl rfl rfl (by decide) (c_X8_wayFrom l g a0 a1 a2 a3 a4 a5 a6 a7 a8 a9 a10 a11 _ u0_1 u0_3 u0_4 u0_5 u0_6 u0_7 u0_8 u0_9 u1_2 u1_4 u3_2 u3_5 u4_1 u4_3 u4_4 u4_5 x2_length x3_rows x3_columns x4_count y5_namesOn y6_costs y7_sums y8_way y9_land y10_riverOf y11_home p1 r7 x2_length_1 y6_costs_1 y7_sums_1 y8_way_1 hc) gX8_washes_X8_wayFrom rfl hv_X8_wayFrom ⟨nle rfl, nle rfl⟩ 8 0 rfl rfl rfl (rest := []) rfl rfl hl.1 (nle rfl) dX8_washes_7 (fun H locs hP hD hS => ?_)
  refine lv_pop (pc := 10) hexec hb dX8_washes_10 rfl ?_
  refine lv_aload_n (pc := 11) hexec hb dX8_washes_11 rfl (lv_at hl 0 rfl) ?_
  refine kg_get (pc := 12) hexec hb (own := RX8) hWX8 hown hG hP 0 rfl rfl 2 (nle rfl) (hts _ (List.mem_cons_of_mem _ (List.mem_append_left _ (List.mem_append_left _ (List.mem_append_left _ (List.mem_append_left _ (List.mem_append_left _ (List.mem_append_left _ (List.mem_append_left _ (List.mem_of_getElem? (i := 0) rfl)))))))))) rfl rfl dX8_washes_12 ?_
  refine lv_aload_n (pc := 15) hexec hb dX8_washes_15 rfl (lv_at hl 0 rfl) ?_
  refine kg_get (pc := 16) hexec hb (own := RX8) hWX8 hown hG hP 0 rfl rfl 0 (nle rfl) (hts _ (List.mem_cons_of_mem _ (List.mem_append_left _ (List.mem_append_left _ (List.mem_append_left _ (List.mem_append_left _ (List.mem_append_left _ (List.mem_append_left _ (List.mem_append_left _ (List.mem_of_getElem? (i := 1) rfl)))))))))) rfl rfl dX8_washes_16 ?_
  obtain ⟨r19, hc, hf⟩ := bd1_e hf
  refine kVp (pc := 19) (S := ⟨hexec, hb, hml, hown, hts⟩) hP hD hG hA hS [2, 8, 1, 5] [0, 3, 4, 6, 7, 9, 10, 11] [0, 10, 8, 1, 2, 11, 3, 4, 9, 5, 6, 7] (w2 := (w_X8_washes g a0 a1 a2 a3 a4 a5 a6 a7 a8 a9 a10 a11 u0_1 u0_3 u0_4 u0_5 u0_6 u0_7 u0_8 u0_9 u1_2 u1_4 u3_2 u3_5 u4_1 u4_3 u4_4 u4_5 x2_length_1 x3_rows x3_columns x4_count y5_namesOn y6_costs_1 y7_sums_1 y8_way_1 y9_land y10_riverOf y11_home)) rfl rfl rfl rfl rfl rfl (by decide) (c_X7_namesOnWay l g a2 a8 a1 a5 _ (.ref a6) (.ref a7) (.ref a3) (.ref a4) u1_2 u1_4 x2_length_1 y8_way_1 y5_namesOn r19 hc) gX8_washes_X7_namesOnWay rfl hv_X7_namesOnWay ⟨nle rfl, nle rfl⟩ 7 0 rfl rfl rfl (rest := []) rfl rfl hl.1 (nle rfl) dX8_washes_19 (fun H locs hP hD hS => ?_)
  cases hf
  exact ke_i hQ hexec hb hr hP hD hS dX8_washes_22 hlocks
abbrev w_X8_mildest (g : GE) (a0 a1 a2 a3 a4 a5 a6 a7 a8 a9 a10 a11 : Nat) (u0_1 u0_3 u0_4 u0_5 u0_6 u0_7 u0_8 u0_9 u1_2 u1_4 u3_2 u3_5 u4_1 u4_3 u4_4 u4_5 : Value) (x2_length : Int32) (x3_rows : Int32) (x3_columns : Int32) (x4_count : Int32) (y5_namesOn : Nat → Int32) (y6_costs : Nat → Int32) (y7_sums : Nat → Int32) (y8_way : Nat → Int32) (y9_land : Nat → Int32) (y10_riverOf : Nat → Int32) (y11_home : Nat → Int32) : va_W := [(a0, .inr (8, [.ref a1, u0_1, .ref a2, u0_3, u0_4, u0_5, u0_6, u0_7, u0_8, u0_9])), (a1, .inr (6, [.ref a3, .ref a4, u1_2, .ref a5, u1_4])), (a2, .inr (7, [.ref a6, .ref a7, .ref a8, .int x2_length])), (a3, .inr (1, [.int x3_rows, .int x3_columns, u3_2, .ref a9, .ref a10, u3_5])), (a4, .inr (2, [.int x4_count, u4_1, .ref a11, u4_3, u4_4, u4_5])), (a5, .inl (g.2.1 0, 144, .inl y5_namesOn)), (a6, .inl (g.2.1 0, 144, .inl y6_costs)), (a7, .inl (g.2.1 0, 144, .inl y7_sums)), (a8, .inl (g.2.1 0, 144, .inl y8_way)), (a9, .inl (g.2.1 1, 144, .inl y9_land)), (a10, .inl (g.2.1 0, 144, .inl y10_riverOf)), (a11, .inl (g.2.1 0, 8, .inl y11_home))]
set_option maxRecDepth 20000 in
theorem c_X8_mildest (l : Launch) (g : GE) (a0 a1 a2 a3 a4 a5 a6 a7 a8 a9 a10 a11 : Nat) (sz : Nat) (u0_1 u0_3 u0_4 u0_5 u0_6 u0_7 u0_8 u0_9 u1_2 u1_4 u3_2 u3_5 u4_1 u4_3 u4_4 u4_5 : Value) (x2_length : Int32) (x3_rows : Int32) (x3_columns : Int32) (x4_count : Int32) (y5_namesOn : Nat → Int32) (y6_costs : Nat → Int32) (y7_sums : Nat → Int32) (y8_way : Nat → Int32) (y9_land : Nat → Int32) (y10_riverOf : Nat → Int32) (y11_home : Nat → Int32)   (r : Int32) (o_x2_length : Int32) (o_y6_costs : Nat → Int32) (o_y7_sums : Nat → Int32) (o_y8_way : Nat → Int32) (hf : f_X8_mildest x2_length x3_rows x3_columns x4_count y5_namesOn y6_costs y7_sums y8_way y9_land y10_riverOf y11_home = some (r, o_x2_length, o_y6_costs, o_y7_sums, o_y8_way)) : MI l g yX8_mildest wsX8_mildest 4 100 [.ref a0] (w_X8_mildest g a0 a1 a2 a3 a4 a5 a6 a7 a8 a9 a10 a11 u0_1 u0_3 u0_4 u0_5 u0_6 u0_7 u0_8 u0_9 u1_2 u1_4 u3_2 u3_5 u4_1 u4_3 u4_4 u4_5 x2_length x3_rows x3_columns x4_count y5_namesOn y6_costs y7_sums y8_way y9_land y10_riverOf y11_home) sz (some (.int r)) (w_X8_mildest g a0 a1 a2 a3 a4 a5 a6 a7 a8 a9 a10 a11 u0_1 u0_3 u0_4 u0_5 u0_6 u0_7 u0_8 u0_9 u1_2 u1_4 u3_2 u3_5 u4_1 u4_3 u4_4 u4_5 o_x2_length x3_rows x3_columns x4_count y5_namesOn o_y6_costs o_y7_sums o_y8_way y9_land y10_riverOf y11_home) := by
  refine MI.start (cc := cX8_mildest) (maxL := 8) (ret := (some .int)) rfl rfl (nle rfl) ?_
  intro p e s m args below meth c A ls Q hQ hexec hb hr hts hown hlocks hml hA hP hD hG hS hl
  unfold f_X8_mildest at hf
  have hWX1 : ∀ w ∈ wsX10, w.before args s = true := fun w h => hts w (List.mem_cons_of_mem _ (List.mem_append_left _ (List.mem_append_right _ h)))
  have hWX2 : ∀ w ∈ wsX20, w.before args s = true := fun w h => hts w (List.mem_cons_of_mem _ (List.mem_append_right _ h))
  have hWX6 : ∀ w ∈ wsX60, w.before args s = true := fun w h => hts w (List.mem_cons_of_mem _ (List.mem_append_left _ (List.mem_append_left _ (List.mem_append_left _ (List.mem_append_right _ h)))))
  have hWX7 : ∀ w ∈ wsX70, w.before args s = true := fun w h => hts w (List.mem_cons_of_mem _ (List.mem_append_left _ (List.mem_append_left _ (List.mem_append_right _ h))))
  have hWX8 : ∀ w ∈ wsX80, w.before args s = true := fun w h => hts w (List.mem_cons_of_mem _ (List.mem_append_left _ (List.mem_append_left _ (List.mem_append_left _ (List.mem_append_left _ (List.mem_append_right _ h))))))
  have hS : va_S A s.heap s.heap [] := hS
  refine lv_aload_n (pc := 0) hexec hb dX8_mildest_0 rfl (lv_at hl 0 rfl) ?_
  refine kg_get (pc := 1) hexec hb (own := RX8) hWX8 hown hG hP 0 rfl rfl 2 (nle rfl) (hts _ (List.mem_cons_of_mem _ (List.mem_append_left _ (List.mem_append_left _ (List.mem_append_left _ (List.mem_append_left _ (List.mem_append_left _ (List.mem_append_left _ (List.mem_of_getElem? (i := 0) rfl))))))))) rfl rfl dX8_mildest_1 ?_
  refine lv_aload_n (pc := 4) hexec hb dX8_mildest_4 rfl (lv_at hl 0 rfl) ?_
  refine kg_get (pc := 5) hexec hb (own := RX8) hWX8 hown hG hP 0 rfl rfl 0 (nle rfl) (hts _ (List.mem_cons_of_mem _ (List.mem_append_left _ (List.mem_append_left _ (List.mem_append_left _ (List.mem_append_left _ (List.mem_append_left _ (List.mem_append_left _ (List.mem_of_getElem? (i := 1) rfl))))))))) rfl rfl dX8_mildest_5 ?_
  obtain ⟨y6_costs_1, y7_sums_1, hc, hf⟩ := bd2_e hf
  refine kVp (pc := 8) (S := ⟨hexec, hb, hml, hown, hts⟩) hP hD hG hA hS [2, 6, 7, 1, 3, 4, 5, 9, 10, 11] [0, 8] [0, 5, 2, 6, 7, 8, 3, 4, 1, 9, 10, 11] (w2 := (w_X8_mildest g a0 a1 a2 a3 a4 a5 a6 a7 a8 a9 a10 a11 u0_1 u0_3 u0_4 u0_5 u0_6 u0_7 u0_8 u0_9 u1_2 u1_4 u3_2 u3_5 u4_1 u4_3 u4_4 u4_5 x2_length x3_rows x3_columns x4_count y5_namesOn y6_costs_1 y7_sums_1 y8_way y9_land y10_riverOf y11_home)) rfl rfl rfl rfl rfl rfl (by decide) (c_X7_survey l g a2 a6 a7 a1 a3 a4 a5 a9 a10 a11 _ (.ref a8) (.int x2_length) u1_2 u1_4 u3_2 u3_5 u4_1 u4_3 u4_4 u4_5 y6_costs y7_sums x3_rows x3_columns x4_count y5_namesOn y9_land y10_riverOf y11_home y6_costs_1 y7_sums_1 hc) gX8_mildest_X7_survey rfl hv_X7_survey ⟨nle rfl, nle rfl⟩ 7 0 rfl rfl rfl (rest := []) rfl rfl hl.1 (nle rfl) dX8_mildest_8 (fun H locs hP hD hS => ?_)
  refine lv_aload_n (pc := 11) hexec hb dX8_mildest_11 rfl (lv_at hl 0 rfl) ?_
  refine kg_get (pc := 12) hexec hb (own := RX8) hWX8 hown hG hP 0 rfl rfl 0 (nle rfl) (hts _ (List.mem_cons_of_mem _ (List.mem_append_left _ (List.mem_append_left _ (List.mem_append_left _ (List.mem_append_left _ (List.mem_append_left _ (List.mem_append_left _ (List.mem_of_getElem? (i := 1) rfl))))))))) rfl rfl dX8_mildest_12 ?_
  refine kg_getN (pc := 15) hexec hb (own := RX8) hWX6 hown hG hP 1 rfl rfl 0 (nle rfl) 21 rfl rfl rfl dX8_mildest_15 ?_
  obtain ⟨r18, hc, hf⟩ := bd1_e hf
  refine kVp (pc := 18) (S := ⟨hexec, hb, hml, hown, hts⟩) hP hD hG hA hS [3] [0, 1, 2, 4, 5, 6, 7, 8, 9, 10, 11] [0, 1, 2, 11, 3, 4, 5, 6, 7, 8, 9, 10] (w2 := (w_X8_mildest g a0 a1 a2 a3 a4 a5 a6 a7 a8 a9 a10 a11 u0_1 u0_3 u0_4 u0_5 u0_6 u0_7 u0_8 u0_9 u1_2 u1_4 u3_2 u3_5 u4_1 u4_3 u4_4 u4_5 x2_length x3_rows x3_columns x4_count y5_namesOn y6_costs_1 y7_sums_1 y8_way y9_land y10_riverOf y11_home)) rfl rfl rfl rfl rfl rfl (by decide) (c_X1_cells l g a3 _ u3_2 (.ref a9) (.ref a10) u3_5 x3_rows x3_columns r18 hc) gX8_mildest_X1_cells rfl hv_X1_cells ⟨nle rfl, nle rfl⟩ 1 0 rfl rfl rfl (rest := []) rfl rfl hl.1 (nle rfl) dX8_mildest_18 (fun H locs hP hD hS => ?_)
  refine lv_istore_n (pc := 21) hexec hb dX8_mildest_21 rfl hl (nle rfl) rfl (fun ls (hl : lv_has ls 8 [(1, .int r18), (0, .ref a0)]) => ?_)
  refine lv_iconst (pc := 22) hexec hb dX8_mildest_22 ki_m1 ?_
  refine lv_istore_n (pc := 23) hexec hb dX8_mildest_23 rfl hl (nle rfl) rfl (fun ls (hl : lv_has ls 8 [(2, .int (-1)), (1, .int r18), (0, .ref a0)]) => ?_)
  refine lv_iconst (pc := 24) hexec hb dX8_mildest_24 ki_0 ?_
  refine lv_istore_n (pc := 25) hexec hb dX8_mildest_25 rfl hl (nle rfl) rfl (fun ls (hl : lv_has ls 8 [(3, .int 0), (2, .int (-1)), (1, .int r18), (0, .ref a0)]) => ?_)
  refine lv_iconst (pc := 26) hexec hb dX8_mildest_26 ki_0 ?_
  refine lv_istore (pc := 27) hexec hb dX8_mildest_27 hl (nle rfl) rfl (fun ls (hl : lv_has ls 8 [(4, .int 0), (3, .int 0), (2, .int (-1)), (1, .int r18), (0, .ref a0)]) => ?_)
  refine lv_iconst (pc := 29) hexec hb dX8_mildest_29 ki_0 ?_
  refine lv_istore (pc := 30) hexec hb dX8_mildest_30 hl (nle rfl) rfl (fun ls (hl : lv_has ls 8 [(5, .int 0), (4, .int 0), (3, .int 0), (2, .int (-1)), (1, .int r18), (0, .ref a0)]) => ?_)
  obtain ⟨l32, el32, hf⟩ := bvf6 hf
  obtain ⟨v2_1, x2_length_2, y8_way_2, hz, hf⟩ := bd3_e hf
  have hE32 : ∀ (H : Heap) (locs : List Loc) (ls : Array Slot), va_P g.1 vwCl (w_X8_mildest g a0 a1 a2 a3 a4 a5 a6 a7 a8 a9 a10 a11 u0_1 u0_3 u0_4 u0_5 u0_6 u0_7 u0_8 u0_9 u1_2 u1_4 u3_2 u3_5 u4_1 u4_3 u4_4 u4_5 x2_length_2 x3_rows x3_columns x4_count y5_namesOn y6_costs_1 y7_sums_1 y8_way_2 y9_land y10_riverOf y11_home) H → va_D A (w_X8_mildest g a0 a1 a2 a3 a4 a5 a6 a7 a8 a9 a10 a11 u0_1 u0_3 u0_4 u0_5 u0_6 u0_7 u0_8 u0_9 u1_2 u1_4 u3_2 u3_5 u4_1 u4_3 u4_4 u4_5 x2_length_2 x3_rows x3_columns x4_count y5_namesOn y6_costs_1 y7_sums_1 y8_way_2 y9_land y10_riverOf y11_home) → va_S A s.heap H locs → lv_has ls 8 [(2, .int v2_1)] → W p l e (RM 4 100) s m args below meth c H locs 0 0 Q (F0 m 120 ls []) := by
    intro H locs ls hP hD hS hl
    refine lv_iload_n (pc := 120) hexec hb dX8_mildest_120 rfl (lv_at hl 0 rfl) ?_
    cases hf
    exact ke_i hQ hexec hb hr hP hD hS dX8_mildest_121 hlocks
  obtain ⟨n, hz⟩ := lq6_e hz
  have hL32 : ∀ (n : Nat) (v2 : Int32) (v3 : Int32) (v4 : Int32) (v5 : Int32) (x2_length_1 : Int32) (y8_way_1 : Nat → Int32) (H : Heap) (locs : List Loc) (ls : Array Slot), it6 l32 n v2 v3 v4 v5 x2_length_1 y8_way_1 = some (v2_1, x2_length_2, y8_way_2) → va_P g.1 vwCl (w_X8_mildest g a0 a1 a2 a3 a4 a5 a6 a7 a8 a9 a10 a11 u0_1 u0_3 u0_4 u0_5 u0_6 u0_7 u0_8 u0_9 u1_2 u1_4 u3_2 u3_5 u4_1 u4_3 u4_4 u4_5 x2_length_1 x3_rows x3_columns x4_count y5_namesOn y6_costs_1 y7_sums_1 y8_way_1 y9_land y10_riverOf y11_home) H → va_D A (w_X8_mildest g a0 a1 a2 a3 a4 a5 a6 a7 a8 a9 a10 a11 u0_1 u0_3 u0_4 u0_5 u0_6 u0_7 u0_8 u0_9 u1_2 u1_4 u3_2 u3_5 u4_1 u4_3 u4_4 u4_5 x2_length_1 x3_rows x3_columns x4_count y5_namesOn y6_costs_1 y7_sums_1 y8_way_1 y9_land y10_riverOf y11_home) → va_S A s.heap H locs → lv_has ls 8 [(0, .ref a0), (1, .int r18), (2, .int v2), (3, .int v3), (4, .int v4), (5, .int v5)] → W p l e (RM 4 100) s m args below meth c H locs 0 0 Q (F0 m 32 ls []) := by
    intro n
    induction n with
    | zero =>
      intro v2 v3 v4 v5 x2_length_1 y8_way_1 H locs ls hf hP hD hS hl
      exact it6_0 hf
    | succ n32 ih32 =>
      intro v2 v3 v4 v5 x2_length_1 y8_way_1 H locs ls hf hP hD hS hl
      obtain ⟨q32, hf, hk32⟩ := it6_e hf
      have hf := (el32 v2 v3 v4 v5 x2_length_1 y8_way_1).symm.trans hf
      refine lv_iload (pc := 32) hexec hb dX8_mildest_32 (lv_at hl 5 rfl) ?_
      refine lv_iload_n (pc := 34) hexec hb dX8_mildest_34 rfl (lv_at hl 1 rfl) ?_
      refine ki_ge (pc := 35) hexec hb dX8_mildest_35 (tgt := 120) rfl hf (fun hc hf => ?_) (fun hc hf => ?_)
      · cases sr6 hf hk32
        exact hE32 _ _ _ hP hD hS (lv_sub hl [2] rfl)
      · refine lv_aload_n (pc := 38) hexec hb dX8_mildest_38 rfl (lv_at hl 0 rfl) ?_
        refine kg_get (pc := 39) hexec hb (own := RX8) hWX8 hown hG hP 0 rfl rfl 2 (nle rfl) (hts _ (List.mem_cons_of_mem _ (List.mem_append_left _ (List.mem_append_left _ (List.mem_append_left _ (List.mem_append_left _ (List.mem_append_left _ (List.mem_append_left _ (List.mem_of_getElem? (i := 0) rfl))))))))) rfl rfl dX8_mildest_39 ?_
        refine lv_aload_n (pc := 42) hexec hb dX8_mildest_42 rfl (lv_at hl 0 rfl) ?_
        refine kg_get (pc := 43) hexec hb (own := RX8) hWX8 hown hG hP 0 rfl rfl 0 (nle rfl) (hts _ (List.mem_cons_of_mem _ (List.mem_append_left _ (List.mem_append_left _ (List.mem_append_left _ (List.mem_append_left _ (List.mem_append_left _ (List.mem_append_left _ (List.mem_of_getElem? (i := 1) rfl))))))))) rfl rfl dX8_mildest_43 ?_
        refine kg_getN (pc := 46) hexec hb (own := RX8) hWX6 hown hG hP 1 rfl rfl 0 (nle rfl) 21 rfl rfl rfl dX8_mildest_46 ?_
        refine lv_iload (pc := 49) hexec hb dX8_mildest_49 (lv_at hl 5 rfl) ?_
        obtain ⟨r51, x2_length_3, y8_way_3, hc, hf⟩ := bd3_e hf
        refine kVp (pc := 51) (S := ⟨hexec, hb, hml, hown, hts⟩) hP hD hG hA hS [2, 6, 7, 8, 3] [0, 1, 4, 5, 9, 10, 11] [0, 1, 7, 11, 2, 3, 8, 9, 10, 4, 5, 6] (w2 := (w_X8_mildest g a0 a1 a2 a3 a4 a5 a6 a7 a8 a9 a10 a11 u0_1 u0_3 u0_4 u0_5 u0_6 u0_7 u0_8 u0_9 u1_2 u1_4 u3_2 u3_5 u4_1 u4_3 u4_4 u4_5 x2_length_3 x3_rows x3_columns x4_count y5_namesOn y6_costs_1 y7_sums_1 y8_way_3 y9_land y10_riverOf y11_home)) rfl rfl rfl rfl rfl rfl (by decide) (c_X7_trace l g a2 a6 a7 a8 a3 _ u3_2 (.ref a9) (.ref a10) u3_5 x2_length_1 y6_costs_1 y7_sums_1 y8_way_1 x3_rows x3_columns v5 r51 x2_length_3 y8_way_3 hc) gX8_mildest_X7_trace rfl hv_X7_trace ⟨nle rfl, nle rfl⟩ 7 0 rfl rfl rfl (rest := []) rfl rfl hl.1 (nle rfl) dX8_mildest_51 (fun H locs hP hD hS => ?_)
        refine lv_istore (pc := 54) hexec hb dX8_mildest_54 hl (nle rfl) rfl (fun ls (hl : lv_has ls 8 [(6, .int r51), (0, .ref a0), (1, .int r18), (2, .int v2), (3, .int v3), (4, .int v4), (5, .int v5)]) => ?_)
        refine lv_iload (pc := 56) hexec hb dX8_mildest_56 (lv_at hl 0 rfl) ?_
        obtain ⟨j114, ej114, hf⟩ := bvf3 hf
        have hj114 : ∀ (v2_2 : Int32) (v3_1 : Int32) (v4_1 : Int32) (H : Heap) (locs : List Loc) (ls : Array Slot), j114 v2_2 v3_1 v4_1 = some q32 → va_P g.1 vwCl (w_X8_mildest g a0 a1 a2 a3 a4 a5 a6 a7 a8 a9 a10 a11 u0_1 u0_3 u0_4 u0_5 u0_6 u0_7 u0_8 u0_9 u1_2 u1_4 u3_2 u3_5 u4_1 u4_3 u4_4 u4_5 x2_length_3 x3_rows x3_columns x4_count y5_namesOn y6_costs_1 y7_sums_1 y8_way_3 y9_land y10_riverOf y11_home) H → va_D A (w_X8_mildest g a0 a1 a2 a3 a4 a5 a6 a7 a8 a9 a10 a11 u0_1 u0_3 u0_4 u0_5 u0_6 u0_7 u0_8 u0_9 u1_2 u1_4 u3_2 u3_5 u4_1 u4_3 u4_4 u4_5 x2_length_3 x3_rows x3_columns x4_count y5_namesOn y6_costs_1 y7_sums_1 y8_way_3 y9_land y10_riverOf y11_home) → va_S A s.heap H locs → lv_has ls 8 [(0, .ref a0), (1, .int r18), (2, .int v2_2), (3, .int v3_1), (4, .int v4_1), (5, .int v5)] → W p l e (RM 4 100) s m args below meth c H locs 0 0 Q (F0 m 114 ls []) := by
          intro v2_2 v3_1 v4_1 H locs ls hf hP hD hS hl
          have hf := (ej114 v2_2 v3_1 v4_1).symm.trans hf
          obtain ⟨v5_1, ev5_1, hf⟩ := bv_e hf
          refine k_iinc (pc := 114) hexec hb dX8_mildest_114 kq_1 hl (k := 5) rfl ev5_1 (nle rfl) rfl (fun ls (hl : lv_has ls 8 [(5, .int v5_1), (0, .ref a0), (1, .int r18), (2, .int v2_2), (3, .int v3_1), (4, .int v4_1)]) => ?_)
          refine lv_goto (pc := 117) hexec hb dX8_mildest_117 (tgt := 32) rfl ?_
          exact ih32 _ _ _ _ _ _ _ _ _ (sl6 hf hk32) hP hD hS (lv_sub hl [1, 2, 3, 4, 5, 0] rfl)
        refine kb_ne (pc := 58) hexec hb dX8_mildest_58 (tgt := 64) rfl hf (fun hc hf => ?_) (fun hc hf => ?_)
        · refine lv_aload_n (pc := 64) hexec hb dX8_mildest_64 rfl (lv_at hl 1 rfl) ?_
          refine kg_get (pc := 65) hexec hb (own := RX8) hWX8 hown hG hP 0 rfl rfl 2 (nle rfl) (hts _ (List.mem_cons_of_mem _ (List.mem_append_left _ (List.mem_append_left _ (List.mem_append_left _ (List.mem_append_left _ (List.mem_append_left _ (List.mem_append_left _ (List.mem_of_getElem? (i := 0) rfl))))))))) rfl rfl dX8_mildest_65 ?_
          refine lv_aload_n (pc := 68) hexec hb dX8_mildest_68 rfl (lv_at hl 1 rfl) ?_
          refine kg_get (pc := 69) hexec hb (own := RX8) hWX8 hown hG hP 0 rfl rfl 0 (nle rfl) (hts _ (List.mem_cons_of_mem _ (List.mem_append_left _ (List.mem_append_left _ (List.mem_append_left _ (List.mem_append_left _ (List.mem_append_left _ (List.mem_append_left _ (List.mem_of_getElem? (i := 1) rfl))))))))) rfl rfl dX8_mildest_69 ?_
          obtain ⟨r72, hc, hf⟩ := bd1_e hf
          refine kVp (pc := 72) (S := ⟨hexec, hb, hml, hown, hts⟩) hP hD hG hA hS [2, 8, 1, 5] [0, 3, 4, 6, 7, 9, 10, 11] [0, 10, 8, 1, 2, 11, 3, 4, 9, 5, 6, 7] (w2 := (w_X8_mildest g a0 a1 a2 a3 a4 a5 a6 a7 a8 a9 a10 a11 u0_1 u0_3 u0_4 u0_5 u0_6 u0_7 u0_8 u0_9 u1_2 u1_4 u3_2 u3_5 u4_1 u4_3 u4_4 u4_5 x2_length_3 x3_rows x3_columns x4_count y5_namesOn y6_costs_1 y7_sums_1 y8_way_3 y9_land y10_riverOf y11_home)) rfl rfl rfl rfl rfl rfl (by decide) (c_X7_namesOnWay l g a2 a8 a1 a5 _ (.ref a6) (.ref a7) (.ref a3) (.ref a4) u1_2 u1_4 x2_length_3 y8_way_3 y5_namesOn r72 hc) gX8_mildest_X7_namesOnWay rfl hv_X7_namesOnWay ⟨nle rfl, nle rfl⟩ 7 0 rfl rfl rfl (rest := []) rfl rfl hl.1 (nle rfl) dX8_mildest_72 (fun H locs hP hD hS => ?_)
          obtain ⟨r75, hc, hf⟩ := bd1_e hf
          refine kSp (pc := 75) (S := ⟨hexec, hb, hml, hown, hts⟩) hP hD hG hA hS [] [0, 1, 2, 3, 4, 5, 6, 7, 8, 9, 10, 11] [0, 1, 2, 3, 4, 5, 6, 7, 8, 9, 10, 11] (w2 := (w_X8_mildest g a0 a1 a2 a3 a4 a5 a6 a7 a8 a9 a10 a11 u0_1 u0_3 u0_4 u0_5 u0_6 u0_7 u0_8 u0_9 u1_2 u1_4 u3_2 u3_5 u4_1 u4_3 u4_4 u4_5 x2_length_3 x3_rows x3_columns x4_count y5_namesOn y6_costs_1 y7_sums_1 y8_way_3 y9_land y10_riverOf y11_home)) rfl rfl rfl rfl rfl rfl (by decide) (c_J6_bitCount_0f7a4 l g _ r72 r75 hc) gX8_mildest_J6_bitCount_0f7a4 rfl hs_J6_bitCount_0f7a4 ⟨nle rfl, nle rfl⟩ (rest := []) rfl rfl hl.1 (nle rfl) dX8_mildest_75 (fun H locs hP hD hS => ?_)
          refine lv_istore (pc := 78) hexec hb dX8_mildest_78 hl (nle rfl) rfl (fun ls (hl : lv_has ls 8 [(7, .int r75), (6, .int r51), (0, .ref a0), (1, .int r18), (2, .int v2), (3, .int v3), (4, .int v4), (5, .int v5)]) => ?_)
          refine lv_iload_n (pc := 80) hexec hb dX8_mildest_80 rfl (lv_at hl 4 rfl) ?_
          refine lv_iconst (pc := 81) hexec hb dX8_mildest_81 ki_m1 ?_
          obtain ⟨j104, ej104, hf⟩ := bvf1 hf
          have hj104 : ∀ (u : Unit) (H : Heap) (locs : List Loc) (ls : Array Slot), j104 u = some q32 → va_P g.1 vwCl (w_X8_mildest g a0 a1 a2 a3 a4 a5 a6 a7 a8 a9 a10 a11 u0_1 u0_3 u0_4 u0_5 u0_6 u0_7 u0_8 u0_9 u1_2 u1_4 u3_2 u3_5 u4_1 u4_3 u4_4 u4_5 x2_length_3 x3_rows x3_columns x4_count y5_namesOn y6_costs_1 y7_sums_1 y8_way_3 y9_land y10_riverOf y11_home) H → va_D A (w_X8_mildest g a0 a1 a2 a3 a4 a5 a6 a7 a8 a9 a10 a11 u0_1 u0_3 u0_4 u0_5 u0_6 u0_7 u0_8 u0_9 u1_2 u1_4 u3_2 u3_5 u4_1 u4_3 u4_4 u4_5 x2_length_3 x3_rows x3_columns x4_count y5_namesOn y6_costs_1 y7_sums_1 y8_way_3 y9_land y10_riverOf y11_home) → va_S A s.heap H locs → lv_has ls 8 [(0, .ref a0), (1, .int r18), (5, .int v5), (6, .int r51), (7, .int r75)] → W p l e (RM 4 100) s m args below meth c H locs 0 0 Q (F0 m 104 ls []) := by
            intro u H locs ls hf hP hD hS hl
            have hf := (ej104 u).symm.trans hf
            refine lv_iload (pc := 104) hexec hb dX8_mildest_104 (lv_at hl 2 rfl) ?_
            refine lv_istore_n (pc := 106) hexec hb dX8_mildest_106 rfl hl (nle rfl) rfl (fun ls (hl : lv_has ls 8 [(2, .int v5), (0, .ref a0), (1, .int r18), (5, .int v5), (6, .int r51), (7, .int r75)]) => ?_)
            refine lv_iload (pc := 107) hexec hb dX8_mildest_107 (lv_at hl 5 rfl) ?_
            refine lv_istore_n (pc := 109) hexec hb dX8_mildest_109 rfl hl (nle rfl) rfl (fun ls (hl : lv_has ls 8 [(3, .int r75), (2, .int v5), (0, .ref a0), (1, .int r18), (5, .int v5), (6, .int r51), (7, .int r75)]) => ?_)
            refine lv_iload (pc := 110) hexec hb dX8_mildest_110 (lv_at hl 5 rfl) ?_
            refine lv_istore (pc := 112) hexec hb dX8_mildest_112 hl (nle rfl) rfl (fun ls (hl : lv_has ls 8 [(4, .int r51), (3, .int r75), (2, .int v5), (0, .ref a0), (1, .int r18), (5, .int v5), (6, .int r51), (7, .int r75)]) => ?_)
            exact hj114 _ _ _ _ _ _ hf hP hD hS (lv_sub hl [3, 4, 2, 1, 0, 5] rfl)
          refine ki_eq (pc := 82) hexec hb dX8_mildest_82 (tgt := 104) rfl hf (fun hc hf => ?_) (fun hc hf => ?_)
          · exact hj104 _ _ _ _ hf hP hD hS (lv_sub hl [2, 3, 7, 1, 0] rfl)
          · refine lv_iload (pc := 85) hexec hb dX8_mildest_85 (lv_at hl 0 rfl) ?_
            refine lv_iload_n (pc := 87) hexec hb dX8_mildest_87 rfl (lv_at hl 5 rfl) ?_
            refine ki_lt (pc := 88) hexec hb dX8_mildest_88 (tgt := 104) rfl hf (fun hc hf => ?_) (fun hc hf => ?_)
            · exact hj104 _ _ _ _ hf hP hD hS (lv_sub hl [2, 3, 7, 1, 0] rfl)
            · refine lv_iload (pc := 91) hexec hb dX8_mildest_91 (lv_at hl 0 rfl) ?_
              refine lv_iload_n (pc := 93) hexec hb dX8_mildest_93 rfl (lv_at hl 5 rfl) ?_
              refine ki_ne (pc := 94) hexec hb dX8_mildest_94 (tgt := 114) rfl hf (fun hc hf => ?_) (fun hc hf => ?_)
              · exact hj114 _ _ _ _ _ _ hf hP hD hS (lv_sub hl [2, 3, 4, 5, 6, 7] rfl)
              · refine lv_iload (pc := 97) hexec hb dX8_mildest_97 (lv_at hl 1 rfl) ?_
                refine lv_iload (pc := 99) hexec hb dX8_mildest_99 (lv_at hl 6 rfl) ?_
                refine ki_le (pc := 101) hexec hb dX8_mildest_101 (tgt := 114) rfl hf (fun hc hf => ?_) (fun hc hf => ?_)
                · exact hj114 _ _ _ _ _ _ hf hP hD hS (lv_sub hl [2, 3, 4, 5, 6, 7] rfl)
                · exact hj104 _ _ _ _ hf hP hD hS (lv_sub hl [2, 3, 7, 1, 0] rfl)
        · refine lv_goto (pc := 61) hexec hb dX8_mildest_61 (tgt := 114) rfl ?_
          exact hj114 _ _ _ _ _ _ hf hP hD hS (lv_sub hl [1, 2, 3, 4, 5, 6] rfl)
  exact hL32 n _ _ _ _ _ _ _ _ _ hz hP hD hS (lv_sub hl [5, 4, 3, 2, 1, 0] rfl)
abbrev w_X8_drowns (g : GE) (a0 a1 a2 a3 : Nat) (u0_1 u0_2 u0_3 u0_4 u0_5 u0_6 u0_7 u0_8 u0_9 u1_1 u1_2 u1_4 u2_2 u2_3 u2_4 u2_5 : Value) (x2_rows : Int32) (x2_columns : Int32) (y3_namesOn : Nat → Int32) : va_W := [(a0, .inr (8, [.ref a1, u0_1, u0_2, u0_3, u0_4, u0_5, u0_6, u0_7, u0_8, u0_9])), (a1, .inr (6, [.ref a2, u1_1, u1_2, .ref a3, u1_4])), (a2, .inr (1, [.int x2_rows, .int x2_columns, u2_2, u2_3, u2_4, u2_5])), (a3, .inl (g.2.1 0, 144, .inl y3_namesOn))]
set_option maxRecDepth 20000 in
theorem c_X8_drowns (l : Launch) (g : GE) (a0 a1 a2 a3 : Nat) (sz : Nat) (u0_1 u0_2 u0_3 u0_4 u0_5 u0_6 u0_7 u0_8 u0_9 u1_1 u1_2 u1_4 u2_2 u2_3 u2_4 u2_5 : Value) (x2_rows : Int32) (x2_columns : Int32) (y3_namesOn : Nat → Int32) (p1 : Int32)  (r : Int32) (hf : f_X8_drowns x2_rows x2_columns y3_namesOn p1 = some r) : MI l g yX8_drowns wsX8_drowns 3 65 [.ref a0, .int p1] (w_X8_drowns g a0 a1 a2 a3 u0_1 u0_2 u0_3 u0_4 u0_5 u0_6 u0_7 u0_8 u0_9 u1_1 u1_2 u1_4 u2_2 u2_3 u2_4 u2_5 x2_rows x2_columns y3_namesOn) sz (some (.int r)) (w_X8_drowns g a0 a1 a2 a3 u0_1 u0_2 u0_3 u0_4 u0_5 u0_6 u0_7 u0_8 u0_9 u1_1 u1_2 u1_4 u2_2 u2_3 u2_4 u2_5 x2_rows x2_columns y3_namesOn) := by
  refine MI.start (cc := cX8_drowns) (maxL := 2) (ret := (some .int)) rfl rfl (nle rfl) ?_
  intro p e s m args below meth c A ls Q hQ hexec hb hr hts hown hlocks hml hA hP hD hG hS hl
  unfold f_X8_drowns at hf
  have hWX1 : ∀ w ∈ wsX10, w.before args s = true := fun w h => hts w (List.mem_cons_of_mem _ (List.mem_append_left _ (List.mem_append_right _ h)))
  have hWX6 : ∀ w ∈ wsX60, w.before args s = true := fun w h => hts w (List.mem_cons_of_mem _ (List.mem_append_left _ (List.mem_append_left _ (List.mem_append_right _ h))))
  have hWX8 : ∀ w ∈ wsX80, w.before args s = true := fun w h => hts w (List.mem_cons_of_mem _ (List.mem_append_left _ (List.mem_append_left _ (List.mem_append_left _ (List.mem_append_right _ h)))))
  have hS : va_S A s.heap s.heap [] := hS
  refine lv_aload_n (pc := 0) hexec hb dX8_drowns_0 rfl (lv_at hl 0 rfl) ?_
  refine lv_iload_n (pc := 1) hexec hb dX8_drowns_1 rfl (lv_at hl 1 rfl) ?_
  obtain ⟨_, hc, hf⟩ := bd1_e hf
  refine kVp (pc := 2) (S := ⟨hexec, hb, hml, hown, hts⟩) hP hD hG hA hS [0, 1, 2] [3] [1, 2, 3, 0] (w2 := (w_X8_drowns g a0 a1 a2 a3 u0_1 u0_2 u0_3 u0_4 u0_5 u0_6 u0_7 u0_8 u0_9 u1_1 u1_2 u1_4 u2_2 u2_3 u2_4 u2_5 x2_rows x2_columns y3_namesOn)) rfl rfl rfl rfl rfl rfl (by decide) (c_X8_needCell l g a0 a1 a2 _ u0_1 u0_2 u0_3 u0_4 u0_5 u0_6 u0_7 u0_8 u0_9 u1_1 u1_2 (.ref a3) u1_4 u2_2 u2_3 u2_4 u2_5 x2_rows x2_columns p1 hc) gX8_drowns_X8_needCell rfl hv_X8_needCell ⟨nle rfl, nle rfl⟩ 8 0 rfl rfl rfl (rest := []) rfl rfl hl.1 (nle rfl) dX8_drowns_2 (fun H locs hP hD hS => ?_)
  refine lv_aload_n (pc := 5) hexec hb dX8_drowns_5 rfl (lv_at hl 0 rfl) ?_
  refine kg_get (pc := 6) hexec hb (own := RX8) hWX8 hown hG hP 0 rfl rfl 0 (nle rfl) (hts _ (List.mem_cons_of_mem _ (List.mem_append_left _ (List.mem_append_left _ (List.mem_append_left _ (List.mem_append_left _ (List.mem_of_getElem? (i := 0) rfl))))))) rfl rfl dX8_drowns_6 ?_
  refine lv_iload_n (pc := 9) hexec hb dX8_drowns_9 rfl (lv_at hl 1 rfl) ?_
  obtain ⟨r10, hc, hf⟩ := bd1_e hf
  refine kVp (pc := 10) (S := ⟨hexec, hb, hml, hown, hts⟩) hP hD hG hA hS [1, 3] [0, 2] [0, 2, 1, 3] (w2 := (w_X8_drowns g a0 a1 a2 a3 u0_1 u0_2 u0_3 u0_4 u0_5 u0_6 u0_7 u0_8 u0_9 u1_1 u1_2 u1_4 u2_2 u2_3 u2_4 u2_5 x2_rows x2_columns y3_namesOn)) rfl rfl rfl rfl rfl rfl (by decide) (c_X6_namesIn l g a1 a3 _ (.ref a2) u1_1 u1_2 u1_4 y3_namesOn p1 r10 hc) gX8_drowns_X6_namesIn rfl hv_X6_namesIn ⟨nle rfl, nle rfl⟩ 6 0 rfl rfl rfl (rest := []) rfl rfl hl.1 (nle rfl) dX8_drowns_10 (fun H locs hP hD hS => ?_)
  cases hf
  exact ke_i hQ hexec hb hr hP hD hS dX8_drowns_13 hlocks
abbrev w_X8_meanTurn (g : GE) (a0 a1 a2 a3 a4 a5 : Nat) (u0_1 u0_2 u0_3 u0_4 u0_5 u0_6 u0_7 u0_8 u0_9 u1_0 u1_3 u1_4 u2_1 u2_2 u2_4 u2_5 u3_1 u3_3 : Value) (x2_count : Int32) (x3_count : Int32) (x3_turn : Int32) (y4_direction : Nat → Int32) (y5_stops : Nat → Int32) : va_W := [(a0, .inr (8, [.ref a1, u0_1, u0_2, u0_3, u0_4, u0_5, u0_6, u0_7, u0_8, u0_9])), (a1, .inr (6, [u1_0, .ref a2, .ref a3, u1_3, u1_4])), (a2, .inr (2, [.int x2_count, u2_1, u2_2, .ref a4, u2_4, u2_5])), (a3, .inr (4, [.int x3_count, u3_1, .int x3_turn, u3_3, .ref a5])), (a4, .inl (g.2.1 0, 8, .inl y4_direction)), (a5, .inl (g.2.1 0, 16, .inl y5_stops))]
set_option maxRecDepth 20000 in
theorem c_X8_meanTurn (l : Launch) (g : GE) (a0 a1 a2 a3 a4 a5 : Nat) (sz : Nat) (u0_1 u0_2 u0_3 u0_4 u0_5 u0_6 u0_7 u0_8 u0_9 u1_0 u1_3 u1_4 u2_1 u2_2 u2_4 u2_5 u3_1 u3_3 : Value) (x2_count : Int32) (x3_count : Int32) (x3_turn : Int32) (y4_direction : Nat → Int32) (y5_stops : Nat → Int32)   (r : UInt64) (hf : f_X8_meanTurn x2_count x3_count x3_turn y4_direction y5_stops = some r) : MI l g yX8_meanTurn wsX8_meanTurn 5 114 [.ref a0] (w_X8_meanTurn g a0 a1 a2 a3 a4 a5 u0_1 u0_2 u0_3 u0_4 u0_5 u0_6 u0_7 u0_8 u0_9 u1_0 u1_3 u1_4 u2_1 u2_2 u2_4 u2_5 u3_1 u3_3 x2_count x3_count x3_turn y4_direction y5_stops) sz (some (.double r)) (w_X8_meanTurn g a0 a1 a2 a3 a4 a5 u0_1 u0_2 u0_3 u0_4 u0_5 u0_6 u0_7 u0_8 u0_9 u1_0 u1_3 u1_4 u2_1 u2_2 u2_4 u2_5 u3_1 u3_3 x2_count x3_count x3_turn y4_direction y5_stops) := by
  refine MI.start (cc := cX8_meanTurn) (maxL := 3) (ret := (some .double)) rfl rfl (nle rfl) ?_
  intro p e s m args below meth c A ls Q hQ hexec hb hr hts hown hlocks hml hA hP hD hG hS hl
  unfold f_X8_meanTurn at hf
  have hWX2 : ∀ w ∈ wsX20, w.before args s = true := fun w h => hts w (List.mem_cons_of_mem _ (List.mem_append_right _ h))
  have hWX4 : ∀ w ∈ wsX40, w.before args s = true := fun w h => hts w (List.mem_cons_of_mem _ (List.mem_append_left _ (List.mem_append_right _ h)))
  have hWX6 : ∀ w ∈ wsX60, w.before args s = true := fun w h => hts w (List.mem_cons_of_mem _ (List.mem_append_left _ (List.mem_append_left _ (List.mem_append_right _ h))))
  have hWX8 : ∀ w ∈ wsX80, w.before args s = true := fun w h => hts w (List.mem_cons_of_mem _ (List.mem_append_left _ (List.mem_append_left _ (List.mem_append_left _ (List.mem_append_right _ h)))))
  have hS : va_S A s.heap s.heap [] := hS
  refine lv_iconst (pc := 0) hexec hb dX8_meanTurn_0 ki_0 ?_
  refine lv_istore_n (pc := 1) hexec hb dX8_meanTurn_1 rfl hl (nle rfl) rfl (fun ls (hl : lv_has ls 3 [(1, .int 0), (0, .ref a0)]) => ?_)
  refine lv_iconst (pc := 2) hexec hb dX8_meanTurn_2 ki_0 ?_
  refine lv_istore_n (pc := 3) hexec hb dX8_meanTurn_3 rfl hl (nle rfl) rfl (fun ls (hl : lv_has ls 3 [(2, .int 0), (1, .int 0), (0, .ref a0)]) => ?_)
  obtain ⟨l4, el4, hf⟩ := bvf2 hf
  obtain ⟨v1_1, hz, hf⟩ := bd1_e hf
  have hE4 : ∀ (H : Heap) (locs : List Loc) (ls : Array Slot), va_P g.1 vwCl (w_X8_meanTurn g a0 a1 a2 a3 a4 a5 u0_1 u0_2 u0_3 u0_4 u0_5 u0_6 u0_7 u0_8 u0_9 u1_0 u1_3 u1_4 u2_1 u2_2 u2_4 u2_5 u3_1 u3_3 x2_count x3_count x3_turn y4_direction y5_stops) H → va_D A (w_X8_meanTurn g a0 a1 a2 a3 a4 a5 u0_1 u0_2 u0_3 u0_4 u0_5 u0_6 u0_7 u0_8 u0_9 u1_0 u1_3 u1_4 u2_1 u2_2 u2_4 u2_5 u3_1 u3_3 x2_count x3_count x3_turn y4_direction y5_stops) → va_S A s.heap H locs → lv_has ls 3 [(0, .ref a0), (1, .int v1_1)] → W p l e (RM 5 114) s m args below meth c H locs 0 0 Q (F0 m 52 ls []) := by
    intro H locs ls hP hD hS hl
    refine lv_iload_n (pc := 52) hexec hb dX8_meanTurn_52 rfl (lv_at hl 1 rfl) ?_
    obtain ⟨j68, ej68, hf⟩ := bvf1 hf
    have hj68 : ∀ (t68 : UInt64) (H : Heap) (locs : List Loc) (ls : Array Slot), j68 t68 = some r → va_P g.1 vwCl (w_X8_meanTurn g a0 a1 a2 a3 a4 a5 u0_1 u0_2 u0_3 u0_4 u0_5 u0_6 u0_7 u0_8 u0_9 u1_0 u1_3 u1_4 u2_1 u2_2 u2_4 u2_5 u3_1 u3_3 x2_count x3_count x3_turn y4_direction y5_stops) H → va_D A (w_X8_meanTurn g a0 a1 a2 a3 a4 a5 u0_1 u0_2 u0_3 u0_4 u0_5 u0_6 u0_7 u0_8 u0_9 u1_0 u1_3 u1_4 u2_1 u2_2 u2_4 u2_5 u3_1 u3_3 x2_count x3_count x3_turn y4_direction y5_stops) → va_S A s.heap H locs → lv_has ls 3 [] → W p l e (RM 5 114) s m args below meth c H locs 0 0 Q (F0 m 68 ls [.double t68]) := by
      intro t68 H locs ls hf hP hD hS hl
      have hf := (ej68 t68).symm.trans hf
      cases hf
      exact ke_d hQ hexec hb hr hP hD hS dX8_meanTurn_68 hlocks
    refine kb_ne (pc := 53) hexec hb dX8_meanTurn_53 (tgt := 60) rfl hf (fun hc hf => ?_) (fun hc hf => ?_)
    · refine lv_aload_n (pc := 60) hexec hb dX8_meanTurn_60 rfl (lv_at hl 0 rfl) ?_
      obtain ⟨r61, hc, hf⟩ := bd1_e hf
      refine kVp (pc := 61) (S := ⟨hexec, hb, hml, hown, hts⟩) hP hD hG hA hS [0, 1, 2, 3, 4, 5] [] [0, 1, 2, 3, 4, 5] (w2 := (w_X8_meanTurn g a0 a1 a2 a3 a4 a5 u0_1 u0_2 u0_3 u0_4 u0_5 u0_6 u0_7 u0_8 u0_9 u1_0 u1_3 u1_4 u2_1 u2_2 u2_4 u2_5 u3_1 u3_3 x2_count x3_count x3_turn y4_direction y5_stops)) rfl rfl rfl rfl rfl rfl (by decide) (c_X8_turning l g a0 a1 a2 a3 a4 a5 _ u0_1 u0_2 u0_3 u0_4 u0_5 u0_6 u0_7 u0_8 u0_9 u1_0 u1_3 u1_4 (.int x2_count) u2_1 u2_2 u2_4 u2_5 u3_1 u3_3 x3_count x3_turn y4_direction y5_stops r61 hc) gX8_meanTurn_X8_turning rfl hv_X8_turning ⟨nle rfl, nle rfl⟩ 8 0 rfl rfl rfl (rest := []) rfl rfl hl.1 (nle rfl) dX8_meanTurn_61 (fun H locs hP hD hS => ?_)
      refine lv_i2d (pc := 64) hexec hb dX8_meanTurn_64 ?_
      refine lv_iload_n (pc := 65) hexec hb dX8_meanTurn_65 rfl (lv_at hl 1 rfl) ?_
      refine lv_i2d (pc := 66) hexec hb dX8_meanTurn_66 ?_
      refine lv_ddiv (pc := 67) hexec hb dX8_meanTurn_67 (nn64_e hf).1 ?_
      have hf := (nn64_e hf).2
      exact hj68 _ _ _ _ hf hP hD hS (lv_sub hl [] rfl)
    · refine lv_dconst0 (pc := 56) hexec hb dX8_meanTurn_56 ?_
      refine lv_goto (pc := 57) hexec hb dX8_meanTurn_57 (tgt := 68) rfl ?_
      exact hj68 _ _ _ _ hf hP hD hS (lv_sub hl [] rfl)
  obtain ⟨n, hz⟩ := lq2_e hz
  have hL4 : ∀ (n : Nat) (v1 : Int32) (v2 : Int32) (H : Heap) (locs : List Loc) (ls : Array Slot), it2 l4 n v1 v2 = some v1_1 → va_P g.1 vwCl (w_X8_meanTurn g a0 a1 a2 a3 a4 a5 u0_1 u0_2 u0_3 u0_4 u0_5 u0_6 u0_7 u0_8 u0_9 u1_0 u1_3 u1_4 u2_1 u2_2 u2_4 u2_5 u3_1 u3_3 x2_count x3_count x3_turn y4_direction y5_stops) H → va_D A (w_X8_meanTurn g a0 a1 a2 a3 a4 a5 u0_1 u0_2 u0_3 u0_4 u0_5 u0_6 u0_7 u0_8 u0_9 u1_0 u1_3 u1_4 u2_1 u2_2 u2_4 u2_5 u3_1 u3_3 x2_count x3_count x3_turn y4_direction y5_stops) → va_S A s.heap H locs → lv_has ls 3 [(0, .ref a0), (1, .int v1), (2, .int v2)] → W p l e (RM 5 114) s m args below meth c H locs 0 0 Q (F0 m 4 ls []) := by
    intro n
    induction n with
    | zero =>
      intro v1 v2 H locs ls hf hP hD hS hl
      exact it2_0 hf
    | succ n4 ih4 =>
      intro v1 v2 H locs ls hf hP hD hS hl
      obtain ⟨q4, hf, hk4⟩ := it2_e hf
      have hf := (el4 v1 v2).symm.trans hf
      refine lv_iload_n (pc := 4) hexec hb dX8_meanTurn_4 rfl (lv_at hl 2 rfl) ?_
      refine lv_aload_n (pc := 5) hexec hb dX8_meanTurn_5 rfl (lv_at hl 0 rfl) ?_
      refine kg_get (pc := 6) hexec hb (own := RX8) hWX8 hown hG hP 0 rfl rfl 0 (nle rfl) (hts _ (List.mem_cons_of_mem _ (List.mem_append_left _ (List.mem_append_left _ (List.mem_append_left _ (List.mem_append_left _ (List.mem_append_left _ (List.mem_of_getElem? (i := 0) rfl)))))))) rfl rfl dX8_meanTurn_6 ?_
      refine kg_getN (pc := 9) hexec hb (own := RX8) hWX6 hown hG hP 1 rfl rfl 2 (nle rfl) 27 rfl rfl rfl dX8_meanTurn_9 ?_
      refine kg_getN (pc := 12) hexec hb (own := RX8) hWX4 hown hG hP 3 rfl rfl 0 (nle rfl) 14 rfl rfl rfl dX8_meanTurn_12 ?_
      refine ki_ge (pc := 15) hexec hb dX8_meanTurn_15 (tgt := 52) rfl hf (fun hc hf => ?_) (fun hc hf => ?_)
      · cases sr2 hf hk4
        exact hE4 _ _ _ hP hD hS (lv_sub hl [0, 1] rfl)
      · refine lv_aload_n (pc := 18) hexec hb dX8_meanTurn_18 rfl (lv_at hl 0 rfl) ?_
        refine kg_get (pc := 19) hexec hb (own := RX8) hWX8 hown hG hP 0 rfl rfl 0 (nle rfl) (hts _ (List.mem_cons_of_mem _ (List.mem_append_left _ (List.mem_append_left _ (List.mem_append_left _ (List.mem_append_left _ (List.mem_append_left _ (List.mem_of_getElem? (i := 0) rfl)))))))) rfl rfl dX8_meanTurn_19 ?_
        refine kg_getN (pc := 22) hexec hb (own := RX8) hWX6 hown hG hP 1 rfl rfl 1 (nle rfl) 24 rfl rfl rfl dX8_meanTurn_22 ?_
        refine lv_aload_n (pc := 25) hexec hb dX8_meanTurn_25 rfl (lv_at hl 0 rfl) ?_
        refine kg_get (pc := 26) hexec hb (own := RX8) hWX8 hown hG hP 0 rfl rfl 0 (nle rfl) (hts _ (List.mem_cons_of_mem _ (List.mem_append_left _ (List.mem_append_left _ (List.mem_append_left _ (List.mem_append_left _ (List.mem_append_left _ (List.mem_of_getElem? (i := 0) rfl)))))))) rfl rfl dX8_meanTurn_26 ?_
        refine kg_getN (pc := 29) hexec hb (own := RX8) hWX6 hown hG hP 1 rfl rfl 2 (nle rfl) 27 rfl rfl rfl dX8_meanTurn_29 ?_
        refine lv_iload_n (pc := 32) hexec hb dX8_meanTurn_32 rfl (lv_at hl 2 rfl) ?_
        obtain ⟨r33, hc, hf⟩ := bd1_e hf
        refine kVp (pc := 33) (S := ⟨hexec, hb, hml, hown, hts⟩) hP hD hG hA hS [3, 5] [0, 1, 2, 4] [0, 1, 2, 4, 3, 5] (w2 := (w_X8_meanTurn g a0 a1 a2 a3 a4 a5 u0_1 u0_2 u0_3 u0_4 u0_5 u0_6 u0_7 u0_8 u0_9 u1_0 u1_3 u1_4 u2_1 u2_2 u2_4 u2_5 u3_1 u3_3 x2_count x3_count x3_turn y4_direction y5_stops)) rfl rfl rfl rfl rfl rfl (by decide) (c_X4_stopAt l g a3 a5 _ u3_1 (.int x3_turn) u3_3 x3_count y5_stops v2 r33 hc) gX8_meanTurn_X4_stopAt rfl hv_X4_stopAt ⟨nle rfl, nle rfl⟩ 4 0 rfl rfl rfl (rest := [.ref a2]) rfl rfl hl.1 (nle rfl) dX8_meanTurn_33 (fun H locs hP hD hS => ?_)
        obtain ⟨r36, hc, hf⟩ := bd1_e hf
        refine kVp (pc := 36) (S := ⟨hexec, hb, hml, hown, hts⟩) hP hD hG hA hS [2, 4] [0, 1, 3, 5] [0, 1, 4, 2, 5, 3] (w2 := (w_X8_meanTurn g a0 a1 a2 a3 a4 a5 u0_1 u0_2 u0_3 u0_4 u0_5 u0_6 u0_7 u0_8 u0_9 u1_0 u1_3 u1_4 u2_1 u2_2 u2_4 u2_5 u3_1 u3_3 x2_count x3_count x3_turn y4_direction y5_stops)) rfl rfl rfl rfl rfl rfl (by decide) (c_X2_directionOf l g a2 a4 _ u2_1 u2_2 u2_4 u2_5 x2_count y4_direction r33 r36 hc) gX8_meanTurn_X2_directionOf rfl hv_X2_directionOf ⟨nle rfl, nle rfl⟩ 2 0 rfl rfl rfl (rest := []) rfl rfl hl.1 (nle rfl) dX8_meanTurn_36 (fun H locs hP hD hS => ?_)
        refine lv_iconst (pc := 39) hexec hb dX8_meanTurn_39 ki_m1 ?_
        obtain ⟨j46, ej46, hf⟩ := bvf1 hf
        have hj46 : ∀ (v1_2 : Int32) (H : Heap) (locs : List Loc) (ls : Array Slot), j46 v1_2 = some q4 → va_P g.1 vwCl (w_X8_meanTurn g a0 a1 a2 a3 a4 a5 u0_1 u0_2 u0_3 u0_4 u0_5 u0_6 u0_7 u0_8 u0_9 u1_0 u1_3 u1_4 u2_1 u2_2 u2_4 u2_5 u3_1 u3_3 x2_count x3_count x3_turn y4_direction y5_stops) H → va_D A (w_X8_meanTurn g a0 a1 a2 a3 a4 a5 u0_1 u0_2 u0_3 u0_4 u0_5 u0_6 u0_7 u0_8 u0_9 u1_0 u1_3 u1_4 u2_1 u2_2 u2_4 u2_5 u3_1 u3_3 x2_count x3_count x3_turn y4_direction y5_stops) → va_S A s.heap H locs → lv_has ls 3 [(0, .ref a0), (1, .int v1_2), (2, .int v2)] → W p l e (RM 5 114) s m args below meth c H locs 0 0 Q (F0 m 46 ls []) := by
          intro v1_2 H locs ls hf hP hD hS hl
          have hf := (ej46 v1_2).symm.trans hf
          obtain ⟨v2_1, ev2_1, hf⟩ := bv_e hf
          refine k_iinc (pc := 46) hexec hb dX8_meanTurn_46 kq_1 hl (k := 2) rfl ev2_1 (nle rfl) rfl (fun ls (hl : lv_has ls 3 [(2, .int v2_1), (0, .ref a0), (1, .int v1_2)]) => ?_)
          refine lv_goto (pc := 49) hexec hb dX8_meanTurn_49 (tgt := 4) rfl ?_
          exact ih4 _ _ _ _ _ (sl2 hf hk4) hP hD hS (lv_sub hl [1, 2, 0] rfl)
        refine ki_eq (pc := 40) hexec hb dX8_meanTurn_40 (tgt := 46) rfl hf (fun hc hf => ?_) (fun hc hf => ?_)
        · exact hj46 _ _ _ _ hf hP hD hS (lv_sub hl [0, 1, 2] rfl)
        · obtain ⟨v1_3, ev1_3, hf⟩ := bv_e hf
          refine k_iinc (pc := 43) hexec hb dX8_meanTurn_43 kq_1 hl (k := 1) rfl ev1_3 (nle rfl) rfl (fun ls (hl : lv_has ls 3 [(1, .int v1_3), (0, .ref a0), (2, .int v2)]) => ?_)
          exact hj46 _ _ _ _ hf hP hD hS (lv_sub hl [1, 0, 2] rfl)
  exact hL4 n _ _ _ _ _ hz hP hD hS (lv_sub hl [2, 1, 0] rfl)
abbrev w_X8_cover (g : GE) (a0 a1 a2 a3 a4 : Nat) (u0_1 u0_2 u0_3 u0_4 u0_5 u0_6 u0_7 u0_8 u0_9 u1_1 u1_2 u1_4 u2_2 u2_4 u2_5 : Value) (x2_rows : Int32) (x2_columns : Int32) (y3_namesOn : Nat → Int32) (y4_land : Nat → Int32) : va_W := [(a0, .inr (8, [.ref a1, u0_1, u0_2, u0_3, u0_4, u0_5, u0_6, u0_7, u0_8, u0_9])), (a1, .inr (6, [.ref a2, u1_1, u1_2, .ref a3, u1_4])), (a2, .inr (1, [.int x2_rows, .int x2_columns, u2_2, .ref a4, u2_4, u2_5])), (a3, .inl (g.2.1 0, 144, .inl y3_namesOn)), (a4, .inl (g.2.1 1, 144, .inl y4_land))]
set_option maxRecDepth 20000 in
theorem c_X8_cover (l : Launch) (g : GE) (a0 a1 a2 a3 a4 : Nat) (sz : Nat) (u0_1 u0_2 u0_3 u0_4 u0_5 u0_6 u0_7 u0_8 u0_9 u1_1 u1_2 u1_4 u2_2 u2_4 u2_5 : Value) (x2_rows : Int32) (x2_columns : Int32) (y3_namesOn : Nat → Int32) (y4_land : Nat → Int32)   (r : UInt32) (hf : f_X8_cover x2_rows x2_columns y3_namesOn y4_land = some r) : MI l g yX8_cover wsX8_cover 2 46 [.ref a0] (w_X8_cover g a0 a1 a2 a3 a4 u0_1 u0_2 u0_3 u0_4 u0_5 u0_6 u0_7 u0_8 u0_9 u1_1 u1_2 u1_4 u2_2 u2_4 u2_5 x2_rows x2_columns y3_namesOn y4_land) sz (some (.float r)) (w_X8_cover g a0 a1 a2 a3 a4 u0_1 u0_2 u0_3 u0_4 u0_5 u0_6 u0_7 u0_8 u0_9 u1_1 u1_2 u1_4 u2_2 u2_4 u2_5 x2_rows x2_columns y3_namesOn y4_land) := by
  refine MI.start (cc := cX8_cover) (maxL := 4) (ret := (some .float)) rfl rfl (nle rfl) ?_
  intro p e s m args below meth c A ls Q hQ hexec hb hr hts hown hlocks hml hA hP hD hG hS hl
  unfold f_X8_cover at hf
  have hWX1 : ∀ w ∈ wsX10, w.before args s = true := fun w h => hts w (List.mem_cons_of_mem _ (List.mem_append_right _ h))
  have hWX6 : ∀ w ∈ wsX60, w.before args s = true := fun w h => hts w (List.mem_cons_of_mem _ (List.mem_append_left _ (List.mem_append_right _ h)))
  have hWX8 : ∀ w ∈ wsX80, w.before args s = true := fun w h => hts w (List.mem_cons_of_mem _ (List.mem_append_left _ (List.mem_append_left _ (List.mem_append_right _ h))))
  have hS : va_S A s.heap s.heap [] := hS
  refine lv_aload_n (pc := 0) hexec hb dX8_cover_0 rfl (lv_at hl 0 rfl) ?_
  refine kg_get (pc := 1) hexec hb (own := RX8) hWX8 hown hG hP 0 rfl rfl 0 (nle rfl) (hts _ (List.mem_cons_of_mem _ (List.mem_append_left _ (List.mem_append_left _ (List.mem_append_left _ (List.mem_of_getElem? (i := 0) rfl)))))) rfl rfl dX8_cover_1 ?_
  refine kg_getN (pc := 4) hexec hb (own := RX8) hWX6 hown hG hP 1 rfl rfl 0 (nle rfl) 21 rfl rfl rfl dX8_cover_4 ?_
  obtain ⟨r7, hc, hf⟩ := bd1_e hf
  refine kVp (pc := 7) (S := ⟨hexec, hb, hml, hown, hts⟩) hP hD hG hA hS [2, 4] [0, 1, 3] [0, 1, 3, 2, 4] (w2 := (w_X8_cover g a0 a1 a2 a3 a4 u0_1 u0_2 u0_3 u0_4 u0_5 u0_6 u0_7 u0_8 u0_9 u1_1 u1_2 u1_4 u2_2 u2_4 u2_5 x2_rows x2_columns y3_namesOn y4_land)) rfl rfl rfl rfl rfl rfl (by decide) (c_X1_landCells l g a2 a4 _ (.int x2_rows) (.int x2_columns) u2_2 u2_4 u2_5 y4_land r7 hc) gX8_cover_X1_landCells rfl hv_X1_landCells ⟨nle rfl, nle rfl⟩ 1 0 rfl rfl rfl (rest := []) rfl rfl hl.1 (nle rfl) dX8_cover_7 (fun H locs hP hD hS => ?_)
  refine lv_istore_n (pc := 10) hexec hb dX8_cover_10 rfl hl (nle rfl) rfl (fun ls (hl : lv_has ls 4 [(1, .int r7), (0, .ref a0)]) => ?_)
  refine lv_iconst (pc := 11) hexec hb dX8_cover_11 ki_0 ?_
  refine lv_istore_n (pc := 12) hexec hb dX8_cover_12 rfl hl (nle rfl) rfl (fun ls (hl : lv_has ls 4 [(2, .int 0), (1, .int r7), (0, .ref a0)]) => ?_)
  refine lv_iconst (pc := 13) hexec hb dX8_cover_13 ki_0 ?_
  refine lv_istore_n (pc := 14) hexec hb dX8_cover_14 rfl hl (nle rfl) rfl (fun ls (hl : lv_has ls 4 [(3, .int 0), (2, .int 0), (1, .int r7), (0, .ref a0)]) => ?_)
  obtain ⟨l15, el15, hf⟩ := bvf2 hf
  obtain ⟨v2_1, hz, hf⟩ := bd1_e hf
  have hE15 : ∀ (H : Heap) (locs : List Loc) (ls : Array Slot), va_P g.1 vwCl (w_X8_cover g a0 a1 a2 a3 a4 u0_1 u0_2 u0_3 u0_4 u0_5 u0_6 u0_7 u0_8 u0_9 u1_1 u1_2 u1_4 u2_2 u2_4 u2_5 x2_rows x2_columns y3_namesOn y4_land) H → va_D A (w_X8_cover g a0 a1 a2 a3 a4 u0_1 u0_2 u0_3 u0_4 u0_5 u0_6 u0_7 u0_8 u0_9 u1_1 u1_2 u1_4 u2_2 u2_4 u2_5 x2_rows x2_columns y3_namesOn y4_land) → va_S A s.heap H locs → lv_has ls 4 [(1, .int r7), (2, .int v2_1)] → W p l e (RM 2 46) s m args below meth c H locs 0 0 Q (F0 m 49 ls []) := by
    intro H locs ls hP hD hS hl
    refine lv_iload_n (pc := 49) hexec hb dX8_cover_49 rfl (lv_at hl 0 rfl) ?_
    obtain ⟨j62, ej62, hf⟩ := bvf1 hf
    have hj62 : ∀ (t62 : UInt32) (H : Heap) (locs : List Loc) (ls : Array Slot), j62 t62 = some r → va_P g.1 vwCl (w_X8_cover g a0 a1 a2 a3 a4 u0_1 u0_2 u0_3 u0_4 u0_5 u0_6 u0_7 u0_8 u0_9 u1_1 u1_2 u1_4 u2_2 u2_4 u2_5 x2_rows x2_columns y3_namesOn y4_land) H → va_D A (w_X8_cover g a0 a1 a2 a3 a4 u0_1 u0_2 u0_3 u0_4 u0_5 u0_6 u0_7 u0_8 u0_9 u1_1 u1_2 u1_4 u2_2 u2_4 u2_5 x2_rows x2_columns y3_namesOn y4_land) → va_S A s.heap H locs → lv_has ls 4 [] → W p l e (RM 2 46) s m args below meth c H locs 0 0 Q (F0 m 62 ls [.float t62]) := by
      intro t62 H locs ls hf hP hD hS hl
      have hf := (ej62 t62).symm.trans hf
      cases hf
      exact ke_f hQ hexec hb hr hP hD hS dX8_cover_62 hlocks
    refine kb_ne (pc := 50) hexec hb dX8_cover_50 (tgt := 57) rfl hf (fun hc hf => ?_) (fun hc hf => ?_)
    · refine lv_iload_n (pc := 57) hexec hb dX8_cover_57 rfl (lv_at hl 1 rfl) ?_
      refine lv_i2f (pc := 58) hexec hb dX8_cover_58 ?_
      refine lv_iload_n (pc := 59) hexec hb dX8_cover_59 rfl (lv_at hl 0 rfl) ?_
      refine lv_i2f (pc := 60) hexec hb dX8_cover_60 ?_
      refine lv_fdiv (pc := 61) hexec hb dX8_cover_61 (nn32_e hf).1 ?_
      have hf := (nn32_e hf).2
      exact hj62 _ _ _ _ hf hP hD hS (lv_sub hl [] rfl)
    · refine lv_fconst0 (pc := 53) hexec hb dX8_cover_53 ?_
      refine lv_goto (pc := 54) hexec hb dX8_cover_54 (tgt := 62) rfl ?_
      exact hj62 _ _ _ _ hf hP hD hS (lv_sub hl [] rfl)
  obtain ⟨n, hz⟩ := lq2_e hz
  have hL15 : ∀ (n : Nat) (v2 : Int32) (v3 : Int32) (H : Heap) (locs : List Loc) (ls : Array Slot), it2 l15 n v2 v3 = some v2_1 → va_P g.1 vwCl (w_X8_cover g a0 a1 a2 a3 a4 u0_1 u0_2 u0_3 u0_4 u0_5 u0_6 u0_7 u0_8 u0_9 u1_1 u1_2 u1_4 u2_2 u2_4 u2_5 x2_rows x2_columns y3_namesOn y4_land) H → va_D A (w_X8_cover g a0 a1 a2 a3 a4 u0_1 u0_2 u0_3 u0_4 u0_5 u0_6 u0_7 u0_8 u0_9 u1_1 u1_2 u1_4 u2_2 u2_4 u2_5 x2_rows x2_columns y3_namesOn y4_land) → va_S A s.heap H locs → lv_has ls 4 [(0, .ref a0), (1, .int r7), (2, .int v2), (3, .int v3)] → W p l e (RM 2 46) s m args below meth c H locs 0 0 Q (F0 m 15 ls []) := by
    intro n
    induction n with
    | zero =>
      intro v2 v3 H locs ls hf hP hD hS hl
      exact it2_0 hf
    | succ n15 ih15 =>
      intro v2 v3 H locs ls hf hP hD hS hl
      obtain ⟨q15, hf, hk15⟩ := it2_e hf
      have hf := (el15 v2 v3).symm.trans hf
      refine lv_iload_n (pc := 15) hexec hb dX8_cover_15 rfl (lv_at hl 3 rfl) ?_
      refine lv_aload_n (pc := 16) hexec hb dX8_cover_16 rfl (lv_at hl 0 rfl) ?_
      refine kg_get (pc := 17) hexec hb (own := RX8) hWX8 hown hG hP 0 rfl rfl 0 (nle rfl) (hts _ (List.mem_cons_of_mem _ (List.mem_append_left _ (List.mem_append_left _ (List.mem_append_left _ (List.mem_of_getElem? (i := 0) rfl)))))) rfl rfl dX8_cover_17 ?_
      refine kg_getN (pc := 20) hexec hb (own := RX8) hWX6 hown hG hP 1 rfl rfl 0 (nle rfl) 21 rfl rfl rfl dX8_cover_20 ?_
      obtain ⟨r23, hc, hf⟩ := bd1_e hf
      refine kVp (pc := 23) (S := ⟨hexec, hb, hml, hown, hts⟩) hP hD hG hA hS [2] [0, 1, 3, 4] [0, 1, 4, 2, 3] (w2 := (w_X8_cover g a0 a1 a2 a3 a4 u0_1 u0_2 u0_3 u0_4 u0_5 u0_6 u0_7 u0_8 u0_9 u1_1 u1_2 u1_4 u2_2 u2_4 u2_5 x2_rows x2_columns y3_namesOn y4_land)) rfl rfl rfl rfl rfl rfl (by decide) (c_X1_cells l g a2 _ u2_2 (.ref a4) u2_4 u2_5 x2_rows x2_columns r23 hc) gX8_cover_X1_cells rfl hv_X1_cells ⟨nle rfl, nle rfl⟩ 1 0 rfl rfl rfl (rest := [.int v3]) rfl rfl hl.1 (nle rfl) dX8_cover_23 (fun H locs hP hD hS => ?_)
      refine ki_ge (pc := 26) hexec hb dX8_cover_26 (tgt := 49) rfl hf (fun hc hf => ?_) (fun hc hf => ?_)
      · cases sr2 hf hk15
        exact hE15 _ _ _ hP hD hS (lv_sub hl [1, 2] rfl)
      · refine lv_aload_n (pc := 29) hexec hb dX8_cover_29 rfl (lv_at hl 0 rfl) ?_
        refine kg_get (pc := 30) hexec hb (own := RX8) hWX8 hown hG hP 0 rfl rfl 0 (nle rfl) (hts _ (List.mem_cons_of_mem _ (List.mem_append_left _ (List.mem_append_left _ (List.mem_append_left _ (List.mem_of_getElem? (i := 0) rfl)))))) rfl rfl dX8_cover_30 ?_
        refine lv_iload_n (pc := 33) hexec hb dX8_cover_33 rfl (lv_at hl 3 rfl) ?_
        obtain ⟨r34, hc, hf⟩ := bd1_e hf
        refine kVp (pc := 34) (S := ⟨hexec, hb, hml, hown, hts⟩) hP hD hG hA hS [1, 3] [0, 2, 4] [0, 3, 1, 4, 2] (w2 := (w_X8_cover g a0 a1 a2 a3 a4 u0_1 u0_2 u0_3 u0_4 u0_5 u0_6 u0_7 u0_8 u0_9 u1_1 u1_2 u1_4 u2_2 u2_4 u2_5 x2_rows x2_columns y3_namesOn y4_land)) rfl rfl rfl rfl rfl rfl (by decide) (c_X6_namesIn l g a1 a3 _ (.ref a2) u1_1 u1_2 u1_4 y3_namesOn v3 r34 hc) gX8_cover_X6_namesIn rfl hv_X6_namesIn ⟨nle rfl, nle rfl⟩ 6 0 rfl rfl rfl (rest := []) rfl rfl hl.1 (nle rfl) dX8_cover_34 (fun H locs hP hD hS => ?_)
        obtain ⟨j43, ej43, hf⟩ := bvf1 hf
        have hj43 : ∀ (v2_2 : Int32) (H : Heap) (locs : List Loc) (ls : Array Slot), j43 v2_2 = some q15 → va_P g.1 vwCl (w_X8_cover g a0 a1 a2 a3 a4 u0_1 u0_2 u0_3 u0_4 u0_5 u0_6 u0_7 u0_8 u0_9 u1_1 u1_2 u1_4 u2_2 u2_4 u2_5 x2_rows x2_columns y3_namesOn y4_land) H → va_D A (w_X8_cover g a0 a1 a2 a3 a4 u0_1 u0_2 u0_3 u0_4 u0_5 u0_6 u0_7 u0_8 u0_9 u1_1 u1_2 u1_4 u2_2 u2_4 u2_5 x2_rows x2_columns y3_namesOn y4_land) → va_S A s.heap H locs → lv_has ls 4 [(0, .ref a0), (1, .int r7), (2, .int v2_2), (3, .int v3)] → W p l e (RM 2 46) s m args below meth c H locs 0 0 Q (F0 m 43 ls []) := by
          intro v2_2 H locs ls hf hP hD hS hl
          have hf := (ej43 v2_2).symm.trans hf
          obtain ⟨v3_1, ev3_1, hf⟩ := bv_e hf
          refine k_iinc (pc := 43) hexec hb dX8_cover_43 kq_1 hl (k := 3) rfl ev3_1 (nle rfl) rfl (fun ls (hl : lv_has ls 4 [(3, .int v3_1), (0, .ref a0), (1, .int r7), (2, .int v2_2)]) => ?_)
          refine lv_goto (pc := 46) hexec hb dX8_cover_46 (tgt := 15) rfl ?_
          exact ih15 _ _ _ _ _ (sl2 hf hk15) hP hD hS (lv_sub hl [1, 2, 3, 0] rfl)
        refine kb_eq (pc := 37) hexec hb dX8_cover_37 (tgt := 43) rfl hf (fun hc hf => ?_) (fun hc hf => ?_)
        · exact hj43 _ _ _ _ hf hP hD hS (lv_sub hl [0, 1, 2, 3] rfl)
        · obtain ⟨v2_3, ev2_3, hf⟩ := bv_e hf
          refine k_iinc (pc := 40) hexec hb dX8_cover_40 kq_1 hl (k := 2) rfl ev2_3 (nle rfl) rfl (fun ls (hl : lv_has ls 4 [(2, .int v2_3), (0, .ref a0), (1, .int r7), (3, .int v3)]) => ?_)
          exact hj43 _ _ _ _ hf hP hD hS (lv_sub hl [1, 2, 0, 3] rfl)
  exact hL15 n _ _ _ _ _ hz hP hD hS (lv_sub hl [3, 2, 1, 0] rfl)
abbrev w_X8_signOf (g : GE) (a0 a1 a2 a3 a4 a5 a6 a7 a8 : Nat) (u0_1 u0_2 u0_3 u0_4 u0_5 u0_6 u0_7 u0_8 u0_9 u1_2 u2_0 u2_1 u2_2 u2_5 u3_3 u3_4 u3_5 : Value) (x3_count : Int32) (x3_reds : Int32) (y4_letterOn : Nat → Int32) (y5_namesOn : Nat → Int32) (y6_land : Nat → Int32) (y7_riverOf : Nat → Int32) (y8_home : Nat → Int32) : va_W := [(a0, .inr (8, [.ref a1, u0_1, u0_2, u0_3, u0_4, u0_5, u0_6, u0_7, u0_8, u0_9])), (a1, .inr (6, [.ref a2, .ref a3, u1_2, .ref a5, .ref a4])), (a2, .inr (1, [u2_0, u2_1, u2_2, .ref a6, .ref a7, u2_5])), (a3, .inr (2, [.int x3_count, .int x3_reds, .ref a8, u3_3, u3_4, u3_5])), (a4, .inl (g.2.1 0, 144, .inl y4_letterOn)), (a5, .inl (g.2.1 0, 144, .inl y5_namesOn)), (a6, .inl (g.2.1 1, 144, .inl y6_land)), (a7, .inl (g.2.1 0, 144, .inl y7_riverOf)), (a8, .inl (g.2.1 0, 8, .inl y8_home))]
set_option maxRecDepth 20000 in
theorem c_X8_signOf (l : Launch) (g : GE) (a0 a1 a2 a3 a4 a5 a6 a7 a8 : Nat) (sz : Nat) (u0_1 u0_2 u0_3 u0_4 u0_5 u0_6 u0_7 u0_8 u0_9 u1_2 u2_0 u2_1 u2_2 u2_5 u3_3 u3_4 u3_5 : Value) (x3_count : Int32) (x3_reds : Int32) (y4_letterOn : Nat → Int32) (y5_namesOn : Nat → Int32) (y6_land : Nat → Int32) (y7_riverOf : Nat → Int32) (y8_home : Nat → Int32) (p1 : Int32)  (r : Int32) (hf : f_X8_signOf x3_count x3_reds y4_letterOn y5_namesOn y6_land y7_riverOf y8_home p1 = some r) : MI l g yX8_signOf wsX8_signOf 3 66 [.ref a0, .int p1] (w_X8_signOf g a0 a1 a2 a3 a4 a5 a6 a7 a8 u0_1 u0_2 u0_3 u0_4 u0_5 u0_6 u0_7 u0_8 u0_9 u1_2 u2_0 u2_1 u2_2 u2_5 u3_3 u3_4 u3_5 x3_count x3_reds y4_letterOn y5_namesOn y6_land y7_riverOf y8_home) sz (some (.int r)) (w_X8_signOf g a0 a1 a2 a3 a4 a5 a6 a7 a8 u0_1 u0_2 u0_3 u0_4 u0_5 u0_6 u0_7 u0_8 u0_9 u1_2 u2_0 u2_1 u2_2 u2_5 u3_3 u3_4 u3_5 x3_count x3_reds y4_letterOn y5_namesOn y6_land y7_riverOf y8_home) := by
  refine MI.start (cc := cX8_signOf) (maxL := 4) (ret := (some .int)) rfl rfl (nle rfl) ?_
  intro p e s m args below meth c A ls Q hQ hexec hb hr hts hown hlocks hml hA hP hD hG hS hl
  unfold f_X8_signOf at hf
  have hWX1 : ∀ w ∈ wsX10, w.before args s = true := fun w h => hts w (List.mem_cons_of_mem _ (List.mem_append_right _ h))
  have hWX2 : ∀ w ∈ wsX20, w.before args s = true := fun w h => hts w (List.mem_cons_of_mem _ (List.mem_append_left _ (List.mem_append_right _ h)))
  have hWX6 : ∀ w ∈ wsX60, w.before args s = true := fun w h => hts w (List.mem_cons_of_mem _ (List.mem_append_left _ (List.mem_append_left _ (List.mem_append_right _ h))))
  have hWX8 : ∀ w ∈ wsX80, w.before args s = true := fun w h => hts w (List.mem_cons_of_mem _ (List.mem_append_left _ (List.mem_append_left _ (List.mem_append_left _ (List.mem_append_right _ h)))))
  have hS : va_S A s.heap s.heap [] := hS
  refine lv_aload_n (pc := 0) hexec hb dX8_signOf_0 rfl (lv_at hl 0 rfl) ?_
  refine kg_get (pc := 1) hexec hb (own := RX8) hWX8 hown hG hP 0 rfl rfl 0 (nle rfl) (hts _ (List.mem_cons_of_mem _ (List.mem_append_left _ (List.mem_append_left _ (List.mem_append_left _ (List.mem_append_left _ (List.mem_append_left _ (List.mem_of_getElem? (i := 0) rfl)))))))) rfl rfl dX8_signOf_1 ?_
  refine kg_getN (pc := 4) hexec hb (own := RX8) hWX6 hown hG hP 1 rfl rfl 0 (nle rfl) 21 rfl rfl rfl dX8_signOf_4 ?_
  refine lv_iload_n (pc := 7) hexec hb dX8_signOf_7 rfl (lv_at hl 1 rfl) ?_
  obtain ⟨r8, hc, hf⟩ := bd1_e hf
  refine kVp (pc := 8) (S := ⟨hexec, hb, hml, hown, hts⟩) hP hD hG hA hS [2, 6] [0, 1, 3, 4, 5, 7, 8] [0, 1, 7, 2, 3, 4, 8, 5, 6] (w2 := (w_X8_signOf g a0 a1 a2 a3 a4 a5 a6 a7 a8 u0_1 u0_2 u0_3 u0_4 u0_5 u0_6 u0_7 u0_8 u0_9 u1_2 u2_0 u2_1 u2_2 u2_5 u3_3 u3_4 u3_5 x3_count x3_reds y4_letterOn y5_namesOn y6_land y7_riverOf y8_home)) rfl rfl rfl rfl rfl rfl (by decide) (c_X1_isLand l g a2 a6 _ u2_0 u2_1 u2_2 (.ref a7) u2_5 y6_land p1 r8 hc) gX8_signOf_X1_isLand rfl hv_X1_isLand ⟨nle rfl, nle rfl⟩ 1 0 rfl rfl rfl (rest := []) rfl rfl hl.1 (nle rfl) dX8_signOf_8 (fun H locs hP hD hS => ?_)
  refine kb_ne (pc := 11) hexec hb dX8_signOf_11 (tgt := 17) rfl hf (fun hc hf => ?_) (fun hc hf => ?_)
  · refine lv_aload_n (pc := 17) hexec hb dX8_signOf_17 rfl (lv_at hl 0 rfl) ?_
    refine kg_get (pc := 18) hexec hb (own := RX8) hWX8 hown hG hP 0 rfl rfl 0 (nle rfl) (hts _ (List.mem_cons_of_mem _ (List.mem_append_left _ (List.mem_append_left _ (List.mem_append_left _ (List.mem_append_left _ (List.mem_append_left _ (List.mem_of_getElem? (i := 0) rfl)))))))) rfl rfl dX8_signOf_18 ?_
    refine kg_getN (pc := 21) hexec hb (own := RX8) hWX6 hown hG hP 1 rfl rfl 1 (nle rfl) 24 rfl rfl rfl dX8_signOf_21 ?_
    refine lv_iload_n (pc := 24) hexec hb dX8_signOf_24 rfl (lv_at hl 1 rfl) ?_
    obtain ⟨r25, hc, hf⟩ := bd1_e hf
    refine kVp (pc := 25) (S := ⟨hexec, hb, hml, hown, hts⟩) hP hD hG hA hS [3, 8] [0, 1, 2, 4, 5, 6, 7] [0, 1, 2, 7, 3, 4, 5, 6, 8] (w2 := (w_X8_signOf g a0 a1 a2 a3 a4 a5 a6 a7 a8 u0_1 u0_2 u0_3 u0_4 u0_5 u0_6 u0_7 u0_8 u0_9 u1_2 u2_0 u2_1 u2_2 u2_5 u3_3 u3_4 u3_5 x3_count x3_reds y4_letterOn y5_namesOn y6_land y7_riverOf y8_home)) rfl rfl rfl rfl rfl rfl (by decide) (c_X2_inCell l g a3 a8 _ (.int x3_reds) u3_3 u3_4 u3_5 x3_count y8_home p1 r25 hc) gX8_signOf_X2_inCell rfl hv_X2_inCell ⟨nle rfl, nle rfl⟩ 2 0 rfl rfl rfl (rest := []) rfl rfl hl.1 (nle rfl) dX8_signOf_25 (fun H locs hP hD hS => ?_)
    refine lv_iconst (pc := 28) hexec hb dX8_signOf_28 ki_m1 ?_
    refine ki_eq (pc := 29) hexec hb dX8_signOf_29 (tgt := 35) rfl hf (fun hc hf => ?_) (fun hc hf => ?_)
    · refine lv_aload_n (pc := 35) hexec hb dX8_signOf_35 rfl (lv_at hl 0 rfl) ?_
      refine kg_get (pc := 36) hexec hb (own := RX8) hWX8 hown hG hP 0 rfl rfl 0 (nle rfl) (hts _ (List.mem_cons_of_mem _ (List.mem_append_left _ (List.mem_append_left _ (List.mem_append_left _ (List.mem_append_left _ (List.mem_append_left _ (List.mem_of_getElem? (i := 0) rfl)))))))) rfl rfl dX8_signOf_36 ?_
      refine lv_iload_n (pc := 39) hexec hb dX8_signOf_39 rfl (lv_at hl 1 rfl) ?_
      obtain ⟨r40, hc, hf⟩ := bd1_e hf
      refine kVp (pc := 40) (S := ⟨hexec, hb, hml, hown, hts⟩) hP hD hG hA hS [1, 5] [0, 2, 3, 4, 6, 7, 8] [0, 7, 1, 2, 3, 8, 4, 5, 6] (w2 := (w_X8_signOf g a0 a1 a2 a3 a4 a5 a6 a7 a8 u0_1 u0_2 u0_3 u0_4 u0_5 u0_6 u0_7 u0_8 u0_9 u1_2 u2_0 u2_1 u2_2 u2_5 u3_3 u3_4 u3_5 x3_count x3_reds y4_letterOn y5_namesOn y6_land y7_riverOf y8_home)) rfl rfl rfl rfl rfl rfl (by decide) (c_X6_namesIn l g a1 a5 _ (.ref a2) (.ref a3) u1_2 (.ref a4) y5_namesOn p1 r40 hc) gX8_signOf_X6_namesIn rfl hv_X6_namesIn ⟨nle rfl, nle rfl⟩ 6 0 rfl rfl rfl (rest := []) rfl rfl hl.1 (nle rfl) dX8_signOf_40 (fun H locs hP hD hS => ?_)
      refine lv_istore_n (pc := 43) hexec hb dX8_signOf_43 rfl hl (nle rfl) rfl (fun ls (hl : lv_has ls 4 [(2, .int r40), (0, .ref a0), (1, .int p1)]) => ?_)
      refine lv_iload_n (pc := 44) hexec hb dX8_signOf_44 rfl (lv_at hl 0 rfl) ?_
      refine kb_eq (pc := 45) hexec hb dX8_signOf_45 (tgt := 96) rfl hf (fun hc hf => ?_) (fun hc hf => ?_)
      · refine lv_aload_n (pc := 96) hexec hb dX8_signOf_96 rfl (lv_at hl 1 rfl) ?_
        refine kg_get (pc := 97) hexec hb (own := RX8) hWX8 hown hG hP 0 rfl rfl 0 (nle rfl) (hts _ (List.mem_cons_of_mem _ (List.mem_append_left _ (List.mem_append_left _ (List.mem_append_left _ (List.mem_append_left _ (List.mem_append_left _ (List.mem_of_getElem? (i := 0) rfl)))))))) rfl rfl dX8_signOf_97 ?_
        refine kg_getN (pc := 100) hexec hb (own := RX8) hWX6 hown hG hP 1 rfl rfl 0 (nle rfl) 21 rfl rfl rfl dX8_signOf_100 ?_
        refine lv_iload_n (pc := 103) hexec hb dX8_signOf_103 rfl (lv_at hl 2 rfl) ?_
        obtain ⟨r104, hc, hf⟩ := bd1_e hf
        refine kVp (pc := 104) (S := ⟨hexec, hb, hml, hown, hts⟩) hP hD hG hA hS [2, 7] [0, 1, 3, 4, 5, 6, 8] [0, 1, 7, 2, 3, 4, 5, 8, 6] (w2 := (w_X8_signOf g a0 a1 a2 a3 a4 a5 a6 a7 a8 u0_1 u0_2 u0_3 u0_4 u0_5 u0_6 u0_7 u0_8 u0_9 u1_2 u2_0 u2_1 u2_2 u2_5 u3_3 u3_4 u3_5 x3_count x3_reds y4_letterOn y5_namesOn y6_land y7_riverOf y8_home)) rfl rfl rfl rfl rfl rfl (by decide) (c_X1_isRiver l g a2 a7 _ u2_0 u2_1 u2_2 (.ref a6) u2_5 y7_riverOf p1 r104 hc) gX8_signOf_X1_isRiver rfl hv_X1_isRiver ⟨nle rfl, nle rfl⟩ 1 0 rfl rfl rfl (rest := []) rfl rfl hl.1 (nle rfl) dX8_signOf_104 (fun H locs hP hD hS => ?_)
        refine kb_eq (pc := 107) hexec hb dX8_signOf_107 (tgt := 115) rfl hf (fun hc hf => ?_) (fun hc hf => ?_)
        · refine lv_bipush (pc := 115) hexec hb dX8_signOf_115 kb_46 ?_
          cases hf
          exact ke_i hQ hexec hb hr hP hD hS dX8_signOf_117 hlocks
        · refine lv_bipush (pc := 110) hexec hb dX8_signOf_110 kb_61 ?_
          refine lv_goto (pc := 112) hexec hb dX8_signOf_112 (tgt := 117) rfl ?_
          cases hf
          exact ke_i hQ hexec hb hr hP hD hS dX8_signOf_117 hlocks
      · refine lv_iload_n (pc := 48) hexec hb dX8_signOf_48 rfl (lv_at hl 0 rfl) ?_
        refine lv_aload_n (pc := 49) hexec hb dX8_signOf_49 rfl (lv_at hl 1 rfl) ?_
        refine kg_get (pc := 50) hexec hb (own := RX8) hWX8 hown hG hP 0 rfl rfl 0 (nle rfl) (hts _ (List.mem_cons_of_mem _ (List.mem_append_left _ (List.mem_append_left _ (List.mem_append_left _ (List.mem_append_left _ (List.mem_append_left _ (List.mem_of_getElem? (i := 0) rfl)))))))) rfl rfl dX8_signOf_50 ?_
        refine kg_getN (pc := 53) hexec hb (own := RX8) hWX6 hown hG hP 1 rfl rfl 1 (nle rfl) 24 rfl rfl rfl dX8_signOf_53 ?_
        refine kg_getN (pc := 56) hexec hb (own := RX8) hWX2 hown hG hP 3 rfl rfl 1 (nle rfl) 10 rfl rfl rfl dX8_signOf_56 ?_
        refine lv_iand (pc := 59) hexec hb dX8_signOf_59 ?_
        obtain ⟨j68, ej68, hf⟩ := bvf1 hf
        have hj68 : ∀ (t68 : Int32) (H : Heap) (locs : List Loc) (ls : Array Slot), j68 t68 = some r → va_P g.1 vwCl (w_X8_signOf g a0 a1 a2 a3 a4 a5 a6 a7 a8 u0_1 u0_2 u0_3 u0_4 u0_5 u0_6 u0_7 u0_8 u0_9 u1_2 u2_0 u2_1 u2_2 u2_5 u3_3 u3_4 u3_5 x3_count x3_reds y4_letterOn y5_namesOn y6_land y7_riverOf y8_home) H → va_D A (w_X8_signOf g a0 a1 a2 a3 a4 a5 a6 a7 a8 u0_1 u0_2 u0_3 u0_4 u0_5 u0_6 u0_7 u0_8 u0_9 u1_2 u2_0 u2_1 u2_2 u2_5 u3_3 u3_4 u3_5 x3_count x3_reds y4_letterOn y5_namesOn y6_land y7_riverOf y8_home) → va_S A s.heap H locs → lv_has ls 4 [(0, .ref a0), (1, .int p1)] → W p l e (RM 3 66) s m args below meth c H locs 0 0 Q (F0 m 68 ls [.int t68]) := by
          intro t68 H locs ls hf hP hD hS hl
          have hf := (ej68 t68).symm.trans hf
          refine lv_istore_n (pc := 68) hexec hb dX8_signOf_68 rfl hl (nle rfl) rfl (fun ls (hl : lv_has ls 4 [(3, .int t68), (0, .ref a0), (1, .int p1)]) => ?_)
          refine lv_iload_n (pc := 69) hexec hb dX8_signOf_69 rfl (lv_at hl 0 rfl) ?_
          refine kb_eq (pc := 70) hexec hb dX8_signOf_70 (tgt := 87) rfl hf (fun hc hf => ?_) (fun hc hf => ?_)
          · refine lv_aload_n (pc := 87) hexec hb dX8_signOf_87 rfl (lv_at hl 1 rfl) ?_
            refine kg_get (pc := 88) hexec hb (own := RX8) hWX8 hown hG hP 0 rfl rfl 0 (nle rfl) (hts _ (List.mem_cons_of_mem _ (List.mem_append_left _ (List.mem_append_left _ (List.mem_append_left _ (List.mem_append_left _ (List.mem_append_left _ (List.mem_of_getElem? (i := 0) rfl)))))))) rfl rfl dX8_signOf_88 ?_
            refine lv_iload_n (pc := 91) hexec hb dX8_signOf_91 rfl (lv_at hl 2 rfl) ?_
            obtain ⟨r92, hc, hf⟩ := bd1_e hf
            refine kVp (pc := 92) (S := ⟨hexec, hb, hml, hown, hts⟩) hP hD hG hA hS [1, 4, 5] [0, 2, 3, 6, 7, 8] [0, 6, 1, 2, 7, 8, 3, 4, 5] (w2 := (w_X8_signOf g a0 a1 a2 a3 a4 a5 a6 a7 a8 u0_1 u0_2 u0_3 u0_4 u0_5 u0_6 u0_7 u0_8 u0_9 u1_2 u2_0 u2_1 u2_2 u2_5 u3_3 u3_4 u3_5 x3_count x3_reds y4_letterOn y5_namesOn y6_land y7_riverOf y8_home)) rfl rfl rfl rfl rfl rfl (by decide) (c_X6_letterIn l g a1 a4 a5 _ (.ref a2) (.ref a3) u1_2 y4_letterOn y5_namesOn p1 r92 hc) gX8_signOf_X6_letterIn rfl hv_X6_letterIn ⟨nle rfl, nle rfl⟩ 6 0 rfl rfl rfl (rest := []) rfl rfl hl.1 (nle rfl) dX8_signOf_92 (fun H locs hP hD hS => ?_)
            cases hf
            exact ke_i hQ hexec hb hr hP hD hS dX8_signOf_95 hlocks
          · refine lv_aload_n (pc := 73) hexec hb dX8_signOf_73 rfl (lv_at hl 1 rfl) ?_
            refine kg_get (pc := 74) hexec hb (own := RX8) hWX8 hown hG hP 0 rfl rfl 0 (nle rfl) (hts _ (List.mem_cons_of_mem _ (List.mem_append_left _ (List.mem_append_left _ (List.mem_append_left _ (List.mem_append_left _ (List.mem_append_left _ (List.mem_of_getElem? (i := 0) rfl)))))))) rfl rfl dX8_signOf_74 ?_
            refine lv_iload_n (pc := 77) hexec hb dX8_signOf_77 rfl (lv_at hl 2 rfl) ?_
            obtain ⟨r78, hc, hf⟩ := bd1_e hf
            refine kVp (pc := 78) (S := ⟨hexec, hb, hml, hown, hts⟩) hP hD hG hA hS [1, 4, 5] [0, 2, 3, 6, 7, 8] [0, 6, 1, 2, 7, 8, 3, 4, 5] (w2 := (w_X8_signOf g a0 a1 a2 a3 a4 a5 a6 a7 a8 u0_1 u0_2 u0_3 u0_4 u0_5 u0_6 u0_7 u0_8 u0_9 u1_2 u2_0 u2_1 u2_2 u2_5 u3_3 u3_4 u3_5 x3_count x3_reds y4_letterOn y5_namesOn y6_land y7_riverOf y8_home)) rfl rfl rfl rfl rfl rfl (by decide) (c_X6_letterIn l g a1 a4 a5 _ (.ref a2) (.ref a3) u1_2 y4_letterOn y5_namesOn p1 r78 hc) gX8_signOf_X6_letterIn rfl hv_X6_letterIn ⟨nle rfl, nle rfl⟩ 6 0 rfl rfl rfl (rest := []) rfl rfl hl.1 (nle rfl) dX8_signOf_78 (fun H locs hP hD hS => ?_)
            refine lv_bipush (pc := 81) hexec hb dX8_signOf_81 kb_32 ?_
            refine lv_isub (pc := 83) hexec hb dX8_signOf_83 ?_
            refine lv_goto (pc := 84) hexec hb dX8_signOf_84 (tgt := 95) rfl ?_
            cases hf
            exact ke_i hQ hexec hb hr hP hD hS dX8_signOf_95 hlocks
        refine kb_eq (pc := 60) hexec hb dX8_signOf_60 (tgt := 67) rfl hf (fun hc hf => ?_) (fun hc hf => ?_)
        · refine lv_iconst (pc := 67) hexec hb dX8_signOf_67 ki_0 ?_
          exact hj68 _ _ _ _ hf hP hD hS (lv_sub hl [1, 2] rfl)
        · refine lv_iconst (pc := 63) hexec hb dX8_signOf_63 ki_1 ?_
          refine lv_goto (pc := 64) hexec hb dX8_signOf_64 (tgt := 68) rfl ?_
          exact hj68 _ _ _ _ hf hP hD hS (lv_sub hl [1, 2] rfl)
    · refine lv_bipush (pc := 32) hexec hb dX8_signOf_32 kb_64 ?_
      cases hf
      exact ke_i hQ hexec hb hr hP hD hS dX8_signOf_34 hlocks
  · refine lv_bipush (pc := 14) hexec hb dX8_signOf_14 kb_126 ?_
    cases hf
    exact ke_i hQ hexec hb hr hP hD hS dX8_signOf_16 hlocks
abbrev w_X8_writeRow (g : GE) (a0 a1 a2 a3 a4 a5 a6 a7 a8 a9 : Nat) (u0_1 u0_2 u0_3 u0_4 u0_5 u0_6 u0_9 u2_2 u3_2 u3_5 u4_3 u4_4 u4_5 : Value) (x0_outputLength : Int32) (y1_output : Nat → Int32) (x3_rows : Int32) (x3_columns : Int32) (x4_count : Int32) (x4_reds : Int32) (y5_letterOn : Nat → Int32) (y6_namesOn : Nat → Int32) (y7_land : Nat → Int32) (y8_riverOf : Nat → Int32) (y9_home : Nat → Int32) : va_W := [(a0, .inr (8, [.ref a2, u0_1, u0_2, u0_3, u0_4, u0_5, u0_6, .ref a1, .int x0_outputLength, u0_9])), (a1, .inl (g.2.1 0, 12, .inl y1_output)), (a2, .inr (6, [.ref a3, .ref a4, u2_2, .ref a6, .ref a5])), (a3, .inr (1, [.int x3_rows, .int x3_columns, u3_2, .ref a7, .ref a8, u3_5])), (a4, .inr (2, [.int x4_count, .int x4_reds, .ref a9, u4_3, u4_4, u4_5])), (a5, .inl (g.2.1 0, 144, .inl y5_letterOn)), (a6, .inl (g.2.1 0, 144, .inl y6_namesOn)), (a7, .inl (g.2.1 1, 144, .inl y7_land)), (a8, .inl (g.2.1 0, 144, .inl y8_riverOf)), (a9, .inl (g.2.1 0, 8, .inl y9_home))]
set_option maxRecDepth 20000 in
theorem c_X8_writeRow (l : Launch) (g : GE) (a0 a1 a2 a3 a4 a5 a6 a7 a8 a9 : Nat) (sz : Nat) (u0_1 u0_2 u0_3 u0_4 u0_5 u0_6 u0_9 u2_2 u3_2 u3_5 u4_3 u4_4 u4_5 : Value) (x0_outputLength : Int32) (y1_output : Nat → Int32) (x3_rows : Int32) (x3_columns : Int32) (x4_count : Int32) (x4_reds : Int32) (y5_letterOn : Nat → Int32) (y6_namesOn : Nat → Int32) (y7_land : Nat → Int32) (y8_riverOf : Nat → Int32) (y9_home : Nat → Int32) (p1 : Int32)  (r : Int32) (o_x0_outputLength : Int32) (o_y1_output : Nat → Int32) (hf : f_X8_writeRow x0_outputLength y1_output x3_rows x3_columns x4_count x4_reds y5_letterOn y6_namesOn y7_land y8_riverOf y9_home p1 = some (r, o_x0_outputLength, o_y1_output)) : MI l g yX8_writeRow wsX8_writeRow 4 89 [.ref a0, .int p1] (w_X8_writeRow g a0 a1 a2 a3 a4 a5 a6 a7 a8 a9 u0_1 u0_2 u0_3 u0_4 u0_5 u0_6 u0_9 u2_2 u3_2 u3_5 u4_3 u4_4 u4_5 x0_outputLength y1_output x3_rows x3_columns x4_count x4_reds y5_letterOn y6_namesOn y7_land y8_riverOf y9_home) sz (some (.int r)) (w_X8_writeRow g a0 a1 a2 a3 a4 a5 a6 a7 a8 a9 u0_1 u0_2 u0_3 u0_4 u0_5 u0_6 u0_9 u2_2 u3_2 u3_5 u4_3 u4_4 u4_5 o_x0_outputLength o_y1_output x3_rows x3_columns x4_count x4_reds y5_letterOn y6_namesOn y7_land y8_riverOf y9_home) := by
  refine MI.start (cc := cX8_writeRow) (maxL := 4) (ret := (some .int)) rfl rfl (nle rfl) ?_
  intro p e s m args below meth c A ls Q hQ hexec hb hr hts hown hlocks hml hA hP hD hG hS hl
  unfold f_X8_writeRow at hf
  have hWX1 : ∀ w ∈ wsX10, w.before args s = true := fun w h => hts w (List.mem_cons_of_mem _ (List.mem_append_left _ (List.mem_append_left _ (List.mem_append_right _ h))))
  have hWX2 : ∀ w ∈ wsX20, w.before args s = true := fun w h => hts w (List.mem_cons_of_mem _ (List.mem_append_left _ (List.mem_append_right _ h)))
  have hWX6 : ∀ w ∈ wsX60, w.before args s = true := fun w h => hts w (List.mem_cons_of_mem _ (List.mem_append_left _ (List.mem_append_left _ (List.mem_append_left _ (List.mem_append_right _ h)))))
  have hWX8 : ∀ w ∈ wsX80, w.before args s = true := fun w h => hts w (List.mem_cons_of_mem _ (List.mem_append_left _ (List.mem_append_left _ (List.mem_append_left _ (List.mem_append_left _ (List.mem_append_right _ h))))))
  have hS : va_S A s.heap s.heap [] := hS
  refine lv_iload_n (pc := 0) hexec hb dX8_writeRow_0 rfl (lv_at hl 1 rfl) ?_
  obtain ⟨j18, ej18, hf⟩ := bvf1 hf
  have hj18 : ∀ (u : Unit) (H : Heap) (locs : List Loc) (ls : Array Slot), j18 u = some (r, o_x0_outputLength, o_y1_output) → va_P g.1 vwCl (w_X8_writeRow g a0 a1 a2 a3 a4 a5 a6 a7 a8 a9 u0_1 u0_2 u0_3 u0_4 u0_5 u0_6 u0_9 u2_2 u3_2 u3_5 u4_3 u4_4 u4_5 x0_outputLength y1_output x3_rows x3_columns x4_count x4_reds y5_letterOn y6_namesOn y7_land y8_riverOf y9_home) H → va_D A (w_X8_writeRow g a0 a1 a2 a3 a4 a5 a6 a7 a8 a9 u0_1 u0_2 u0_3 u0_4 u0_5 u0_6 u0_9 u2_2 u3_2 u3_5 u4_3 u4_4 u4_5 x0_outputLength y1_output x3_rows x3_columns x4_count x4_reds y5_letterOn y6_namesOn y7_land y8_riverOf y9_home) → va_S A s.heap H locs → lv_has ls 4 [] → W p l e (RM 4 89) s m args below meth c H locs 0 0 Q (F0 m 18 ls []) := by
    intro u H locs ls hf hP hD hS hl
    have hf := (ej18 u).symm.trans hf
    cases hf
  refine kb_lt (pc := 1) hexec hb dX8_writeRow_1 (tgt := 18) rfl hf (fun hc hf => ?_) (fun hc hf => ?_)
  · exact hj18 _ _ _ _ hf hP hD hS (lv_sub hl [] rfl)
  · refine lv_iload_n (pc := 4) hexec hb dX8_writeRow_4 rfl (lv_at hl 1 rfl) ?_
    refine lv_aload_n (pc := 5) hexec hb dX8_writeRow_5 rfl (lv_at hl 0 rfl) ?_
    refine kg_get (pc := 6) hexec hb (own := RX8) hWX8 hown hG hP 0 rfl rfl 0 (nle rfl) (hts _ (List.mem_cons_of_mem _ (List.mem_append_left _ (List.mem_append_left _ (List.mem_append_left _ (List.mem_append_left _ (List.mem_append_left _ (List.mem_append_left _ (List.mem_of_getElem? (i := 2) rfl))))))))) rfl rfl dX8_writeRow_6 ?_
    refine kg_getN (pc := 9) hexec hb (own := RX8) hWX6 hown hG hP 2 rfl rfl 0 (nle rfl) 21 rfl rfl rfl dX8_writeRow_9 ?_
    refine kg_getN (pc := 12) hexec hb (own := RX8) hWX1 hown hG hP 3 rfl rfl 0 (nle rfl) 0 rfl rfl rfl dX8_writeRow_12 ?_
    refine ki_lt (pc := 15) hexec hb dX8_writeRow_15 (tgt := 29) rfl hf (fun hc hf => ?_) (fun hc hf => ?_)
    · refine lv_aload_n (pc := 29) hexec hb dX8_writeRow_29 rfl (lv_at hl 0 rfl) ?_
      refine kg_get (pc := 30) hexec hb (own := RX8) hWX8 hown hG hP 0 rfl rfl 0 (nle rfl) (hts _ (List.mem_cons_of_mem _ (List.mem_append_left _ (List.mem_append_left _ (List.mem_append_left _ (List.mem_append_left _ (List.mem_append_left _ (List.mem_append_left _ (List.mem_of_getElem? (i := 2) rfl))))))))) rfl rfl dX8_writeRow_30 ?_
      refine kg_getN (pc := 33) hexec hb (own := RX8) hWX6 hown hG hP 2 rfl rfl 0 (nle rfl) 21 rfl rfl rfl dX8_writeRow_33 ?_
      refine kg_getN (pc := 36) hexec hb (own := RX8) hWX1 hown hG hP 3 rfl rfl 1 (nle rfl) 2 rfl rfl rfl dX8_writeRow_36 ?_
      refine lv_istore_n (pc := 39) hexec hb dX8_writeRow_39 rfl hl (nle rfl) rfl (fun ls (hl : lv_has ls 4 [(2, .int x3_columns), (0, .ref a0), (1, .int p1)]) => ?_)
      refine lv_iconst (pc := 40) hexec hb dX8_writeRow_40 ki_0 ?_
      refine lv_istore_n (pc := 41) hexec hb dX8_writeRow_41 rfl hl (nle rfl) rfl (fun ls (hl : lv_has ls 4 [(3, .int 0), (2, .int x3_columns), (0, .ref a0), (1, .int p1)]) => ?_)
      obtain ⟨l42, el42, hf⟩ := bvf2 hf
      obtain ⟨y1_output_2, hz, hf⟩ := bd1_e hf
      have hE42 : ∀ (H : Heap) (locs : List Loc) (ls : Array Slot), va_P g.1 vwCl (w_X8_writeRow g a0 a1 a2 a3 a4 a5 a6 a7 a8 a9 u0_1 u0_2 u0_3 u0_4 u0_5 u0_6 u0_9 u2_2 u3_2 u3_5 u4_3 u4_4 u4_5 x0_outputLength y1_output_2 x3_rows x3_columns x4_count x4_reds y5_letterOn y6_namesOn y7_land y8_riverOf y9_home) H → va_D A (w_X8_writeRow g a0 a1 a2 a3 a4 a5 a6 a7 a8 a9 u0_1 u0_2 u0_3 u0_4 u0_5 u0_6 u0_9 u2_2 u3_2 u3_5 u4_3 u4_4 u4_5 x0_outputLength y1_output_2 x3_rows x3_columns x4_count x4_reds y5_letterOn y6_namesOn y7_land y8_riverOf y9_home) → va_S A s.heap H locs → lv_has ls 4 [(0, .ref a0), (2, .int x3_columns)] → W p l e (RM 4 89) s m args below meth c H locs 0 0 Q (F0 m 74 ls []) := by
        intro H locs ls hP hD hS hl
        refine lv_aload_n (pc := 74) hexec hb dX8_writeRow_74 rfl (lv_at hl 0 rfl) ?_
        refine lv_iload_n (pc := 75) hexec hb dX8_writeRow_75 rfl (lv_at hl 1 rfl) ?_
        refine kp_put (pc := 76) hexec hb (own := RX8) hWX8 tyX8 tyX8_ok nmX8 hown hG hP hD hS 0 rfl rfl 8 (nle rfl) (hts _ (List.mem_cons_of_mem _ (List.mem_append_left _ (List.mem_append_left _ (List.mem_append_left _ (List.mem_append_left _ (List.mem_append_left _ (List.mem_append_left _ (List.mem_of_getElem? (i := 4) rfl))))))))) rfl rfl rfl rfl (nle rfl) dX8_writeRow_76 (fun H locs (hP : va_P g.1 vwCl (w_X8_writeRow g a0 a1 a2 a3 a4 a5 a6 a7 a8 a9 u0_1 u0_2 u0_3 u0_4 u0_5 u0_6 u0_9 u2_2 u3_2 u3_5 u4_3 u4_4 u4_5 x3_columns y1_output_2 x3_rows x3_columns x4_count x4_reds y5_letterOn y6_namesOn y7_land y8_riverOf y9_home) H) (hD : va_D A (w_X8_writeRow g a0 a1 a2 a3 a4 a5 a6 a7 a8 a9 u0_1 u0_2 u0_3 u0_4 u0_5 u0_6 u0_9 u2_2 u3_2 u3_5 u4_3 u4_4 u4_5 x3_columns y1_output_2 x3_rows x3_columns x4_count x4_reds y5_letterOn y6_namesOn y7_land y8_riverOf y9_home)) hS => ?_)
        refine lv_aload_n (pc := 79) hexec hb dX8_writeRow_79 rfl (lv_at hl 0 rfl) ?_
        refine kg_get (pc := 80) hexec hb (own := RX8) hWX8 hown hG hP 0 rfl rfl 8 (nle rfl) (hts _ (List.mem_cons_of_mem _ (List.mem_append_left _ (List.mem_append_left _ (List.mem_append_left _ (List.mem_append_left _ (List.mem_append_left _ (List.mem_append_left _ (List.mem_of_getElem? (i := 4) rfl))))))))) rfl rfl dX8_writeRow_80 ?_
        cases hf
        exact ke_i hQ hexec hb hr hP hD hS dX8_writeRow_83 hlocks
      obtain ⟨n, hz⟩ := lq2_e hz
      have hL42 : ∀ (n : Nat) (v3 : Int32) (y1_output_1 : Nat → Int32) (H : Heap) (locs : List Loc) (ls : Array Slot), it2 l42 n v3 y1_output_1 = some y1_output_2 → va_P g.1 vwCl (w_X8_writeRow g a0 a1 a2 a3 a4 a5 a6 a7 a8 a9 u0_1 u0_2 u0_3 u0_4 u0_5 u0_6 u0_9 u2_2 u3_2 u3_5 u4_3 u4_4 u4_5 x0_outputLength y1_output_1 x3_rows x3_columns x4_count x4_reds y5_letterOn y6_namesOn y7_land y8_riverOf y9_home) H → va_D A (w_X8_writeRow g a0 a1 a2 a3 a4 a5 a6 a7 a8 a9 u0_1 u0_2 u0_3 u0_4 u0_5 u0_6 u0_9 u2_2 u3_2 u3_5 u4_3 u4_4 u4_5 x0_outputLength y1_output_1 x3_rows x3_columns x4_count x4_reds y5_letterOn y6_namesOn y7_land y8_riverOf y9_home) → va_S A s.heap H locs → lv_has ls 4 [(0, .ref a0), (1, .int p1), (2, .int x3_columns), (3, .int v3)] → W p l e (RM 4 89) s m args below meth c H locs 0 0 Q (F0 m 42 ls []) := by
        intro n
        induction n with
        | zero =>
          intro v3 y1_output_1 H locs ls hf hP hD hS hl
          exact it2_0 hf
        | succ n42 ih42 =>
          intro v3 y1_output_1 H locs ls hf hP hD hS hl
          obtain ⟨q42, hf, hk42⟩ := it2_e hf
          have hf := (el42 v3 y1_output_1).symm.trans hf
          refine lv_iload_n (pc := 42) hexec hb dX8_writeRow_42 rfl (lv_at hl 3 rfl) ?_
          refine lv_iload_n (pc := 43) hexec hb dX8_writeRow_43 rfl (lv_at hl 2 rfl) ?_
          refine ki_ge (pc := 44) hexec hb dX8_writeRow_44 (tgt := 74) rfl hf (fun hc hf => ?_) (fun hc hf => ?_)
          · cases sr2 hf hk42
            exact hE42 _ _ _ hP hD hS (lv_sub hl [0, 2] rfl)
          · refine lv_iload_n (pc := 47) hexec hb dX8_writeRow_47 rfl (lv_at hl 3 rfl) ?_
            refine lv_bipush (pc := 48) hexec hb dX8_writeRow_48 kb_12 ?_
            refine ki_ge (pc := 50) hexec hb dX8_writeRow_50 (tgt := 74) rfl hf (fun hc hf => ?_) (fun hc hf => ?_)
            · cases sr2 hf hk42
              exact hE42 _ _ _ hP hD hS (lv_sub hl [0, 2] rfl)
            · refine lv_aload_n (pc := 53) hexec hb dX8_writeRow_53 rfl (lv_at hl 0 rfl) ?_
              refine kg_get (pc := 54) hexec hb (own := RX8) hWX8 hown hG hP 0 rfl rfl 7 (nle rfl) (hts _ (List.mem_cons_of_mem _ (List.mem_append_left _ (List.mem_append_left _ (List.mem_append_left _ (List.mem_append_left _ (List.mem_append_left _ (List.mem_append_left _ (List.mem_of_getElem? (i := 3) rfl))))))))) rfl rfl dX8_writeRow_54 ?_
              refine lv_iload_n (pc := 57) hexec hb dX8_writeRow_57 rfl (lv_at hl 3 rfl) ?_
              refine lv_aload_n (pc := 58) hexec hb dX8_writeRow_58 rfl (lv_at hl 0 rfl) ?_
              refine lv_iload_n (pc := 59) hexec hb dX8_writeRow_59 rfl (lv_at hl 1 rfl) ?_
              refine lv_iload_n (pc := 60) hexec hb dX8_writeRow_60 rfl (lv_at hl 2 rfl) ?_
              refine lv_imul (pc := 61) hexec hb dX8_writeRow_61 ?_
              refine lv_iload_n (pc := 62) hexec hb dX8_writeRow_62 rfl (lv_at hl 3 rfl) ?_
              refine lv_iadd (pc := 63) hexec hb dX8_writeRow_63 ?_
              obtain ⟨r64, hc, hf⟩ := bd1_e hf
              refine kVp (pc := 64) (S := ⟨hexec, hb, hml, hown, hts⟩) hP hD hG hA hS [0, 2, 3, 4, 5, 6, 7, 8, 9] [1] [1, 0, 2, 3, 4, 5, 6, 7, 8, 9] (w2 := (w_X8_writeRow g a0 a1 a2 a3 a4 a5 a6 a7 a8 a9 u0_1 u0_2 u0_3 u0_4 u0_5 u0_6 u0_9 u2_2 u3_2 u3_5 u4_3 u4_4 u4_5 x0_outputLength y1_output_1 x3_rows x3_columns x4_count x4_reds y5_letterOn y6_namesOn y7_land y8_riverOf y9_home)) rfl rfl rfl rfl rfl rfl (by decide) (c_X8_signOf l g a0 a2 a3 a4 a5 a6 a7 a8 a9 _ u0_1 u0_2 u0_3 u0_4 u0_5 u0_6 (.ref a1) (.int x0_outputLength) u0_9 u2_2 (.int x3_rows) (.int x3_columns) u3_2 u3_5 u4_3 u4_4 u4_5 x4_count x4_reds y5_letterOn y6_namesOn y7_land y8_riverOf y9_home ((p1 * x3_columns) + v3) r64 hc) gX8_writeRow_X8_signOf rfl hv_X8_signOf ⟨nle rfl, nle rfl⟩ 8 0 rfl rfl rfl (rest := [.int v3, .ref a1]) rfl rfl hl.1 (nle rfl) dX8_writeRow_64 (fun H locs hP hD hS => ?_)
              refine kw_iast (pc := 67) hexec hb hG hP hD hS 1 rfl hf dX8_writeRow_67 (fun y1_output_3 H locs hf (hP : va_P g.1 vwCl (w_X8_writeRow g a0 a1 a2 a3 a4 a5 a6 a7 a8 a9 u0_1 u0_2 u0_3 u0_4 u0_5 u0_6 u0_9 u2_2 u3_2 u3_5 u4_3 u4_4 u4_5 x0_outputLength y1_output_3 x3_rows x3_columns x4_count x4_reds y5_letterOn y6_namesOn y7_land y8_riverOf y9_home) H) (hD : va_D A (w_X8_writeRow g a0 a1 a2 a3 a4 a5 a6 a7 a8 a9 u0_1 u0_2 u0_3 u0_4 u0_5 u0_6 u0_9 u2_2 u3_2 u3_5 u4_3 u4_4 u4_5 x0_outputLength y1_output_3 x3_rows x3_columns x4_count x4_reds y5_letterOn y6_namesOn y7_land y8_riverOf y9_home)) hS => ?_)
              obtain ⟨v3_1, ev3_1, hf⟩ := bv_e hf
              refine k_iinc (pc := 68) hexec hb dX8_writeRow_68 kq_1 hl (k := 3) rfl ev3_1 (nle rfl) rfl (fun ls (hl : lv_has ls 4 [(3, .int v3_1), (0, .ref a0), (1, .int p1), (2, .int x3_columns)]) => ?_)
              refine lv_goto (pc := 71) hexec hb dX8_writeRow_71 (tgt := 42) rfl ?_
              exact ih42 _ _ _ _ _ (sl2 hf hk42) hP hD hS (lv_sub hl [1, 2, 3, 0] rfl)
      exact hL42 n _ _ _ _ _ hz hP hD hS (lv_sub hl [2, 3, 1, 0] rfl)
    · exact hj18 _ _ _ _ hf hP hD hS (lv_sub hl [] rfl)
abbrev w_X8_outputByte (g : GE) (a0 a1 : Nat) (u0_0 u0_1 u0_2 u0_3 u0_4 u0_5 u0_6 u0_9 : Value) (x0_outputLength : Int32) (y1_output : Nat → Int32) : va_W := [(a0, .inr (8, [u0_0, u0_1, u0_2, u0_3, u0_4, u0_5, u0_6, .ref a1, .int x0_outputLength, u0_9])), (a1, .inl (g.2.1 0, 12, .inl y1_output))]
set_option maxRecDepth 20000 in
theorem c_X8_outputByte (l : Launch) (g : GE) (a0 a1 : Nat) (sz : Nat) (u0_0 u0_1 u0_2 u0_3 u0_4 u0_5 u0_6 u0_9 : Value) (x0_outputLength : Int32) (y1_output : Nat → Int32) (p1 : Int32)  (r : Int32) (hf : f_X8_outputByte x0_outputLength y1_output p1 = some r) : MI l g yX8_outputByte wsX8_outputByte 1 24 [.ref a0, .int p1] (w_X8_outputByte g a0 a1 u0_0 u0_1 u0_2 u0_3 u0_4 u0_5 u0_6 u0_9 x0_outputLength y1_output) sz (some (.int r)) (w_X8_outputByte g a0 a1 u0_0 u0_1 u0_2 u0_3 u0_4 u0_5 u0_6 u0_9 x0_outputLength y1_output) := by
  refine MI.start (cc := cX8_outputByte) (maxL := 2) (ret := (some .int)) rfl rfl (nle rfl) ?_
  intro p e s m args below meth c A ls Q hQ hexec hb hr hts hown hlocks hml hA hP hD hG hS hl
  unfold f_X8_outputByte at hf
  have hWX8 : ∀ w ∈ wsX80, w.before args s = true := fun w h => hts w (List.mem_cons_of_mem _ (List.mem_append_right _ h))
  have hS : va_S A s.heap s.heap [] := hS
  refine lv_iload_n (pc := 0) hexec hb dX8_outputByte_0 rfl (lv_at hl 1 rfl) ?_
  obtain ⟨j27, ej27, hf⟩ := bvf1 hf
  have hj27 : ∀ (u : Unit) (H : Heap) (locs : List Loc) (ls : Array Slot), j27 u = some r → va_P g.1 vwCl (w_X8_outputByte g a0 a1 u0_0 u0_1 u0_2 u0_3 u0_4 u0_5 u0_6 u0_9 x0_outputLength y1_output) H → va_D A (w_X8_outputByte g a0 a1 u0_0 u0_1 u0_2 u0_3 u0_4 u0_5 u0_6 u0_9 x0_outputLength y1_output) → va_S A s.heap H locs → lv_has ls 2 [] → W p l e (RM 1 24) s m args below meth c H locs 0 0 Q (F0 m 27 ls []) := by
    intro u H locs ls hf hP hD hS hl
    have hf := (ej27 u).symm.trans hf
    refine lv_iconst (pc := 27) hexec hb dX8_outputByte_27 ki_m1 ?_
    cases hf
    exact ke_i hQ hexec hb hr hP hD hS dX8_outputByte_28 hlocks
  refine kb_lt (pc := 1) hexec hb dX8_outputByte_1 (tgt := 27) rfl hf (fun hc hf => ?_) (fun hc hf => ?_)
  · exact hj27 _ _ _ _ hf hP hD hS (lv_sub hl [] rfl)
  · refine lv_iload_n (pc := 4) hexec hb dX8_outputByte_4 rfl (lv_at hl 1 rfl) ?_
    refine lv_aload_n (pc := 5) hexec hb dX8_outputByte_5 rfl (lv_at hl 0 rfl) ?_
    refine kg_get (pc := 6) hexec hb (own := RX8) hWX8 hown hG hP 0 rfl rfl 8 (nle rfl) (hts _ (List.mem_cons_of_mem _ (List.mem_append_left _ (List.mem_of_getElem? (i := 0) rfl)))) rfl rfl dX8_outputByte_6 ?_
    refine ki_ge (pc := 9) hexec hb dX8_outputByte_9 (tgt := 27) rfl hf (fun hc hf => ?_) (fun hc hf => ?_)
    · exact hj27 _ _ _ _ hf hP hD hS (lv_sub hl [] rfl)
    · refine lv_iload_n (pc := 12) hexec hb dX8_outputByte_12 rfl (lv_at hl 1 rfl) ?_
      refine lv_bipush (pc := 13) hexec hb dX8_outputByte_13 kb_12 ?_
      refine ki_ge (pc := 15) hexec hb dX8_outputByte_15 (tgt := 27) rfl hf (fun hc hf => ?_) (fun hc hf => ?_)
      · exact hj27 _ _ _ _ hf hP hD hS (lv_sub hl [] rfl)
      · refine lv_aload_n (pc := 18) hexec hb dX8_outputByte_18 rfl (lv_at hl 0 rfl) ?_
        refine kg_get (pc := 19) hexec hb (own := RX8) hWX8 hown hG hP 0 rfl rfl 7 (nle rfl) (hts _ (List.mem_cons_of_mem _ (List.mem_append_left _ (List.mem_of_getElem? (i := 1) rfl)))) rfl rfl dX8_outputByte_19 ?_
        refine lv_iload_n (pc := 22) hexec hb dX8_outputByte_22 rfl (lv_at hl 1 rfl) ?_
        refine kr_iald (pc := 23) hexec hb hG hP 1 rfl hf dX8_outputByte_23 (fun hf => ?_)
        refine lv_goto (pc := 24) hexec hb dX8_outputByte_24 (tgt := 28) rfl ?_
        cases hf
        exact ke_i hQ hexec hb hr hP hD hS dX8_outputByte_28 hlocks
abbrev w_X8_needSlot (g : GE) : va_W := []
set_option maxRecDepth 20000 in
theorem c_X8_needSlot (l : Launch) (g : GE) (sz : Nat)  (p0 : Int32)  (hf : f_X8_needSlot p0 = some ()) : MI l g yX8_needSlot wsX8_needSlot 1 24 [.int p0] (w_X8_needSlot g ) sz none (w_X8_needSlot g ) := by
  refine MI.start (cc := cX8_needSlot) (maxL := 1) (ret := none) rfl rfl (nle rfl) ?_
  intro p e s m args below meth c A ls Q hQ hexec hb hr hts hown hlocks hml hA hP hD hG hS hl
  unfold f_X8_needSlot at hf
  have hS : va_S A s.heap s.heap [] := hS
  refine lv_iload_n (pc := 0) hexec hb dX8_needSlot_0 rfl (lv_at hl 0 rfl) ?_
  obtain ⟨j9, ej9, hf⟩ := bvf1 hf
  have hj9 : ∀ (u : Unit) (H : Heap) (locs : List Loc) (ls : Array Slot), j9 u = some () → va_P g.1 vwCl (w_X8_needSlot g ) H → va_D A (w_X8_needSlot g ) → va_S A s.heap H locs → lv_has ls 1 [] → W p l e (RM 1 24) s m args below meth c H locs 0 0 Q (F0 m 9 ls []) := by
    intro u H locs ls hf hP hD hS hl
    have hf := (ej9 u).symm.trans hf
    cases hf
  refine kb_lt (pc := 1) hexec hb dX8_needSlot_1 (tgt := 9) rfl hf (fun hc hf => ?_) (fun hc hf => ?_)
  · exact hj9 _ _ _ _ hf hP hD hS (lv_sub hl [] rfl)
  · refine lv_iload_n (pc := 4) hexec hb dX8_needSlot_4 rfl (lv_at hl 0 rfl) ?_
    refine lv_iconst (pc := 5) hexec hb dX8_needSlot_5 ki_2 ?_
    refine ki_lt (pc := 6) hexec hb dX8_needSlot_6 (tgt := 20) rfl hf (fun hc hf => ?_) (fun hc hf => ?_)
    · cases hf
      exact ke_v hQ hexec hb hr hP hD hS dX8_needSlot_20 hlocks
    · exact hj9 _ _ _ _ hf hP hD hS (lv_sub hl [] rfl)
