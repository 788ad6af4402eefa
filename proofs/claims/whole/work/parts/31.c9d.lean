abbrev w_X9_tries (g : GE) (a0 a1 a2 a3 a4 a5 a6 : Nat) (u0_1 u0_2 u0_3 u0_4 u0_5 u0_6 u0_7 u0_8 u0_9 u0_10 u0_19 u0_20 u0_21 u0_22 u0_23 u0_24 u0_25 u0_26 u0_27 u0_28 u0_29 u0_30 : Value) (x0_bestReds : Int32) (x0_bestPlaced : Int32) (x0_bestTurning : Int32) (y1_against : Nat → Int32) (y2_best : Nat → Int32) (y3_may : Nat → Int32) (y4_redThen : Nat → Int32) (y5_s : Nat → Int32) (y6_ways : Nat → Int32) : va_W := [(a0, .inr (9, [.ref a5, u0_1, u0_2, u0_3, u0_4, u0_5, u0_6, u0_7, u0_8, u0_9, u0_10, .ref a6, .ref a2, .int x0_bestReds, .int x0_bestPlaced, .int x0_bestTurning, .ref a4, .ref a3, .ref a1, u0_19, u0_20, u0_21, u0_22, u0_23, u0_24, u0_25, u0_26, u0_27, u0_28, u0_29, u0_30])), (a1, .inl (g.2.1 1, 1024, .inl y1_against)), (a2, .inl (g.2.1 0, 8, .inl y2_best)), (a3, .inl (g.2.1 1, 32, .inl y3_may)), (a4, .inl (g.2.1 1, 8, .inl y4_redThen)), (a5, .inl (g.2.1 0, 552, .inl y5_s)), (a6, .inl (g.2.1 0, 8, .inl y6_ways))]
set_option maxRecDepth 20000 in
theorem c_X9_tries (l : Launch) (g : GE) : ∀ (d : Nat)  (a0 a1 a2 a3 a4 a5 a6 : Nat) (sz : Nat) (u0_1 u0_2 u0_3 u0_4 u0_5 u0_6 u0_7 u0_8 u0_9 u0_10 u0_19 u0_20 u0_21 u0_22 u0_23 u0_24 u0_25 u0_26 u0_27 u0_28 u0_29 u0_30 : Value) (x0_bestReds : Int32) (x0_bestPlaced : Int32) (x0_bestTurning : Int32) (y1_against : Nat → Int32) (y2_best : Nat → Int32) (y3_may : Nat → Int32) (y4_redThen : Nat → Int32) (y5_s : Nat → Int32) (y6_ways : Nat → Int32) (p1 : Int32) (p2 : Int32) (p3 : Int32)  (o_x0_bestReds : Int32) (o_x0_bestPlaced : Int32) (o_x0_bestTurning : Int32) (o_y2_best : Nat → Int32) (o_y6_ways : Nat → Int32) (hf : f_X9_tries d x0_bestReds x0_bestPlaced x0_bestTurning y1_against y2_best y3_may y4_redThen y5_s y6_ways p1 p2 p3 = some (o_x0_bestReds, o_x0_bestPlaced, o_x0_bestTurning, o_y2_best, o_y6_ways)), MI l g yX9_tries wsX9_tries (4 + d) (95 + d * 24) [.ref a0, .int p1, .int p2, .int p3] (w_X9_tries g a0 a1 a2 a3 a4 a5 a6 u0_1 u0_2 u0_3 u0_4 u0_5 u0_6 u0_7 u0_8 u0_9 u0_10 u0_19 u0_20 u0_21 u0_22 u0_23 u0_24 u0_25 u0_26 u0_27 u0_28 u0_29 u0_30 x0_bestReds x0_bestPlaced x0_bestTurning y1_against y2_best y3_may y4_redThen y5_s y6_ways) sz none (w_X9_tries g a0 a1 a2 a3 a4 a5 a6 u0_1 u0_2 u0_3 u0_4 u0_5 u0_6 u0_7 u0_8 u0_9 u0_10 u0_19 u0_20 u0_21 u0_22 u0_23 u0_24 u0_25 u0_26 u0_27 u0_28 u0_29 u0_30 o_x0_bestReds o_x0_bestPlaced o_x0_bestTurning y1_against o_y2_best y3_may y4_redThen y5_s o_y6_ways) := by
  intro d
  induction d with
  | zero => intro a0 a1 a2 a3 a4 a5 a6 sz u0_1 u0_2 u0_3 u0_4 u0_5 u0_6 u0_7 u0_8 u0_9 u0_10 u0_19 u0_20 u0_21 u0_22 u0_23 u0_24 u0_25 u0_26 u0_27 u0_28 u0_29 u0_30 x0_bestReds x0_bestPlaced x0_bestTurning y1_against y2_best y3_may y4_redThen y5_s y6_ways p1 p2 p3 o_x0_bestReds o_x0_bestPlaced o_x0_bestTurning o_y2_best o_y6_ways hf; unfold f_X9_tries at hf; cases hf
  | succ d ih =>
  intro a0 a1 a2 a3 a4 a5 a6 sz u0_1 u0_2 u0_3 u0_4 u0_5 u0_6 u0_7 u0_8 u0_9 u0_10 u0_19 u0_20 u0_21 u0_22 u0_23 u0_24 u0_25 u0_26 u0_27 u0_28 u0_29 u0_30 x0_bestReds x0_bestPlaced x0_bestTurning y1_against y2_best y3_may y4_redThen y5_s y6_ways p1 p2 p3 o_x0_bestReds o_x0_bestPlaced o_x0_bestTurning o_y2_best o_y6_ways hf
  refine MI.start (cc := cX9_tries) (maxL := 5) (ret := none) rfl rfl (nle rfl) ?_
  intro p e s m args below meth c A ls Q hQ hexec hb hr hts hown hlocks hml hA hP hD hG hS hl
  unfold f_X9_tries at hf
  have hWX9 : ∀ w ∈ wsX90, w.before args s = true := fun w h => hts w (List.mem_cons_of_mem _ (List.mem_append_right _ h))
  have hS : va_S A s.heap s.heap [] := hS
  refine lv_iload_n (pc := 0) hexec hb dX9_tries_0 rfl (lv_at hl 1 rfl) ?_
  refine lv_aload_n (pc := 1) hexec hb dX9_tries_1 rfl (lv_at hl 0 rfl) ?_
  refine kg_get (pc := 2) hexec hb (own := RX9) hWX9 hown hG hP 0 rfl rfl 0 (nle rfl) (hts _ (List.mem_cons_of_mem _ (List.mem_append_left _ (List.mem_append_left _ (List.mem_of_getElem? (i := 0) rfl))))) rfl rfl dX9_tries_2 ?_
  refine lv_iconst (pc := 5) hexec hb dX9_tries_5 ki_2 ?_
  refine kr_iald (pc := 6) hexec hb hG hP 5 rfl hf dX9_tries_6 (fun hf => ?_)
  refine ki_ne (pc := 7) hexec hb dX9_tries_7 (tgt := 17) rfl hf (fun hc hf => ?_) (fun hc hf => ?_)
  · refine lv_iconst (pc := 17) hexec hb dX9_tries_17 ki_0 ?_
    refine lv_istore (pc := 18) hexec hb dX9_tries_18 hl (nle rfl) rfl (fun ls (hl : lv_has ls 5 [(4, .int 0), (0, .ref a0), (1, .int p1), (2, .int p2), (3, .int p3)]) => ?_)
    obtain ⟨l20, el20, hf⟩ := bvf6 hf
    obtain ⟨x0_bestReds_2, x0_bestPlaced_2, x0_bestTurning_2, y2_best_2, y6_ways_2, hz, hf⟩ := bd5_e hf
    have hE20 : ∀ (H : Heap) (locs : List Loc) (ls : Array Slot), va_P g.1 vwCl (w_X9_tries g a0 a1 a2 a3 a4 a5 a6 u0_1 u0_2 u0_3 u0_4 u0_5 u0_6 u0_7 u0_8 u0_9 u0_10 u0_19 u0_20 u0_21 u0_22 u0_23 u0_24 u0_25 u0_26 u0_27 u0_28 u0_29 u0_30 x0_bestReds_2 x0_bestPlaced_2 x0_bestTurning_2 y1_against y2_best_2 y3_may y4_redThen y5_s y6_ways_2) H → va_D A (w_X9_tries g a0 a1 a2 a3 a4 a5 a6 u0_1 u0_2 u0_3 u0_4 u0_5 u0_6 u0_7 u0_8 u0_9 u0_10 u0_19 u0_20 u0_21 u0_22 u0_23 u0_24 u0_25 u0_26 u0_27 u0_28 u0_29 u0_30 x0_bestReds_2 x0_bestPlaced_2 x0_bestTurning_2 y1_against y2_best_2 y3_may y4_redThen y5_s y6_ways_2) → va_S A s.heap H locs → lv_has ls 5 [(0, .ref a0), (1, .int p1), (2, .int p2), (3, .int p3)] → W p l e (RM (4 + (d + 1)) (95 + (d + 1) * 24)) s m args below meth c H locs 0 0 Q (F0 m 76 ls []) := by
      intro H locs ls hP hD hS hl
      refine lv_aload_n (pc := 76) hexec hb dX9_tries_76 rfl (lv_at hl 0 rfl) ?_
      refine kg_get (pc := 77) hexec hb (own := RX9) hWX9 hown hG hP 0 rfl rfl 11 (nle rfl) (hts _ (List.mem_cons_of_mem _ (List.mem_append_left _ (List.mem_append_left _ (List.mem_of_getElem? (i := 1) rfl))))) rfl rfl dX9_tries_77 ?_
      refine lv_iload_n (pc := 80) hexec hb dX9_tries_80 rfl (lv_at hl 1 rfl) ?_
      refine lv_iconst (pc := 81) hexec hb dX9_tries_81 ki_m1 ?_
      refine kw_iast (pc := 82) hexec hb hG hP hD hS 6 rfl hf dX9_tries_82 (fun y6_ways_6 H locs hf (hP : va_P g.1 vwCl (w_X9_tries g a0 a1 a2 a3 a4 a5 a6 u0_1 u0_2 u0_3 u0_4 u0_5 u0_6 u0_7 u0_8 u0_9 u0_10 u0_19 u0_20 u0_21 u0_22 u0_23 u0_24 u0_25 u0_26 u0_27 u0_28 u0_29 u0_30 x0_bestReds_2 x0_bestPlaced_2 x0_bestTurning_2 y1_against y2_best_2 y3_may y4_redThen y5_s y6_ways_6) H) (hD : va_D A (w_X9_tries g a0 a1 a2 a3 a4 a5 a6 u0_1 u0_2 u0_3 u0_4 u0_5 u0_6 u0_7 u0_8 u0_9 u0_10 u0_19 u0_20 u0_21 u0_22 u0_23 u0_24 u0_25 u0_26 u0_27 u0_28 u0_29 u0_30 x0_bestReds_2 x0_bestPlaced_2 x0_bestTurning_2 y1_against y2_best_2 y3_may y4_redThen y5_s y6_ways_6)) hS => ?_)
      refine lv_aload_n (pc := 83) hexec hb dX9_tries_83 rfl (lv_at hl 0 rfl) ?_
      refine lv_iload_n (pc := 84) hexec hb dX9_tries_84 rfl (lv_at hl 1 rfl) ?_
      refine lv_iconst (pc := 85) hexec hb dX9_tries_85 ki_1 ?_
      refine lv_iadd (pc := 86) hexec hb dX9_tries_86 ?_
      refine lv_iload_n (pc := 87) hexec hb dX9_tries_87 rfl (lv_at hl 2 rfl) ?_
      refine lv_iload_n (pc := 88) hexec hb dX9_tries_88 rfl (lv_at hl 3 rfl) ?_
      obtain ⟨x0_bestReds_5, x0_bestPlaced_5, x0_bestTurning_5, y2_best_5, y6_ways_7, hc, hf⟩ := bd5_e hf
      refine kVp (pc := 89) (S := ⟨hexec, hb, hml, hown, hts⟩) hP hD hG hA hS [0, 1, 2, 3, 4, 5, 6] [] [0, 1, 2, 3, 4, 5, 6] (w2 := (w_X9_tries g a0 a1 a2 a3 a4 a5 a6 u0_1 u0_2 u0_3 u0_4 u0_5 u0_6 u0_7 u0_8 u0_9 u0_10 u0_19 u0_20 u0_21 u0_22 u0_23 u0_24 u0_25 u0_26 u0_27 u0_28 u0_29 u0_30 x0_bestReds_5 x0_bestPlaced_5 x0_bestTurning_5 y1_against y2_best_5 y3_may y4_redThen y5_s y6_ways_7)) rfl rfl rfl rfl rfl rfl (by decide) (ih a0 a1 a2 a3 a4 a5 a6 _ u0_1 u0_2 u0_3 u0_4 u0_5 u0_6 u0_7 u0_8 u0_9 u0_10 u0_19 u0_20 u0_21 u0_22 u0_23 u0_24 u0_25 u0_26 u0_27 u0_28 u0_29 u0_30 x0_bestReds_2 x0_bestPlaced_2 x0_bestTurning_2 y1_against y2_best_2 y3_may y4_redThen y5_s y6_ways_6 (p1 + 1) p2 p3 x0_bestReds_5 x0_bestPlaced_5 x0_bestTurning_5 y2_best_5 y6_ways_7 hc) gX9_tries_X9_tries rfl hv_X9_tries ⟨by dsimp only [RM]; omega, by dsimp only [RM]; omega⟩ 9 0 rfl rfl rfl (rest := []) rfl rfl hl.1 (nle rfl) dX9_tries_89 (fun H locs hP hD hS => ?_)
      cases hf
      exact ke_v hQ hexec hb hr hP hD hS dX9_tries_92 hlocks
    obtain ⟨n, hz⟩ := lq6_e hz
    have hL20 : ∀ (n : Nat) (v4 : Int32) (x0_bestReds_1 : Int32) (x0_bestPlaced_1 : Int32) (x0_bestTurning_1 : Int32) (y2_best_1 : Nat → Int32) (y6_ways_1 : Nat → Int32) (H : Heap) (locs : List Loc) (ls : Array Slot), it6 l20 n v4 x0_bestReds_1 x0_bestPlaced_1 x0_bestTurning_1 y2_best_1 y6_ways_1 = some (x0_bestReds_2, x0_bestPlaced_2, x0_bestTurning_2, y2_best_2, y6_ways_2) → va_P g.1 vwCl (w_X9_tries g a0 a1 a2 a3 a4 a5 a6 u0_1 u0_2 u0_3 u0_4 u0_5 u0_6 u0_7 u0_8 u0_9 u0_10 u0_19 u0_20 u0_21 u0_22 u0_23 u0_24 u0_25 u0_26 u0_27 u0_28 u0_29 u0_30 x0_bestReds_1 x0_bestPlaced_1 x0_bestTurning_1 y1_against y2_best_1 y3_may y4_redThen y5_s y6_ways_1) H → va_D A (w_X9_tries g a0 a1 a2 a3 a4 a5 a6 u0_1 u0_2 u0_3 u0_4 u0_5 u0_6 u0_7 u0_8 u0_9 u0_10 u0_19 u0_20 u0_21 u0_22 u0_23 u0_24 u0_25 u0_26 u0_27 u0_28 u0_29 u0_30 x0_bestReds_1 x0_bestPlaced_1 x0_bestTurning_1 y1_against y2_best_1 y3_may y4_redThen y5_s y6_ways_1) → va_S A s.heap H locs → lv_has ls 5 [(0, .ref a0), (1, .int p1), (2, .int p2), (3, .int p3), (4, .int v4)] → W p l e (RM (4 + (d + 1)) (95 + (d + 1) * 24)) s m args below meth c H locs 0 0 Q (F0 m 20 ls []) := by
      intro n
      induction n with
      | zero =>
        intro v4 x0_bestReds_1 x0_bestPlaced_1 x0_bestTurning_1 y2_best_1 y6_ways_1 H locs ls hf hP hD hS hl
        exact it6_0 hf
      | succ n20 ih20 =>
        intro v4 x0_bestReds_1 x0_bestPlaced_1 x0_bestTurning_1 y2_best_1 y6_ways_1 H locs ls hf hP hD hS hl
        obtain ⟨q20, hf, hk20⟩ := it6_e hf
        have hf := (el20 v4 x0_bestReds_1 x0_bestPlaced_1 x0_bestTurning_1 y2_best_1 y6_ways_1).symm.trans hf
        refine lv_iload (pc := 20) hexec hb dX9_tries_20 (lv_at hl 4 rfl) ?_
        refine lv_iconst (pc := 22) hexec hb dX9_tries_22 ki_4 ?_
        refine ki_ge (pc := 23) hexec hb dX9_tries_23 (tgt := 76) rfl hf (fun hc hf => ?_) (fun hc hf => ?_)
        · cases sr6 hf hk20
          exact hE20 _ _ _ hP hD hS (lv_sub hl [0, 1, 2, 3] rfl)
        · refine lv_aload_n (pc := 26) hexec hb dX9_tries_26 rfl (lv_at hl 0 rfl) ?_
          refine lv_iload_n (pc := 27) hexec hb dX9_tries_27 rfl (lv_at hl 1 rfl) ?_
          refine lv_iload (pc := 28) hexec hb dX9_tries_28 (lv_at hl 4 rfl) ?_
          obtain ⟨r30, hc, hf⟩ := bd1_e hf
          refine kVp (pc := 30) (S := ⟨hexec, hb, hml, hown, hts⟩) hP hD hG hA hS [0, 1, 3, 6] [2, 4, 5] [3, 4, 0, 5, 1, 2, 6] (w2 := (w_X9_tries g a0 a1 a2 a3 a4 a5 a6 u0_1 u0_2 u0_3 u0_4 u0_5 u0_6 u0_7 u0_8 u0_9 u0_10 u0_19 u0_20 u0_21 u0_22 u0_23 u0_24 u0_25 u0_26 u0_27 u0_28 u0_29 u0_30 x0_bestReds_1 x0_bestPlaced_1 x0_bestTurning_1 y1_against y2_best_1 y3_may y4_redThen y5_s y6_ways_1)) rfl rfl rfl rfl rfl rfl (by decide) (c_X9_canLie l g a0 a1 a3 a6 _ (.ref a5) u0_1 u0_2 u0_3 u0_4 u0_5 u0_6 u0_7 u0_8 u0_9 u0_10 (.ref a2) (.int x0_bestReds_1) (.int x0_bestPlaced_1) (.int x0_bestTurning_1) (.ref a4) u0_19 u0_20 u0_21 u0_22 u0_23 u0_24 u0_25 u0_26 u0_27 u0_28 u0_29 u0_30 y1_against y3_may y6_ways_1 p1 v4 r30 hc) gX9_tries_X9_canLie rfl hv_X9_canLie ⟨by dsimp only [RM]; omega, by dsimp only [RM]; omega⟩ 9 0 rfl rfl rfl (rest := []) rfl rfl hl.1 (nle rfl) dX9_tries_30 (fun H locs hP hD hS => ?_)
          obtain ⟨j70, ej70, hf⟩ := bvf5 hf
          have hj70 : ∀ (x0_bestReds_3 : Int32) (x0_bestPlaced_3 : Int32) (x0_bestTurning_3 : Int32) (y2_best_3 : Nat → Int32) (y6_ways_3 : Nat → Int32) (H : Heap) (locs : List Loc) (ls : Array Slot), j70 x0_bestReds_3 x0_bestPlaced_3 x0_bestTurning_3 y2_best_3 y6_ways_3 = some q20 → va_P g.1 vwCl (w_X9_tries g a0 a1 a2 a3 a4 a5 a6 u0_1 u0_2 u0_3 u0_4 u0_5 u0_6 u0_7 u0_8 u0_9 u0_10 u0_19 u0_20 u0_21 u0_22 u0_23 u0_24 u0_25 u0_26 u0_27 u0_28 u0_29 u0_30 x0_bestReds_3 x0_bestPlaced_3 x0_bestTurning_3 y1_against y2_best_3 y3_may y4_redThen y5_s y6_ways_3) H → va_D A (w_X9_tries g a0 a1 a2 a3 a4 a5 a6 u0_1 u0_2 u0_3 u0_4 u0_5 u0_6 u0_7 u0_8 u0_9 u0_10 u0_19 u0_20 u0_21 u0_22 u0_23 u0_24 u0_25 u0_26 u0_27 u0_28 u0_29 u0_30 x0_bestReds_3 x0_bestPlaced_3 x0_bestTurning_3 y1_against y2_best_3 y3_may y4_redThen y5_s y6_ways_3) → va_S A s.heap H locs → lv_has ls 5 [(0, .ref a0), (1, .int p1), (2, .int p2), (3, .int p3), (4, .int v4)] → W p l e (RM (4 + (d + 1)) (95 + (d + 1) * 24)) s m args below meth c H locs 0 0 Q (F0 m 70 ls []) := by
            intro x0_bestReds_3 x0_bestPlaced_3 x0_bestTurning_3 y2_best_3 y6_ways_3 H locs ls hf hP hD hS hl
            have hf := (ej70 x0_bestReds_3 x0_bestPlaced_3 x0_bestTurning_3 y2_best_3 y6_ways_3).symm.trans hf
            obtain ⟨v4_1, ev4_1, hf⟩ := bv_e hf
            refine k_iinc (pc := 70) hexec hb dX9_tries_70 kq_1 hl (k := 4) rfl ev4_1 (nle rfl) rfl (fun ls (hl : lv_has ls 5 [(4, .int v4_1), (0, .ref a0), (1, .int p1), (2, .int p2), (3, .int p3)]) => ?_)
            refine lv_goto (pc := 73) hexec hb dX9_tries_73 (tgt := 20) rfl ?_
            exact ih20 _ _ _ _ _ _ _ _ _ (sl6 hf hk20) hP hD hS (lv_sub hl [1, 2, 3, 4, 0] rfl)
          refine kb_eq (pc := 33) hexec hb dX9_tries_33 (tgt := 70) rfl hf (fun hc hf => ?_) (fun hc hf => ?_)
          · exact hj70 _ _ _ _ _ _ _ _ hf hP hD hS (lv_sub hl [0, 1, 2, 3, 4] rfl)
          · refine lv_aload_n (pc := 36) hexec hb dX9_tries_36 rfl (lv_at hl 0 rfl) ?_
            refine kg_get (pc := 37) hexec hb (own := RX9) hWX9 hown hG hP 0 rfl rfl 11 (nle rfl) (hts _ (List.mem_cons_of_mem _ (List.mem_append_left _ (List.mem_append_left _ (List.mem_of_getElem? (i := 1) rfl))))) rfl rfl dX9_tries_37 ?_
            refine lv_iload_n (pc := 40) hexec hb dX9_tries_40 rfl (lv_at hl 1 rfl) ?_
            refine lv_iload (pc := 41) hexec hb dX9_tries_41 (lv_at hl 4 rfl) ?_
            refine kw_iast (pc := 43) hexec hb hG hP hD hS 6 rfl hf dX9_tries_43 (fun y6_ways_4 H locs hf (hP : va_P g.1 vwCl (w_X9_tries g a0 a1 a2 a3 a4 a5 a6 u0_1 u0_2 u0_3 u0_4 u0_5 u0_6 u0_7 u0_8 u0_9 u0_10 u0_19 u0_20 u0_21 u0_22 u0_23 u0_24 u0_25 u0_26 u0_27 u0_28 u0_29 u0_30 x0_bestReds_1 x0_bestPlaced_1 x0_bestTurning_1 y1_against y2_best_1 y3_may y4_redThen y5_s y6_ways_4) H) (hD : va_D A (w_X9_tries g a0 a1 a2 a3 a4 a5 a6 u0_1 u0_2 u0_3 u0_4 u0_5 u0_6 u0_7 u0_8 u0_9 u0_10 u0_19 u0_20 u0_21 u0_22 u0_23 u0_24 u0_25 u0_26 u0_27 u0_28 u0_29 u0_30 x0_bestReds_1 x0_bestPlaced_1 x0_bestTurning_1 y1_against y2_best_1 y3_may y4_redThen y5_s y6_ways_4)) hS => ?_)
            refine lv_aload_n (pc := 44) hexec hb dX9_tries_44 rfl (lv_at hl 0 rfl) ?_
            refine lv_iload_n (pc := 45) hexec hb dX9_tries_45 rfl (lv_at hl 1 rfl) ?_
            refine lv_iconst (pc := 46) hexec hb dX9_tries_46 ki_1 ?_
            refine lv_iadd (pc := 47) hexec hb dX9_tries_47 ?_
            refine lv_iload_n (pc := 48) hexec hb dX9_tries_48 rfl (lv_at hl 2 rfl) ?_
            refine lv_iconst (pc := 49) hexec hb dX9_tries_49 ki_1 ?_
            refine lv_iadd (pc := 50) hexec hb dX9_tries_50 ?_
            refine lv_iload_n (pc := 51) hexec hb dX9_tries_51 rfl (lv_at hl 3 rfl) ?_
            refine lv_aload_n (pc := 52) hexec hb dX9_tries_52 rfl (lv_at hl 0 rfl) ?_
            refine kg_get (pc := 53) hexec hb (own := RX9) hWX9 hown hG hP 0 rfl rfl 16 (nle rfl) (hts _ (List.mem_cons_of_mem _ (List.mem_append_left _ (List.mem_append_left _ (List.mem_of_getElem? (i := 2) rfl))))) rfl rfl dX9_tries_53 ?_
            refine lv_iload_n (pc := 56) hexec hb dX9_tries_56 rfl (lv_at hl 1 rfl) ?_
            refine kr_zald (pc := 57) hexec hb hG hP 4 rfl hf dX9_tries_57 (fun hf => ?_)
            obtain ⟨j66, ej66, hf⟩ := bvf1 hf
            have hj66 : ∀ (t66 : Int32) (H : Heap) (locs : List Loc) (ls : Array Slot), j66 t66 = some q20 → va_P g.1 vwCl (w_X9_tries g a0 a1 a2 a3 a4 a5 a6 u0_1 u0_2 u0_3 u0_4 u0_5 u0_6 u0_7 u0_8 u0_9 u0_10 u0_19 u0_20 u0_21 u0_22 u0_23 u0_24 u0_25 u0_26 u0_27 u0_28 u0_29 u0_30 x0_bestReds_1 x0_bestPlaced_1 x0_bestTurning_1 y1_against y2_best_1 y3_may y4_redThen y5_s y6_ways_4) H → va_D A (w_X9_tries g a0 a1 a2 a3 a4 a5 a6 u0_1 u0_2 u0_3 u0_4 u0_5 u0_6 u0_7 u0_8 u0_9 u0_10 u0_19 u0_20 u0_21 u0_22 u0_23 u0_24 u0_25 u0_26 u0_27 u0_28 u0_29 u0_30 x0_bestReds_1 x0_bestPlaced_1 x0_bestTurning_1 y1_against y2_best_1 y3_may y4_redThen y5_s y6_ways_4) → va_S A s.heap H locs → lv_has ls 5 [(0, .ref a0), (1, .int p1), (2, .int p2), (3, .int p3), (4, .int v4)] → W p l e (RM (4 + (d + 1)) (95 + (d + 1) * 24)) s m args below meth c H locs 0 0 Q (F0 m 66 ls [.int t66, .int p3, .int (p2 + 1), .int (p1 + 1), .ref a0]) := by
              intro t66 H locs ls hf hP hD hS hl
              have hf := (ej66 t66).symm.trans hf
              refine lv_iadd (pc := 66) hexec hb dX9_tries_66 ?_
              obtain ⟨x0_bestReds_4, x0_bestPlaced_4, x0_bestTurning_4, y2_best_4, y6_ways_5, hc, hf⟩ := bd5_e hf
              refine kVp (pc := 67) (S := ⟨hexec, hb, hml, hown, hts⟩) hP hD hG hA hS [0, 1, 2, 3, 4, 5, 6] [] [0, 1, 2, 3, 4, 5, 6] (w2 := (w_X9_tries g a0 a1 a2 a3 a4 a5 a6 u0_1 u0_2 u0_3 u0_4 u0_5 u0_6 u0_7 u0_8 u0_9 u0_10 u0_19 u0_20 u0_21 u0_22 u0_23 u0_24 u0_25 u0_26 u0_27 u0_28 u0_29 u0_30 x0_bestReds_4 x0_bestPlaced_4 x0_bestTurning_4 y1_against y2_best_4 y3_may y4_redThen y5_s y6_ways_5)) rfl rfl rfl rfl rfl rfl (by decide) (ih a0 a1 a2 a3 a4 a5 a6 _ u0_1 u0_2 u0_3 u0_4 u0_5 u0_6 u0_7 u0_8 u0_9 u0_10 u0_19 u0_20 u0_21 u0_22 u0_23 u0_24 u0_25 u0_26 u0_27 u0_28 u0_29 u0_30 x0_bestReds_1 x0_bestPlaced_1 x0_bestTurning_1 y1_against y2_best_1 y3_may y4_redThen y5_s y6_ways_4 (p1 + 1) (p2 + 1) (p3 + t66) x0_bestReds_4 x0_bestPlaced_4 x0_bestTurning_4 y2_best_4 y6_ways_5 hc) gX9_tries_X9_tries rfl hv_X9_tries ⟨by dsimp only [RM]; omega, by dsimp only [RM]; omega⟩ 9 0 rfl rfl rfl (rest := []) rfl rfl hl.1 (nle rfl) dX9_tries_67 (fun H locs hP hD hS => ?_)
              exact hj70 _ _ _ _ _ _ _ _ hf hP hD hS (lv_sub hl [0, 1, 2, 3, 4] rfl)
            refine kb_eq (pc := 58) hexec hb dX9_tries_58 (tgt := 65) rfl hf (fun hc hf => ?_) (fun hc hf => ?_)
            · refine lv_iconst (pc := 65) hexec hb dX9_tries_65 ki_0 ?_
              exact hj66 _ _ _ _ hf hP hD hS (lv_sub hl [0, 1, 2, 3, 4] rfl)
            · refine lv_iconst (pc := 61) hexec hb dX9_tries_61 ki_1 ?_
              refine lv_goto (pc := 62) hexec hb dX9_tries_62 (tgt := 66) rfl ?_
              exact hj66 _ _ _ _ hf hP hD hS (lv_sub hl [0, 1, 2, 3, 4] rfl)
    exact hL20 n _ _ _ _ _ _ _ _ _ hz hP hD hS (lv_sub hl [1, 2, 3, 4, 0] rfl)
  · refine lv_aload_n (pc := 10) hexec hb dX9_tries_10 rfl (lv_at hl 0 rfl) ?_
    refine lv_iload_n (pc := 11) hexec hb dX9_tries_11 rfl (lv_at hl 2 rfl) ?_
    refine lv_iload_n (pc := 12) hexec hb dX9_tries_12 rfl (lv_at hl 3 rfl) ?_
    obtain ⟨x0_bestReds_6, x0_bestPlaced_6, x0_bestTurning_6, y2_best_6, hc, hf⟩ := bd4_e hf
    refine kVp (pc := 13) (S := ⟨hexec, hb, hml, hown, hts⟩) hP hD hG hA hS [0, 2, 5, 6] [1, 3, 4] [3, 0, 4, 1, 2, 5, 6] (w2 := (w_X9_tries g a0 a1 a2 a3 a4 a5 a6 u0_1 u0_2 u0_3 u0_4 u0_5 u0_6 u0_7 u0_8 u0_9 u0_10 u0_19 u0_20 u0_21 u0_22 u0_23 u0_24 u0_25 u0_26 u0_27 u0_28 u0_29 u0_30 x0_bestReds_6 x0_bestPlaced_6 x0_bestTurning_6 y1_against y2_best_6 y3_may y4_redThen y5_s y6_ways)) rfl rfl rfl rfl rfl rfl (by decide) (c_X9_weighs l g a0 a2 a5 a6 _ u0_1 u0_2 u0_3 u0_4 u0_5 u0_6 u0_7 u0_8 u0_9 u0_10 (.ref a4) (.ref a3) (.ref a1) u0_19 u0_20 u0_21 u0_22 u0_23 u0_24 u0_25 u0_26 u0_27 u0_28 u0_29 u0_30 x0_bestReds x0_bestPlaced x0_bestTurning y2_best y5_s y6_ways p2 p3 x0_bestReds_6 x0_bestPlaced_6 x0_bestTurning_6 y2_best_6 hc) gX9_tries_X9_weighs rfl hv_X9_weighs ⟨by dsimp only [RM]; omega, by dsimp only [RM]; omega⟩ 9 0 rfl rfl rfl (rest := []) rfl rfl hl.1 (nle rfl) dX9_tries_13 (fun H locs hP hD hS => ?_)
    cases hf
    exact ke_v hQ hexec hb hr hP hD hS dX9_tries_16 hlocks
abbrev w_X9_arranges (g : GE) (a0 a1 a2 a3 a4 a5 a6 : Nat) (u0_1 u0_2 u0_3 u0_4 u0_5 u0_6 u0_7 u0_8 u0_9 u0_10 u0_19 u0_20 u0_21 u0_22 u0_23 u0_24 u0_25 u0_26 u0_27 u0_28 u0_29 u0_30 : Value) (x0_bestReds : Int32) (x0_bestPlaced : Int32) (x0_bestTurning : Int32) (y1_against : Nat → Int32) (y2_best : Nat → Int32) (y3_may : Nat → Int32) (y4_redThen : Nat → Int32) (y5_s : Nat → Int32) (y6_ways : Nat → Int32) : va_W := [(a0, .inr (9, [.ref a5, u0_1, u0_2, u0_3, u0_4, u0_5, u0_6, u0_7, u0_8, u0_9, u0_10, .ref a6, .ref a2, .int x0_bestReds, .int x0_bestPlaced, .int x0_bestTurning, .ref a4, .ref a3, .ref a1, u0_19, u0_20, u0_21, u0_22, u0_23, u0_24, u0_25, u0_26, u0_27, u0_28, u0_29, u0_30])), (a1, .inl (g.2.1 1, 1024, .inl y1_against)), (a2, .inl (g.2.1 0, 8, .inl y2_best)), (a3, .inl (g.2.1 1, 32, .inl y3_may)), (a4, .inl (g.2.1 1, 8, .inl y4_redThen)), (a5, .inl (g.2.1 0, 552, .inl y5_s)), (a6, .inl (g.2.1 0, 8, .inl y6_ways))]
set_option maxRecDepth 20000 in
theorem c_X9_arranges (l : Launch) (g : GE) (a0 a1 a2 a3 a4 a5 a6 : Nat) (sz : Nat) (u0_1 u0_2 u0_3 u0_4 u0_5 u0_6 u0_7 u0_8 u0_9 u0_10 u0_19 u0_20 u0_21 u0_22 u0_23 u0_24 u0_25 u0_26 u0_27 u0_28 u0_29 u0_30 : Value) (x0_bestReds : Int32) (x0_bestPlaced : Int32) (x0_bestTurning : Int32) (y1_against : Nat → Int32) (y2_best : Nat → Int32) (y3_may : Nat → Int32) (y4_redThen : Nat → Int32) (y5_s : Nat → Int32) (y6_ways : Nat → Int32) (p1 : Int32)  (o_x0_bestReds : Int32) (o_x0_bestPlaced : Int32) (o_x0_bestTurning : Int32) (o_y1_against : Nat → Int32) (o_y2_best : Nat → Int32) (o_y3_may : Nat → Int32) (o_y6_ways : Nat → Int32) (hf : f_X9_arranges x0_bestReds x0_bestPlaced x0_bestTurning y1_against y2_best y3_may y4_redThen y5_s y6_ways p1 = some (o_x0_bestReds, o_x0_bestPlaced, o_x0_bestTurning, o_y1_against, o_y2_best, o_y3_may, o_y6_ways)) : MI l g yX9_arranges wsX9_arranges 15 359 [.ref a0, .int p1] (w_X9_arranges g a0 a1 a2 a3 a4 a5 a6 u0_1 u0_2 u0_3 u0_4 u0_5 u0_6 u0_7 u0_8 u0_9 u0_10 u0_19 u0_20 u0_21 u0_22 u0_23 u0_24 u0_25 u0_26 u0_27 u0_28 u0_29 u0_30 x0_bestReds x0_bestPlaced x0_bestTurning y1_against y2_best y3_may y4_redThen y5_s y6_ways) sz none (w_X9_arranges g a0 a1 a2 a3 a4 a5 a6 u0_1 u0_2 u0_3 u0_4 u0_5 u0_6 u0_7 u0_8 u0_9 u0_10 u0_19 u0_20 u0_21 u0_22 u0_23 u0_24 u0_25 u0_26 u0_27 u0_28 u0_29 u0_30 o_x0_bestReds o_x0_bestPlaced o_x0_bestTurning o_y1_against o_y2_best o_y3_may y4_redThen y5_s o_y6_ways) := by
  refine MI.start (cc := cX9_arranges) (maxL := 2) (ret := none) rfl rfl (nle rfl) ?_
  intro p e s m args below meth c A ls Q hQ hexec hb hr hts hown hlocks hml hA hP hD hG hS hl
  unfold f_X9_arranges at hf
  have hWX9 : ∀ w ∈ wsX90, w.before args s = true := fun w h => hts w (List.mem_cons_of_mem _ (List.mem_append_right _ h))
  have hS : va_S A s.heap s.heap [] := hS
  refine lv_aload_n (pc := 0) hexec hb dX9_arranges_0 rfl (lv_at hl 0 rfl) ?_
  refine lv_iconst (pc := 1) hexec hb dX9_arranges_1 ki_m1 ?_
  refine kp_put (pc := 2) hexec hb (own := RX9) hWX9 tyX9 tyX9_ok nmX9 hown hG hP hD hS 0 rfl rfl 13 (nle rfl) (hts _ (List.mem_cons_of_mem _ (List.mem_append_left _ (List.mem_append_left _ (List.mem_of_getElem? (i := 0) rfl))))) rfl rfl rfl rfl (nle rfl) dX9_arranges_2 (fun H locs (hP : va_P g.1 vwCl (w_X9_arranges g a0 a1 a2 a3 a4 a5 a6 u0_1 u0_2 u0_3 u0_4 u0_5 u0_6 u0_7 u0_8 u0_9 u0_10 u0_19 u0_20 u0_21 u0_22 u0_23 u0_24 u0_25 u0_26 u0_27 u0_28 u0_29 u0_30 (-1) x0_bestPlaced x0_bestTurning y1_against y2_best y3_may y4_redThen y5_s y6_ways) H) (hD : va_D A (w_X9_arranges g a0 a1 a2 a3 a4 a5 a6 u0_1 u0_2 u0_3 u0_4 u0_5 u0_6 u0_7 u0_8 u0_9 u0_10 u0_19 u0_20 u0_21 u0_22 u0_23 u0_24 u0_25 u0_26 u0_27 u0_28 u0_29 u0_30 (-1) x0_bestPlaced x0_bestTurning y1_against y2_best y3_may y4_redThen y5_s y6_ways)) hS => ?_)
  refine lv_aload_n (pc := 5) hexec hb dX9_arranges_5 rfl (lv_at hl 0 rfl) ?_
  refine lv_iconst (pc := 6) hexec hb dX9_arranges_6 ki_m1 ?_
  refine kp_put (pc := 7) hexec hb (own := RX9) hWX9 tyX9 tyX9_ok nmX9 hown hG hP hD hS 0 rfl rfl 14 (nle rfl) (hts _ (List.mem_cons_of_mem _ (List.mem_append_left _ (List.mem_append_left _ (List.mem_of_getElem? (i := 1) rfl))))) rfl rfl rfl rfl (nle rfl) dX9_arranges_7 (fun H locs (hP : va_P g.1 vwCl (w_X9_arranges g a0 a1 a2 a3 a4 a5 a6 u0_1 u0_2 u0_3 u0_4 u0_5 u0_6 u0_7 u0_8 u0_9 u0_10 u0_19 u0_20 u0_21 u0_22 u0_23 u0_24 u0_25 u0_26 u0_27 u0_28 u0_29 u0_30 (-1) (-1) x0_bestTurning y1_against y2_best y3_may y4_redThen y5_s y6_ways) H) (hD : va_D A (w_X9_arranges g a0 a1 a2 a3 a4 a5 a6 u0_1 u0_2 u0_3 u0_4 u0_5 u0_6 u0_7 u0_8 u0_9 u0_10 u0_19 u0_20 u0_21 u0_22 u0_23 u0_24 u0_25 u0_26 u0_27 u0_28 u0_29 u0_30 (-1) (-1) x0_bestTurning y1_against y2_best y3_may y4_redThen y5_s y6_ways)) hS => ?_)
  refine lv_aload_n (pc := 10) hexec hb dX9_arranges_10 rfl (lv_at hl 0 rfl) ?_
  refine lv_ldc (pc := 11) hexec hb (own := RX9) hown (hts _ (List.mem_cons_of_mem _ (List.mem_append_left _ (List.mem_append_left _ (List.mem_of_getElem? (i := 2) rfl))))) dX9_arranges_11 ?_
  refine kp_put (pc := 13) hexec hb (own := RX9) hWX9 tyX9 tyX9_ok nmX9 hown hG hP hD hS 0 rfl rfl 15 (nle rfl) (hts _ (List.mem_cons_of_mem _ (List.mem_append_left _ (List.mem_append_left _ (List.mem_of_getElem? (i := 3) rfl))))) rfl rfl rfl rfl (nle rfl) dX9_arranges_13 (fun H locs (hP : va_P g.1 vwCl (w_X9_arranges g a0 a1 a2 a3 a4 a5 a6 u0_1 u0_2 u0_3 u0_4 u0_5 u0_6 u0_7 u0_8 u0_9 u0_10 u0_19 u0_20 u0_21 u0_22 u0_23 u0_24 u0_25 u0_26 u0_27 u0_28 u0_29 u0_30 (-1) (-1) 1000000 y1_against y2_best y3_may y4_redThen y5_s y6_ways) H) (hD : va_D A (w_X9_arranges g a0 a1 a2 a3 a4 a5 a6 u0_1 u0_2 u0_3 u0_4 u0_5 u0_6 u0_7 u0_8 u0_9 u0_10 u0_19 u0_20 u0_21 u0_22 u0_23 u0_24 u0_25 u0_26 u0_27 u0_28 u0_29 u0_30 (-1) (-1) 1000000 y1_against y2_best y3_may y4_redThen y5_s y6_ways)) hS => ?_)
  refine lv_aload_n (pc := 16) hexec hb dX9_arranges_16 rfl (lv_at hl 0 rfl) ?_
  refine lv_iload_n (pc := 17) hexec hb dX9_arranges_17 rfl (lv_at hl 1 rfl) ?_
  obtain ⟨y1_against_1, y3_may_1, hc, hf⟩ := bd2_e hf
  refine kVp (pc := 18) (S := ⟨hexec, hb, hml, hown, hts⟩) hP hD hG hA hS [0, 1, 3, 4, 5] [2, 6] [2, 3, 0, 4, 5, 6, 1] (w2 := (w_X9_arranges g a0 a1 a2 a3 a4 a5 a6 u0_1 u0_2 u0_3 u0_4 u0_5 u0_6 u0_7 u0_8 u0_9 u0_10 u0_19 u0_20 u0_21 u0_22 u0_23 u0_24 u0_25 u0_26 u0_27 u0_28 u0_29 u0_30 (-1) (-1) 1000000 y1_against_1 y2_best y3_may_1 y4_redThen y5_s y6_ways)) rfl rfl rfl rfl rfl rfl (by decide) (c_X9_laysPairs l g a0 a1 a3 a4 a5 _ u0_1 u0_2 u0_3 u0_4 u0_5 u0_6 u0_7 u0_8 u0_9 u0_10 (.ref a6) (.ref a2) (.int (-1)) (.int (-1)) (.int 1000000) u0_19 u0_20 u0_21 u0_22 u0_23 u0_24 u0_25 u0_26 u0_27 u0_28 u0_29 u0_30 y1_against y3_may y4_redThen y5_s p1 y1_against_1 y3_may_1 hc) gX9_arranges_X9_laysPairs rfl hv_X9_laysPairs ⟨nle rfl, nle rfl⟩ 9 0 rfl rfl rfl (rest := []) rfl rfl hl.1 (nle rfl) dX9_arranges_18 (fun H locs hP hD hS => ?_)
  refine lv_aload_n (pc := 21) hexec hb dX9_arranges_21 rfl (lv_at hl 0 rfl) ?_
  refine lv_iconst (pc := 22) hexec hb dX9_arranges_22 ki_0 ?_
  refine lv_iconst (pc := 23) hexec hb dX9_arranges_23 ki_0 ?_
  refine lv_iconst (pc := 24) hexec hb dX9_arranges_24 ki_0 ?_
  obtain ⟨x0_bestReds_1, x0_bestPlaced_1, x0_bestTurning_1, y2_best_1, y6_ways_1, hc, hf⟩ := bd5_e hf
  refine kVp (pc := 25) (S := ⟨hexec, hb, hml, hown, hts⟩) hP hD hG hA hS [0, 1, 2, 3, 4, 5, 6] [] [0, 1, 2, 3, 4, 5, 6] (w2 := (w_X9_arranges g a0 a1 a2 a3 a4 a5 a6 u0_1 u0_2 u0_3 u0_4 u0_5 u0_6 u0_7 u0_8 u0_9 u0_10 u0_19 u0_20 u0_21 u0_22 u0_23 u0_24 u0_25 u0_26 u0_27 u0_28 u0_29 u0_30 x0_bestReds_1 x0_bestPlaced_1 x0_bestTurning_1 y1_against_1 y2_best_1 y3_may_1 y4_redThen y5_s y6_ways_1)) rfl rfl rfl rfl rfl rfl (by decide) (c_X9_tries l g 10 a0 a1 a2 a3 a4 a5 a6 _ u0_1 u0_2 u0_3 u0_4 u0_5 u0_6 u0_7 u0_8 u0_9 u0_10 u0_19 u0_20 u0_21 u0_22 u0_23 u0_24 u0_25 u0_26 u0_27 u0_28 u0_29 u0_30 (-1) (-1) 1000000 y1_against_1 y2_best y3_may_1 y4_redThen y5_s y6_ways 0 0 0 x0_bestReds_1 x0_bestPlaced_1 x0_bestTurning_1 y2_best_1 y6_ways_1 hc) gX9_arranges_X9_tries rfl hv_X9_tries ⟨nle rfl, nle rfl⟩ 9 0 rfl rfl rfl (rest := []) rfl rfl hl.1 (nle rfl) dX9_arranges_25 (fun H locs hP hD hS => ?_)
  cases hf
  exact ke_v hQ hexec hb hr hP hD hS dX9_arranges_28 hlocks
abbrev w_X9_arrangesNow (g : GE) (a0 a1 a2 a3 a4 a5 a6 : Nat) (u0_1 u0_2 u0_3 u0_4 u0_5 u0_6 u0_7 u0_8 u0_9 u0_10 u0_19 u0_20 u0_21 u0_22 u0_23 u0_24 u0_25 u0_26 u0_27 u0_28 u0_29 u0_30 : Value) (x0_bestReds : Int32) (x0_bestPlaced : Int32) (x0_bestTurning : Int32) (y1_against : Nat → Int32) (y2_best : Nat → Int32) (y3_may : Nat → Int32) (y4_redThen : Nat → Int32) (y5_s : Nat → Int32) (y6_ways : Nat → Int32) : va_W := [(a0, .inr (9, [.ref a5, u0_1, u0_2, u0_3, u0_4, u0_5, u0_6, u0_7, u0_8, u0_9, u0_10, .ref a6, .ref a2, .int x0_bestReds, .int x0_bestPlaced, .int x0_bestTurning, .ref a4, .ref a3, .ref a1, u0_19, u0_20, u0_21, u0_22, u0_23, u0_24, u0_25, u0_26, u0_27, u0_28, u0_29, u0_30])), (a1, .inl (g.2.1 1, 1024, .inl y1_against)), (a2, .inl (g.2.1 0, 8, .inl y2_best)), (a3, .inl (g.2.1 1, 32, .inl y3_may)), (a4, .inl (g.2.1 1, 8, .inl y4_redThen)), (a5, .inl (g.2.1 0, 552, .inl y5_s)), (a6, .inl (g.2.1 0, 8, .inl y6_ways))]
set_option maxRecDepth 20000 in
theorem c_X9_arrangesNow (l : Launch) (g : GE) (a0 a1 a2 a3 a4 a5 a6 : Nat) (sz : Nat) (u0_1 u0_2 u0_3 u0_4 u0_5 u0_6 u0_7 u0_8 u0_9 u0_10 u0_19 u0_20 u0_21 u0_22 u0_23 u0_24 u0_25 u0_26 u0_27 u0_28 u0_29 u0_30 : Value) (x0_bestReds : Int32) (x0_bestPlaced : Int32) (x0_bestTurning : Int32) (y1_against : Nat → Int32) (y2_best : Nat → Int32) (y3_may : Nat → Int32) (y4_redThen : Nat → Int32) (y5_s : Nat → Int32) (y6_ways : Nat → Int32)   (o_x0_bestReds : Int32) (o_x0_bestPlaced : Int32) (o_x0_bestTurning : Int32) (o_y1_against : Nat → Int32) (o_y2_best : Nat → Int32) (o_y3_may : Nat → Int32) (o_y4_redThen : Nat → Int32) (o_y6_ways : Nat → Int32) (hf : f_X9_arrangesNow x0_bestReds x0_bestPlaced x0_bestTurning y1_against y2_best y3_may y4_redThen y5_s y6_ways = some (o_x0_bestReds, o_x0_bestPlaced, o_x0_bestTurning, o_y1_against, o_y2_best, o_y3_may, o_y4_redThen, o_y6_ways)) : MI l g yX9_arrangesNow wsX9_arrangesNow 16 380 [.ref a0] (w_X9_arrangesNow g a0 a1 a2 a3 a4 a5 a6 u0_1 u0_2 u0_3 u0_4 u0_5 u0_6 u0_7 u0_8 u0_9 u0_10 u0_19 u0_20 u0_21 u0_22 u0_23 u0_24 u0_25 u0_26 u0_27 u0_28 u0_29 u0_30 x0_bestReds x0_bestPlaced x0_bestTurning y1_against y2_best y3_may y4_redThen y5_s y6_ways) sz none (w_X9_arrangesNow g a0 a1 a2 a3 a4 a5 a6 u0_1 u0_2 u0_3 u0_4 u0_5 u0_6 u0_7 u0_8 u0_9 u0_10 u0_19 u0_20 u0_21 u0_22 u0_23 u0_24 u0_25 u0_26 u0_27 u0_28 u0_29 u0_30 o_x0_bestReds o_x0_bestPlaced o_x0_bestTurning o_y1_against o_y2_best o_y3_may o_y4_redThen y5_s o_y6_ways) := by
  refine MI.start (cc := cX9_arrangesNow) (maxL := 2) (ret := none) rfl rfl (nle rfl) ?_
  intro p e s m args below meth c A ls Q hQ hexec hb hr hts hown hlocks hml hA hP hD hG hS hl
  unfold f_X9_arrangesNow at hf
  have hWX9 : ∀ w ∈ wsX90, w.before args s = true := fun w h => hts w (List.mem_cons_of_mem _ (List.mem_append_right _ h))
  have hS : va_S A s.heap s.heap [] := hS
  refine lv_iconst (pc := 0) hexec hb dX9_arrangesNow_0 ki_0 ?_
  refine lv_istore_n (pc := 1) hexec hb dX9_arrangesNow_1 rfl hl (nle rfl) rfl (fun ls (hl : lv_has ls 2 [(1, .int 0), (0, .ref a0)]) => ?_)
  obtain ⟨l2, el2, hf⟩ := bvf2 hf
  obtain ⟨y4_redThen_2, hz, hf⟩ := bd1_e hf
  have hE2 : ∀ (H : Heap) (locs : List Loc) (ls : Array Slot), va_P g.1 vwCl (w_X9_arrangesNow g a0 a1 a2 a3 a4 a5 a6 u0_1 u0_2 u0_3 u0_4 u0_5 u0_6 u0_7 u0_8 u0_9 u0_10 u0_19 u0_20 u0_21 u0_22 u0_23 u0_24 u0_25 u0_26 u0_27 u0_28 u0_29 u0_30 x0_bestReds x0_bestPlaced x0_bestTurning y1_against y2_best y3_may y4_redThen_2 y5_s y6_ways) H → va_D A (w_X9_arrangesNow g a0 a1 a2 a3 a4 a5 a6 u0_1 u0_2 u0_3 u0_4 u0_5 u0_6 u0_7 u0_8 u0_9 u0_10 u0_19 u0_20 u0_21 u0_22 u0_23 u0_24 u0_25 u0_26 u0_27 u0_28 u0_29 u0_30 x0_bestReds x0_bestPlaced x0_bestTurning y1_against y2_best y3_may y4_redThen_2 y5_s y6_ways) → va_S A s.heap H locs → lv_has ls 2 [(0, .ref a0)] → W p l e (RM 16 380) s m args below meth c H locs 0 0 Q (F0 m 29 ls []) := by
    intro H locs ls hP hD hS hl
    refine lv_aload_n (pc := 29) hexec hb dX9_arrangesNow_29 rfl (lv_at hl 0 rfl) ?_
    refine lv_iconst (pc := 30) hexec hb dX9_arrangesNow_30 ki_m1 ?_
    obtain ⟨x0_bestReds_1, x0_bestPlaced_1, x0_bestTurning_1, y1_against_1, y2_best_1, y3_may_1, y6_ways_1, hc, hf⟩ := bd7_e hf
    refine kVp (pc := 31) (S := ⟨hexec, hb, hml, hown, hts⟩) hP hD hG hA hS [0, 1, 2, 3, 4, 5, 6] [] [0, 1, 2, 3, 4, 5, 6] (w2 := (w_X9_arrangesNow g a0 a1 a2 a3 a4 a5 a6 u0_1 u0_2 u0_3 u0_4 u0_5 u0_6 u0_7 u0_8 u0_9 u0_10 u0_19 u0_20 u0_21 u0_22 u0_23 u0_24 u0_25 u0_26 u0_27 u0_28 u0_29 u0_30 x0_bestReds_1 x0_bestPlaced_1 x0_bestTurning_1 y1_against_1 y2_best_1 y3_may_1 y4_redThen_2 y5_s y6_ways_1)) rfl rfl rfl rfl rfl rfl (by decide) (c_X9_arranges l g a0 a1 a2 a3 a4 a5 a6 _ u0_1 u0_2 u0_3 u0_4 u0_5 u0_6 u0_7 u0_8 u0_9 u0_10 u0_19 u0_20 u0_21 u0_22 u0_23 u0_24 u0_25 u0_26 u0_27 u0_28 u0_29 u0_30 x0_bestReds x0_bestPlaced x0_bestTurning y1_against y2_best y3_may y4_redThen_2 y5_s y6_ways (-1) x0_bestReds_1 x0_bestPlaced_1 x0_bestTurning_1 y1_against_1 y2_best_1 y3_may_1 y6_ways_1 hc) gX9_arrangesNow_X9_arranges rfl hv_X9_arranges ⟨nle rfl, nle rfl⟩ 9 0 rfl rfl rfl (rest := []) rfl rfl hl.1 (nle rfl) dX9_arrangesNow_31 (fun H locs hP hD hS => ?_)
    cases hf
    exact ke_v hQ hexec hb hr hP hD hS dX9_arrangesNow_34 hlocks
  obtain ⟨n, hz⟩ := lq2_e hz
  have hL2 : ∀ (n : Nat) (v1 : Int32) (y4_redThen_1 : Nat → Int32) (H : Heap) (locs : List Loc) (ls : Array Slot), it2 l2 n v1 y4_redThen_1 = some y4_redThen_2 → va_P g.1 vwCl (w_X9_arrangesNow g a0 a1 a2 a3 a4 a5 a6 u0_1 u0_2 u0_3 u0_4 u0_5 u0_6 u0_7 u0_8 u0_9 u0_10 u0_19 u0_20 u0_21 u0_22 u0_23 u0_24 u0_25 u0_26 u0_27 u0_28 u0_29 u0_30 x0_bestReds x0_bestPlaced x0_bestTurning y1_against y2_best y3_may y4_redThen_1 y5_s y6_ways) H → va_D A (w_X9_arrangesNow g a0 a1 a2 a3 a4 a5 a6 u0_1 u0_2 u0_3 u0_4 u0_5 u0_6 u0_7 u0_8 u0_9 u0_10 u0_19 u0_20 u0_21 u0_22 u0_23 u0_24 u0_25 u0_26 u0_27 u0_28 u0_29 u0_30 x0_bestReds x0_bestPlaced x0_bestTurning y1_against y2_best y3_may y4_redThen_1 y5_s y6_ways) → va_S A s.heap H locs → lv_has ls 2 [(0, .ref a0), (1, .int v1)] → W p l e (RM 16 380) s m args below meth c H locs 0 0 Q (F0 m 2 ls []) := by
    intro n
    induction n with
    | zero =>
      intro v1 y4_redThen_1 H locs ls hf hP hD hS hl
      exact it2_0 hf
    | succ n2 ih2 =>
      intro v1 y4_redThen_1 H locs ls hf hP hD hS hl
      obtain ⟨q2, hf, hk2⟩ := it2_e hf
      have hf := (el2 v1 y4_redThen_1).symm.trans hf
      refine lv_iload_n (pc := 2) hexec hb dX9_arrangesNow_2 rfl (lv_at hl 1 rfl) ?_
      refine lv_aload_n (pc := 3) hexec hb dX9_arrangesNow_3 rfl (lv_at hl 0 rfl) ?_
      refine kg_get (pc := 4) hexec hb (own := RX9) hWX9 hown hG hP 0 rfl rfl 0 (nle rfl) (hts _ (List.mem_cons_of_mem _ (List.mem_append_left _ (List.mem_append_left _ (List.mem_of_getElem? (i := 0) rfl))))) rfl rfl dX9_arrangesNow_4 ?_
      refine lv_iconst (pc := 7) hexec hb dX9_arrangesNow_7 ki_2 ?_
      refine kr_iald (pc := 8) hexec hb hG hP 5 rfl hf dX9_arrangesNow_8 (fun hf => ?_)
      refine ki_ge (pc := 9) hexec hb dX9_arrangesNow_9 (tgt := 29) rfl hf (fun hc hf => ?_) (fun hc hf => ?_)
      · cases sr2 hf hk2
        exact hE2 _ _ _ hP hD hS (lv_sub hl [0] rfl)
      · refine lv_aload_n (pc := 12) hexec hb dX9_arrangesNow_12 rfl (lv_at hl 0 rfl) ?_
        refine kg_get (pc := 13) hexec hb (own := RX9) hWX9 hown hG hP 0 rfl rfl 16 (nle rfl) (hts _ (List.mem_cons_of_mem _ (List.mem_append_left _ (List.mem_append_left _ (List.mem_of_getElem? (i := 1) rfl))))) rfl rfl dX9_arrangesNow_13 ?_
        refine lv_iload_n (pc := 16) hexec hb dX9_arrangesNow_16 rfl (lv_at hl 1 rfl) ?_
        refine lv_aload_n (pc := 17) hexec hb dX9_arrangesNow_17 rfl (lv_at hl 0 rfl) ?_
        refine lv_iload_n (pc := 18) hexec hb dX9_arrangesNow_18 rfl (lv_at hl 1 rfl) ?_
        obtain ⟨r19, hc, hf⟩ := bd1_e hf
        refine kVp (pc := 19) (S := ⟨hexec, hb, hml, hown, hts⟩) hP hD hG hA hS [0, 5] [1, 2, 3, 4, 6] [5, 0, 1, 2, 3, 6, 4] (w2 := (w_X9_arrangesNow g a0 a1 a2 a3 a4 a5 a6 u0_1 u0_2 u0_3 u0_4 u0_5 u0_6 u0_7 u0_8 u0_9 u0_10 u0_19 u0_20 u0_21 u0_22 u0_23 u0_24 u0_25 u0_26 u0_27 u0_28 u0_29 u0_30 x0_bestReds x0_bestPlaced x0_bestTurning y1_against y2_best y3_may y4_redThen_1 y5_s y6_ways)) rfl rfl rfl rfl rfl rfl (by decide) (c_X9_isRed l g a0 a5 _ u0_1 u0_2 u0_3 u0_4 u0_5 u0_6 u0_7 u0_8 u0_9 u0_10 (.ref a6) (.ref a2) (.int x0_bestReds) (.int x0_bestPlaced) (.int x0_bestTurning) (.ref a4) (.ref a3) (.ref a1) u0_19 u0_20 u0_21 u0_22 u0_23 u0_24 u0_25 u0_26 u0_27 u0_28 u0_29 u0_30 y5_s v1 r19 hc) gX9_arrangesNow_X9_isRed rfl hv_X9_isRed ⟨nle rfl, nle rfl⟩ 9 0 rfl rfl rfl (rest := [.int v1, .ref a4]) rfl rfl hl.1 (nle rfl) dX9_arrangesNow_19 (fun H locs hP hD hS => ?_)
        refine kw_zast (pc := 22) hexec hb hG hP hD hS 4 rfl hf dX9_arrangesNow_22 (fun y4_redThen_3 H locs hf (hP : va_P g.1 vwCl (w_X9_arrangesNow g a0 a1 a2 a3 a4 a5 a6 u0_1 u0_2 u0_3 u0_4 u0_5 u0_6 u0_7 u0_8 u0_9 u0_10 u0_19 u0_20 u0_21 u0_22 u0_23 u0_24 u0_25 u0_26 u0_27 u0_28 u0_29 u0_30 x0_bestReds x0_bestPlaced x0_bestTurning y1_against y2_best y3_may y4_redThen_3 y5_s y6_ways) H) (hD : va_D A (w_X9_arrangesNow g a0 a1 a2 a3 a4 a5 a6 u0_1 u0_2 u0_3 u0_4 u0_5 u0_6 u0_7 u0_8 u0_9 u0_10 u0_19 u0_20 u0_21 u0_22 u0_23 u0_24 u0_25 u0_26 u0_27 u0_28 u0_29 u0_30 x0_bestReds x0_bestPlaced x0_bestTurning y1_against y2_best y3_may y4_redThen_3 y5_s y6_ways)) hS => ?_)
        obtain ⟨v1_1, ev1_1, hf⟩ := bv_e hf
        refine k_iinc (pc := 23) hexec hb dX9_arrangesNow_23 kq_1 hl (k := 1) rfl ev1_1 (nle rfl) rfl (fun ls (hl : lv_has ls 2 [(1, .int v1_1), (0, .ref a0)]) => ?_)
        refine lv_goto (pc := 26) hexec hb dX9_arrangesNow_26 (tgt := 2) rfl ?_
        exact ih2 _ _ _ _ _ (sl2 hf hk2) hP hD hS (lv_sub hl [1, 0] rfl)
  exact hL2 n _ _ _ _ _ hz hP hD hS (lv_sub hl [1, 0] rfl)
abbrev w_X9_arrangesIf (g : GE) (a0 a1 a2 a3 a4 a5 a6 : Nat) (u0_1 u0_2 u0_3 u0_4 u0_5 u0_6 u0_7 u0_8 u0_9 u0_10 u0_19 u0_20 u0_21 u0_22 u0_23 u0_24 u0_25 u0_26 u0_27 u0_28 u0_29 u0_30 : Value) (x0_bestReds : Int32) (x0_bestPlaced : Int32) (x0_bestTurning : Int32) (y1_against : Nat → Int32) (y2_best : Nat → Int32) (y3_may : Nat → Int32) (y4_redThen : Nat → Int32) (y5_s : Nat → Int32) (y6_ways : Nat → Int32) : va_W := [(a0, .inr (9, [.ref a5, u0_1, u0_2, u0_3, u0_4, u0_5, u0_6, u0_7, u0_8, u0_9, u0_10, .ref a6, .ref a2, .int x0_bestReds, .int x0_bestPlaced, .int x0_bestTurning, .ref a4, .ref a3, .ref a1, u0_19, u0_20, u0_21, u0_22, u0_23, u0_24, u0_25, u0_26, u0_27, u0_28, u0_29, u0_30])), (a1, .inl (g.2.1 1, 1024, .inl y1_against)), (a2, .inl (g.2.1 0, 8, .inl y2_best)), (a3, .inl (g.2.1 1, 32, .inl y3_may)), (a4, .inl (g.2.1 1, 8, .inl y4_redThen)), (a5, .inl (g.2.1 0, 552, .inl y5_s)), (a6, .inl (g.2.1 0, 8, .inl y6_ways))]
set_option maxRecDepth 20000 in
theorem c_X9_arrangesIf (l : Launch) (g : GE) (a0 a1 a2 a3 a4 a5 a6 : Nat) (sz : Nat) (u0_1 u0_2 u0_3 u0_4 u0_5 u0_6 u0_7 u0_8 u0_9 u0_10 u0_19 u0_20 u0_21 u0_22 u0_23 u0_24 u0_25 u0_26 u0_27 u0_28 u0_29 u0_30 : Value) (x0_bestReds : Int32) (x0_bestPlaced : Int32) (x0_bestTurning : Int32) (y1_against : Nat → Int32) (y2_best : Nat → Int32) (y3_may : Nat → Int32) (y4_redThen : Nat → Int32) (y5_s : Nat → Int32) (y6_ways : Nat → Int32) (p1 : Int32) (p2 : Int32)  (o_x0_bestReds : Int32) (o_x0_bestPlaced : Int32) (o_x0_bestTurning : Int32) (o_y1_against : Nat → Int32) (o_y2_best : Nat → Int32) (o_y3_may : Nat → Int32) (o_y4_redThen : Nat → Int32) (o_y6_ways : Nat → Int32) (hf : f_X9_arrangesIf x0_bestReds x0_bestPlaced x0_bestTurning y1_against y2_best y3_may y4_redThen y5_s y6_ways p1 p2 = some (o_x0_bestReds, o_x0_bestPlaced, o_x0_bestTurning, o_y1_against, o_y2_best, o_y3_may, o_y4_redThen, o_y6_ways)) : MI l g yX9_arrangesIf wsX9_arrangesIf 16 380 [.ref a0, .int p1, .int p2] (w_X9_arrangesIf g a0 a1 a2 a3 a4 a5 a6 u0_1 u0_2 u0_3 u0_4 u0_5 u0_6 u0_7 u0_8 u0_9 u0_10 u0_19 u0_20 u0_21 u0_22 u0_23 u0_24 u0_25 u0_26 u0_27 u0_28 u0_29 u0_30 x0_bestReds x0_bestPlaced x0_bestTurning y1_against y2_best y3_may y4_redThen y5_s y6_ways) sz none (w_X9_arrangesIf g a0 a1 a2 a3 a4 a5 a6 u0_1 u0_2 u0_3 u0_4 u0_5 u0_6 u0_7 u0_8 u0_9 u0_10 u0_19 u0_20 u0_21 u0_22 u0_23 u0_24 u0_25 u0_26 u0_27 u0_28 u0_29 u0_30 o_x0_bestReds o_x0_bestPlaced o_x0_bestTurning o_y1_against o_y2_best o_y3_may o_y4_redThen y5_s o_y6_ways) := by
  refine MI.start (cc := cX9_arrangesIf) (maxL := 4) (ret := none) rfl rfl (nle rfl) ?_
  intro p e s m args below meth c A ls Q hQ hexec hb hr hts hown hlocks hml hA hP hD hG hS hl
  unfold f_X9_arrangesIf at hf
  have hWX9 : ∀ w ∈ wsX90, w.before args s = true := fun w h => hts w (List.mem_cons_of_mem _ (List.mem_append_right _ h))
  have hS : va_S A s.heap s.heap [] := hS
  refine lv_iconst (pc := 0) hexec hb dX9_arrangesIf_0 ki_0 ?_
  refine lv_istore_n (pc := 1) hexec hb dX9_arrangesIf_1 rfl hl (nle rfl) rfl (fun ls (hl : lv_has ls 4 [(3, .int 0), (0, .ref a0), (1, .int p1), (2, .int p2)]) => ?_)
  obtain ⟨l2, el2, hf⟩ := bvf2 hf
  obtain ⟨y4_redThen_2, hz, hf⟩ := bd1_e hf
  have hE2 : ∀ (H : Heap) (locs : List Loc) (ls : Array Slot), va_P g.1 vwCl (w_X9_arrangesIf g a0 a1 a2 a3 a4 a5 a6 u0_1 u0_2 u0_3 u0_4 u0_5 u0_6 u0_7 u0_8 u0_9 u0_10 u0_19 u0_20 u0_21 u0_22 u0_23 u0_24 u0_25 u0_26 u0_27 u0_28 u0_29 u0_30 x0_bestReds x0_bestPlaced x0_bestTurning y1_against y2_best y3_may y4_redThen_2 y5_s y6_ways) H → va_D A (w_X9_arrangesIf g a0 a1 a2 a3 a4 a5 a6 u0_1 u0_2 u0_3 u0_4 u0_5 u0_6 u0_7 u0_8 u0_9 u0_10 u0_19 u0_20 u0_21 u0_22 u0_23 u0_24 u0_25 u0_26 u0_27 u0_28 u0_29 u0_30 x0_bestReds x0_bestPlaced x0_bestTurning y1_against y2_best y3_may y4_redThen_2 y5_s y6_ways) → va_S A s.heap H locs → lv_has ls 4 [(0, .ref a0)] → W p l e (RM 16 380) s m args below meth c H locs 0 0 Q (F0 m 38 ls []) := by
    intro H locs ls hP hD hS hl
    refine lv_aload_n (pc := 38) hexec hb dX9_arrangesIf_38 rfl (lv_at hl 0 rfl) ?_
    refine lv_iconst (pc := 39) hexec hb dX9_arrangesIf_39 ki_m1 ?_
    obtain ⟨x0_bestReds_1, x0_bestPlaced_1, x0_bestTurning_1, y1_against_1, y2_best_1, y3_may_1, y6_ways_1, hc, hf⟩ := bd7_e hf
    refine kVp (pc := 40) (S := ⟨hexec, hb, hml, hown, hts⟩) hP hD hG hA hS [0, 1, 2, 3, 4, 5, 6] [] [0, 1, 2, 3, 4, 5, 6] (w2 := (w_X9_arrangesIf g a0 a1 a2 a3 a4 a5 a6 u0_1 u0_2 u0_3 u0_4 u0_5 u0_6 u0_7 u0_8 u0_9 u0_10 u0_19 u0_20 u0_21 u0_22 u0_23 u0_24 u0_25 u0_26 u0_27 u0_28 u0_29 u0_30 x0_bestReds_1 x0_bestPlaced_1 x0_bestTurning_1 y1_against_1 y2_best_1 y3_may_1 y4_redThen_2 y5_s y6_ways_1)) rfl rfl rfl rfl rfl rfl (by decide) (c_X9_arranges l g a0 a1 a2 a3 a4 a5 a6 _ u0_1 u0_2 u0_3 u0_4 u0_5 u0_6 u0_7 u0_8 u0_9 u0_10 u0_19 u0_20 u0_21 u0_22 u0_23 u0_24 u0_25 u0_26 u0_27 u0_28 u0_29 u0_30 x0_bestReds x0_bestPlaced x0_bestTurning y1_against y2_best y3_may y4_redThen_2 y5_s y6_ways (-1) x0_bestReds_1 x0_bestPlaced_1 x0_bestTurning_1 y1_against_1 y2_best_1 y3_may_1 y6_ways_1 hc) gX9_arrangesIf_X9_arranges rfl hv_X9_arranges ⟨nle rfl, nle rfl⟩ 9 0 rfl rfl rfl (rest := []) rfl rfl hl.1 (nle rfl) dX9_arrangesIf_40 (fun H locs hP hD hS => ?_)
    cases hf
    exact ke_v hQ hexec hb hr hP hD hS dX9_arrangesIf_43 hlocks
  obtain ⟨n, hz⟩ := lq2_e hz
  have hL2 : ∀ (n : Nat) (v3 : Int32) (y4_redThen_1 : Nat → Int32) (H : Heap) (locs : List Loc) (ls : Array Slot), it2 l2 n v3 y4_redThen_1 = some y4_redThen_2 → va_P g.1 vwCl (w_X9_arrangesIf g a0 a1 a2 a3 a4 a5 a6 u0_1 u0_2 u0_3 u0_4 u0_5 u0_6 u0_7 u0_8 u0_9 u0_10 u0_19 u0_20 u0_21 u0_22 u0_23 u0_24 u0_25 u0_26 u0_27 u0_28 u0_29 u0_30 x0_bestReds x0_bestPlaced x0_bestTurning y1_against y2_best y3_may y4_redThen_1 y5_s y6_ways) H → va_D A (w_X9_arrangesIf g a0 a1 a2 a3 a4 a5 a6 u0_1 u0_2 u0_3 u0_4 u0_5 u0_6 u0_7 u0_8 u0_9 u0_10 u0_19 u0_20 u0_21 u0_22 u0_23 u0_24 u0_25 u0_26 u0_27 u0_28 u0_29 u0_30 x0_bestReds x0_bestPlaced x0_bestTurning y1_against y2_best y3_may y4_redThen_1 y5_s y6_ways) → va_S A s.heap H locs → lv_has ls 4 [(0, .ref a0), (1, .int p1), (2, .int p2), (3, .int v3)] → W p l e (RM 16 380) s m args below meth c H locs 0 0 Q (F0 m 2 ls []) := by
    intro n
    induction n with
    | zero =>
      intro v3 y4_redThen_1 H locs ls hf hP hD hS hl
      exact it2_0 hf
    | succ n2 ih2 =>
      intro v3 y4_redThen_1 H locs ls hf hP hD hS hl
      obtain ⟨q2, hf, hk2⟩ := it2_e hf
      have hf := (el2 v3 y4_redThen_1).symm.trans hf
      refine lv_iload_n (pc := 2) hexec hb dX9_arrangesIf_2 rfl (lv_at hl 3 rfl) ?_
      refine lv_aload_n (pc := 3) hexec hb dX9_arrangesIf_3 rfl (lv_at hl 0 rfl) ?_
      refine kg_get (pc := 4) hexec hb (own := RX9) hWX9 hown hG hP 0 rfl rfl 0 (nle rfl) (hts _ (List.mem_cons_of_mem _ (List.mem_append_left _ (List.mem_append_left _ (List.mem_of_getElem? (i := 0) rfl))))) rfl rfl dX9_arrangesIf_4 ?_
      refine lv_iconst (pc := 7) hexec hb dX9_arrangesIf_7 ki_2 ?_
      refine kr_iald (pc := 8) hexec hb hG hP 5 rfl hf dX9_arrangesIf_8 (fun hf => ?_)
      refine ki_ge (pc := 9) hexec hb dX9_arrangesIf_9 (tgt := 38) rfl hf (fun hc hf => ?_) (fun hc hf => ?_)
      · cases sr2 hf hk2
        exact hE2 _ _ _ hP hD hS (lv_sub hl [0] rfl)
      · refine lv_aload_n (pc := 12) hexec hb dX9_arrangesIf_12 rfl (lv_at hl 0 rfl) ?_
        refine kg_get (pc := 13) hexec hb (own := RX9) hWX9 hown hG hP 0 rfl rfl 16 (nle rfl) (hts _ (List.mem_cons_of_mem _ (List.mem_append_left _ (List.mem_append_left _ (List.mem_of_getElem? (i := 1) rfl))))) rfl rfl dX9_arrangesIf_13 ?_
        refine lv_iload_n (pc := 16) hexec hb dX9_arrangesIf_16 rfl (lv_at hl 3 rfl) ?_
        refine lv_iload_n (pc := 17) hexec hb dX9_arrangesIf_17 rfl (lv_at hl 3 rfl) ?_
        refine lv_iload_n (pc := 18) hexec hb dX9_arrangesIf_18 rfl (lv_at hl 1 rfl) ?_
        obtain ⟨j31, ej31, hf⟩ := bvf1 hf
        have hj31 : ∀ (t31 : Int32) (H : Heap) (locs : List Loc) (ls : Array Slot), j31 t31 = some q2 → va_P g.1 vwCl (w_X9_arrangesIf g a0 a1 a2 a3 a4 a5 a6 u0_1 u0_2 u0_3 u0_4 u0_5 u0_6 u0_7 u0_8 u0_9 u0_10 u0_19 u0_20 u0_21 u0_22 u0_23 u0_24 u0_25 u0_26 u0_27 u0_28 u0_29 u0_30 x0_bestReds x0_bestPlaced x0_bestTurning y1_against y2_best y3_may y4_redThen_1 y5_s y6_ways) H → va_D A (w_X9_arrangesIf g a0 a1 a2 a3 a4 a5 a6 u0_1 u0_2 u0_3 u0_4 u0_5 u0_6 u0_7 u0_8 u0_9 u0_10 u0_19 u0_20 u0_21 u0_22 u0_23 u0_24 u0_25 u0_26 u0_27 u0_28 u0_29 u0_30 x0_bestReds x0_bestPlaced x0_bestTurning y1_against y2_best y3_may y4_redThen_1 y5_s y6_ways) → va_S A s.heap H locs → lv_has ls 4 [(0, .ref a0), (1, .int p1), (2, .int p2), (3, .int v3)] → W p l e (RM 16 380) s m args below meth c H locs 0 0 Q (F0 m 31 ls [.int t31, .int v3, .ref a4]) := by
          intro t31 H locs ls hf hP hD hS hl
          have hf := (ej31 t31).symm.trans hf
          refine kw_zast (pc := 31) hexec hb hG hP hD hS 4 rfl hf dX9_arrangesIf_31 (fun y4_redThen_3 H locs hf (hP : va_P g.1 vwCl (w_X9_arrangesIf g a0 a1 a2 a3 a4 a5 a6 u0_1 u0_2 u0_3 u0_4 u0_5 u0_6 u0_7 u0_8 u0_9 u0_10 u0_19 u0_20 u0_21 u0_22 u0_23 u0_24 u0_25 u0_26 u0_27 u0_28 u0_29 u0_30 x0_bestReds x0_bestPlaced x0_bestTurning y1_against y2_best y3_may y4_redThen_3 y5_s y6_ways) H) (hD : va_D A (w_X9_arrangesIf g a0 a1 a2 a3 a4 a5 a6 u0_1 u0_2 u0_3 u0_4 u0_5 u0_6 u0_7 u0_8 u0_9 u0_10 u0_19 u0_20 u0_21 u0_22 u0_23 u0_24 u0_25 u0_26 u0_27 u0_28 u0_29 u0_30 x0_bestReds x0_bestPlaced x0_bestTurning y1_against y2_best y3_may y4_redThen_3 y5_s y6_ways)) hS => ?_)
          obtain ⟨v3_1, ev3_1, hf⟩ := bv_e hf
          refine k_iinc (pc := 32) hexec hb dX9_arrangesIf_32 kq_1 hl (k := 3) rfl ev3_1 (nle rfl) rfl (fun ls (hl : lv_has ls 4 [(3, .int v3_1), (0, .ref a0), (1, .int p1), (2, .int p2)]) => ?_)
          refine lv_goto (pc := 35) hexec hb dX9_arrangesIf_35 (tgt := 2) rfl ?_
          exact ih2 _ _ _ _ _ (sl2 hf hk2) hP hD hS (lv_sub hl [1, 2, 3, 0] rfl)
        refine ki_ne (pc := 19) hexec hb dX9_arrangesIf_19 (tgt := 26) rfl hf (fun hc hf => ?_) (fun hc hf => ?_)
        · refine lv_aload_n (pc := 26) hexec hb dX9_arrangesIf_26 rfl (lv_at hl 0 rfl) ?_
          refine lv_iload_n (pc := 27) hexec hb dX9_arrangesIf_27 rfl (lv_at hl 3 rfl) ?_
          obtain ⟨r28, hc, hf⟩ := bd1_e hf
          refine kVp (pc := 28) (S := ⟨hexec, hb, hml, hown, hts⟩) hP hD hG hA hS [0, 5] [1, 2, 3, 4, 6] [5, 0, 1, 2, 3, 6, 4] (w2 := (w_X9_arrangesIf g a0 a1 a2 a3 a4 a5 a6 u0_1 u0_2 u0_3 u0_4 u0_5 u0_6 u0_7 u0_8 u0_9 u0_10 u0_19 u0_20 u0_21 u0_22 u0_23 u0_24 u0_25 u0_26 u0_27 u0_28 u0_29 u0_30 x0_bestReds x0_bestPlaced x0_bestTurning y1_against y2_best y3_may y4_redThen_1 y5_s y6_ways)) rfl rfl rfl rfl rfl rfl (by decide) (c_X9_isRed l g a0 a5 _ u0_1 u0_2 u0_3 u0_4 u0_5 u0_6 u0_7 u0_8 u0_9 u0_10 (.ref a6) (.ref a2) (.int x0_bestReds) (.int x0_bestPlaced) (.int x0_bestTurning) (.ref a4) (.ref a3) (.ref a1) u0_19 u0_20 u0_21 u0_22 u0_23 u0_24 u0_25 u0_26 u0_27 u0_28 u0_29 u0_30 y5_s v3 r28 hc) gX9_arrangesIf_X9_isRed rfl hv_X9_isRed ⟨nle rfl, nle rfl⟩ 9 0 rfl rfl rfl (rest := [.int v3, .ref a4]) rfl rfl hl.1 (nle rfl) dX9_arrangesIf_28 (fun H locs hP hD hS => ?_)
          exact hj31 _ _ _ _ hf hP hD hS (lv_sub hl [0, 1, 2, 3] rfl)
        · refine lv_iload_n (pc := 22) hexec hb dX9_arrangesIf_22 rfl (lv_at hl 2 rfl) ?_
          refine lv_goto (pc := 23) hexec hb dX9_arrangesIf_23 (tgt := 31) rfl ?_
          exact hj31 _ _ _ _ hf hP hD hS (lv_sub hl [0, 1, 2, 3] rfl)
  exact hL2 n _ _ _ _ _ hz hP hD hS (lv_sub hl [1, 2, 3, 0] rfl)
abbrev w_X9_bytesIn (g : GE) : va_W := []
set_option maxRecDepth 20000 in
theorem c_X9_bytesIn (l : Launch) (g : GE) (sz : Nat)  (p0 : Int64)  (r : Int32) (hf : f_X9_bytesIn p0 = some r) : MI l g yX9_bytesIn wsX9_bytesIn 1 24 [.long p0] (w_X9_bytesIn g ) sz (some (.int r)) (w_X9_bytesIn g ) := by
  refine MI.start (cc := cX9_bytesIn) (maxL := 4) (ret := (some .int)) rfl rfl (nle rfl) ?_
  intro p e s m args below meth c A ls Q hQ hexec hb hr hts hown hlocks hml hA hP hD hG hS hl
  unfold f_X9_bytesIn at hf
  have hS : va_S A s.heap s.heap [] := hS
  refine lv_iconst (pc := 0) hexec hb dX9_bytesIn_0 ki_0 ?_
  refine lv_istore_n (pc := 1) hexec hb dX9_bytesIn_1 rfl hl (nle rfl) rfl (fun ls (hl : lv_has ls 4 [(2, .int 0), (0, .long p0)]) => ?_)
  refine lv_bipush (pc := 2) hexec hb dX9_bytesIn_2 kb_56 ?_
  refine lv_istore_n (pc := 4) hexec hb dX9_bytesIn_4 rfl hl (nle rfl) rfl (fun ls (hl : lv_has ls 4 [(3, .int 56), (2, .int 0), (0, .long p0)]) => ?_)
  obtain ⟨l5, el5, hf⟩ := bvf2 hf
  obtain ⟨v2_1, hz, hf⟩ := bd1_e hf
  have hE5 : ∀ (H : Heap) (locs : List Loc) (ls : Array Slot), va_P g.1 vwCl (w_X9_bytesIn g ) H → va_D A (w_X9_bytesIn g ) → va_S A s.heap H locs → lv_has ls 4 [(2, .int v2_1)] → W p l e (RM 1 24) s m args below meth c H locs 0 0 Q (F0 m 35 ls []) := by
    intro H locs ls hP hD hS hl
    refine lv_iload_n (pc := 35) hexec hb dX9_bytesIn_35 rfl (lv_at hl 0 rfl) ?_
    cases hf
    exact ke_i hQ hexec hb hr hP hD hS dX9_bytesIn_36 hlocks
  obtain ⟨n, hz⟩ := lq2_e hz
  have hL5 : ∀ (n : Nat) (v2 : Int32) (v3 : Int32) (H : Heap) (locs : List Loc) (ls : Array Slot), it2 l5 n v2 v3 = some v2_1 → va_P g.1 vwCl (w_X9_bytesIn g ) H → va_D A (w_X9_bytesIn g ) → va_S A s.heap H locs → lv_has ls 4 [(0, .long p0), (2, .int v2), (3, .int v3)] → W p l e (RM 1 24) s m args below meth c H locs 0 0 Q (F0 m 5 ls []) := by
    intro n
    induction n with
    | zero =>
      intro v2 v3 H locs ls hf hP hD hS hl
      exact it2_0 hf
    | succ n5 ih5 =>
      intro v2 v3 H locs ls hf hP hD hS hl
      obtain ⟨q5, hf, hk5⟩ := it2_e hf
      have hf := (el5 v2 v3).symm.trans hf
      refine lv_iload_n (pc := 5) hexec hb dX9_bytesIn_5 rfl (lv_at hl 2 rfl) ?_
      refine kb_lt (pc := 6) hexec hb dX9_bytesIn_6 (tgt := 35) rfl hf (fun hc hf => ?_) (fun hc hf => ?_)
      · cases sr2 hf hk5
        exact hE5 _ _ _ hP hD hS (lv_sub hl [1] rfl)
      · refine lv_iload_n (pc := 9) hexec hb dX9_bytesIn_9 rfl (lv_at hl 1 rfl) ?_
        refine lv_lload_n (pc := 10) hexec hb dX9_bytesIn_10 rfl (lv_at hl 0 rfl) ?_
        refine lv_iload_n (pc := 11) hexec hb dX9_bytesIn_11 rfl (lv_at hl 2 rfl) ?_
        refine lv_lshr (pc := 12) hexec hb dX9_bytesIn_12 (v := (lshrv p0 v3)) rfl ?_
        refine lv_ldc2 (pc := 13) hexec hb (own := RX9) hown (hts _ (List.mem_cons_of_mem _ (List.mem_of_getElem? (i := 0) rfl))) dX9_bytesIn_13 ?_
        refine lv_land (pc := 16) hexec hb dX9_bytesIn_16 ?_
        refine lv_lconst (pc := 17) hexec hb dX9_bytesIn_17 kl_0 ?_
        refine kc_lcmp (pc := 18) hexec hb dX9_bytesIn_18 ?_
        obtain ⟨j27, ej27, hf⟩ := bvf1 hf
        have hj27 : ∀ (t27 : Int32) (H : Heap) (locs : List Loc) (ls : Array Slot), j27 t27 = some q5 → va_P g.1 vwCl (w_X9_bytesIn g ) H → va_D A (w_X9_bytesIn g ) → va_S A s.heap H locs → lv_has ls 4 [(0, .long p0), (3, .int v3)] → W p l e (RM 1 24) s m args below meth c H locs 0 0 Q (F0 m 27 ls [.int t27, .int v2]) := by
          intro t27 H locs ls hf hP hD hS hl
          have hf := (ej27 t27).symm.trans hf
          refine lv_iadd (pc := 27) hexec hb dX9_bytesIn_27 ?_
          obtain ⟨v2_2, ev2_2, hf⟩ := bv_e hf
          refine kn_i ev2_2 ?_
          refine lv_istore_n (pc := 28) hexec hb dX9_bytesIn_28 rfl hl (nle rfl) rfl (fun ls (hl : lv_has ls 4 [(2, .int v2_2), (0, .long p0), (3, .int v3)]) => ?_)
          obtain ⟨v3_1, ev3_1, hf⟩ := bv_e hf
          refine k_iinc (pc := 29) hexec hb dX9_bytesIn_29 kq_m8 hl (k := 2) rfl ev3_1 (nle rfl) rfl (fun ls (hl : lv_has ls 4 [(3, .int v3_1), (2, .int v2_2), (0, .long p0)]) => ?_)
          refine lv_goto (pc := 32) hexec hb dX9_bytesIn_32 (tgt := 5) rfl ?_
          exact ih5 _ _ _ _ _ (sl2 hf hk5) hP hD hS (lv_sub hl [2, 1, 0] rfl)
        refine kb_eq (pc := 19) hexec hb dX9_bytesIn_19 (tgt := 26) rfl hf (fun hc hf => ?_) (fun hc hf => ?_)
        · refine lv_iconst (pc := 26) hexec hb dX9_bytesIn_26 ki_0 ?_
          exact hj27 _ _ _ _ hf hP hD hS (lv_sub hl [0, 2] rfl)
        · refine lv_iconst (pc := 22) hexec hb dX9_bytesIn_22 ki_1 ?_
          refine lv_goto (pc := 23) hexec hb dX9_bytesIn_23 (tgt := 27) rfl ?_
          exact hj27 _ _ _ _ hf hP hD hS (lv_sub hl [0, 2] rfl)
  exact hL5 n _ _ _ _ _ hz hP hD hS (lv_sub hl [2, 1, 0] rfl)
abbrev w_X9_append (g : GE) (a0 a1 : Nat) (u0_0 u0_1 u0_2 u0_3 u0_4 u0_5 u0_6 u0_8 u0_9 u0_10 u0_11 u0_12 u0_13 u0_14 u0_15 u0_16 u0_17 u0_18 u0_21 u0_22 u0_23 u0_24 u0_25 u0_26 u0_27 u0_28 u0_29 u0_30 : Value) (x0_thrown : Int32) (x0_length : Int32) (y1_text : Nat → Int32) : va_W := [(a0, .inr (9, [u0_0, u0_1, u0_2, u0_3, u0_4, u0_5, u0_6, .int x0_thrown, u0_8, u0_9, u0_10, u0_11, u0_12, u0_13, u0_14, u0_15, u0_16, u0_17, u0_18, .ref a1, .int x0_length, u0_21, u0_22, u0_23, u0_24, u0_25, u0_26, u0_27, u0_28, u0_29, u0_30])), (a1, .inl (g.2.1 0, 500, .inl y1_text))]
set_option maxRecDepth 20000 in
theorem c_X9_append (l : Launch) (g : GE) (a0 a1 : Nat) (sz : Nat) (u0_0 u0_1 u0_2 u0_3 u0_4 u0_5 u0_6 u0_8 u0_9 u0_10 u0_11 u0_12 u0_13 u0_14 u0_15 u0_16 u0_17 u0_18 u0_21 u0_22 u0_23 u0_24 u0_25 u0_26 u0_27 u0_28 u0_29 u0_30 : Value) (x0_thrown : Int32) (x0_length : Int32) (y1_text : Nat → Int32) (p1 : Int64)  (r : Int32) (o_x0_thrown : Int32) (o_x0_length : Int32) (o_y1_text : Nat → Int32) (hf : f_X9_append x0_thrown x0_length y1_text p1 = some (r, o_x0_thrown, o_x0_length, o_y1_text)) : MI l g yX9_append wsX9_append 2 47 [.ref a0, .long p1] (w_X9_append g a0 a1 u0_0 u0_1 u0_2 u0_3 u0_4 u0_5 u0_6 u0_8 u0_9 u0_10 u0_11 u0_12 u0_13 u0_14 u0_15 u0_16 u0_17 u0_18 u0_21 u0_22 u0_23 u0_24 u0_25 u0_26 u0_27 u0_28 u0_29 u0_30 x0_thrown x0_length y1_text) sz (some (.int r)) (w_X9_append g a0 a1 u0_0 u0_1 u0_2 u0_3 u0_4 u0_5 u0_6 u0_8 u0_9 u0_10 u0_11 u0_12 u0_13 u0_14 u0_15 u0_16 u0_17 u0_18 u0_21 u0_22 u0_23 u0_24 u0_25 u0_26 u0_27 u0_28 u0_29 u0_30 o_x0_thrown o_x0_length o_y1_text) := by
  refine MI.start (cc := cX9_append) (maxL := 5) (ret := (some .int)) rfl rfl (nle rfl) ?_
  intro p e s m args below meth c A ls Q hQ hexec hb hr hts hown hlocks hml hA hP hD hG hS hl
  unfold f_X9_append at hf
  have hWX9 : ∀ w ∈ wsX90, w.before args s = true := fun w h => hts w (List.mem_cons_of_mem _ (List.mem_append_right _ h))
  have hS : va_S A s.heap s.heap [] := hS
  refine lv_aload_n (pc := 0) hexec hb dX9_append_0 rfl (lv_at hl 0 rfl) ?_
  refine lv_iconst (pc := 1) hexec hb dX9_append_1 ki_0 ?_
  refine kp_put (pc := 2) hexec hb (own := RX9) hWX9 tyX9 tyX9_ok nmX9 hown hG hP hD hS 0 rfl rfl 7 (nle rfl) (hts _ (List.mem_cons_of_mem _ (List.mem_append_left _ (List.mem_of_getElem? (i := 0) rfl)))) rfl rfl rfl rfl (nle rfl) dX9_append_2 (fun H locs (hP : va_P g.1 vwCl (w_X9_append g a0 a1 u0_0 u0_1 u0_2 u0_3 u0_4 u0_5 u0_6 u0_8 u0_9 u0_10 u0_11 u0_12 u0_13 u0_14 u0_15 u0_16 u0_17 u0_18 u0_21 u0_22 u0_23 u0_24 u0_25 u0_26 u0_27 u0_28 u0_29 u0_30 0 x0_length y1_text) H) (hD : va_D A (w_X9_append g a0 a1 u0_0 u0_1 u0_2 u0_3 u0_4 u0_5 u0_6 u0_8 u0_9 u0_10 u0_11 u0_12 u0_13 u0_14 u0_15 u0_16 u0_17 u0_18 u0_21 u0_22 u0_23 u0_24 u0_25 u0_26 u0_27 u0_28 u0_29 u0_30 0 x0_length y1_text)) hS => ?_)
  refine lv_aload_n (pc := 5) hexec hb dX9_append_5 rfl (lv_at hl 0 rfl) ?_
  refine kg_get (pc := 6) hexec hb (own := RX9) hWX9 hown hG hP 0 rfl rfl 20 (nle rfl) (hts _ (List.mem_cons_of_mem _ (List.mem_append_left _ (List.mem_of_getElem? (i := 1) rfl)))) rfl rfl dX9_append_6 ?_
  refine lv_lload_n (pc := 9) hexec hb dX9_append_9 rfl (lv_at hl 1 rfl) ?_
  obtain ⟨r10, hc, hf⟩ := bd1_e hf
  refine kSp (pc := 10) (S := ⟨hexec, hb, hml, hown, hts⟩) hP hD hG hA hS [] [0, 1] [0, 1] (w2 := (w_X9_append g a0 a1 u0_0 u0_1 u0_2 u0_3 u0_4 u0_5 u0_6 u0_8 u0_9 u0_10 u0_11 u0_12 u0_13 u0_14 u0_15 u0_16 u0_17 u0_18 u0_21 u0_22 u0_23 u0_24 u0_25 u0_26 u0_27 u0_28 u0_29 u0_30 0 x0_length y1_text)) rfl rfl rfl rfl rfl rfl (by decide) (c_X9_bytesIn l g _ p1 r10 hc) gX9_append_X9_bytesIn rfl hs_X9_bytesIn ⟨nle rfl, nle rfl⟩ (rest := [.int x0_length]) rfl rfl hl.1 (nle rfl) dX9_append_10 (fun H locs hP hD hS => ?_)
  refine lv_iadd (pc := 13) hexec hb dX9_append_13 ?_
  refine lv_sipush (pc := 14) hexec hb dX9_append_14 ks_500 ?_
  refine ki_le (pc := 17) hexec hb dX9_append_17 (tgt := 23) rfl hf (fun hc hf => ?_) (fun hc hf => ?_)
  · refine lv_bipush (pc := 23) hexec hb dX9_append_23 kb_56 ?_
    refine lv_istore_n (pc := 25) hexec hb dX9_append_25 rfl hl (nle rfl) rfl (fun ls (hl : lv_has ls 5 [(3, .int 56), (0, .ref a0), (1, .long p1)]) => ?_)
    obtain ⟨l26, el26, hf⟩ := bvf3 hf
    obtain ⟨x0_length_2, y1_text_2, hz, hf⟩ := bd2_e hf
    have hE26 : ∀ (H : Heap) (locs : List Loc) (ls : Array Slot), va_P g.1 vwCl (w_X9_append g a0 a1 u0_0 u0_1 u0_2 u0_3 u0_4 u0_5 u0_6 u0_8 u0_9 u0_10 u0_11 u0_12 u0_13 u0_14 u0_15 u0_16 u0_17 u0_18 u0_21 u0_22 u0_23 u0_24 u0_25 u0_26 u0_27 u0_28 u0_29 u0_30 0 x0_length_2 y1_text_2) H → va_D A (w_X9_append g a0 a1 u0_0 u0_1 u0_2 u0_3 u0_4 u0_5 u0_6 u0_8 u0_9 u0_10 u0_11 u0_12 u0_13 u0_14 u0_15 u0_16 u0_17 u0_18 u0_21 u0_22 u0_23 u0_24 u0_25 u0_26 u0_27 u0_28 u0_29 u0_30 0 x0_length_2 y1_text_2) → va_S A s.heap H locs → lv_has ls 5 [(0, .ref a0)] → W p l e (RM 2 47) s m args below meth c H locs 0 0 Q (F0 m 72 ls []) := by
      intro H locs ls hP hD hS hl
      refine lv_aload_n (pc := 72) hexec hb dX9_append_72 rfl (lv_at hl 0 rfl) ?_
      refine kg_get (pc := 73) hexec hb (own := RX9) hWX9 hown hG hP 0 rfl rfl 20 (nle rfl) (hts _ (List.mem_cons_of_mem _ (List.mem_append_left _ (List.mem_of_getElem? (i := 1) rfl)))) rfl rfl dX9_append_73 ?_
      cases hf
      exact ke_i hQ hexec hb hr hP hD hS dX9_append_76 hlocks
    obtain ⟨n, hz⟩ := lq3_e hz
    have hL26 : ∀ (n : Nat) (v3 : Int32) (x0_length_1 : Int32) (y1_text_1 : Nat → Int32) (H : Heap) (locs : List Loc) (ls : Array Slot), it3 l26 n v3 x0_length_1 y1_text_1 = some (x0_length_2, y1_text_2) → va_P g.1 vwCl (w_X9_append g a0 a1 u0_0 u0_1 u0_2 u0_3 u0_4 u0_5 u0_6 u0_8 u0_9 u0_10 u0_11 u0_12 u0_13 u0_14 u0_15 u0_16 u0_17 u0_18 u0_21 u0_22 u0_23 u0_24 u0_25 u0_26 u0_27 u0_28 u0_29 u0_30 0 x0_length_1 y1_text_1) H → va_D A (w_X9_append g a0 a1 u0_0 u0_1 u0_2 u0_3 u0_4 u0_5 u0_6 u0_8 u0_9 u0_10 u0_11 u0_12 u0_13 u0_14 u0_15 u0_16 u0_17 u0_18 u0_21 u0_22 u0_23 u0_24 u0_25 u0_26 u0_27 u0_28 u0_29 u0_30 0 x0_length_1 y1_text_1) → va_S A s.heap H locs → lv_has ls 5 [(0, .ref a0), (1, .long p1), (3, .int v3)] → W p l e (RM 2 47) s m args below meth c H locs 0 0 Q (F0 m 26 ls []) := by
      intro n
      induction n with
      | zero =>
        intro v3 x0_length_1 y1_text_1 H locs ls hf hP hD hS hl
        exact it3_0 hf
      | succ n26 ih26 =>
        intro v3 x0_length_1 y1_text_1 H locs ls hf hP hD hS hl
        obtain ⟨q26, hf, hk26⟩ := it3_e hf
        have hf := (el26 v3 x0_length_1 y1_text_1).symm.trans hf
        refine lv_iload_n (pc := 26) hexec hb dX9_append_26 rfl (lv_at hl 2 rfl) ?_
        refine kb_lt (pc := 27) hexec hb dX9_append_27 (tgt := 72) rfl hf (fun hc hf => ?_) (fun hc hf => ?_)
        · cases sr3 hf hk26
          exact hE26 _ _ _ hP hD hS (lv_sub hl [0] rfl)
        · refine lv_lload_n (pc := 30) hexec hb dX9_append_30 rfl (lv_at hl 1 rfl) ?_
          refine lv_iload_n (pc := 31) hexec hb dX9_append_31 rfl (lv_at hl 2 rfl) ?_
          refine lv_lshr (pc := 32) hexec hb dX9_append_32 (v := (lshrv p1 v3)) rfl ?_
          refine lv_ldc2 (pc := 33) hexec hb (own := RX9) hown (hts _ (List.mem_cons_of_mem _ (List.mem_append_left _ (List.mem_of_getElem? (i := 2) rfl)))) dX9_append_33 ?_
          refine lv_land (pc := 36) hexec hb dX9_append_36 ?_
          refine lv_l2i (pc := 37) hexec hb dX9_append_37 rfl ?_
          obtain ⟨v4, ev4, hf⟩ := bv_e hf
          refine kn_i ev4 ?_
          refine lv_istore (pc := 38) hexec hb dX9_append_38 hl (nle rfl) rfl (fun ls (hl : lv_has ls 5 [(4, .int v4), (0, .ref a0), (1, .long p1), (3, .int v3)]) => ?_)
          refine lv_iload (pc := 40) hexec hb dX9_append_40 (lv_at hl 0 rfl) ?_
          obtain ⟨j66, ej66, hf⟩ := bvf2 hf
          have hj66 : ∀ (x0_length_3 : Int32) (y1_text_3 : Nat → Int32) (H : Heap) (locs : List Loc) (ls : Array Slot), j66 x0_length_3 y1_text_3 = some q26 → va_P g.1 vwCl (w_X9_append g a0 a1 u0_0 u0_1 u0_2 u0_3 u0_4 u0_5 u0_6 u0_8 u0_9 u0_10 u0_11 u0_12 u0_13 u0_14 u0_15 u0_16 u0_17 u0_18 u0_21 u0_22 u0_23 u0_24 u0_25 u0_26 u0_27 u0_28 u0_29 u0_30 0 x0_length_3 y1_text_3) H → va_D A (w_X9_append g a0 a1 u0_0 u0_1 u0_2 u0_3 u0_4 u0_5 u0_6 u0_8 u0_9 u0_10 u0_11 u0_12 u0_13 u0_14 u0_15 u0_16 u0_17 u0_18 u0_21 u0_22 u0_23 u0_24 u0_25 u0_26 u0_27 u0_28 u0_29 u0_30 0 x0_length_3 y1_text_3) → va_S A s.heap H locs → lv_has ls 5 [(0, .ref a0), (1, .long p1), (3, .int v3)] → W p l e (RM 2 47) s m args below meth c H locs 0 0 Q (F0 m 66 ls []) := by
            intro x0_length_3 y1_text_3 H locs ls hf hP hD hS hl
            have hf := (ej66 x0_length_3 y1_text_3).symm.trans hf
            obtain ⟨v3_1, ev3_1, hf⟩ := bv_e hf
            refine k_iinc (pc := 66) hexec hb dX9_append_66 kq_m8 hl (k := 2) rfl ev3_1 (nle rfl) rfl (fun ls (hl : lv_has ls 5 [(3, .int v3_1), (0, .ref a0), (1, .long p1)]) => ?_)
            refine lv_goto (pc := 69) hexec hb dX9_append_69 (tgt := 26) rfl ?_
            exact ih26 _ _ _ _ _ _ (sl3 hf hk26) hP hD hS (lv_sub hl [1, 2, 0] rfl)
          refine kb_eq (pc := 42) hexec hb dX9_append_42 (tgt := 66) rfl hf (fun hc hf => ?_) (fun hc hf => ?_)
          · exact hj66 _ _ _ _ _ hf hP hD hS (lv_sub hl [1, 2, 3] rfl)
          · refine lv_aload_n (pc := 45) hexec hb dX9_append_45 rfl (lv_at hl 1 rfl) ?_
            refine kg_get (pc := 46) hexec hb (own := RX9) hWX9 hown hG hP 0 rfl rfl 19 (nle rfl) (hts _ (List.mem_cons_of_mem _ (List.mem_append_left _ (List.mem_of_getElem? (i := 3) rfl)))) rfl rfl dX9_append_46 ?_
            refine lv_aload_n (pc := 49) hexec hb dX9_append_49 rfl (lv_at hl 1 rfl) ?_
            refine kg_get (pc := 50) hexec hb (own := RX9) hWX9 hown hG hP 0 rfl rfl 20 (nle rfl) (hts _ (List.mem_cons_of_mem _ (List.mem_append_left _ (List.mem_of_getElem? (i := 1) rfl)))) rfl rfl dX9_append_50 ?_
            refine lv_iload (pc := 53) hexec hb dX9_append_53 (lv_at hl 0 rfl) ?_
            refine kw_iast (pc := 55) hexec hb hG hP hD hS 1 rfl hf dX9_append_55 (fun y1_text_4 H locs hf (hP : va_P g.1 vwCl (w_X9_append g a0 a1 u0_0 u0_1 u0_2 u0_3 u0_4 u0_5 u0_6 u0_8 u0_9 u0_10 u0_11 u0_12 u0_13 u0_14 u0_15 u0_16 u0_17 u0_18 u0_21 u0_22 u0_23 u0_24 u0_25 u0_26 u0_27 u0_28 u0_29 u0_30 0 x0_length_1 y1_text_4) H) (hD : va_D A (w_X9_append g a0 a1 u0_0 u0_1 u0_2 u0_3 u0_4 u0_5 u0_6 u0_8 u0_9 u0_10 u0_11 u0_12 u0_13 u0_14 u0_15 u0_16 u0_17 u0_18 u0_21 u0_22 u0_23 u0_24 u0_25 u0_26 u0_27 u0_28 u0_29 u0_30 0 x0_length_1 y1_text_4)) hS => ?_)
            refine lv_aload_n (pc := 56) hexec hb dX9_append_56 rfl (lv_at hl 1 rfl) ?_
            refine lv_dup (pc := 57) hexec hb dX9_append_57 rfl ?_
            refine kg_get (pc := 58) hexec hb (own := RX9) hWX9 hown hG hP 0 rfl rfl 20 (nle rfl) (hts _ (List.mem_cons_of_mem _ (List.mem_append_left _ (List.mem_of_getElem? (i := 1) rfl)))) rfl rfl dX9_append_58 ?_
            refine lv_iconst (pc := 61) hexec hb dX9_append_61 ki_1 ?_
            refine lv_iadd (pc := 62) hexec hb dX9_append_62 ?_
            obtain ⟨x0_length_4, ex0_length_4, hf⟩ := bv_e hf
            refine kn_i ex0_length_4 ?_
            refine kp_put (pc := 63) hexec hb (own := RX9) hWX9 tyX9 tyX9_ok nmX9 hown hG hP hD hS 0 rfl rfl 20 (nle rfl) (hts _ (List.mem_cons_of_mem _ (List.mem_append_left _ (List.mem_of_getElem? (i := 1) rfl)))) rfl rfl rfl rfl (nle rfl) dX9_append_63 (fun H locs (hP : va_P g.1 vwCl (w_X9_append g a0 a1 u0_0 u0_1 u0_2 u0_3 u0_4 u0_5 u0_6 u0_8 u0_9 u0_10 u0_11 u0_12 u0_13 u0_14 u0_15 u0_16 u0_17 u0_18 u0_21 u0_22 u0_23 u0_24 u0_25 u0_26 u0_27 u0_28 u0_29 u0_30 0 x0_length_4 y1_text_4) H) (hD : va_D A (w_X9_append g a0 a1 u0_0 u0_1 u0_2 u0_3 u0_4 u0_5 u0_6 u0_8 u0_9 u0_10 u0_11 u0_12 u0_13 u0_14 u0_15 u0_16 u0_17 u0_18 u0_21 u0_22 u0_23 u0_24 u0_25 u0_26 u0_27 u0_28 u0_29 u0_30 0 x0_length_4 y1_text_4)) hS => ?_)
            exact hj66 _ _ _ _ _ hf hP hD hS (lv_sub hl [1, 2, 3] rfl)
    exact hL26 n _ _ _ _ _ _ hz hP hD hS (lv_sub hl [1, 2, 0] rfl)
  · refine lv_bipush (pc := 20) hexec hb dX9_append_20 kb_m2 ?_
    cases hf
    exact ke_i hQ hexec hb hr hP hD hS dX9_append_22 hlocks
abbrev w_X9_byteAt (g : GE) (a0 a1 : Nat) (u0_0 u0_1 u0_2 u0_3 u0_4 u0_5 u0_6 u0_7 u0_8 u0_9 u0_10 u0_11 u0_12 u0_13 u0_14 u0_15 u0_16 u0_17 u0_18 u0_21 u0_22 u0_23 u0_24 u0_25 u0_26 u0_27 u0_28 u0_29 u0_30 : Value) (x0_length : Int32) (y1_text : Nat → Int32) : va_W := [(a0, .inr (9, [u0_0, u0_1, u0_2, u0_3, u0_4, u0_5, u0_6, u0_7, u0_8, u0_9, u0_10, u0_11, u0_12, u0_13, u0_14, u0_15, u0_16, u0_17, u0_18, .ref a1, .int x0_length, u0_21, u0_22, u0_23, u0_24, u0_25, u0_26, u0_27, u0_28, u0_29, u0_30])), (a1, .inl (g.2.1 0, 500, .inl y1_text))]
set_option maxRecDepth 20000 in
theorem c_X9_byteAt (l : Launch) (g : GE) (a0 a1 : Nat) (sz : Nat) (u0_0 u0_1 u0_2 u0_3 u0_4 u0_5 u0_6 u0_7 u0_8 u0_9 u0_10 u0_11 u0_12 u0_13 u0_14 u0_15 u0_16 u0_17 u0_18 u0_21 u0_22 u0_23 u0_24 u0_25 u0_26 u0_27 u0_28 u0_29 u0_30 : Value) (x0_length : Int32) (y1_text : Nat → Int32) (p1 : Int32)  (r : Int32) (hf : f_X9_byteAt x0_length y1_text p1 = some r) : MI l g yX9_byteAt wsX9_byteAt 1 24 [.ref a0, .int p1] (w_X9_byteAt g a0 a1 u0_0 u0_1 u0_2 u0_3 u0_4 u0_5 u0_6 u0_7 u0_8 u0_9 u0_10 u0_11 u0_12 u0_13 u0_14 u0_15 u0_16 u0_17 u0_18 u0_21 u0_22 u0_23 u0_24 u0_25 u0_26 u0_27 u0_28 u0_29 u0_30 x0_length y1_text) sz (some (.int r)) (w_X9_byteAt g a0 a1 u0_0 u0_1 u0_2 u0_3 u0_4 u0_5 u0_6 u0_7 u0_8 u0_9 u0_10 u0_11 u0_12 u0_13 u0_14 u0_15 u0_16 u0_17 u0_18 u0_21 u0_22 u0_23 u0_24 u0_25 u0_26 u0_27 u0_28 u0_29 u0_30 x0_length y1_text) := by
  refine MI.start (cc := cX9_byteAt) (maxL := 2) (ret := (some .int)) rfl rfl (nle rfl) ?_
  intro p e s m args below meth c A ls Q hQ hexec hb hr hts hown hlocks hml hA hP hD hG hS hl
  unfold f_X9_byteAt at hf
  have hWX9 : ∀ w ∈ wsX90, w.before args s = true := fun w h => hts w (List.mem_cons_of_mem _ (List.mem_append_right _ h))
  have hS : va_S A s.heap s.heap [] := hS
  refine lv_iload_n (pc := 0) hexec hb dX9_byteAt_0 rfl (lv_at hl 1 rfl) ?_
  refine lv_aload_n (pc := 1) hexec hb dX9_byteAt_1 rfl (lv_at hl 0 rfl) ?_
  refine kg_get (pc := 2) hexec hb (own := RX9) hWX9 hown hG hP 0 rfl rfl 20 (nle rfl) (hts _ (List.mem_cons_of_mem _ (List.mem_append_left _ (List.mem_of_getElem? (i := 0) rfl)))) rfl rfl dX9_byteAt_2 ?_
  refine ki_ge (pc := 5) hexec hb dX9_byteAt_5 (tgt := 17) rfl hf (fun hc hf => ?_) (fun hc hf => ?_)
  · refine lv_iconst (pc := 17) hexec hb dX9_byteAt_17 ki_m1 ?_
    cases hf
    exact ke_i hQ hexec hb hr hP hD hS dX9_byteAt_18 hlocks
  · refine lv_aload_n (pc := 8) hexec hb dX9_byteAt_8 rfl (lv_at hl 0 rfl) ?_
    refine kg_get (pc := 9) hexec hb (own := RX9) hWX9 hown hG hP 0 rfl rfl 19 (nle rfl) (hts _ (List.mem_cons_of_mem _ (List.mem_append_left _ (List.mem_of_getElem? (i := 1) rfl)))) rfl rfl dX9_byteAt_9 ?_
    refine lv_iload_n (pc := 12) hexec hb dX9_byteAt_12 rfl (lv_at hl 1 rfl) ?_
    refine kr_iald (pc := 13) hexec hb hG hP 1 rfl hf dX9_byteAt_13 (fun hf => ?_)
    refine lv_goto (pc := 14) hexec hb dX9_byteAt_14 (tgt := 18) rfl ?_
    cases hf
    exact ke_i hQ hexec hb hr hP hD hS dX9_byteAt_18 hlocks
abbrev w_X9_fails (g : GE) (a0 : Nat) (u0_0 u0_1 u0_2 u0_3 u0_4 u0_5 u0_6 u0_7 u0_8 u0_9 u0_10 u0_11 u0_12 u0_13 u0_14 u0_15 u0_16 u0_17 u0_18 u0_19 u0_20 u0_21 u0_22 u0_25 u0_26 u0_27 u0_28 u0_29 u0_30 : Value) (x0_error : Int32) (x0_errorAt : Int32) : va_W := [(a0, .inr (9, [u0_0, u0_1, u0_2, u0_3, u0_4, u0_5, u0_6, u0_7, u0_8, u0_9, u0_10, u0_11, u0_12, u0_13, u0_14, u0_15, u0_16, u0_17, u0_18, u0_19, u0_20, u0_21, u0_22, .int x0_error, .int x0_errorAt, u0_25, u0_26, u0_27, u0_28, u0_29, u0_30]))]
set_option maxRecDepth 20000 in
theorem c_X9_fails (l : Launch) (g : GE) (a0 : Nat) (sz : Nat) (u0_0 u0_1 u0_2 u0_3 u0_4 u0_5 u0_6 u0_7 u0_8 u0_9 u0_10 u0_11 u0_12 u0_13 u0_14 u0_15 u0_16 u0_17 u0_18 u0_19 u0_20 u0_21 u0_22 u0_25 u0_26 u0_27 u0_28 u0_29 u0_30 : Value) (x0_error : Int32) (x0_errorAt : Int32) (p1 : Int32) (p2 : Int32)  (o_x0_error : Int32) (o_x0_errorAt : Int32) (hf : f_X9_fails x0_error x0_errorAt p1 p2 = some (o_x0_error, o_x0_errorAt)) : MI l g yX9_fails wsX9_fails 1 24 [.ref a0, .int p1, .int p2] (w_X9_fails g a0 u0_0 u0_1 u0_2 u0_3 u0_4 u0_5 u0_6 u0_7 u0_8 u0_9 u0_10 u0_11 u0_12 u0_13 u0_14 u0_15 u0_16 u0_17 u0_18 u0_19 u0_20 u0_21 u0_22 u0_25 u0_26 u0_27 u0_28 u0_29 u0_30 x0_error x0_errorAt) sz none (w_X9_fails g a0 u0_0 u0_1 u0_2 u0_3 u0_4 u0_5 u0_6 u0_7 u0_8 u0_9 u0_10 u0_11 u0_12 u0_13 u0_14 u0_15 u0_16 u0_17 u0_18 u0_19 u0_20 u0_21 u0_22 u0_25 u0_26 u0_27 u0_28 u0_29 u0_30 o_x0_error o_x0_errorAt) := by
  refine MI.start (cc := cX9_fails) (maxL := 3) (ret := none) rfl rfl (nle rfl) ?_
  intro p e s m args below meth c A ls Q hQ hexec hb hr hts hown hlocks hml hA hP hD hG hS hl
  unfold f_X9_fails at hf
  have hWX9 : ∀ w ∈ wsX90, w.before args s = true := fun w h => hts w (List.mem_cons_of_mem _ (List.mem_append_right _ h))
  have hS : va_S A s.heap s.heap [] := hS
  refine lv_aload_n (pc := 0) hexec hb dX9_fails_0 rfl (lv_at hl 0 rfl) ?_
  refine kg_get (pc := 1) hexec hb (own := RX9) hWX9 hown hG hP 0 rfl rfl 23 (nle rfl) (hts _ (List.mem_cons_of_mem _ (List.mem_append_left _ (List.mem_of_getElem? (i := 0) rfl)))) rfl rfl dX9_fails_1 ?_
  refine kb_ne (pc := 4) hexec hb dX9_fails_4 (tgt := 17) rfl hf (fun hc hf => ?_) (fun hc hf => ?_)
  · cases hf
    exact ke_v hQ hexec hb hr hP hD hS dX9_fails_17 hlocks
  · refine lv_aload_n (pc := 7) hexec hb dX9_fails_7 rfl (lv_at hl 0 rfl) ?_
    refine lv_iload_n (pc := 8) hexec hb dX9_fails_8 rfl (lv_at hl 1 rfl) ?_
    refine kp_put (pc := 9) hexec hb (own := RX9) hWX9 tyX9 tyX9_ok nmX9 hown hG hP hD hS 0 rfl rfl 23 (nle rfl) (hts _ (List.mem_cons_of_mem _ (List.mem_append_left _ (List.mem_of_getElem? (i := 0) rfl)))) rfl rfl rfl rfl (nle rfl) dX9_fails_9 (fun H locs (hP : va_P g.1 vwCl (w_X9_fails g a0 u0_0 u0_1 u0_2 u0_3 u0_4 u0_5 u0_6 u0_7 u0_8 u0_9 u0_10 u0_11 u0_12 u0_13 u0_14 u0_15 u0_16 u0_17 u0_18 u0_19 u0_20 u0_21 u0_22 u0_25 u0_26 u0_27 u0_28 u0_29 u0_30 p1 x0_errorAt) H) (hD : va_D A (w_X9_fails g a0 u0_0 u0_1 u0_2 u0_3 u0_4 u0_5 u0_6 u0_7 u0_8 u0_9 u0_10 u0_11 u0_12 u0_13 u0_14 u0_15 u0_16 u0_17 u0_18 u0_19 u0_20 u0_21 u0_22 u0_25 u0_26 u0_27 u0_28 u0_29 u0_30 p1 x0_errorAt)) hS => ?_)
    refine lv_aload_n (pc := 12) hexec hb dX9_fails_12 rfl (lv_at hl 0 rfl) ?_
    refine lv_iload_n (pc := 13) hexec hb dX9_fails_13 rfl (lv_at hl 2 rfl) ?_
    refine kp_put (pc := 14) hexec hb (own := RX9) hWX9 tyX9 tyX9_ok nmX9 hown hG hP hD hS 0 rfl rfl 24 (nle rfl) (hts _ (List.mem_cons_of_mem _ (List.mem_append_left _ (List.mem_of_getElem? (i := 1) rfl)))) rfl rfl rfl rfl (nle rfl) dX9_fails_14 (fun H locs (hP : va_P g.1 vwCl (w_X9_fails g a0 u0_0 u0_1 u0_2 u0_3 u0_4 u0_5 u0_6 u0_7 u0_8 u0_9 u0_10 u0_11 u0_12 u0_13 u0_14 u0_15 u0_16 u0_17 u0_18 u0_19 u0_20 u0_21 u0_22 u0_25 u0_26 u0_27 u0_28 u0_29 u0_30 p1 p2) H) (hD : va_D A (w_X9_fails g a0 u0_0 u0_1 u0_2 u0_3 u0_4 u0_5 u0_6 u0_7 u0_8 u0_9 u0_10 u0_11 u0_12 u0_13 u0_14 u0_15 u0_16 u0_17 u0_18 u0_19 u0_20 u0_21 u0_22 u0_25 u0_26 u0_27 u0_28 u0_29 u0_30 p1 p2)) hS => ?_)
    cases hf
    exact ke_v hQ hexec hb hr hP hD hS dX9_fails_17 hlocks
abbrev w_X9_failsIf (g : GE) (a0 : Nat) (u0_0 u0_1 u0_2 u0_3 u0_4 u0_5 u0_6 u0_7 u0_8 u0_9 u0_10 u0_11 u0_12 u0_13 u0_14 u0_15 u0_16 u0_17 u0_18 u0_19 u0_20 u0_21 u0_25 u0_26 u0_27 u0_28 u0_29 u0_30 : Value) (x0_from : Int32) (x0_error : Int32) (x0_errorAt : Int32) : va_W := [(a0, .inr (9, [u0_0, u0_1, u0_2, u0_3, u0_4, u0_5, u0_6, u0_7, u0_8, u0_9, u0_10, u0_11, u0_12, u0_13, u0_14, u0_15, u0_16, u0_17, u0_18, u0_19, u0_20, u0_21, .int x0_from, .int x0_error, .int x0_errorAt, u0_25, u0_26, u0_27, u0_28, u0_29, u0_30]))]
set_option maxRecDepth 20000 in
theorem c_X9_failsIf (l : Launch) (g : GE) (a0 : Nat) (sz : Nat) (u0_0 u0_1 u0_2 u0_3 u0_4 u0_5 u0_6 u0_7 u0_8 u0_9 u0_10 u0_11 u0_12 u0_13 u0_14 u0_15 u0_16 u0_17 u0_18 u0_19 u0_20 u0_21 u0_25 u0_26 u0_27 u0_28 u0_29 u0_30 : Value) (x0_from : Int32) (x0_error : Int32) (x0_errorAt : Int32) (p1 : Int32) (p2 : Int32)  (o_x0_error : Int32) (o_x0_errorAt : Int32) (hf : f_X9_failsIf x0_from x0_error x0_errorAt p1 p2 = some (o_x0_error, o_x0_errorAt)) : MI l g yX9_failsIf wsX9_failsIf 2 46 [.ref a0, .int p1, .int p2] (w_X9_failsIf g a0 u0_0 u0_1 u0_2 u0_3 u0_4 u0_5 u0_6 u0_7 u0_8 u0_9 u0_10 u0_11 u0_12 u0_13 u0_14 u0_15 u0_16 u0_17 u0_18 u0_19 u0_20 u0_21 u0_25 u0_26 u0_27 u0_28 u0_29 u0_30 x0_from x0_error x0_errorAt) sz none (w_X9_failsIf g a0 u0_0 u0_1 u0_2 u0_3 u0_4 u0_5 u0_6 u0_7 u0_8 u0_9 u0_10 u0_11 u0_12 u0_13 u0_14 u0_15 u0_16 u0_17 u0_18 u0_19 u0_20 u0_21 u0_25 u0_26 u0_27 u0_28 u0_29 u0_30 x0_from o_x0_error o_x0_errorAt) := by
  refine MI.start (cc := cX9_failsIf) (maxL := 3) (ret := none) rfl rfl (nle rfl) ?_
  intro p e s m args below meth c A ls Q hQ hexec hb hr hts hown hlocks hml hA hP hD hG hS hl
  unfold f_X9_failsIf at hf
  have hWX9 : ∀ w ∈ wsX90, w.before args s = true := fun w h => hts w (List.mem_cons_of_mem _ (List.mem_append_right _ h))
  have hS : va_S A s.heap s.heap [] := hS
  refine lv_iload_n (pc := 0) hexec hb dX9_failsIf_0 rfl (lv_at hl 1 rfl) ?_
  refine kb_eq (pc := 1) hexec hb dX9_failsIf_1 (tgt := 13) rfl hf (fun hc hf => ?_) (fun hc hf => ?_)
  · cases hf
    exact ke_v hQ hexec hb hr hP hD hS dX9_failsIf_13 hlocks
  · refine lv_aload_n (pc := 4) hexec hb dX9_failsIf_4 rfl (lv_at hl 0 rfl) ?_
    refine lv_iload_n (pc := 5) hexec hb dX9_failsIf_5 rfl (lv_at hl 2 rfl) ?_
    refine lv_aload_n (pc := 6) hexec hb dX9_failsIf_6 rfl (lv_at hl 0 rfl) ?_
    refine kg_get (pc := 7) hexec hb (own := RX9) hWX9 hown hG hP 0 rfl rfl 22 (nle rfl) (hts _ (List.mem_cons_of_mem _ (List.mem_append_left _ (List.mem_of_getElem? (i := 0) rfl)))) rfl rfl dX9_failsIf_7 ?_
    obtain ⟨x0_error_1, x0_errorAt_1, hc, hf⟩ := bd2_e hf
    refine kVp (pc := 10) (S := ⟨hexec, hb, hml, hown, hts⟩) hP hD hG hA hS [0] [] [0] (w2 := (w_X9_failsIf g a0 u0_0 u0_1 u0_2 u0_3 u0_4 u0_5 u0_6 u0_7 u0_8 u0_9 u0_10 u0_11 u0_12 u0_13 u0_14 u0_15 u0_16 u0_17 u0_18 u0_19 u0_20 u0_21 u0_25 u0_26 u0_27 u0_28 u0_29 u0_30 x0_from x0_error_1 x0_errorAt_1)) rfl rfl rfl rfl rfl rfl (by decide) (c_X9_fails l g a0 _ u0_0 u0_1 u0_2 u0_3 u0_4 u0_5 u0_6 u0_7 u0_8 u0_9 u0_10 u0_11 u0_12 u0_13 u0_14 u0_15 u0_16 u0_17 u0_18 u0_19 u0_20 u0_21 (.int x0_from) u0_25 u0_26 u0_27 u0_28 u0_29 u0_30 x0_error x0_errorAt p2 x0_from x0_error_1 x0_errorAt_1 hc) gX9_failsIf_X9_fails rfl hv_X9_fails ⟨nle rfl, nle rfl⟩ 9 0 rfl rfl rfl (rest := []) rfl rfl hl.1 (nle rfl) dX9_failsIf_10 (fun H locs hP hD hS => ?_)
    cases hf
    exact ke_v hQ hexec hb hr hP hD hS dX9_failsIf_13 hlocks
abbrev w_X9_isFine (g : GE) (a0 : Nat) (u0_0 u0_1 u0_2 u0_3 u0_4 u0_5 u0_6 u0_7 u0_8 u0_9 u0_10 u0_11 u0_12 u0_13 u0_14 u0_15 u0_16 u0_17 u0_18 u0_19 u0_20 u0_21 u0_22 u0_24 u0_25 u0_26 u0_27 u0_28 u0_29 u0_30 : Value) (x0_error : Int32) : va_W := [(a0, .inr (9, [u0_0, u0_1, u0_2, u0_3, u0_4, u0_5, u0_6, u0_7, u0_8, u0_9, u0_10, u0_11, u0_12, u0_13, u0_14, u0_15, u0_16, u0_17, u0_18, u0_19, u0_20, u0_21, u0_22, .int x0_error, u0_24, u0_25, u0_26, u0_27, u0_28, u0_29, u0_30]))]
set_option maxRecDepth 20000 in
theorem c_X9_isFine (l : Launch) (g : GE) (a0 : Nat) (sz : Nat) (u0_0 u0_1 u0_2 u0_3 u0_4 u0_5 u0_6 u0_7 u0_8 u0_9 u0_10 u0_11 u0_12 u0_13 u0_14 u0_15 u0_16 u0_17 u0_18 u0_19 u0_20 u0_21 u0_22 u0_24 u0_25 u0_26 u0_27 u0_28 u0_29 u0_30 : Value) (x0_error : Int32)   (r : Int32) (hf : f_X9_isFine x0_error = some r) : MI l g yX9_isFine wsX9_isFine 1 24 [.ref a0] (w_X9_isFine g a0 u0_0 u0_1 u0_2 u0_3 u0_4 u0_5 u0_6 u0_7 u0_8 u0_9 u0_10 u0_11 u0_12 u0_13 u0_14 u0_15 u0_16 u0_17 u0_18 u0_19 u0_20 u0_21 u0_22 u0_24 u0_25 u0_26 u0_27 u0_28 u0_29 u0_30 x0_error) sz (some (.int r)) (w_X9_isFine g a0 u0_0 u0_1 u0_2 u0_3 u0_4 u0_5 u0_6 u0_7 u0_8 u0_9 u0_10 u0_11 u0_12 u0_13 u0_14 u0_15 u0_16 u0_17 u0_18 u0_19 u0_20 u0_21 u0_22 u0_24 u0_25 u0_26 u0_27 u0_28 u0_29 u0_30 x0_error) := by
  refine MI.start (cc := cX9_isFine) (maxL := 1) (ret := (some .boolean)) rfl rfl (nle rfl) ?_
  intro p e s m args below meth c A ls Q hQ hexec hb hr hts hown hlocks hml hA hP hD hG hS hl
  unfold f_X9_isFine at hf
  have hWX9 : ∀ w ∈ wsX90, w.before args s = true := fun w h => hts w (List.mem_cons_of_mem _ (List.mem_append_right _ h))
  have hS : va_S A s.heap s.heap [] := hS
  refine lv_aload_n (pc := 0) hexec hb dX9_isFine_0 rfl (lv_at hl 0 rfl) ?_
  refine kg_get (pc := 1) hexec hb (own := RX9) hWX9 hown hG hP 0 rfl rfl 23 (nle rfl) (hts _ (List.mem_cons_of_mem _ (List.mem_append_left _ (List.mem_of_getElem? (i := 0) rfl)))) rfl rfl dX9_isFine_1 ?_
  refine kb_ne (pc := 4) hexec hb dX9_isFine_4 (tgt := 11) rfl hf (fun hc hf => ?_) (fun hc hf => ?_)
  · refine lv_iconst (pc := 11) hexec hb dX9_isFine_11 ki_0 ?_
    cases hf
    exact ke_z hQ hexec hb hr (.inl rfl) hP hD hS dX9_isFine_12 hlocks
  · refine lv_iconst (pc := 7) hexec hb dX9_isFine_7 ki_1 ?_
    refine lv_goto (pc := 8) hexec hb dX9_isFine_8 (tgt := 12) rfl ?_
    cases hf
    exact ke_z hQ hexec hb hr (.inr rfl) hP hD hS dX9_isFine_12 hlocks
abbrev w_X9_looks (g : GE) (a0 a1 : Nat) (u0_0 u0_1 u0_2 u0_3 u0_4 u0_5 u0_6 u0_7 u0_8 u0_9 u0_10 u0_11 u0_12 u0_13 u0_14 u0_15 u0_16 u0_17 u0_18 u0_24 u0_25 u0_26 u0_27 u0_28 u0_29 u0_30 : Value) (x0_length : Int32) (x0_at : Int32) (x0_from : Int32) (x0_error : Int32) (y1_text : Nat → Int32) : va_W := [(a0, .inr (9, [u0_0, u0_1, u0_2, u0_3, u0_4, u0_5, u0_6, u0_7, u0_8, u0_9, u0_10, u0_11, u0_12, u0_13, u0_14, u0_15, u0_16, u0_17, u0_18, .ref a1, .int x0_length, .int x0_at, .int x0_from, .int x0_error, u0_24, u0_25, u0_26, u0_27, u0_28, u0_29, u0_30])), (a1, .inl (g.2.1 0, 500, .inl y1_text))]
set_option maxRecDepth 20000 in
theorem c_X9_looks (l : Launch) (g : GE) (a0 a1 : Nat) (sz : Nat) (u0_0 u0_1 u0_2 u0_3 u0_4 u0_5 u0_6 u0_7 u0_8 u0_9 u0_10 u0_11 u0_12 u0_13 u0_14 u0_15 u0_16 u0_17 u0_18 u0_24 u0_25 u0_26 u0_27 u0_28 u0_29 u0_30 : Value) (x0_length : Int32) (x0_at : Int32) (x0_from : Int32) (x0_error : Int32) (y1_text : Nat → Int32)   (r : Int32) (o_x0_at : Int32) (o_x0_from : Int32) (hf : f_X9_looks x0_length x0_at x0_from x0_error y1_text = some (r, o_x0_at, o_x0_from)) : MI l g yX9_looks wsX9_looks 2 45 [.ref a0] (w_X9_looks g a0 a1 u0_0 u0_1 u0_2 u0_3 u0_4 u0_5 u0_6 u0_7 u0_8 u0_9 u0_10 u0_11 u0_12 u0_13 u0_14 u0_15 u0_16 u0_17 u0_18 u0_24 u0_25 u0_26 u0_27 u0_28 u0_29 u0_30 x0_length x0_at x0_from x0_error y1_text) sz (some (.int r)) (w_X9_looks g a0 a1 u0_0 u0_1 u0_2 u0_3 u0_4 u0_5 u0_6 u0_7 u0_8 u0_9 u0_10 u0_11 u0_12 u0_13 u0_14 u0_15 u0_16 u0_17 u0_18 u0_24 u0_25 u0_26 u0_27 u0_28 u0_29 u0_30 x0_length o_x0_at o_x0_from x0_error y1_text) := by
  refine MI.start (cc := cX9_looks) (maxL := 1) (ret := (some .int)) rfl rfl (nle rfl) ?_
  intro p e s m args below meth c A ls Q hQ hexec hb hr hts hown hlocks hml hA hP hD hG hS hl
  unfold f_X9_looks at hf
  have hWX9 : ∀ w ∈ wsX90, w.before args s = true := fun w h => hts w (List.mem_cons_of_mem _ (List.mem_append_right _ h))
  have hS : va_S A s.heap s.heap [] := hS
  obtain ⟨l0, el0, hf⟩ := bvf1 hf
  obtain ⟨x0_at_2, hz, hf⟩ := bd1_e hf
  have hE0 : ∀ (H : Heap) (locs : List Loc) (ls : Array Slot), va_P g.1 vwCl (w_X9_looks g a0 a1 u0_0 u0_1 u0_2 u0_3 u0_4 u0_5 u0_6 u0_7 u0_8 u0_9 u0_10 u0_11 u0_12 u0_13 u0_14 u0_15 u0_16 u0_17 u0_18 u0_24 u0_25 u0_26 u0_27 u0_28 u0_29 u0_30 x0_length x0_at_2 x0_from x0_error y1_text) H → va_D A (w_X9_looks g a0 a1 u0_0 u0_1 u0_2 u0_3 u0_4 u0_5 u0_6 u0_7 u0_8 u0_9 u0_10 u0_11 u0_12 u0_13 u0_14 u0_15 u0_16 u0_17 u0_18 u0_24 u0_25 u0_26 u0_27 u0_28 u0_29 u0_30 x0_length x0_at_2 x0_from x0_error y1_text) → va_S A s.heap H locs → lv_has ls 1 [(0, .ref a0)] → W p l e (RM 2 45) s m args below meth c H locs 0 0 Q (F0 m 26 ls []) := by
    intro H locs ls hP hD hS hl
    refine lv_aload_n (pc := 26) hexec hb dX9_looks_26 rfl (lv_at hl 0 rfl) ?_
    obtain ⟨r27, hc, hf⟩ := bd1_e hf
    refine kVp (pc := 27) (S := ⟨hexec, hb, hml, hown, hts⟩) hP hD hG hA hS [0] [1] [1, 0] (w2 := (w_X9_looks g a0 a1 u0_0 u0_1 u0_2 u0_3 u0_4 u0_5 u0_6 u0_7 u0_8 u0_9 u0_10 u0_11 u0_12 u0_13 u0_14 u0_15 u0_16 u0_17 u0_18 u0_24 u0_25 u0_26 u0_27 u0_28 u0_29 u0_30 x0_length x0_at_2 x0_from x0_error y1_text)) rfl rfl rfl rfl rfl rfl (by decide) (c_X9_isFine l g a0 _ u0_0 u0_1 u0_2 u0_3 u0_4 u0_5 u0_6 u0_7 u0_8 u0_9 u0_10 u0_11 u0_12 u0_13 u0_14 u0_15 u0_16 u0_17 u0_18 (.ref a1) (.int x0_length) (.int x0_at_2) (.int x0_from) u0_24 u0_25 u0_26 u0_27 u0_28 u0_29 u0_30 x0_error r27 hc) gX9_looks_X9_isFine rfl hv_X9_isFine ⟨nle rfl, nle rfl⟩ 9 0 rfl rfl rfl (rest := []) rfl rfl hl.1 (nle rfl) dX9_looks_27 (fun H locs hP hD hS => ?_)
    obtain ⟨j41, ej41, hf⟩ := bvf1 hf
    have hj41 : ∀ (x0_from_1 : Int32) (H : Heap) (locs : List Loc) (ls : Array Slot), j41 x0_from_1 = some (r, o_x0_at, o_x0_from) → va_P g.1 vwCl (w_X9_looks g a0 a1 u0_0 u0_1 u0_2 u0_3 u0_4 u0_5 u0_6 u0_7 u0_8 u0_9 u0_10 u0_11 u0_12 u0_13 u0_14 u0_15 u0_16 u0_17 u0_18 u0_24 u0_25 u0_26 u0_27 u0_28 u0_29 u0_30 x0_length x0_at_2 x0_from_1 x0_error y1_text) H → va_D A (w_X9_looks g a0 a1 u0_0 u0_1 u0_2 u0_3 u0_4 u0_5 u0_6 u0_7 u0_8 u0_9 u0_10 u0_11 u0_12 u0_13 u0_14 u0_15 u0_16 u0_17 u0_18 u0_24 u0_25 u0_26 u0_27 u0_28 u0_29 u0_30 x0_length x0_at_2 x0_from_1 x0_error y1_text) → va_S A s.heap H locs → lv_has ls 1 [(0, .ref a0)] → W p l e (RM 2 45) s m args below meth c H locs 0 0 Q (F0 m 41 ls []) := by
      intro x0_from_1 H locs ls hf hP hD hS hl
      have hf := (ej41 x0_from_1).symm.trans hf
      refine lv_aload_n (pc := 41) hexec hb dX9_looks_41 rfl (lv_at hl 0 rfl) ?_
      refine lv_aload_n (pc := 42) hexec hb dX9_looks_42 rfl (lv_at hl 0 rfl) ?_
      refine kg_get (pc := 43) hexec hb (own := RX9) hWX9 hown hG hP 0 rfl rfl 21 (nle rfl) (hts _ (List.mem_cons_of_mem _ (List.mem_append_left _ (List.mem_of_getElem? (i := 0) rfl)))) rfl rfl dX9_looks_43 ?_
      obtain ⟨r46, hc, hf⟩ := bd1_e hf
      refine kVp (pc := 46) (S := ⟨hexec, hb, hml, hown, hts⟩) hP hD hG hA hS [0, 1] [] [0, 1] (w2 := (w_X9_looks g a0 a1 u0_0 u0_1 u0_2 u0_3 u0_4 u0_5 u0_6 u0_7 u0_8 u0_9 u0_10 u0_11 u0_12 u0_13 u0_14 u0_15 u0_16 u0_17 u0_18 u0_24 u0_25 u0_26 u0_27 u0_28 u0_29 u0_30 x0_length x0_at_2 x0_from_1 x0_error y1_text)) rfl rfl rfl rfl rfl rfl (by decide) (c_X9_byteAt l g a0 a1 _ u0_0 u0_1 u0_2 u0_3 u0_4 u0_5 u0_6 u0_7 u0_8 u0_9 u0_10 u0_11 u0_12 u0_13 u0_14 u0_15 u0_16 u0_17 u0_18 (.int x0_at_2) (.int x0_from_1) (.int x0_error) u0_24 u0_25 u0_26 u0_27 u0_28 u0_29 u0_30 x0_length y1_text x0_at_2 r46 hc) gX9_looks_X9_byteAt rfl hv_X9_byteAt ⟨nle rfl, nle rfl⟩ 9 0 rfl rfl rfl (rest := []) rfl rfl hl.1 (nle rfl) dX9_looks_46 (fun H locs hP hD hS => ?_)
      cases hf
      exact ke_i hQ hexec hb hr hP hD hS dX9_looks_49 hlocks
    refine kb_eq (pc := 30) hexec hb dX9_looks_30 (tgt := 41) rfl hf (fun hc hf => ?_) (fun hc hf => ?_)
    · exact hj41 _ _ _ _ hf hP hD hS (lv_sub hl [0] rfl)
    · refine lv_aload_n (pc := 33) hexec hb dX9_looks_33 rfl (lv_at hl 0 rfl) ?_
      refine lv_aload_n (pc := 34) hexec hb dX9_looks_34 rfl (lv_at hl 0 rfl) ?_
      refine kg_get (pc := 35) hexec hb (own := RX9) hWX9 hown hG hP 0 rfl rfl 21 (nle rfl) (hts _ (List.mem_cons_of_mem _ (List.mem_append_left _ (List.mem_of_getElem? (i := 0) rfl)))) rfl rfl dX9_looks_35 ?_
      refine kp_put (pc := 38) hexec hb (own := RX9) hWX9 tyX9 tyX9_ok nmX9 hown hG hP hD hS 0 rfl rfl 22 (nle rfl) (hts _ (List.mem_cons_of_mem _ (List.mem_append_left _ (List.mem_of_getElem? (i := 1) rfl)))) rfl rfl rfl rfl (nle rfl) dX9_looks_38 (fun H locs (hP : va_P g.1 vwCl (w_X9_looks g a0 a1 u0_0 u0_1 u0_2 u0_3 u0_4 u0_5 u0_6 u0_7 u0_8 u0_9 u0_10 u0_11 u0_12 u0_13 u0_14 u0_15 u0_16 u0_17 u0_18 u0_24 u0_25 u0_26 u0_27 u0_28 u0_29 u0_30 x0_length x0_at_2 x0_at_2 x0_error y1_text) H) (hD : va_D A (w_X9_looks g a0 a1 u0_0 u0_1 u0_2 u0_3 u0_4 u0_5 u0_6 u0_7 u0_8 u0_9 u0_10 u0_11 u0_12 u0_13 u0_14 u0_15 u0_16 u0_17 u0_18 u0_24 u0_25 u0_26 u0_27 u0_28 u0_29 u0_30 x0_length x0_at_2 x0_at_2 x0_error y1_text)) hS => ?_)
      exact hj41 _ _ _ _ hf hP hD hS (lv_sub hl [0] rfl)
  obtain ⟨n, hz⟩ := lq1_e hz
  have hL0 : ∀ (n : Nat) (x0_at_1 : Int32) (H : Heap) (locs : List Loc) (ls : Array Slot), it1 l0 n x0_at_1 = some x0_at_2 → va_P g.1 vwCl (w_X9_looks g a0 a1 u0_0 u0_1 u0_2 u0_3 u0_4 u0_5 u0_6 u0_7 u0_8 u0_9 u0_10 u0_11 u0_12 u0_13 u0_14 u0_15 u0_16 u0_17 u0_18 u0_24 u0_25 u0_26 u0_27 u0_28 u0_29 u0_30 x0_length x0_at_1 x0_from x0_error y1_text) H → va_D A (w_X9_looks g a0 a1 u0_0 u0_1 u0_2 u0_3 u0_4 u0_5 u0_6 u0_7 u0_8 u0_9 u0_10 u0_11 u0_12 u0_13 u0_14 u0_15 u0_16 u0_17 u0_18 u0_24 u0_25 u0_26 u0_27 u0_28 u0_29 u0_30 x0_length x0_at_1 x0_from x0_error y1_text) → va_S A s.heap H locs → lv_has ls 1 [(0, .ref a0)] → W p l e (RM 2 45) s m args below meth c H locs 0 0 Q (F0 m 0 ls []) := by
    intro n
    induction n with
    | zero =>
      intro x0_at_1 H locs ls hf hP hD hS hl
      exact it1_0 hf
    | succ n0 ih0 =>
      intro x0_at_1 H locs ls hf hP hD hS hl
      obtain ⟨q0, hf, hk0⟩ := it1_e hf
      have hf := (el0 x0_at_1).symm.trans hf
      refine lv_aload_n (pc := 0) hexec hb dX9_looks_0 rfl (lv_at hl 0 rfl) ?_
      refine lv_aload_n (pc := 1) hexec hb dX9_looks_1 rfl (lv_at hl 0 rfl) ?_
      refine kg_get (pc := 2) hexec hb (own := RX9) hWX9 hown hG hP 0 rfl rfl 21 (nle rfl) (hts _ (List.mem_cons_of_mem _ (List.mem_append_left _ (List.mem_of_getElem? (i := 0) rfl)))) rfl rfl dX9_looks_2 ?_
      obtain ⟨r5, hc, hf⟩ := bd1_e hf
      refine kVp (pc := 5) (S := ⟨hexec, hb, hml, hown, hts⟩) hP hD hG hA hS [0, 1] [] [0, 1] (w2 := (w_X9_looks g a0 a1 u0_0 u0_1 u0_2 u0_3 u0_4 u0_5 u0_6 u0_7 u0_8 u0_9 u0_10 u0_11 u0_12 u0_13 u0_14 u0_15 u0_16 u0_17 u0_18 u0_24 u0_25 u0_26 u0_27 u0_28 u0_29 u0_30 x0_length x0_at_1 x0_from x0_error y1_text)) rfl rfl rfl rfl rfl rfl (by decide) (c_X9_byteAt l g a0 a1 _ u0_0 u0_1 u0_2 u0_3 u0_4 u0_5 u0_6 u0_7 u0_8 u0_9 u0_10 u0_11 u0_12 u0_13 u0_14 u0_15 u0_16 u0_17 u0_18 (.int x0_at_1) (.int x0_from) (.int x0_error) u0_24 u0_25 u0_26 u0_27 u0_28 u0_29 u0_30 x0_length y1_text x0_at_1 r5 hc) gX9_looks_X9_byteAt rfl hv_X9_byteAt ⟨nle rfl, nle rfl⟩ 9 0 rfl rfl rfl (rest := []) rfl rfl hl.1 (nle rfl) dX9_looks_5 (fun H locs hP hD hS => ?_)
      refine lv_bipush (pc := 8) hexec hb dX9_looks_8 kb_32 ?_
      refine ki_ne (pc := 10) hexec hb dX9_looks_10 (tgt := 26) rfl hf (fun hc hf => ?_) (fun hc hf => ?_)
      · cases sr1 hf hk0
        exact hE0 _ _ _ hP hD hS (lv_sub hl [0] rfl)
      · refine lv_aload_n (pc := 13) hexec hb dX9_looks_13 rfl (lv_at hl 0 rfl) ?_
        refine lv_dup (pc := 14) hexec hb dX9_looks_14 rfl ?_
        refine kg_get (pc := 15) hexec hb (own := RX9) hWX9 hown hG hP 0 rfl rfl 21 (nle rfl) (hts _ (List.mem_cons_of_mem _ (List.mem_append_left _ (List.mem_of_getElem? (i := 0) rfl)))) rfl rfl dX9_looks_15 ?_
        refine lv_iconst (pc := 18) hexec hb dX9_looks_18 ki_1 ?_
        refine lv_iadd (pc := 19) hexec hb dX9_looks_19 ?_
        obtain ⟨x0_at_3, ex0_at_3, hf⟩ := bv_e hf
        refine kn_i ex0_at_3 ?_
        refine kp_put (pc := 20) hexec hb (own := RX9) hWX9 tyX9 tyX9_ok nmX9 hown hG hP hD hS 0 rfl rfl 21 (nle rfl) (hts _ (List.mem_cons_of_mem _ (List.mem_append_left _ (List.mem_of_getElem? (i := 0) rfl)))) rfl rfl rfl rfl (nle rfl) dX9_looks_20 (fun H locs (hP : va_P g.1 vwCl (w_X9_looks g a0 a1 u0_0 u0_1 u0_2 u0_3 u0_4 u0_5 u0_6 u0_7 u0_8 u0_9 u0_10 u0_11 u0_12 u0_13 u0_14 u0_15 u0_16 u0_17 u0_18 u0_24 u0_25 u0_26 u0_27 u0_28 u0_29 u0_30 x0_length x0_at_3 x0_from x0_error y1_text) H) (hD : va_D A (w_X9_looks g a0 a1 u0_0 u0_1 u0_2 u0_3 u0_4 u0_5 u0_6 u0_7 u0_8 u0_9 u0_10 u0_11 u0_12 u0_13 u0_14 u0_15 u0_16 u0_17 u0_18 u0_24 u0_25 u0_26 u0_27 u0_28 u0_29 u0_30 x0_length x0_at_3 x0_from x0_error y1_text)) hS => ?_)
        refine lv_goto (pc := 23) hexec hb dX9_looks_23 (tgt := 0) rfl ?_
        exact ih0 _ _ _ _ (sl1 hf hk0) hP hD hS (lv_sub hl [0] rfl)
  exact hL0 n _ _ _ _ hz hP hD hS (lv_sub hl [0] rfl)
abbrev w_X9_isLetter (g : GE) : va_W := []
set_option maxRecDepth 20000 in
theorem c_X9_isLetter (l : Launch) (g : GE) (sz : Nat)  (p0 : Int32)  (r : Int32) (hf : f_X9_isLetter p0 = some r) : MI l g yX9_isLetter wsX9_isLetter 2 49 [.int p0] (w_X9_isLetter g ) sz (some (.int r)) (w_X9_isLetter g ) := by
  refine MI.start (cc := cX9_isLetter) (maxL := 1) (ret := (some .boolean)) rfl rfl (nle rfl) ?_
  intro p e s m args below meth c A ls Q hQ hexec hb hr hts hown hlocks hml hA hP hD hG hS hl
  unfold f_X9_isLetter at hf
  have hS : va_S A s.heap s.heap [] := hS
  refine lv_iload_n (pc := 0) hexec hb dX9_isLetter_0 rfl (lv_at hl 0 rfl) ?_
  refine lv_i2l (pc := 1) hexec hb dX9_isLetter_1 rfl ?_
  refine lv_ldc2 (pc := 2) hexec hb (own := RX9) hown (hts _ (List.mem_cons_of_mem _ (List.mem_of_getElem? (i := 0) rfl))) dX9_isLetter_2 ?_
  refine lv_ldc2 (pc := 5) hexec hb (own := RX9) hown (hts _ (List.mem_cons_of_mem _ (List.mem_of_getElem? (i := 1) rfl))) dX9_isLetter_5 ?_
  obtain ⟨r8, hc, hf⟩ := bd1_e hf
  refine kSp (pc := 8) (S := ⟨hexec, hb, hml, hown, hts⟩) hP hD hG hA hS [] [] [] (w2 := (w_X9_isLetter g )) rfl rfl rfl rfl rfl rfl (by decide) (c_X9_isIn l g _ (p0.toInt64) 97 122 r8 hc) gX9_isLetter_X9_isIn rfl hs_X9_isIn ⟨nle rfl, nle rfl⟩ (rest := []) rfl rfl hl.1 (nle rfl) dX9_isLetter_8 (fun H locs hP hD hS => ?_)
  obtain ⟨hx, hf⟩ := zb_e hf
  cases hf
  exact ke_z hQ hexec hb hr hx hP hD hS dX9_isLetter_11 hlocks
abbrev w_X9_isDigit (g : GE) : va_W := []
set_option maxRecDepth 20000 in
theorem c_X9_isDigit (l : Launch) (g : GE) (sz : Nat)  (p0 : Int32)  (r : Int32) (hf : f_X9_isDigit p0 = some r) : MI l g yX9_isDigit wsX9_isDigit 2 49 [.int p0] (w_X9_isDigit g ) sz (some (.int r)) (w_X9_isDigit g ) := by
  refine MI.start (cc := cX9_isDigit) (maxL := 1) (ret := (some .boolean)) rfl rfl (nle rfl) ?_
  intro p e s m args below meth c A ls Q hQ hexec hb hr hts hown hlocks hml hA hP hD hG hS hl
  unfold f_X9_isDigit at hf
  have hS : va_S A s.heap s.heap [] := hS
  refine lv_iload_n (pc := 0) hexec hb dX9_isDigit_0 rfl (lv_at hl 0 rfl) ?_
  refine lv_i2l (pc := 1) hexec hb dX9_isDigit_1 rfl ?_
  refine lv_ldc2 (pc := 2) hexec hb (own := RX9) hown (hts _ (List.mem_cons_of_mem _ (List.mem_of_getElem? (i := 0) rfl))) dX9_isDigit_2 ?_
  refine lv_ldc2 (pc := 5) hexec hb (own := RX9) hown (hts _ (List.mem_cons_of_mem _ (List.mem_of_getElem? (i := 1) rfl))) dX9_isDigit_5 ?_
  obtain ⟨r8, hc, hf⟩ := bd1_e hf
  refine kSp (pc := 8) (S := ⟨hexec, hb, hml, hown, hts⟩) hP hD hG hA hS [] [] [] (w2 := (w_X9_isDigit g )) rfl rfl rfl rfl rfl rfl (by decide) (c_X9_isIn l g _ (p0.toInt64) 48 57 r8 hc) gX9_isDigit_X9_isIn rfl hs_X9_isIn ⟨nle rfl, nle rfl⟩ (rest := []) rfl rfl hl.1 (nle rfl) dX9_isDigit_8 (fun H locs hP hD hS => ?_)
  obtain ⟨hx, hf⟩ := zb_e hf
  cases hf
  exact ke_z hQ hexec hb hr hx hP hD hS dX9_isDigit_11 hlocks
abbrev w_X9_word (g : GE) (a0 a1 : Nat) (u0_0 u0_1 u0_2 u0_3 u0_4 u0_5 u0_6 u0_7 u0_8 u0_9 u0_10 u0_11 u0_12 u0_13 u0_14 u0_15 u0_16 u0_17 u0_18 u0_24 u0_25 u0_26 u0_27 u0_28 u0_29 u0_30 : Value) (x0_length : Int32) (x0_at : Int32) (x0_from : Int32) (x0_error : Int32) (y1_text : Nat → Int32) : va_W := [(a0, .inr (9, [u0_0, u0_1, u0_2, u0_3, u0_4, u0_5, u0_6, u0_7, u0_8, u0_9, u0_10, u0_11, u0_12, u0_13, u0_14, u0_15, u0_16, u0_17, u0_18, .ref a1, .int x0_length, .int x0_at, .int x0_from, .int x0_error, u0_24, u0_25, u0_26, u0_27, u0_28, u0_29, u0_30])), (a1, .inl (g.2.1 0, 500, .inl y1_text))]
set_option maxRecDepth 20000 in
theorem c_X9_word (l : Launch) (g : GE) (a0 a1 : Nat) (sz : Nat) (u0_0 u0_1 u0_2 u0_3 u0_4 u0_5 u0_6 u0_7 u0_8 u0_9 u0_10 u0_11 u0_12 u0_13 u0_14 u0_15 u0_16 u0_17 u0_18 u0_24 u0_25 u0_26 u0_27 u0_28 u0_29 u0_30 : Value) (x0_length : Int32) (x0_at : Int32) (x0_from : Int32) (x0_error : Int32) (y1_text : Nat → Int32)   (o_x0_at : Int32) (o_x0_from : Int32) (hf : f_X9_word x0_length x0_at x0_from x0_error y1_text = some (o_x0_at, o_x0_from)) : MI l g yX9_word wsX9_word 3 69 [.ref a0] (w_X9_word g a0 a1 u0_0 u0_1 u0_2 u0_3 u0_4 u0_5 u0_6 u0_7 u0_8 u0_9 u0_10 u0_11 u0_12 u0_13 u0_14 u0_15 u0_16 u0_17 u0_18 u0_24 u0_25 u0_26 u0_27 u0_28 u0_29 u0_30 x0_length x0_at x0_from x0_error y1_text) sz none (w_X9_word g a0 a1 u0_0 u0_1 u0_2 u0_3 u0_4 u0_5 u0_6 u0_7 u0_8 u0_9 u0_10 u0_11 u0_12 u0_13 u0_14 u0_15 u0_16 u0_17 u0_18 u0_24 u0_25 u0_26 u0_27 u0_28 u0_29 u0_30 x0_length o_x0_at o_x0_from x0_error y1_text) := by
  refine MI.start (cc := cX9_word) (maxL := 1) (ret := none) rfl rfl (nle rfl) ?_
  intro p e s m args below meth c A ls Q hQ hexec hb hr hts hown hlocks hml hA hP hD hG hS hl
  unfold f_X9_word at hf
  have hWX9 : ∀ w ∈ wsX90, w.before args s = true := fun w h => hts w (List.mem_cons_of_mem _ (List.mem_append_right _ h))
  have hS : va_S A s.heap s.heap [] := hS
  refine lv_aload_n (pc := 0) hexec hb dX9_word_0 rfl (lv_at hl 0 rfl) ?_
  obtain ⟨r1, hc, hf⟩ := bd1_e hf
  refine kVp (pc := 1) (S := ⟨hexec, hb, hml, hown, hts⟩) hP hD hG hA hS [0] [1] [1, 0] (w2 := (w_X9_word g a0 a1 u0_0 u0_1 u0_2 u0_3 u0_4 u0_5 u0_6 u0_7 u0_8 u0_9 u0_10 u0_11 u0_12 u0_13 u0_14 u0_15 u0_16 u0_17 u0_18 u0_24 u0_25 u0_26 u0_27 u0_28 u0_29 u0_30 x0_length x0_at x0_from x0_error y1_text)) rfl rfl rfl rfl rfl rfl (by decide) (c_X9_isFine l g a0 _ u0_0 u0_1 u0_2 u0_3 u0_4 u0_5 u0_6 u0_7 u0_8 u0_9 u0_10 u0_11 u0_12 u0_13 u0_14 u0_15 u0_16 u0_17 u0_18 (.ref a1) (.int x0_length) (.int x0_at) (.int x0_from) u0_24 u0_25 u0_26 u0_27 u0_28 u0_29 u0_30 x0_error r1 hc) gX9_word_X9_isFine rfl hv_X9_isFine ⟨nle rfl, nle rfl⟩ 9 0 rfl rfl rfl (rest := []) rfl rfl hl.1 (nle rfl) dX9_word_1 (fun H locs hP hD hS => ?_)
  refine kb_ne (pc := 4) hexec hb dX9_word_4 (tgt := 8) rfl hf (fun hc hf => ?_) (fun hc hf => ?_)
  · refine lv_aload_n (pc := 8) hexec hb dX9_word_8 rfl (lv_at hl 0 rfl) ?_
    obtain ⟨r9, x0_at_1, x0_from_1, hc, hf⟩ := bd3_e hf
    refine kVp (pc := 9) (S := ⟨hexec, hb, hml, hown, hts⟩) hP hD hG hA hS [0, 1] [] [0, 1] (w2 := (w_X9_word g a0 a1 u0_0 u0_1 u0_2 u0_3 u0_4 u0_5 u0_6 u0_7 u0_8 u0_9 u0_10 u0_11 u0_12 u0_13 u0_14 u0_15 u0_16 u0_17 u0_18 u0_24 u0_25 u0_26 u0_27 u0_28 u0_29 u0_30 x0_length x0_at_1 x0_from_1 x0_error y1_text)) rfl rfl rfl rfl rfl rfl (by decide) (c_X9_looks l g a0 a1 _ u0_0 u0_1 u0_2 u0_3 u0_4 u0_5 u0_6 u0_7 u0_8 u0_9 u0_10 u0_11 u0_12 u0_13 u0_14 u0_15 u0_16 u0_17 u0_18 u0_24 u0_25 u0_26 u0_27 u0_28 u0_29 u0_30 x0_length x0_at x0_from x0_error y1_text r9 x0_at_1 x0_from_1 hc) gX9_word_X9_looks rfl hv_X9_looks ⟨nle rfl, nle rfl⟩ 9 0 rfl rfl rfl (rest := []) rfl rfl hl.1 (nle rfl) dX9_word_9 (fun H locs hP hD hS => ?_)
    refine lv_pop (pc := 12) hexec hb dX9_word_12 rfl ?_
    obtain ⟨l13, el13, hf⟩ := bvf1 hf
    obtain ⟨x0_at_3, hz, hf⟩ := bd1_e hf
    have hE13 : ∀ (H : Heap) (locs : List Loc) (ls : Array Slot), va_P g.1 vwCl (w_X9_word g a0 a1 u0_0 u0_1 u0_2 u0_3 u0_4 u0_5 u0_6 u0_7 u0_8 u0_9 u0_10 u0_11 u0_12 u0_13 u0_14 u0_15 u0_16 u0_17 u0_18 u0_24 u0_25 u0_26 u0_27 u0_28 u0_29 u0_30 x0_length x0_at_3 x0_from_1 x0_error y1_text) H → va_D A (w_X9_word g a0 a1 u0_0 u0_1 u0_2 u0_3 u0_4 u0_5 u0_6 u0_7 u0_8 u0_9 u0_10 u0_11 u0_12 u0_13 u0_14 u0_15 u0_16 u0_17 u0_18 u0_24 u0_25 u0_26 u0_27 u0_28 u0_29 u0_30 x0_length x0_at_3 x0_from_1 x0_error y1_text) → va_S A s.heap H locs → lv_has ls 1 [] → W p l e (RM 3 69) s m args below meth c H locs 0 0 Q (F0 m 40 ls []) := by
      intro H locs ls hP hD hS hl
      cases hf
      exact ke_v hQ hexec hb hr hP hD hS dX9_word_40 hlocks
    obtain ⟨n, hz⟩ := lq1_e hz
    have hL13 : ∀ (n : Nat) (x0_at_2 : Int32) (H : Heap) (locs : List Loc) (ls : Array Slot), it1 l13 n x0_at_2 = some x0_at_3 → va_P g.1 vwCl (w_X9_word g a0 a1 u0_0 u0_1 u0_2 u0_3 u0_4 u0_5 u0_6 u0_7 u0_8 u0_9 u0_10 u0_11 u0_12 u0_13 u0_14 u0_15 u0_16 u0_17 u0_18 u0_24 u0_25 u0_26 u0_27 u0_28 u0_29 u0_30 x0_length x0_at_2 x0_from_1 x0_error y1_text) H → va_D A (w_X9_word g a0 a1 u0_0 u0_1 u0_2 u0_3 u0_4 u0_5 u0_6 u0_7 u0_8 u0_9 u0_10 u0_11 u0_12 u0_13 u0_14 u0_15 u0_16 u0_17 u0_18 u0_24 u0_25 u0_26 u0_27 u0_28 u0_29 u0_30 x0_length x0_at_2 x0_from_1 x0_error y1_text) → va_S A s.heap H locs → lv_has ls 1 [(0, .ref a0)] → W p l e (RM 3 69) s m args below meth c H locs 0 0 Q (F0 m 13 ls []) := by
      intro n
      induction n with
      | zero =>
        intro x0_at_2 H locs ls hf hP hD hS hl
        exact it1_0 hf
      | succ n13 ih13 =>
        intro x0_at_2 H locs ls hf hP hD hS hl
        obtain ⟨q13, hf, hk13⟩ := it1_e hf
        have hf := (el13 x0_at_2).symm.trans hf
        refine lv_aload_n (pc := 13) hexec hb dX9_word_13 rfl (lv_at hl 0 rfl) ?_
        refine lv_aload_n (pc := 14) hexec hb dX9_word_14 rfl (lv_at hl 0 rfl) ?_
        refine kg_get (pc := 15) hexec hb (own := RX9) hWX9 hown hG hP 0 rfl rfl 21 (nle rfl) (hts _ (List.mem_cons_of_mem _ (List.mem_append_left _ (List.mem_append_left _ (List.mem_of_getElem? (i := 0) rfl))))) rfl rfl dX9_word_15 ?_
        obtain ⟨r18, hc, hf⟩ := bd1_e hf
        refine kVp (pc := 18) (S := ⟨hexec, hb, hml, hown, hts⟩) hP hD hG hA hS [0, 1] [] [0, 1] (w2 := (w_X9_word g a0 a1 u0_0 u0_1 u0_2 u0_3 u0_4 u0_5 u0_6 u0_7 u0_8 u0_9 u0_10 u0_11 u0_12 u0_13 u0_14 u0_15 u0_16 u0_17 u0_18 u0_24 u0_25 u0_26 u0_27 u0_28 u0_29 u0_30 x0_length x0_at_2 x0_from_1 x0_error y1_text)) rfl rfl rfl rfl rfl rfl (by decide) (c_X9_byteAt l g a0 a1 _ u0_0 u0_1 u0_2 u0_3 u0_4 u0_5 u0_6 u0_7 u0_8 u0_9 u0_10 u0_11 u0_12 u0_13 u0_14 u0_15 u0_16 u0_17 u0_18 (.int x0_at_2) (.int x0_from_1) (.int x0_error) u0_24 u0_25 u0_26 u0_27 u0_28 u0_29 u0_30 x0_length y1_text x0_at_2 r18 hc) gX9_word_X9_byteAt rfl hv_X9_byteAt ⟨nle rfl, nle rfl⟩ 9 0 rfl rfl rfl (rest := []) rfl rfl hl.1 (nle rfl) dX9_word_18 (fun H locs hP hD hS => ?_)
        obtain ⟨r21, hc, hf⟩ := bd1_e hf
        refine kSp (pc := 21) (S := ⟨hexec, hb, hml, hown, hts⟩) hP hD hG hA hS [] [0, 1] [0, 1] (w2 := (w_X9_word g a0 a1 u0_0 u0_1 u0_2 u0_3 u0_4 u0_5 u0_6 u0_7 u0_8 u0_9 u0_10 u0_11 u0_12 u0_13 u0_14 u0_15 u0_16 u0_17 u0_18 u0_24 u0_25 u0_26 u0_27 u0_28 u0_29 u0_30 x0_length x0_at_2 x0_from_1 x0_error y1_text)) rfl rfl rfl rfl rfl rfl (by decide) (c_X9_isLetter l g _ r18 r21 hc) gX9_word_X9_isLetter rfl hs_X9_isLetter ⟨nle rfl, nle rfl⟩ (rest := []) rfl rfl hl.1 (nle rfl) dX9_word_21 (fun H locs hP hD hS => ?_)
        refine kb_eq (pc := 24) hexec hb dX9_word_24 (tgt := 40) rfl hf (fun hc hf => ?_) (fun hc hf => ?_)
        · cases sr1 hf hk13
          exact hE13 _ _ _ hP hD hS (lv_sub hl [] rfl)
        · refine lv_aload_n (pc := 27) hexec hb dX9_word_27 rfl (lv_at hl 0 rfl) ?_
          refine lv_dup (pc := 28) hexec hb dX9_word_28 rfl ?_
          refine kg_get (pc := 29) hexec hb (own := RX9) hWX9 hown hG hP 0 rfl rfl 21 (nle rfl) (hts _ (List.mem_cons_of_mem _ (List.mem_append_left _ (List.mem_append_left _ (List.mem_of_getElem? (i := 0) rfl))))) rfl rfl dX9_word_29 ?_
          refine lv_iconst (pc := 32) hexec hb dX9_word_32 ki_1 ?_
          refine lv_iadd (pc := 33) hexec hb dX9_word_33 ?_
          obtain ⟨x0_at_4, ex0_at_4, hf⟩ := bv_e hf
          refine kn_i ex0_at_4 ?_
          refine kp_put (pc := 34) hexec hb (own := RX9) hWX9 tyX9 tyX9_ok nmX9 hown hG hP hD hS 0 rfl rfl 21 (nle rfl) (hts _ (List.mem_cons_of_mem _ (List.mem_append_left _ (List.mem_append_left _ (List.mem_of_getElem? (i := 0) rfl))))) rfl rfl rfl rfl (nle rfl) dX9_word_34 (fun H locs (hP : va_P g.1 vwCl (w_X9_word g a0 a1 u0_0 u0_1 u0_2 u0_3 u0_4 u0_5 u0_6 u0_7 u0_8 u0_9 u0_10 u0_11 u0_12 u0_13 u0_14 u0_15 u0_16 u0_17 u0_18 u0_24 u0_25 u0_26 u0_27 u0_28 u0_29 u0_30 x0_length x0_at_4 x0_from_1 x0_error y1_text) H) (hD : va_D A (w_X9_word g a0 a1 u0_0 u0_1 u0_2 u0_3 u0_4 u0_5 u0_6 u0_7 u0_8 u0_9 u0_10 u0_11 u0_12 u0_13 u0_14 u0_15 u0_16 u0_17 u0_18 u0_24 u0_25 u0_26 u0_27 u0_28 u0_29 u0_30 x0_length x0_at_4 x0_from_1 x0_error y1_text)) hS => ?_)
          refine lv_goto (pc := 37) hexec hb dX9_word_37 (tgt := 13) rfl ?_
          exact ih13 _ _ _ _ (sl1 hf hk13) hP hD hS (lv_sub hl [0] rfl)
    exact hL13 n _ _ _ _ hz hP hD hS (lv_sub hl [0] rfl)
  · cases hf
    exact ke_v hQ hexec hb hr hP hD hS dX9_word_7 hlocks
abbrev w_X9_was (g : GE) (a0 a1 : Nat) (u0_0 u0_1 u0_2 u0_3 u0_4 u0_5 u0_6 u0_7 u0_8 u0_9 u0_10 u0_11 u0_12 u0_13 u0_14 u0_15 u0_16 u0_17 u0_18 u0_20 u0_24 u0_25 u0_26 u0_27 u0_28 u0_29 u0_30 : Value) (x0_at : Int32) (x0_from : Int32) (x0_error : Int32) (y1_text : Nat → Int32) : va_W := [(a0, .inr (9, [u0_0, u0_1, u0_2, u0_3, u0_4, u0_5, u0_6, u0_7, u0_8, u0_9, u0_10, u0_11, u0_12, u0_13, u0_14, u0_15, u0_16, u0_17, u0_18, .ref a1, u0_20, .int x0_at, .int x0_from, .int x0_error, u0_24, u0_25, u0_26, u0_27, u0_28, u0_29, u0_30])), (a1, .inl (g.2.1 0, 500, .inl y1_text))]
set_option maxRecDepth 20000 in
theorem c_X9_was (l : Launch) (g : GE) (a0 a1 : Nat) (sz : Nat) (u0_0 u0_1 u0_2 u0_3 u0_4 u0_5 u0_6 u0_7 u0_8 u0_9 u0_10 u0_11 u0_12 u0_13 u0_14 u0_15 u0_16 u0_17 u0_18 u0_20 u0_24 u0_25 u0_26 u0_27 u0_28 u0_29 u0_30 : Value) (x0_at : Int32) (x0_from : Int32) (x0_error : Int32) (y1_text : Nat → Int32) (k1 : Nat) (hk1 : k1 < 12) (r : Int32) (hf : f_X9_was x0_at x0_from x0_error y1_text k1 = some r) : MI l g yX9_was wsX9_was 5 111 [.ref a0, .ref (adK g k1)] (w_X9_was g a0 a1 u0_0 u0_1 u0_2 u0_3 u0_4 u0_5 u0_6 u0_7 u0_8 u0_9 u0_10 u0_11 u0_12 u0_13 u0_14 u0_15 u0_16 u0_17 u0_18 u0_20 u0_24 u0_25 u0_26 u0_27 u0_28 u0_29 u0_30 x0_at x0_from x0_error y1_text) sz (some (.int r)) (w_X9_was g a0 a1 u0_0 u0_1 u0_2 u0_3 u0_4 u0_5 u0_6 u0_7 u0_8 u0_9 u0_10 u0_11 u0_12 u0_13 u0_14 u0_15 u0_16 u0_17 u0_18 u0_20 u0_24 u0_25 u0_26 u0_27 u0_28 u0_29 u0_30 x0_at x0_from x0_error y1_text) := by
  refine MI.start (cc := cX9_was) (maxL := 4) (ret := (some .boolean)) rfl rfl (nle rfl) ?_
  intro p e s m args below meth c A ls Q hQ hexec hb hr hts hown hlocks hml hA hP hD hG hS hl
  unfold f_X9_was at hf
  have hWX9 : ∀ w ∈ wsX90, w.before args s = true := fun w h => hts w (List.mem_cons_of_mem _ (List.mem_append_right _ h))
  have hS : va_S A s.heap s.heap [] := hS
  refine lv_aload_n (pc := 0) hexec hb dX9_was_0 rfl (lv_at hl 0 rfl) ?_
  obtain ⟨r1, hc, hf⟩ := bd1_e hf
  refine kVp (pc := 1) (S := ⟨hexec, hb, hml, hown, hts⟩) hP hD hG hA hS [0] [1] [1, 0] (w2 := (w_X9_was g a0 a1 u0_0 u0_1 u0_2 u0_3 u0_4 u0_5 u0_6 u0_7 u0_8 u0_9 u0_10 u0_11 u0_12 u0_13 u0_14 u0_15 u0_16 u0_17 u0_18 u0_20 u0_24 u0_25 u0_26 u0_27 u0_28 u0_29 u0_30 x0_at x0_from x0_error y1_text)) rfl rfl rfl rfl rfl rfl (by decide) (c_X9_isFine l g a0 _ u0_0 u0_1 u0_2 u0_3 u0_4 u0_5 u0_6 u0_7 u0_8 u0_9 u0_10 u0_11 u0_12 u0_13 u0_14 u0_15 u0_16 u0_17 u0_18 (.ref a1) u0_20 (.int x0_at) (.int x0_from) u0_24 u0_25 u0_26 u0_27 u0_28 u0_29 u0_30 x0_error r1 hc) gX9_was_X9_isFine rfl hv_X9_isFine ⟨nle rfl, nle rfl⟩ 9 0 rfl rfl rfl (rest := []) rfl rfl hl.1 (nle rfl) dX9_was_1 (fun H locs hP hD hS => ?_)
  obtain ⟨j28, ej28, hf⟩ := bvf1 hf
  have hj28 : ∀ (t28 : Int32) (H : Heap) (locs : List Loc) (ls : Array Slot), j28 t28 = some r → va_P g.1 vwCl (w_X9_was g a0 a1 u0_0 u0_1 u0_2 u0_3 u0_4 u0_5 u0_6 u0_7 u0_8 u0_9 u0_10 u0_11 u0_12 u0_13 u0_14 u0_15 u0_16 u0_17 u0_18 u0_20 u0_24 u0_25 u0_26 u0_27 u0_28 u0_29 u0_30 x0_at x0_from x0_error y1_text) H → va_D A (w_X9_was g a0 a1 u0_0 u0_1 u0_2 u0_3 u0_4 u0_5 u0_6 u0_7 u0_8 u0_9 u0_10 u0_11 u0_12 u0_13 u0_14 u0_15 u0_16 u0_17 u0_18 u0_20 u0_24 u0_25 u0_26 u0_27 u0_28 u0_29 u0_30 x0_at x0_from x0_error y1_text) → va_S A s.heap H locs → lv_has ls 4 [(0, .ref a0), (1, .ref (adK g k1))] → W p l e (RM 5 111) s m args below meth c H locs 0 0 Q (F0 m 28 ls [.int t28]) := by
    intro t28 H locs ls hf hP hD hS hl
    have hf := (ej28 t28).symm.trans hf
    refine lv_istore_n (pc := 28) hexec hb dX9_was_28 rfl hl (nle rfl) rfl (fun ls (hl : lv_has ls 4 [(2, .int t28), (0, .ref a0), (1, .ref (adK g k1))]) => ?_)
    refine lv_iconst (pc := 29) hexec hb dX9_was_29 ki_0 ?_
    refine lv_istore_n (pc := 30) hexec hb dX9_was_30 rfl hl (nle rfl) rfl (fun ls (hl : lv_has ls 4 [(3, .int 0), (2, .int t28), (0, .ref a0), (1, .ref (adK g k1))]) => ?_)
    obtain ⟨l31, el31, hf⟩ := bvf2 hf
    obtain ⟨v2_1, hz, hf⟩ := bd1_e hf
    have hE31 : ∀ (H : Heap) (locs : List Loc) (ls : Array Slot), va_P g.1 vwCl (w_X9_was g a0 a1 u0_0 u0_1 u0_2 u0_3 u0_4 u0_5 u0_6 u0_7 u0_8 u0_9 u0_10 u0_11 u0_12 u0_13 u0_14 u0_15 u0_16 u0_17 u0_18 u0_20 u0_24 u0_25 u0_26 u0_27 u0_28 u0_29 u0_30 x0_at x0_from x0_error y1_text) H → va_D A (w_X9_was g a0 a1 u0_0 u0_1 u0_2 u0_3 u0_4 u0_5 u0_6 u0_7 u0_8 u0_9 u0_10 u0_11 u0_12 u0_13 u0_14 u0_15 u0_16 u0_17 u0_18 u0_20 u0_24 u0_25 u0_26 u0_27 u0_28 u0_29 u0_30 x0_at x0_from x0_error y1_text) → va_S A s.heap H locs → lv_has ls 4 [(2, .int v2_1)] → W p l e (RM 5 111) s m args below meth c H locs 0 0 Q (F0 m 74 ls []) := by
      intro H locs ls hP hD hS hl
      refine lv_iload_n (pc := 74) hexec hb dX9_was_74 rfl (lv_at hl 0 rfl) ?_
      obtain ⟨hx, hf⟩ := zb_e hf
      cases hf
      exact ke_z hQ hexec hb hr hx hP hD hS dX9_was_75 hlocks
    obtain ⟨n, hz⟩ := lq2_e hz
    have hL31 : ∀ (n : Nat) (v2 : Int32) (v3 : Int32) (H : Heap) (locs : List Loc) (ls : Array Slot), it2 l31 n v2 v3 = some v2_1 → va_P g.1 vwCl (w_X9_was g a0 a1 u0_0 u0_1 u0_2 u0_3 u0_4 u0_5 u0_6 u0_7 u0_8 u0_9 u0_10 u0_11 u0_12 u0_13 u0_14 u0_15 u0_16 u0_17 u0_18 u0_20 u0_24 u0_25 u0_26 u0_27 u0_28 u0_29 u0_30 x0_at x0_from x0_error y1_text) H → va_D A (w_X9_was g a0 a1 u0_0 u0_1 u0_2 u0_3 u0_4 u0_5 u0_6 u0_7 u0_8 u0_9 u0_10 u0_11 u0_12 u0_13 u0_14 u0_15 u0_16 u0_17 u0_18 u0_20 u0_24 u0_25 u0_26 u0_27 u0_28 u0_29 u0_30 x0_at x0_from x0_error y1_text) → va_S A s.heap H locs → lv_has ls 4 [(0, .ref a0), (1, .ref (adK g k1)), (2, .int v2), (3, .int v3)] → W p l e (RM 5 111) s m args below meth c H locs 0 0 Q (F0 m 31 ls []) := by
      intro n
      induction n with
      | zero =>
        intro v2 v3 H locs ls hf hP hD hS hl
        exact it2_0 hf
      | succ n31 ih31 =>
        intro v2 v3 H locs ls hf hP hD hS hl
        obtain ⟨q31, hf, hk31⟩ := it2_e hf
        have hf := (el31 v2 v3).symm.trans hf
        refine lv_iload_n (pc := 31) hexec hb dX9_was_31 rfl (lv_at hl 3 rfl) ?_
        refine lv_aload_n (pc := 32) hexec hb dX9_was_32 rfl (lv_at hl 1 rfl) ?_
        refine kVq (pc := 33) (S := ⟨hexec, hb, hml, hown, hts⟩) hP hD hG hA hS [] [0, 1] [0, 1] (w2 := (w_X9_was g a0 a1 u0_0 u0_1 u0_2 u0_3 u0_4 u0_5 u0_6 u0_7 u0_8 u0_9 u0_10 u0_11 u0_12 u0_13 u0_14 u0_15 u0_16 u0_17 u0_18 u0_20 u0_24 u0_25 u0_26 u0_27 u0_28 u0_29 u0_30 x0_at x0_from x0_error y1_text)) rfl rfl rfl rfl rfl rfl (by decide) (c_slen l g _ k1 hk1) gX9_was_J0_length_8abf5 rfl hv_J0_length ⟨nle rfl, nle rfl⟩ (vk_recv (gs_s hG) hk1 hS) (rest := [.int v3]) rfl rfl hl.1 (nle rfl) dX9_was_33 (fun H locs hP hD hS => ?_)
        refine ki_ge (pc := 36) hexec hb dX9_was_36 (tgt := 74) rfl hf (fun hc hf => ?_) (fun hc hf => ?_)
        · cases sr2 hf hk31
          exact hE31 _ _ _ hP hD hS (lv_sub hl [2] rfl)
        · refine lv_iload_n (pc := 39) hexec hb dX9_was_39 rfl (lv_at hl 2 rfl) ?_
          refine kb_eq (pc := 40) hexec hb dX9_was_40 (tgt := 74) rfl hf (fun hc hf => ?_) (fun hc hf => ?_)
          · cases sr2 hf hk31
            exact hE31 _ _ _ hP hD hS (lv_sub hl [2] rfl)
          · refine lv_aload_n (pc := 43) hexec hb dX9_was_43 rfl (lv_at hl 0 rfl) ?_
            refine kg_get (pc := 44) hexec hb (own := RX9) hWX9 hown hG hP 0 rfl rfl 19 (nle rfl) (hts _ (List.mem_cons_of_mem _ (List.mem_append_left _ (List.mem_append_left _ (List.mem_of_getElem? (i := 2) rfl))))) rfl rfl dX9_was_44 ?_
            refine lv_aload_n (pc := 47) hexec hb dX9_was_47 rfl (lv_at hl 0 rfl) ?_
            refine kg_get (pc := 48) hexec hb (own := RX9) hWX9 hown hG hP 0 rfl rfl 22 (nle rfl) (hts _ (List.mem_cons_of_mem _ (List.mem_append_left _ (List.mem_append_left _ (List.mem_of_getElem? (i := 1) rfl))))) rfl rfl dX9_was_48 ?_
            refine lv_iload_n (pc := 51) hexec hb dX9_was_51 rfl (lv_at hl 3 rfl) ?_
            refine lv_iadd (pc := 52) hexec hb dX9_was_52 ?_
            refine kr_iald (pc := 53) hexec hb hG hP 1 rfl hf dX9_was_53 (fun hf => ?_)
            refine lv_aload_n (pc := 54) hexec hb dX9_was_54 rfl (lv_at hl 1 rfl) ?_
            refine lv_iload_n (pc := 55) hexec hb dX9_was_55 rfl (lv_at hl 3 rfl) ?_
            obtain ⟨hi, hf⟩ := ar_e hf
            refine kVq (pc := 56) (S := ⟨hexec, hb, hml, hown, hts⟩) hP hD hG hA hS [] [0, 1] [0, 1] (w2 := (w_X9_was g a0 a1 u0_0 u0_1 u0_2 u0_3 u0_4 u0_5 u0_6 u0_7 u0_8 u0_9 u0_10 u0_11 u0_12 u0_13 u0_14 u0_15 u0_16 u0_17 u0_18 u0_20 u0_24 u0_25 u0_26 u0_27 u0_28 u0_29 u0_30 x0_at x0_from x0_error y1_text)) rfl rfl rfl rfl rfl rfl (by decide) (c_schr l g _ k1 v3 hk1 hi) gX9_was_J0_charAt_5068e rfl hv_J0_charAt ⟨nle rfl, nle rfl⟩ (vk_recv (gs_s hG) hk1 hS) (rest := [.int (y1_text (x0_from + v3).toNatClampNeg)]) rfl rfl hl.1 (nle rfl) dX9_was_56 (fun H locs hP hD hS => ?_)
            obtain ⟨j67, ej67, hf⟩ := bvf1 hf
            have hj67 : ∀ (t67 : Int32) (H : Heap) (locs : List Loc) (ls : Array Slot), j67 t67 = some q31 → va_P g.1 vwCl (w_X9_was g a0 a1 u0_0 u0_1 u0_2 u0_3 u0_4 u0_5 u0_6 u0_7 u0_8 u0_9 u0_10 u0_11 u0_12 u0_13 u0_14 u0_15 u0_16 u0_17 u0_18 u0_20 u0_24 u0_25 u0_26 u0_27 u0_28 u0_29 u0_30 x0_at x0_from x0_error y1_text) H → va_D A (w_X9_was g a0 a1 u0_0 u0_1 u0_2 u0_3 u0_4 u0_5 u0_6 u0_7 u0_8 u0_9 u0_10 u0_11 u0_12 u0_13 u0_14 u0_15 u0_16 u0_17 u0_18 u0_20 u0_24 u0_25 u0_26 u0_27 u0_28 u0_29 u0_30 x0_at x0_from x0_error y1_text) → va_S A s.heap H locs → lv_has ls 4 [(0, .ref a0), (1, .ref (adK g k1)), (3, .int v3)] → W p l e (RM 5 111) s m args below meth c H locs 0 0 Q (F0 m 67 ls [.int t67]) := by
              intro t67 H locs ls hf hP hD hS hl
              have hf := (ej67 t67).symm.trans hf
              refine lv_istore_n (pc := 67) hexec hb dX9_was_67 rfl hl (nle rfl) rfl (fun ls (hl : lv_has ls 4 [(2, .int t67), (0, .ref a0), (1, .ref (adK g k1)), (3, .int v3)]) => ?_)
              obtain ⟨v3_1, ev3_1, hf⟩ := bv_e hf
              refine k_iinc (pc := 68) hexec hb dX9_was_68 kq_1 hl (k := 3) rfl ev3_1 (nle rfl) rfl (fun ls (hl : lv_has ls 4 [(3, .int v3_1), (2, .int t67), (0, .ref a0), (1, .ref (adK g k1))]) => ?_)
              refine lv_goto (pc := 71) hexec hb dX9_was_71 (tgt := 31) rfl ?_
              exact ih31 _ _ _ _ _ (sl2 hf hk31) hP hD hS (lv_sub hl [2, 3, 1, 0] rfl)
            refine ki_ne (pc := 59) hexec hb dX9_was_59 (tgt := 66) rfl hf (fun hc hf => ?_) (fun hc hf => ?_)
            · refine lv_iconst (pc := 66) hexec hb dX9_was_66 ki_0 ?_
              exact hj67 _ _ _ _ hf hP hD hS (lv_sub hl [0, 1, 3] rfl)
            · refine lv_iconst (pc := 62) hexec hb dX9_was_62 ki_1 ?_
              refine lv_goto (pc := 63) hexec hb dX9_was_63 (tgt := 67) rfl ?_
              exact hj67 _ _ _ _ hf hP hD hS (lv_sub hl [0, 1, 3] rfl)
    exact hL31 n _ _ _ _ _ hz hP hD hS (lv_sub hl [2, 3, 1, 0] rfl)
  obtain ⟨j27, ej27, hf⟩ := bvf1 hf
  have hj27 : ∀ (u : Unit) (H : Heap) (locs : List Loc) (ls : Array Slot), j27 u = some r → va_P g.1 vwCl (w_X9_was g a0 a1 u0_0 u0_1 u0_2 u0_3 u0_4 u0_5 u0_6 u0_7 u0_8 u0_9 u0_10 u0_11 u0_12 u0_13 u0_14 u0_15 u0_16 u0_17 u0_18 u0_20 u0_24 u0_25 u0_26 u0_27 u0_28 u0_29 u0_30 x0_at x0_from x0_error y1_text) H → va_D A (w_X9_was g a0 a1 u0_0 u0_1 u0_2 u0_3 u0_4 u0_5 u0_6 u0_7 u0_8 u0_9 u0_10 u0_11 u0_12 u0_13 u0_14 u0_15 u0_16 u0_17 u0_18 u0_20 u0_24 u0_25 u0_26 u0_27 u0_28 u0_29 u0_30 x0_at x0_from x0_error y1_text) → va_S A s.heap H locs → lv_has ls 4 [(0, .ref a0), (1, .ref (adK g k1))] → W p l e (RM 5 111) s m args below meth c H locs 0 0 Q (F0 m 27 ls []) := by
    intro u H locs ls hf hP hD hS hl
    have hf := (ej27 u).symm.trans hf
    refine lv_iconst (pc := 27) hexec hb dX9_was_27 ki_0 ?_
    exact hj28 _ _ _ _ hf hP hD hS (lv_sub hl [0, 1] rfl)
  refine kb_eq (pc := 4) hexec hb dX9_was_4 (tgt := 27) rfl hf (fun hc hf => ?_) (fun hc hf => ?_)
  · exact hj27 _ _ _ _ hf hP hD hS (lv_sub hl [0, 1] rfl)
  · refine lv_aload_n (pc := 7) hexec hb dX9_was_7 rfl (lv_at hl 0 rfl) ?_
    refine kg_get (pc := 8) hexec hb (own := RX9) hWX9 hown hG hP 0 rfl rfl 21 (nle rfl) (hts _ (List.mem_cons_of_mem _ (List.mem_append_left _ (List.mem_append_left _ (List.mem_of_getElem? (i := 0) rfl))))) rfl rfl dX9_was_8 ?_
    refine lv_aload_n (pc := 11) hexec hb dX9_was_11 rfl (lv_at hl 0 rfl) ?_
    refine kg_get (pc := 12) hexec hb (own := RX9) hWX9 hown hG hP 0 rfl rfl 22 (nle rfl) (hts _ (List.mem_cons_of_mem _ (List.mem_append_left _ (List.mem_append_left _ (List.mem_of_getElem? (i := 1) rfl))))) rfl rfl dX9_was_12 ?_
    refine lv_isub (pc := 15) hexec hb dX9_was_15 ?_
    refine lv_aload_n (pc := 16) hexec hb dX9_was_16 rfl (lv_at hl 1 rfl) ?_
    refine kVq (pc := 17) (S := ⟨hexec, hb, hml, hown, hts⟩) hP hD hG hA hS [] [0, 1] [0, 1] (w2 := (w_X9_was g a0 a1 u0_0 u0_1 u0_2 u0_3 u0_4 u0_5 u0_6 u0_7 u0_8 u0_9 u0_10 u0_11 u0_12 u0_13 u0_14 u0_15 u0_16 u0_17 u0_18 u0_20 u0_24 u0_25 u0_26 u0_27 u0_28 u0_29 u0_30 x0_at x0_from x0_error y1_text)) rfl rfl rfl rfl rfl rfl (by decide) (c_slen l g _ k1 hk1) gX9_was_J0_length_8abf5 rfl hv_J0_length ⟨nle rfl, nle rfl⟩ (vk_recv (gs_s hG) hk1 hS) (rest := [.int (x0_at - x0_from)]) rfl rfl hl.1 (nle rfl) dX9_was_17 (fun H locs hP hD hS => ?_)
    refine ki_ne (pc := 20) hexec hb dX9_was_20 (tgt := 27) rfl hf (fun hc hf => ?_) (fun hc hf => ?_)
    · exact hj27 _ _ _ _ hf hP hD hS (lv_sub hl [0, 1] rfl)
    · refine lv_iconst (pc := 23) hexec hb dX9_was_23 ki_1 ?_
      refine lv_goto (pc := 24) hexec hb dX9_was_24 (tgt := 28) rfl ?_
      exact hj28 _ _ _ _ hf hP hD hS (lv_sub hl [0, 1] rfl)
abbrev w_X9_number (g : GE) (a0 a1 : Nat) (u0_0 u0_1 u0_2 u0_3 u0_4 u0_5 u0_6 u0_7 u0_8 u0_9 u0_10 u0_11 u0_12 u0_13 u0_14 u0_15 u0_16 u0_17 u0_18 u0_25 u0_26 u0_27 u0_28 u0_29 u0_30 : Value) (x0_length : Int32) (x0_at : Int32) (x0_from : Int32) (x0_error : Int32) (x0_errorAt : Int32) (y1_text : Nat → Int32) : va_W := [(a0, .inr (9, [u0_0, u0_1, u0_2, u0_3, u0_4, u0_5, u0_6, u0_7, u0_8, u0_9, u0_10, u0_11, u0_12, u0_13, u0_14, u0_15, u0_16, u0_17, u0_18, .ref a1, .int x0_length, .int x0_at, .int x0_from, .int x0_error, .int x0_errorAt, u0_25, u0_26, u0_27, u0_28, u0_29, u0_30])), (a1, .inl (g.2.1 0, 500, .inl y1_text))]
set_option maxRecDepth 20000 in
theorem c_X9_number (l : Launch) (g : GE) (a0 a1 : Nat) (sz : Nat) (u0_0 u0_1 u0_2 u0_3 u0_4 u0_5 u0_6 u0_7 u0_8 u0_9 u0_10 u0_11 u0_12 u0_13 u0_14 u0_15 u0_16 u0_17 u0_18 u0_25 u0_26 u0_27 u0_28 u0_29 u0_30 : Value) (x0_length : Int32) (x0_at : Int32) (x0_from : Int32) (x0_error : Int32) (x0_errorAt : Int32) (y1_text : Nat → Int32) (p1 : Int32) (p2 : Int32)  (r : Int32) (o_x0_at : Int32) (o_x0_from : Int32) (o_x0_error : Int32) (o_x0_errorAt : Int32) (hf : f_X9_number x0_length x0_at x0_from x0_error x0_errorAt y1_text p1 p2 = some (r, o_x0_at, o_x0_from, o_x0_error, o_x0_errorAt)) : MI l g yX9_number wsX9_number 3 69 [.ref a0, .int p1, .int p2] (w_X9_number g a0 a1 u0_0 u0_1 u0_2 u0_3 u0_4 u0_5 u0_6 u0_7 u0_8 u0_9 u0_10 u0_11 u0_12 u0_13 u0_14 u0_15 u0_16 u0_17 u0_18 u0_25 u0_26 u0_27 u0_28 u0_29 u0_30 x0_length x0_at x0_from x0_error x0_errorAt y1_text) sz (some (.int r)) (w_X9_number g a0 a1 u0_0 u0_1 u0_2 u0_3 u0_4 u0_5 u0_6 u0_7 u0_8 u0_9 u0_10 u0_11 u0_12 u0_13 u0_14 u0_15 u0_16 u0_17 u0_18 u0_25 u0_26 u0_27 u0_28 u0_29 u0_30 x0_length o_x0_at o_x0_from o_x0_error o_x0_errorAt y1_text) := by
  refine MI.start (cc := cX9_number) (maxL := 4) (ret := (some .int)) rfl rfl (nle rfl) ?_
  intro p e s m args below meth c A ls Q hQ hexec hb hr hts hown hlocks hml hA hP hD hG hS hl
  unfold f_X9_number at hf
  have hWX9 : ∀ w ∈ wsX90, w.before args s = true := fun w h => hts w (List.mem_cons_of_mem _ (List.mem_append_right _ h))
  have hS : va_S A s.heap s.heap [] := hS
  refine lv_aload_n (pc := 0) hexec hb dX9_number_0 rfl (lv_at hl 0 rfl) ?_
  obtain ⟨r1, hc, hf⟩ := bd1_e hf
  refine kVp (pc := 1) (S := ⟨hexec, hb, hml, hown, hts⟩) hP hD hG hA hS [0] [1] [1, 0] (w2 := (w_X9_number g a0 a1 u0_0 u0_1 u0_2 u0_3 u0_4 u0_5 u0_6 u0_7 u0_8 u0_9 u0_10 u0_11 u0_12 u0_13 u0_14 u0_15 u0_16 u0_17 u0_18 u0_25 u0_26 u0_27 u0_28 u0_29 u0_30 x0_length x0_at x0_from x0_error x0_errorAt y1_text)) rfl rfl rfl rfl rfl rfl (by decide) (c_X9_isFine l g a0 _ u0_0 u0_1 u0_2 u0_3 u0_4 u0_5 u0_6 u0_7 u0_8 u0_9 u0_10 u0_11 u0_12 u0_13 u0_14 u0_15 u0_16 u0_17 u0_18 (.ref a1) (.int x0_length) (.int x0_at) (.int x0_from) (.int x0_errorAt) u0_25 u0_26 u0_27 u0_28 u0_29 u0_30 x0_error r1 hc) gX9_number_X9_isFine rfl hv_X9_isFine ⟨nle rfl, nle rfl⟩ 9 0 rfl rfl rfl (rest := []) rfl rfl hl.1 (nle rfl) dX9_number_1 (fun H locs hP hD hS => ?_)
  refine kb_ne (pc := 4) hexec hb dX9_number_4 (tgt := 9) rfl hf (fun hc hf => ?_) (fun hc hf => ?_)
  · refine lv_aload_n (pc := 9) hexec hb dX9_number_9 rfl (lv_at hl 0 rfl) ?_
    obtain ⟨r10, x0_at_1, x0_from_1, hc, hf⟩ := bd3_e hf
    refine kVp (pc := 10) (S := ⟨hexec, hb, hml, hown, hts⟩) hP hD hG hA hS [0, 1] [] [0, 1] (w2 := (w_X9_number g a0 a1 u0_0 u0_1 u0_2 u0_3 u0_4 u0_5 u0_6 u0_7 u0_8 u0_9 u0_10 u0_11 u0_12 u0_13 u0_14 u0_15 u0_16 u0_17 u0_18 u0_25 u0_26 u0_27 u0_28 u0_29 u0_30 x0_length x0_at_1 x0_from_1 x0_error x0_errorAt y1_text)) rfl rfl rfl rfl rfl rfl (by decide) (c_X9_looks l g a0 a1 _ u0_0 u0_1 u0_2 u0_3 u0_4 u0_5 u0_6 u0_7 u0_8 u0_9 u0_10 u0_11 u0_12 u0_13 u0_14 u0_15 u0_16 u0_17 u0_18 (.int x0_errorAt) u0_25 u0_26 u0_27 u0_28 u0_29 u0_30 x0_length x0_at x0_from x0_error y1_text r10 x0_at_1 x0_from_1 hc) gX9_number_X9_looks rfl hv_X9_looks ⟨nle rfl, nle rfl⟩ 9 0 rfl rfl rfl (rest := []) rfl rfl hl.1 (nle rfl) dX9_number_10 (fun H locs hP hD hS => ?_)
    obtain ⟨r13, hc, hf⟩ := bd1_e hf
    refine kSp (pc := 13) (S := ⟨hexec, hb, hml, hown, hts⟩) hP hD hG hA hS [] [0, 1] [0, 1] (w2 := (w_X9_number g a0 a1 u0_0 u0_1 u0_2 u0_3 u0_4 u0_5 u0_6 u0_7 u0_8 u0_9 u0_10 u0_11 u0_12 u0_13 u0_14 u0_15 u0_16 u0_17 u0_18 u0_25 u0_26 u0_27 u0_28 u0_29 u0_30 x0_length x0_at_1 x0_from_1 x0_error x0_errorAt y1_text)) rfl rfl rfl rfl rfl rfl (by decide) (c_X9_isDigit l g _ r10 r13 hc) gX9_number_X9_isDigit rfl hs_X9_isDigit ⟨nle rfl, nle rfl⟩ (rest := []) rfl rfl hl.1 (nle rfl) dX9_number_13 (fun H locs hP hD hS => ?_)
    refine kb_ne (pc := 16) hexec hb dX9_number_16 (tgt := 30) rfl hf (fun hc hf => ?_) (fun hc hf => ?_)
    · refine lv_iconst (pc := 30) hexec hb dX9_number_30 ki_0 ?_
      refine lv_istore_n (pc := 31) hexec hb dX9_number_31 rfl hl (nle rfl) rfl (fun ls (hl : lv_has ls 4 [(3, .int 0), (0, .ref a0), (1, .int p1), (2, .int p2)]) => ?_)
      obtain ⟨l32, el32, hf⟩ := bvf2 hf
      obtain ⟨v3_1, x0_at_3, hz, hf⟩ := bd2_e hf
      have hE32 : ∀ (H : Heap) (locs : List Loc) (ls : Array Slot), va_P g.1 vwCl (w_X9_number g a0 a1 u0_0 u0_1 u0_2 u0_3 u0_4 u0_5 u0_6 u0_7 u0_8 u0_9 u0_10 u0_11 u0_12 u0_13 u0_14 u0_15 u0_16 u0_17 u0_18 u0_25 u0_26 u0_27 u0_28 u0_29 u0_30 x0_length x0_at_3 x0_from_1 x0_error x0_errorAt y1_text) H → va_D A (w_X9_number g a0 a1 u0_0 u0_1 u0_2 u0_3 u0_4 u0_5 u0_6 u0_7 u0_8 u0_9 u0_10 u0_11 u0_12 u0_13 u0_14 u0_15 u0_16 u0_17 u0_18 u0_25 u0_26 u0_27 u0_28 u0_29 u0_30 x0_length x0_at_3 x0_from_1 x0_error x0_errorAt y1_text) → va_S A s.heap H locs → lv_has ls 4 [(0, .ref a0), (1, .int p1), (2, .int p2), (3, .int v3_1)] → W p l e (RM 3 69) s m args below meth c H locs 0 0 Q (F0 m 81 ls []) := by
        intro H locs ls hP hD hS hl
        refine lv_aload_n (pc := 81) hexec hb dX9_number_81 rfl (lv_at hl 0 rfl) ?_
        refine lv_iload_n (pc := 82) hexec hb dX9_number_82 rfl (lv_at hl 3 rfl) ?_
        refine lv_i2l (pc := 83) hexec hb dX9_number_83 rfl ?_
        refine lv_iload_n (pc := 84) hexec hb dX9_number_84 rfl (lv_at hl 1 rfl) ?_
        refine lv_i2l (pc := 85) hexec hb dX9_number_85 rfl ?_
        refine lv_iload_n (pc := 86) hexec hb dX9_number_86 rfl (lv_at hl 2 rfl) ?_
        refine lv_i2l (pc := 87) hexec hb dX9_number_87 rfl ?_
        obtain ⟨r88, hc, hf⟩ := bd1_e hf
        refine kSp (pc := 88) (S := ⟨hexec, hb, hml, hown, hts⟩) hP hD hG hA hS [] [0, 1] [0, 1] (w2 := (w_X9_number g a0 a1 u0_0 u0_1 u0_2 u0_3 u0_4 u0_5 u0_6 u0_7 u0_8 u0_9 u0_10 u0_11 u0_12 u0_13 u0_14 u0_15 u0_16 u0_17 u0_18 u0_25 u0_26 u0_27 u0_28 u0_29 u0_30 x0_length x0_at_3 x0_from_1 x0_error x0_errorAt y1_text)) rfl rfl rfl rfl rfl rfl (by decide) (c_X9_isIn l g _ (v3_1.toInt64) (p1.toInt64) (p2.toInt64) r88 hc) gX9_number_X9_isIn rfl hs_X9_isIn ⟨nle rfl, nle rfl⟩ (rest := [.ref a0]) rfl rfl hl.1 (nle rfl) dX9_number_88 (fun H locs hP hD hS => ?_)
        obtain ⟨j99, ej99, hf⟩ := bvf1 hf
        have hj99 : ∀ (t99 : Int32) (H : Heap) (locs : List Loc) (ls : Array Slot), j99 t99 = some (r, o_x0_at, o_x0_from, o_x0_error, o_x0_errorAt) → va_P g.1 vwCl (w_X9_number g a0 a1 u0_0 u0_1 u0_2 u0_3 u0_4 u0_5 u0_6 u0_7 u0_8 u0_9 u0_10 u0_11 u0_12 u0_13 u0_14 u0_15 u0_16 u0_17 u0_18 u0_25 u0_26 u0_27 u0_28 u0_29 u0_30 x0_length x0_at_3 x0_from_1 x0_error x0_errorAt y1_text) H → va_D A (w_X9_number g a0 a1 u0_0 u0_1 u0_2 u0_3 u0_4 u0_5 u0_6 u0_7 u0_8 u0_9 u0_10 u0_11 u0_12 u0_13 u0_14 u0_15 u0_16 u0_17 u0_18 u0_25 u0_26 u0_27 u0_28 u0_29 u0_30 x0_length x0_at_3 x0_from_1 x0_error x0_errorAt y1_text) → va_S A s.heap H locs → lv_has ls 4 [(0, .ref a0), (1, .int p1), (3, .int v3_1)] → W p l e (RM 3 69) s m args below meth c H locs 0 0 Q (F0 m 99 ls [.int t99, .ref a0]) := by
          intro t99 H locs ls hf hP hD hS hl
          have hf := (ej99 t99).symm.trans hf
          refine lv_iconst (pc := 99) hexec hb dX9_number_99 ki_2 ?_
          obtain ⟨x0_error_1, x0_errorAt_1, hc, hf⟩ := bd2_e hf
          refine kVp (pc := 100) (S := ⟨hexec, hb, hml, hown, hts⟩) hP hD hG hA hS [0] [1] [1, 0] (w2 := (w_X9_number g a0 a1 u0_0 u0_1 u0_2 u0_3 u0_4 u0_5 u0_6 u0_7 u0_8 u0_9 u0_10 u0_11 u0_12 u0_13 u0_14 u0_15 u0_16 u0_17 u0_18 u0_25 u0_26 u0_27 u0_28 u0_29 u0_30 x0_length x0_at_3 x0_from_1 x0_error_1 x0_errorAt_1 y1_text)) rfl rfl rfl rfl rfl rfl (by decide) (c_X9_failsIf l g a0 _ u0_0 u0_1 u0_2 u0_3 u0_4 u0_5 u0_6 u0_7 u0_8 u0_9 u0_10 u0_11 u0_12 u0_13 u0_14 u0_15 u0_16 u0_17 u0_18 (.ref a1) (.int x0_length) (.int x0_at_3) u0_25 u0_26 u0_27 u0_28 u0_29 u0_30 x0_from_1 x0_error x0_errorAt t99 2 x0_error_1 x0_errorAt_1 hc) gX9_number_X9_failsIf rfl hv_X9_failsIf ⟨nle rfl, nle rfl⟩ 9 0 rfl rfl rfl (rest := []) rfl rfl hl.1 (nle rfl) dX9_number_100 (fun H locs hP hD hS => ?_)
          refine lv_aload_n (pc := 103) hexec hb dX9_number_103 rfl (lv_at hl 0 rfl) ?_
          obtain ⟨r104, hc, hf⟩ := bd1_e hf
          refine kVp (pc := 104) (S := ⟨hexec, hb, hml, hown, hts⟩) hP hD hG hA hS [0] [1] [1, 0] (w2 := (w_X9_number g a0 a1 u0_0 u0_1 u0_2 u0_3 u0_4 u0_5 u0_6 u0_7 u0_8 u0_9 u0_10 u0_11 u0_12 u0_13 u0_14 u0_15 u0_16 u0_17 u0_18 u0_25 u0_26 u0_27 u0_28 u0_29 u0_30 x0_length x0_at_3 x0_from_1 x0_error_1 x0_errorAt_1 y1_text)) rfl rfl rfl rfl rfl rfl (by decide) (c_X9_isFine l g a0 _ u0_0 u0_1 u0_2 u0_3 u0_4 u0_5 u0_6 u0_7 u0_8 u0_9 u0_10 u0_11 u0_12 u0_13 u0_14 u0_15 u0_16 u0_17 u0_18 (.ref a1) (.int x0_length) (.int x0_at_3) (.int x0_from_1) (.int x0_errorAt_1) u0_25 u0_26 u0_27 u0_28 u0_29 u0_30 x0_error_1 r104 hc) gX9_number_X9_isFine rfl hv_X9_isFine ⟨nle rfl, nle rfl⟩ 9 0 rfl rfl rfl (rest := []) rfl rfl hl.1 (nle rfl) dX9_number_104 (fun H locs hP hD hS => ?_)
          refine kb_eq (pc := 107) hexec hb dX9_number_107 (tgt := 114) rfl hf (fun hc hf => ?_) (fun hc hf => ?_)
          · refine lv_iload_n (pc := 114) hexec hb dX9_number_114 rfl (lv_at hl 1 rfl) ?_
            cases hf
            exact ke_i hQ hexec hb hr hP hD hS dX9_number_115 hlocks
          · refine lv_iload_n (pc := 110) hexec hb dX9_number_110 rfl (lv_at hl 2 rfl) ?_
            refine lv_goto (pc := 111) hexec hb dX9_number_111 (tgt := 115) rfl ?_
            cases hf
            exact ke_i hQ hexec hb hr hP hD hS dX9_number_115 hlocks
        refine kb_ne (pc := 91) hexec hb dX9_number_91 (tgt := 98) rfl hf (fun hc hf => ?_) (fun hc hf => ?_)
        · refine lv_iconst (pc := 98) hexec hb dX9_number_98 ki_0 ?_
          exact hj99 _ _ _ _ hf hP hD hS (lv_sub hl [0, 1, 3] rfl)
        · refine lv_iconst (pc := 94) hexec hb dX9_number_94 ki_1 ?_
          refine lv_goto (pc := 95) hexec hb dX9_number_95 (tgt := 99) rfl ?_
          exact hj99 _ _ _ _ hf hP hD hS (lv_sub hl [0, 1, 3] rfl)
      obtain ⟨n, hz⟩ := lq2_e hz
      have hL32 : ∀ (n : Nat) (v3 : Int32) (x0_at_2 : Int32) (H : Heap) (locs : List Loc) (ls : Array Slot), it2 l32 n v3 x0_at_2 = some (v3_1, x0_at_3) → va_P g.1 vwCl (w_X9_number g a0 a1 u0_0 u0_1 u0_2 u0_3 u0_4 u0_5 u0_6 u0_7 u0_8 u0_9 u0_10 u0_11 u0_12 u0_13 u0_14 u0_15 u0_16 u0_17 u0_18 u0_25 u0_26 u0_27 u0_28 u0_29 u0_30 x0_length x0_at_2 x0_from_1 x0_error x0_errorAt y1_text) H → va_D A (w_X9_number g a0 a1 u0_0 u0_1 u0_2 u0_3 u0_4 u0_5 u0_6 u0_7 u0_8 u0_9 u0_10 u0_11 u0_12 u0_13 u0_14 u0_15 u0_16 u0_17 u0_18 u0_25 u0_26 u0_27 u0_28 u0_29 u0_30 x0_length x0_at_2 x0_from_1 x0_error x0_errorAt y1_text) → va_S A s.heap H locs → lv_has ls 4 [(0, .ref a0), (1, .int p1), (2, .int p2), (3, .int v3)] → W p l e (RM 3 69) s m args below meth c H locs 0 0 Q (F0 m 32 ls []) := by
        intro n
        induction n with
        | zero =>
          intro v3 x0_at_2 H locs ls hf hP hD hS hl
          exact it2_0 hf
        | succ n32 ih32 =>
          intro v3 x0_at_2 H locs ls hf hP hD hS hl
          obtain ⟨q32, hf, hk32⟩ := it2_e hf
          have hf := (el32 v3 x0_at_2).symm.trans hf
          refine lv_aload_n (pc := 32) hexec hb dX9_number_32 rfl (lv_at hl 0 rfl) ?_
          refine lv_aload_n (pc := 33) hexec hb dX9_number_33 rfl (lv_at hl 0 rfl) ?_
          refine kg_get (pc := 34) hexec hb (own := RX9) hWX9 hown hG hP 0 rfl rfl 21 (nle rfl) (hts _ (List.mem_cons_of_mem _ (List.mem_append_left _ (List.mem_append_left _ (List.mem_of_getElem? (i := 1) rfl))))) rfl rfl dX9_number_34 ?_
          obtain ⟨r37, hc, hf⟩ := bd1_e hf
          refine kVp (pc := 37) (S := ⟨hexec, hb, hml, hown, hts⟩) hP hD hG hA hS [0, 1] [] [0, 1] (w2 := (w_X9_number g a0 a1 u0_0 u0_1 u0_2 u0_3 u0_4 u0_5 u0_6 u0_7 u0_8 u0_9 u0_10 u0_11 u0_12 u0_13 u0_14 u0_15 u0_16 u0_17 u0_18 u0_25 u0_26 u0_27 u0_28 u0_29 u0_30 x0_length x0_at_2 x0_from_1 x0_error x0_errorAt y1_text)) rfl rfl rfl rfl rfl rfl (by decide) (c_X9_byteAt l g a0 a1 _ u0_0 u0_1 u0_2 u0_3 u0_4 u0_5 u0_6 u0_7 u0_8 u0_9 u0_10 u0_11 u0_12 u0_13 u0_14 u0_15 u0_16 u0_17 u0_18 (.int x0_at_2) (.int x0_from_1) (.int x0_error) (.int x0_errorAt) u0_25 u0_26 u0_27 u0_28 u0_29 u0_30 x0_length y1_text x0_at_2 r37 hc) gX9_number_X9_byteAt rfl hv_X9_byteAt ⟨nle rfl, nle rfl⟩ 9 0 rfl rfl rfl (rest := []) rfl rfl hl.1 (nle rfl) dX9_number_37 (fun H locs hP hD hS => ?_)
          obtain ⟨r40, hc, hf⟩ := bd1_e hf
          refine kSp (pc := 40) (S := ⟨hexec, hb, hml, hown, hts⟩) hP hD hG hA hS [] [0, 1] [0, 1] (w2 := (w_X9_number g a0 a1 u0_0 u0_1 u0_2 u0_3 u0_4 u0_5 u0_6 u0_7 u0_8 u0_9 u0_10 u0_11 u0_12 u0_13 u0_14 u0_15 u0_16 u0_17 u0_18 u0_25 u0_26 u0_27 u0_28 u0_29 u0_30 x0_length x0_at_2 x0_from_1 x0_error x0_errorAt y1_text)) rfl rfl rfl rfl rfl rfl (by decide) (c_X9_isDigit l g _ r37 r40 hc) gX9_number_X9_isDigit rfl hs_X9_isDigit ⟨nle rfl, nle rfl⟩ (rest := []) rfl rfl hl.1 (nle rfl) dX9_number_40 (fun H locs hP hD hS => ?_)
          refine kb_eq (pc := 43) hexec hb dX9_number_43 (tgt := 81) rfl hf (fun hc hf => ?_) (fun hc hf => ?_)
          · cases sr2 hf hk32
            exact hE32 _ _ _ hP hD hS (lv_sub hl [0, 1, 2, 3] rfl)
          · refine lv_ldc (pc := 46) hexec hb (own := RX9) hown (hts _ (List.mem_cons_of_mem _ (List.mem_append_left _ (List.mem_append_left _ (List.mem_of_getElem? (i := 2) rfl))))) dX9_number_46 ?_
            refine lv_bipush (pc := 48) hexec hb dX9_number_48 kb_10 ?_
            refine lv_iload_n (pc := 50) hexec hb dX9_number_50 rfl (lv_at hl 3 rfl) ?_
            refine lv_imul (pc := 51) hexec hb dX9_number_51 ?_
            refine lv_aload_n (pc := 52) hexec hb dX9_number_52 rfl (lv_at hl 0 rfl) ?_
            refine lv_aload_n (pc := 53) hexec hb dX9_number_53 rfl (lv_at hl 0 rfl) ?_
            refine kg_get (pc := 54) hexec hb (own := RX9) hWX9 hown hG hP 0 rfl rfl 21 (nle rfl) (hts _ (List.mem_cons_of_mem _ (List.mem_append_left _ (List.mem_append_left _ (List.mem_of_getElem? (i := 1) rfl))))) rfl rfl dX9_number_54 ?_
            obtain ⟨r57, hc, hf⟩ := bd1_e hf
            refine kVp (pc := 57) (S := ⟨hexec, hb, hml, hown, hts⟩) hP hD hG hA hS [0, 1] [] [0, 1] (w2 := (w_X9_number g a0 a1 u0_0 u0_1 u0_2 u0_3 u0_4 u0_5 u0_6 u0_7 u0_8 u0_9 u0_10 u0_11 u0_12 u0_13 u0_14 u0_15 u0_16 u0_17 u0_18 u0_25 u0_26 u0_27 u0_28 u0_29 u0_30 x0_length x0_at_2 x0_from_1 x0_error x0_errorAt y1_text)) rfl rfl rfl rfl rfl rfl (by decide) (c_X9_byteAt l g a0 a1 _ u0_0 u0_1 u0_2 u0_3 u0_4 u0_5 u0_6 u0_7 u0_8 u0_9 u0_10 u0_11 u0_12 u0_13 u0_14 u0_15 u0_16 u0_17 u0_18 (.int x0_at_2) (.int x0_from_1) (.int x0_error) (.int x0_errorAt) u0_25 u0_26 u0_27 u0_28 u0_29 u0_30 x0_length y1_text x0_at_2 r57 hc) gX9_number_X9_byteAt rfl hv_X9_byteAt ⟨nle rfl, nle rfl⟩ 9 0 rfl rfl rfl (rest := [.int (10 * v3), .int 1000000]) rfl rfl hl.1 (nle rfl) dX9_number_57 (fun H locs hP hD hS => ?_)
            refine lv_iadd (pc := 60) hexec hb dX9_number_60 ?_
            refine lv_bipush (pc := 61) hexec hb dX9_number_61 kb_48 ?_
            refine lv_isub (pc := 63) hexec hb dX9_number_63 ?_
            refine va_mmin (pc := 64) hexec hb (hml.trans hl.1.symm) (own := RX9) hown (hts _ (List.mem_cons_of_mem _ (List.mem_append_left _ (List.mem_append_left _ (List.mem_of_getElem? (i := 3) rfl))))) (hts _ (List.mem_cons_of_mem _ (List.mem_append_left _ (List.mem_append_left _ (List.mem_of_getElem? (i := 4) rfl))))) (hts _ (List.mem_cons_of_mem _ (List.mem_append_left _ (List.mem_append_left _ (List.mem_of_getElem? (i := 5) rfl))))) (hts _ (List.mem_cons_of_mem _ (List.mem_append_left _ (List.mem_append_left _ (List.mem_of_getElem? (i := 6) rfl))))) (nle rfl) (nle rfl) (nle rfl) (nle rfl) dX9_number_64 ?_
            obtain ⟨v3_2, ev3_2, hf⟩ := bv_e hf
            refine kn_i ev3_2 ?_
            refine lv_istore_n (pc := 67) hexec hb dX9_number_67 rfl hl (nle rfl) rfl (fun ls (hl : lv_has ls 4 [(3, .int v3_2), (0, .ref a0), (1, .int p1), (2, .int p2)]) => ?_)
            refine lv_aload_n (pc := 68) hexec hb dX9_number_68 rfl (lv_at hl 1 rfl) ?_
            refine lv_dup (pc := 69) hexec hb dX9_number_69 rfl ?_
            refine kg_get (pc := 70) hexec hb (own := RX9) hWX9 hown hG hP 0 rfl rfl 21 (nle rfl) (hts _ (List.mem_cons_of_mem _ (List.mem_append_left _ (List.mem_append_left _ (List.mem_of_getElem? (i := 1) rfl))))) rfl rfl dX9_number_70 ?_
            refine lv_iconst (pc := 73) hexec hb dX9_number_73 ki_1 ?_
            refine lv_iadd (pc := 74) hexec hb dX9_number_74 ?_
            obtain ⟨x0_at_4, ex0_at_4, hf⟩ := bv_e hf
            refine kn_i ex0_at_4 ?_
            refine kp_put (pc := 75) hexec hb (own := RX9) hWX9 tyX9 tyX9_ok nmX9 hown hG hP hD hS 0 rfl rfl 21 (nle rfl) (hts _ (List.mem_cons_of_mem _ (List.mem_append_left _ (List.mem_append_left _ (List.mem_of_getElem? (i := 1) rfl))))) rfl rfl rfl rfl (nle rfl) dX9_number_75 (fun H locs (hP : va_P g.1 vwCl (w_X9_number g a0 a1 u0_0 u0_1 u0_2 u0_3 u0_4 u0_5 u0_6 u0_7 u0_8 u0_9 u0_10 u0_11 u0_12 u0_13 u0_14 u0_15 u0_16 u0_17 u0_18 u0_25 u0_26 u0_27 u0_28 u0_29 u0_30 x0_length x0_at_4 x0_from_1 x0_error x0_errorAt y1_text) H) (hD : va_D A (w_X9_number g a0 a1 u0_0 u0_1 u0_2 u0_3 u0_4 u0_5 u0_6 u0_7 u0_8 u0_9 u0_10 u0_11 u0_12 u0_13 u0_14 u0_15 u0_16 u0_17 u0_18 u0_25 u0_26 u0_27 u0_28 u0_29 u0_30 x0_length x0_at_4 x0_from_1 x0_error x0_errorAt y1_text)) hS => ?_)
            refine lv_goto (pc := 78) hexec hb dX9_number_78 (tgt := 32) rfl ?_
            exact ih32 _ _ _ _ _ (sl2 hf hk32) hP hD hS (lv_sub hl [1, 2, 3, 0] rfl)
      exact hL32 n _ _ _ _ _ hz hP hD hS (lv_sub hl [1, 2, 3, 0] rfl)
    · refine lv_aload_n (pc := 19) hexec hb dX9_number_19 rfl (lv_at hl 0 rfl) ?_
      refine lv_iconst (pc := 20) hexec hb dX9_number_20 ki_1 ?_
      refine lv_aload_n (pc := 21) hexec hb dX9_number_21 rfl (lv_at hl 0 rfl) ?_
      refine kg_get (pc := 22) hexec hb (own := RX9) hWX9 hown hG hP 0 rfl rfl 22 (nle rfl) (hts _ (List.mem_cons_of_mem _ (List.mem_append_left _ (List.mem_append_left _ (List.mem_of_getElem? (i := 0) rfl))))) rfl rfl dX9_number_22 ?_
      obtain ⟨x0_error_2, x0_errorAt_2, hc, hf⟩ := bd2_e hf
      refine kVp (pc := 25) (S := ⟨hexec, hb, hml, hown, hts⟩) hP hD hG hA hS [0] [1] [1, 0] (w2 := (w_X9_number g a0 a1 u0_0 u0_1 u0_2 u0_3 u0_4 u0_5 u0_6 u0_7 u0_8 u0_9 u0_10 u0_11 u0_12 u0_13 u0_14 u0_15 u0_16 u0_17 u0_18 u0_25 u0_26 u0_27 u0_28 u0_29 u0_30 x0_length x0_at_1 x0_from_1 x0_error_2 x0_errorAt_2 y1_text)) rfl rfl rfl rfl rfl rfl (by decide) (c_X9_fails l g a0 _ u0_0 u0_1 u0_2 u0_3 u0_4 u0_5 u0_6 u0_7 u0_8 u0_9 u0_10 u0_11 u0_12 u0_13 u0_14 u0_15 u0_16 u0_17 u0_18 (.ref a1) (.int x0_length) (.int x0_at_1) (.int x0_from_1) u0_25 u0_26 u0_27 u0_28 u0_29 u0_30 x0_error x0_errorAt 1 x0_from_1 x0_error_2 x0_errorAt_2 hc) gX9_number_X9_fails rfl hv_X9_fails ⟨nle rfl, nle rfl⟩ 9 0 rfl rfl rfl (rest := []) rfl rfl hl.1 (nle rfl) dX9_number_25 (fun H locs hP hD hS => ?_)
      refine lv_iload_n (pc := 28) hexec hb dX9_number_28 rfl (lv_at hl 1 rfl) ?_
      cases hf
      exact ke_i hQ hexec hb hr hP hD hS dX9_number_29 hlocks
  · refine lv_iload_n (pc := 7) hexec hb dX9_number_7 rfl (lv_at hl 1 rfl) ?_
    cases hf
    exact ke_i hQ hexec hb hr hP hD hS dX9_number_8 hlocks
abbrev w_X9_name (g : GE) (a0 a1 : Nat) (u0_0 u0_1 u0_2 u0_3 u0_4 u0_5 u0_6 u0_7 u0_8 u0_9 u0_10 u0_11 u0_12 u0_13 u0_14 u0_15 u0_16 u0_17 u0_18 u0_25 u0_26 u0_27 u0_28 u0_29 u0_30 : Value) (x0_length : Int32) (x0_at : Int32) (x0_from : Int32) (x0_error : Int32) (x0_errorAt : Int32) (y1_text : Nat → Int32) : va_W := [(a0, .inr (9, [u0_0, u0_1, u0_2, u0_3, u0_4, u0_5, u0_6, u0_7, u0_8, u0_9, u0_10, u0_11, u0_12, u0_13, u0_14, u0_15, u0_16, u0_17, u0_18, .ref a1, .int x0_length, .int x0_at, .int x0_from, .int x0_error, .int x0_errorAt, u0_25, u0_26, u0_27, u0_28, u0_29, u0_30])), (a1, .inl (g.2.1 0, 500, .inl y1_text))]
set_option maxRecDepth 20000 in
theorem c_X9_name (l : Launch) (g : GE) (a0 a1 : Nat) (sz : Nat) (u0_0 u0_1 u0_2 u0_3 u0_4 u0_5 u0_6 u0_7 u0_8 u0_9 u0_10 u0_11 u0_12 u0_13 u0_14 u0_15 u0_16 u0_17 u0_18 u0_25 u0_26 u0_27 u0_28 u0_29 u0_30 : Value) (x0_length : Int32) (x0_at : Int32) (x0_from : Int32) (x0_error : Int32) (x0_errorAt : Int32) (y1_text : Nat → Int32)   (o_x0_at : Int32) (o_x0_from : Int32) (o_x0_error : Int32) (o_x0_errorAt : Int32) (hf : f_X9_name x0_length x0_at x0_from x0_error x0_errorAt y1_text = some (o_x0_at, o_x0_from, o_x0_error, o_x0_errorAt)) : MI l g yX9_name wsX9_name 4 89 [.ref a0] (w_X9_name g a0 a1 u0_0 u0_1 u0_2 u0_3 u0_4 u0_5 u0_6 u0_7 u0_8 u0_9 u0_10 u0_11 u0_12 u0_13 u0_14 u0_15 u0_16 u0_17 u0_18 u0_25 u0_26 u0_27 u0_28 u0_29 u0_30 x0_length x0_at x0_from x0_error x0_errorAt y1_text) sz none (w_X9_name g a0 a1 u0_0 u0_1 u0_2 u0_3 u0_4 u0_5 u0_6 u0_7 u0_8 u0_9 u0_10 u0_11 u0_12 u0_13 u0_14 u0_15 u0_16 u0_17 u0_18 u0_25 u0_26 u0_27 u0_28 u0_29 u0_30 x0_length o_x0_at o_x0_from o_x0_error o_x0_errorAt y1_text) := by
  refine MI.start (cc := cX9_name) (maxL := 1) (ret := none) rfl rfl (nle rfl) ?_
  intro p e s m args below meth c A ls Q hQ hexec hb hr hts hown hlocks hml hA hP hD hG hS hl
  unfold f_X9_name at hf
  have hWX9 : ∀ w ∈ wsX90, w.before args s = true := fun w h => hts w (List.mem_cons_of_mem _ (List.mem_append_right _ h))
  have hS : va_S A s.heap s.heap [] := hS
  refine lv_aload_n (pc := 0) hexec hb dX9_name_0 rfl (lv_at hl 0 rfl) ?_
  obtain ⟨x0_at_1, x0_from_1, hc, hf⟩ := bd2_e hf
  refine kVp (pc := 1) (S := ⟨hexec, hb, hml, hown, hts⟩) hP hD hG hA hS [0, 1] [] [0, 1] (w2 := (w_X9_name g a0 a1 u0_0 u0_1 u0_2 u0_3 u0_4 u0_5 u0_6 u0_7 u0_8 u0_9 u0_10 u0_11 u0_12 u0_13 u0_14 u0_15 u0_16 u0_17 u0_18 u0_25 u0_26 u0_27 u0_28 u0_29 u0_30 x0_length x0_at_1 x0_from_1 x0_error x0_errorAt y1_text)) rfl rfl rfl rfl rfl rfl (by decide) (c_X9_word l g a0 a1 _ u0_0 u0_1 u0_2 u0_3 u0_4 u0_5 u0_6 u0_7 u0_8 u0_9 u0_10 u0_11 u0_12 u0_13 u0_14 u0_15 u0_16 u0_17 u0_18 (.int x0_errorAt) u0_25 u0_26 u0_27 u0_28 u0_29 u0_30 x0_length x0_at x0_from x0_error y1_text x0_at_1 x0_from_1 hc) gX9_name_X9_word rfl hv_X9_word ⟨nle rfl, nle rfl⟩ 9 0 rfl rfl rfl (rest := []) rfl rfl hl.1 (nle rfl) dX9_name_1 (fun H locs hP hD hS => ?_)
  refine lv_aload_n (pc := 4) hexec hb dX9_name_4 rfl (lv_at hl 0 rfl) ?_
  refine lv_aload_n (pc := 5) hexec hb dX9_name_5 rfl (lv_at hl 0 rfl) ?_
  refine kg_get (pc := 6) hexec hb (own := RX9) hWX9 hown hG hP 0 rfl rfl 21 (nle rfl) (hts _ (List.mem_cons_of_mem _ (List.mem_append_left _ (List.mem_append_left _ (List.mem_of_getElem? (i := 0) rfl))))) rfl rfl dX9_name_6 ?_
  refine lv_aload_n (pc := 9) hexec hb dX9_name_9 rfl (lv_at hl 0 rfl) ?_
  refine kg_get (pc := 10) hexec hb (own := RX9) hWX9 hown hG hP 0 rfl rfl 22 (nle rfl) (hts _ (List.mem_cons_of_mem _ (List.mem_append_left _ (List.mem_append_left _ (List.mem_of_getElem? (i := 1) rfl))))) rfl rfl dX9_name_10 ?_
  obtain ⟨j35, ej35, hf⟩ := bvf1 hf
  have hj35 : ∀ (t35 : Int32) (H : Heap) (locs : List Loc) (ls : Array Slot), j35 t35 = some (o_x0_at, o_x0_from, o_x0_error, o_x0_errorAt) → va_P g.1 vwCl (w_X9_name g a0 a1 u0_0 u0_1 u0_2 u0_3 u0_4 u0_5 u0_6 u0_7 u0_8 u0_9 u0_10 u0_11 u0_12 u0_13 u0_14 u0_15 u0_16 u0_17 u0_18 u0_25 u0_26 u0_27 u0_28 u0_29 u0_30 x0_length x0_at_1 x0_from_1 x0_error x0_errorAt y1_text) H → va_D A (w_X9_name g a0 a1 u0_0 u0_1 u0_2 u0_3 u0_4 u0_5 u0_6 u0_7 u0_8 u0_9 u0_10 u0_11 u0_12 u0_13 u0_14 u0_15 u0_16 u0_17 u0_18 u0_25 u0_26 u0_27 u0_28 u0_29 u0_30 x0_length x0_at_1 x0_from_1 x0_error x0_errorAt y1_text) → va_S A s.heap H locs → lv_has ls 1 [] → W p l e (RM 4 89) s m args below meth c H locs 0 0 Q (F0 m 35 ls [.int t35, .ref a0]) := by
    intro t35 H locs ls hf hP hD hS hl
    have hf := (ej35 t35).symm.trans hf
    refine lv_iconst (pc := 35) hexec hb dX9_name_35 ki_1 ?_
    obtain ⟨x0_error_1, x0_errorAt_1, hc, hf⟩ := bd2_e hf
    refine kVp (pc := 36) (S := ⟨hexec, hb, hml, hown, hts⟩) hP hD hG hA hS [0] [1] [1, 0] (w2 := (w_X9_name g a0 a1 u0_0 u0_1 u0_2 u0_3 u0_4 u0_5 u0_6 u0_7 u0_8 u0_9 u0_10 u0_11 u0_12 u0_13 u0_14 u0_15 u0_16 u0_17 u0_18 u0_25 u0_26 u0_27 u0_28 u0_29 u0_30 x0_length x0_at_1 x0_from_1 x0_error_1 x0_errorAt_1 y1_text)) rfl rfl rfl rfl rfl rfl (by decide) (c_X9_failsIf l g a0 _ u0_0 u0_1 u0_2 u0_3 u0_4 u0_5 u0_6 u0_7 u0_8 u0_9 u0_10 u0_11 u0_12 u0_13 u0_14 u0_15 u0_16 u0_17 u0_18 (.ref a1) (.int x0_length) (.int x0_at_1) u0_25 u0_26 u0_27 u0_28 u0_29 u0_30 x0_from_1 x0_error x0_errorAt t35 1 x0_error_1 x0_errorAt_1 hc) gX9_name_X9_failsIf rfl hv_X9_failsIf ⟨nle rfl, nle rfl⟩ 9 0 rfl rfl rfl (rest := []) rfl rfl hl.1 (nle rfl) dX9_name_36 (fun H locs hP hD hS => ?_)
    cases hf
    exact ke_v hQ hexec hb hr hP hD hS dX9_name_39 hlocks
  obtain ⟨j30, ej30, hf⟩ := bvf1 hf
  have hj30 : ∀ (u : Unit) (H : Heap) (locs : List Loc) (ls : Array Slot), j30 u = some (o_x0_at, o_x0_from, o_x0_error, o_x0_errorAt) → va_P g.1 vwCl (w_X9_name g a0 a1 u0_0 u0_1 u0_2 u0_3 u0_4 u0_5 u0_6 u0_7 u0_8 u0_9 u0_10 u0_11 u0_12 u0_13 u0_14 u0_15 u0_16 u0_17 u0_18 u0_25 u0_26 u0_27 u0_28 u0_29 u0_30 x0_length x0_at_1 x0_from_1 x0_error x0_errorAt y1_text) H → va_D A (w_X9_name g a0 a1 u0_0 u0_1 u0_2 u0_3 u0_4 u0_5 u0_6 u0_7 u0_8 u0_9 u0_10 u0_11 u0_12 u0_13 u0_14 u0_15 u0_16 u0_17 u0_18 u0_25 u0_26 u0_27 u0_28 u0_29 u0_30 x0_length x0_at_1 x0_from_1 x0_error x0_errorAt y1_text) → va_S A s.heap H locs → lv_has ls 1 [] → W p l e (RM 4 89) s m args below meth c H locs 0 0 Q (F0 m 30 ls [.ref a0]) := by
    intro u H locs ls hf hP hD hS hl
    have hf := (ej30 u).symm.trans hf
    refine lv_iconst (pc := 30) hexec hb dX9_name_30 ki_1 ?_
    refine lv_goto (pc := 31) hexec hb dX9_name_31 (tgt := 35) rfl ?_
    exact hj35 _ _ _ _ hf hP hD hS (lv_sub hl [] rfl)
  refine ki_eq (pc := 13) hexec hb dX9_name_13 (tgt := 30) rfl hf (fun hc hf => ?_) (fun hc hf => ?_)
  · exact hj30 _ _ _ _ hf hP hD hS (lv_sub hl [] rfl)
  · refine lv_aload_n (pc := 16) hexec hb dX9_name_16 rfl (lv_at hl 0 rfl) ?_
    refine kg_get (pc := 17) hexec hb (own := RX9) hWX9 hown hG hP 0 rfl rfl 21 (nle rfl) (hts _ (List.mem_cons_of_mem _ (List.mem_append_left _ (List.mem_append_left _ (List.mem_of_getElem? (i := 0) rfl))))) rfl rfl dX9_name_17 ?_
    refine lv_aload_n (pc := 20) hexec hb dX9_name_20 rfl (lv_at hl 0 rfl) ?_
    refine kg_get (pc := 21) hexec hb (own := RX9) hWX9 hown hG hP 0 rfl rfl 22 (nle rfl) (hts _ (List.mem_cons_of_mem _ (List.mem_append_left _ (List.mem_append_left _ (List.mem_of_getElem? (i := 1) rfl))))) rfl rfl dX9_name_21 ?_
    refine lv_isub (pc := 24) hexec hb dX9_name_24 ?_
    refine lv_bipush (pc := 25) hexec hb dX9_name_25 kb_8 ?_
    refine ki_le (pc := 27) hexec hb dX9_name_27 (tgt := 34) rfl hf (fun hc hf => ?_) (fun hc hf => ?_)
    · refine lv_iconst (pc := 34) hexec hb dX9_name_34 ki_0 ?_
      exact hj35 _ _ _ _ hf hP hD hS (lv_sub hl [] rfl)
    · exact hj30 _ _ _ _ hf hP hD hS (lv_sub hl [] rfl)
