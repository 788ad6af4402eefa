abbrev w_X9_stepFrom (g : GE) (a0 a1 a2 : Nat) (u0_1 u0_2 u0_3 u0_4 u0_5 u0_6 u0_7 u0_9 u0_10 u0_11 u0_12 u0_13 u0_14 u0_15 u0_16 u0_17 u0_18 u0_19 u0_20 u0_21 u0_22 u0_23 u0_24 u0_25 u0_26 u0_27 u0_28 u0_29 u0_30 : Value) (y1_s : Nat → Int32) (y2_sums : Nat → Int32) : va_W := [(a0, .inr (9, [.ref a1, u0_1, u0_2, u0_3, u0_4, u0_5, u0_6, u0_7, .ref a2, u0_9, u0_10, u0_11, u0_12, u0_13, u0_14, u0_15, u0_16, u0_17, u0_18, u0_19, u0_20, u0_21, u0_22, u0_23, u0_24, u0_25, u0_26, u0_27, u0_28, u0_29, u0_30])), (a1, .inl (g.2.1 0, 552, .inl y1_s)), (a2, .inl (g.2.1 0, 144, .inl y2_sums))]
set_option maxRecDepth 20000 in
theorem c_X9_stepFrom (l : Launch) (g : GE) (a0 a1 a2 : Nat) (sz : Nat) (u0_1 u0_2 u0_3 u0_4 u0_5 u0_6 u0_7 u0_9 u0_10 u0_11 u0_12 u0_13 u0_14 u0_15 u0_16 u0_17 u0_18 u0_19 u0_20 u0_21 u0_22 u0_23 u0_24 u0_25 u0_26 u0_27 u0_28 u0_29 u0_30 : Value) (y1_s : Nat → Int32) (y2_sums : Nat → Int32) (p1 : Int32)  (r : Int32) (hf : f_X9_stepFrom y1_s y2_sums p1 = some r) : MI l g yX9_stepFrom wsX9_stepFrom 7 164 [.ref a0, .int p1] (w_X9_stepFrom g a0 a1 a2 u0_1 u0_2 u0_3 u0_4 u0_5 u0_6 u0_7 u0_9 u0_10 u0_11 u0_12 u0_13 u0_14 u0_15 u0_16 u0_17 u0_18 u0_19 u0_20 u0_21 u0_22 u0_23 u0_24 u0_25 u0_26 u0_27 u0_28 u0_29 u0_30 y1_s y2_sums) sz (some (.int r)) (w_X9_stepFrom g a0 a1 a2 u0_1 u0_2 u0_3 u0_4 u0_5 u0_6 u0_7 u0_9 u0_10 u0_11 u0_12 u0_13 u0_14 u0_15 u0_16 u0_17 u0_18 u0_19 u0_20 u0_21 u0_22 u0_23 u0_24 u0_25 u0_26 u0_27 u0_28 u0_29 u0_30 y1_s y2_sums) := by
  refine MI.start (cc := cX9_stepFrom) (maxL := 5) (ret := (some .int)) rfl rfl (nle rfl) ?_
  intro p e s m args below meth c A ls Q hQ hexec hb hr hts hown hlocks hml hA hP hD hG hS hl
  unfold f_X9_stepFrom at hf
  have hWX9 : ∀ w ∈ wsX90, w.before args s = true := fun w h => hts w (List.mem_cons_of_mem _ (List.mem_append_right _ h))
  have hS : va_S A s.heap s.heap [] := hS
  refine lv_aload_n (pc := 0) hexec hb dX9_stepFrom_0 rfl (lv_at hl 0 rfl) ?_
  refine kg_get (pc := 1) hexec hb (own := RX9) hWX9 hown hG hP 0 rfl rfl 8 (nle rfl) (hts _ (List.mem_cons_of_mem _ (List.mem_append_left _ (List.mem_append_left _ (List.mem_of_getElem? (i := 0) rfl))))) rfl rfl dX9_stepFrom_1 ?_
  refine lv_iload_n (pc := 4) hexec hb dX9_stepFrom_4 rfl (lv_at hl 1 rfl) ?_
  refine kr_iald (pc := 5) hexec hb hG hP 2 rfl hf dX9_stepFrom_5 (fun hf => ?_)
  refine lv_aload_n (pc := 6) hexec hb dX9_stepFrom_6 rfl (lv_at hl 0 rfl) ?_
  refine lv_iload_n (pc := 7) hexec hb dX9_stepFrom_7 rfl (lv_at hl 1 rfl) ?_
  obtain ⟨r8, hc, hf⟩ := bd1_e hf
  refine kVp (pc := 8) (S := ⟨hexec, hb, hml, hown, hts⟩) hP hD hG hA hS [0, 1] [2] [1, 2, 0] (w2 := (w_X9_stepFrom g a0 a1 a2 u0_1 u0_2 u0_3 u0_4 u0_5 u0_6 u0_7 u0_9 u0_10 u0_11 u0_12 u0_13 u0_14 u0_15 u0_16 u0_17 u0_18 u0_19 u0_20 u0_21 u0_22 u0_23 u0_24 u0_25 u0_26 u0_27 u0_28 u0_29 u0_30 y1_s y2_sums)) rfl rfl rfl rfl rfl rfl (by decide) (c_X9_costOf l g a0 a1 _ u0_1 u0_2 u0_3 u0_4 u0_5 u0_6 u0_7 (.ref a2) u0_9 u0_10 u0_11 u0_12 u0_13 u0_14 u0_15 u0_16 u0_17 u0_18 u0_19 u0_20 u0_21 u0_22 u0_23 u0_24 u0_25 u0_26 u0_27 u0_28 u0_29 u0_30 y1_s p1 r8 hc) gX9_stepFrom_X9_costOf rfl hv_X9_costOf ⟨nle rfl, nle rfl⟩ 9 0 rfl rfl rfl (rest := [.int (y2_sums p1.toNatClampNeg)]) rfl rfl hl.1 (nle rfl) dX9_stepFrom_8 (fun H locs hP hD hS => ?_)
  refine lv_isub (pc := 11) hexec hb dX9_stepFrom_11 ?_
  obtain ⟨v2, ev2, hf⟩ := bv_e hf
  refine kn_i ev2 ?_
  refine lv_istore_n (pc := 12) hexec hb dX9_stepFrom_12 rfl hl (nle rfl) rfl (fun ls (hl : lv_has ls 5 [(2, .int v2), (0, .ref a0), (1, .int p1)]) => ?_)
  refine lv_iconst (pc := 13) hexec hb dX9_stepFrom_13 ki_0 ?_
  refine lv_istore_n (pc := 14) hexec hb dX9_stepFrom_14 rfl hl (nle rfl) rfl (fun ls (hl : lv_has ls 5 [(3, .int 0), (2, .int v2), (0, .ref a0), (1, .int p1)]) => ?_)
  obtain ⟨l15, el15, hf⟩ := bvf1 hf
  obtain ⟨n, hz⟩ := lq1_e hf
  have hL15 : ∀ (n : Nat) (v3 : Int32) (H : Heap) (locs : List Loc) (ls : Array Slot), it1 l15 n v3 = some r → va_P g.1 vwCl (w_X9_stepFrom g a0 a1 a2 u0_1 u0_2 u0_3 u0_4 u0_5 u0_6 u0_7 u0_9 u0_10 u0_11 u0_12 u0_13 u0_14 u0_15 u0_16 u0_17 u0_18 u0_19 u0_20 u0_21 u0_22 u0_23 u0_24 u0_25 u0_26 u0_27 u0_28 u0_29 u0_30 y1_s y2_sums) H → va_D A (w_X9_stepFrom g a0 a1 a2 u0_1 u0_2 u0_3 u0_4 u0_5 u0_6 u0_7 u0_9 u0_10 u0_11 u0_12 u0_13 u0_14 u0_15 u0_16 u0_17 u0_18 u0_19 u0_20 u0_21 u0_22 u0_23 u0_24 u0_25 u0_26 u0_27 u0_28 u0_29 u0_30 y1_s y2_sums) → va_S A s.heap H locs → lv_has ls 5 [(0, .ref a0), (1, .int p1), (2, .int v2), (3, .int v3)] → W p l e (RM 7 164) s m args below meth c H locs 0 0 Q (F0 m 15 ls []) := by
    intro n
    induction n with
    | zero =>
      intro v3 H locs ls hf hP hD hS hl
      exact it1_0 hf
    | succ n15 ih15 =>
      intro v3 H locs ls hf hP hD hS hl
      obtain ⟨q15, hf, hk15⟩ := it1_e hf
      have hf := (el15 v3).symm.trans hf
      refine lv_iload_n (pc := 15) hexec hb dX9_stepFrom_15 rfl (lv_at hl 3 rfl) ?_
      refine lv_iconst (pc := 16) hexec hb dX9_stepFrom_16 ki_4 ?_
      refine ki_ge (pc := 17) hexec hb dX9_stepFrom_17 (tgt := 55) rfl hf (fun hc hf => ?_) (fun hc hf => ?_)
      · have hf := mk1 hf hk15
        refine lv_iconst (pc := 55) hexec hb dX9_stepFrom_55 ki_m1 ?_
        cases hf
        exact ke_i hQ hexec hb hr hP hD hS dX9_stepFrom_56 hlocks
      · refine lv_aload_n (pc := 20) hexec hb dX9_stepFrom_20 rfl (lv_at hl 0 rfl) ?_
        refine lv_iload_n (pc := 21) hexec hb dX9_stepFrom_21 rfl (lv_at hl 1 rfl) ?_
        refine lv_iload_n (pc := 22) hexec hb dX9_stepFrom_22 rfl (lv_at hl 3 rfl) ?_
        refine lv_iconst (pc := 23) hexec hb dX9_stepFrom_23 ki_1 ?_
        obtain ⟨r24, hc, hf⟩ := bd1_e hf
        refine kVp (pc := 24) (S := ⟨hexec, hb, hml, hown, hts⟩) hP hD hG hA hS [0, 1] [2] [1, 2, 0] (w2 := (w_X9_stepFrom g a0 a1 a2 u0_1 u0_2 u0_3 u0_4 u0_5 u0_6 u0_7 u0_9 u0_10 u0_11 u0_12 u0_13 u0_14 u0_15 u0_16 u0_17 u0_18 u0_19 u0_20 u0_21 u0_22 u0_23 u0_24 u0_25 u0_26 u0_27 u0_28 u0_29 u0_30 y1_s y2_sums)) rfl rfl rfl rfl rfl rfl (by decide) (c_X9_away l g a0 a1 _ u0_1 u0_2 u0_3 u0_4 u0_5 u0_6 u0_7 (.ref a2) u0_9 u0_10 u0_11 u0_12 u0_13 u0_14 u0_15 u0_16 u0_17 u0_18 u0_19 u0_20 u0_21 u0_22 u0_23 u0_24 u0_25 u0_26 u0_27 u0_28 u0_29 u0_30 y1_s p1 v3 1 r24 hc) gX9_stepFrom_X9_away rfl hv_X9_away ⟨nle rfl, nle rfl⟩ 9 0 rfl rfl rfl (rest := []) rfl rfl hl.1 (nle rfl) dX9_stepFrom_24 (fun H locs hP hD hS => ?_)
        refine lv_istore (pc := 27) hexec hb dX9_stepFrom_27 hl (nle rfl) rfl (fun ls (hl : lv_has ls 5 [(4, .int r24), (0, .ref a0), (1, .int p1), (2, .int v2), (3, .int v3)]) => ?_)
        refine lv_iload (pc := 29) hexec hb dX9_stepFrom_29 (lv_at hl 0 rfl) ?_
        refine lv_iconst (pc := 31) hexec hb dX9_stepFrom_31 ki_m1 ?_
        obtain ⟨j49, ej49, hf⟩ := bvf1 hf
        have hj49 : ∀ (u : Unit) (H : Heap) (locs : List Loc) (ls : Array Slot), j49 u = some q15 → va_P g.1 vwCl (w_X9_stepFrom g a0 a1 a2 u0_1 u0_2 u0_3 u0_4 u0_5 u0_6 u0_7 u0_9 u0_10 u0_11 u0_12 u0_13 u0_14 u0_15 u0_16 u0_17 u0_18 u0_19 u0_20 u0_21 u0_22 u0_23 u0_24 u0_25 u0_26 u0_27 u0_28 u0_29 u0_30 y1_s y2_sums) H → va_D A (w_X9_stepFrom g a0 a1 a2 u0_1 u0_2 u0_3 u0_4 u0_5 u0_6 u0_7 u0_9 u0_10 u0_11 u0_12 u0_13 u0_14 u0_15 u0_16 u0_17 u0_18 u0_19 u0_20 u0_21 u0_22 u0_23 u0_24 u0_25 u0_26 u0_27 u0_28 u0_29 u0_30 y1_s y2_sums) → va_S A s.heap H locs → lv_has ls 5 [(0, .ref a0), (1, .int p1), (2, .int v2), (3, .int v3)] → W p l e (RM 7 164) s m args below meth c H locs 0 0 Q (F0 m 49 ls []) := by
          intro u H locs ls hf hP hD hS hl
          have hf := (ej49 u).symm.trans hf
          obtain ⟨v3_1, ev3_1, hf⟩ := bv_e hf
          refine k_iinc (pc := 49) hexec hb dX9_stepFrom_49 kq_1 hl (k := 3) rfl ev3_1 (nle rfl) rfl (fun ls (hl : lv_has ls 5 [(3, .int v3_1), (0, .ref a0), (1, .int p1), (2, .int v2)]) => ?_)
          refine lv_goto (pc := 52) hexec hb dX9_stepFrom_52 (tgt := 15) rfl ?_
          exact ih15 _ _ _ _ (sl1 hf hk15) hP hD hS (lv_sub hl [1, 2, 3, 0] rfl)
        refine ki_eq (pc := 32) hexec hb dX9_stepFrom_32 (tgt := 49) rfl hf (fun hc hf => ?_) (fun hc hf => ?_)
        · exact hj49 _ _ _ _ hf hP hD hS (lv_sub hl [1, 2, 3, 4] rfl)
        · refine lv_aload_n (pc := 35) hexec hb dX9_stepFrom_35 rfl (lv_at hl 1 rfl) ?_
          refine kg_get (pc := 36) hexec hb (own := RX9) hWX9 hown hG hP 0 rfl rfl 8 (nle rfl) (hts _ (List.mem_cons_of_mem _ (List.mem_append_left _ (List.mem_append_left _ (List.mem_of_getElem? (i := 0) rfl))))) rfl rfl dX9_stepFrom_36 ?_
          refine lv_iload (pc := 39) hexec hb dX9_stepFrom_39 (lv_at hl 0 rfl) ?_
          refine kr_iald (pc := 41) hexec hb hG hP 2 rfl hf dX9_stepFrom_41 (fun hf => ?_)
          refine lv_iload_n (pc := 42) hexec hb dX9_stepFrom_42 rfl (lv_at hl 3 rfl) ?_
          refine ki_ne (pc := 43) hexec hb dX9_stepFrom_43 (tgt := 49) rfl hf (fun hc hf => ?_) (fun hc hf => ?_)
          · exact hj49 _ _ _ _ hf hP hD hS (lv_sub hl [1, 2, 3, 4] rfl)
          · have hf := mk1 hf hk15
            refine lv_iload (pc := 46) hexec hb dX9_stepFrom_46 (lv_at hl 0 rfl) ?_
            cases hf
            exact ke_i hQ hexec hb hr hP hD hS dX9_stepFrom_48 hlocks
  exact hL15 n _ _ _ _ hz hP hD hS (lv_sub hl [2, 3, 1, 0] rfl)
abbrev w_X9_laysFlow (g : GE) (a0 a1 a2 a3 : Nat) (u0_1 u0_2 u0_3 u0_4 u0_5 u0_6 u0_7 u0_11 u0_12 u0_13 u0_14 u0_15 u0_16 u0_17 u0_18 u0_19 u0_20 u0_21 u0_22 u0_23 u0_24 u0_25 u0_26 u0_27 u0_28 u0_29 u0_30 : Value) (x0_flowLong : Int32) (y1_flow : Nat → Int32) (y2_s : Nat → Int32) (y3_sums : Nat → Int32) : va_W := [(a0, .inr (9, [.ref a2, u0_1, u0_2, u0_3, u0_4, u0_5, u0_6, u0_7, .ref a3, .ref a1, .int x0_flowLong, u0_11, u0_12, u0_13, u0_14, u0_15, u0_16, u0_17, u0_18, u0_19, u0_20, u0_21, u0_22, u0_23, u0_24, u0_25, u0_26, u0_27, u0_28, u0_29, u0_30])), (a1, .inl (g.2.1 0, 144, .inl y1_flow)), (a2, .inl (g.2.1 0, 552, .inl y2_s)), (a3, .inl (g.2.1 0, 144, .inl y3_sums))]
set_option maxRecDepth 20000 in
theorem c_X9_laysFlow (l : Launch) (g : GE) (a0 a1 a2 a3 : Nat) (sz : Nat) (u0_1 u0_2 u0_3 u0_4 u0_5 u0_6 u0_7 u0_11 u0_12 u0_13 u0_14 u0_15 u0_16 u0_17 u0_18 u0_19 u0_20 u0_21 u0_22 u0_23 u0_24 u0_25 u0_26 u0_27 u0_28 u0_29 u0_30 : Value) (x0_flowLong : Int32) (y1_flow : Nat → Int32) (y2_s : Nat → Int32) (y3_sums : Nat → Int32) (p1 : Int32)  (r : Int32) (o_x0_flowLong : Int32) (o_y1_flow : Nat → Int32) (hf : f_X9_laysFlow x0_flowLong y1_flow y2_s y3_sums p1 = some (r, o_x0_flowLong, o_y1_flow)) : MI l g yX9_laysFlow wsX9_laysFlow 8 188 [.ref a0, .int p1] (w_X9_laysFlow g a0 a1 a2 a3 u0_1 u0_2 u0_3 u0_4 u0_5 u0_6 u0_7 u0_11 u0_12 u0_13 u0_14 u0_15 u0_16 u0_17 u0_18 u0_19 u0_20 u0_21 u0_22 u0_23 u0_24 u0_25 u0_26 u0_27 u0_28 u0_29 u0_30 x0_flowLong y1_flow y2_s y3_sums) sz (some (.int r)) (w_X9_laysFlow g a0 a1 a2 a3 u0_1 u0_2 u0_3 u0_4 u0_5 u0_6 u0_7 u0_11 u0_12 u0_13 u0_14 u0_15 u0_16 u0_17 u0_18 u0_19 u0_20 u0_21 u0_22 u0_23 u0_24 u0_25 u0_26 u0_27 u0_28 u0_29 u0_30 o_x0_flowLong o_y1_flow y2_s y3_sums) := by
  refine MI.start (cc := cX9_laysFlow) (maxL := 3) (ret := (some .boolean)) rfl rfl (nle rfl) ?_
  intro p e s m args below meth c A ls Q hQ hexec hb hr hts hown hlocks hml hA hP hD hG hS hl
  unfold f_X9_laysFlow at hf
  have hWX9 : ∀ w ∈ wsX90, w.before args s = true := fun w h => hts w (List.mem_cons_of_mem _ (List.mem_append_right _ h))
  have hS : va_S A s.heap s.heap [] := hS
  refine lv_aload_n (pc := 0) hexec hb dX9_laysFlow_0 rfl (lv_at hl 0 rfl) ?_
  refine lv_iconst (pc := 1) hexec hb dX9_laysFlow_1 ki_0 ?_
  refine kp_put (pc := 2) hexec hb (own := RX9) hWX9 tyX9 tyX9_ok nmX9 hown hG hP hD hS 0 rfl rfl 10 (nle rfl) (hts _ (List.mem_cons_of_mem _ (List.mem_append_left _ (List.mem_append_left _ (List.mem_of_getElem? (i := 0) rfl))))) rfl rfl rfl rfl (nle rfl) dX9_laysFlow_2 (fun H locs (hP : va_P g.1 vwCl (w_X9_laysFlow g a0 a1 a2 a3 u0_1 u0_2 u0_3 u0_4 u0_5 u0_6 u0_7 u0_11 u0_12 u0_13 u0_14 u0_15 u0_16 u0_17 u0_18 u0_19 u0_20 u0_21 u0_22 u0_23 u0_24 u0_25 u0_26 u0_27 u0_28 u0_29 u0_30 0 y1_flow y2_s y3_sums) H) (hD : va_D A (w_X9_laysFlow g a0 a1 a2 a3 u0_1 u0_2 u0_3 u0_4 u0_5 u0_6 u0_7 u0_11 u0_12 u0_13 u0_14 u0_15 u0_16 u0_17 u0_18 u0_19 u0_20 u0_21 u0_22 u0_23 u0_24 u0_25 u0_26 u0_27 u0_28 u0_29 u0_30 0 y1_flow y2_s y3_sums)) hS => ?_)
  refine lv_aload_n (pc := 5) hexec hb dX9_laysFlow_5 rfl (lv_at hl 0 rfl) ?_
  refine kg_get (pc := 6) hexec hb (own := RX9) hWX9 hown hG hP 0 rfl rfl 8 (nle rfl) (hts _ (List.mem_cons_of_mem _ (List.mem_append_left _ (List.mem_append_left _ (List.mem_of_getElem? (i := 1) rfl))))) rfl rfl dX9_laysFlow_6 ?_
  refine lv_iload_n (pc := 9) hexec hb dX9_laysFlow_9 rfl (lv_at hl 1 rfl) ?_
  refine kr_iald (pc := 10) hexec hb hG hP 3 rfl hf dX9_laysFlow_10 (fun hf => ?_)
  refine lv_ldc (pc := 11) hexec hb (own := RX9) hown (hts _ (List.mem_cons_of_mem _ (List.mem_append_left _ (List.mem_append_left _ (List.mem_of_getElem? (i := 2) rfl))))) dX9_laysFlow_11 ?_
  refine ki_ne (pc := 13) hexec hb dX9_laysFlow_13 (tgt := 18) rfl hf (fun hc hf => ?_) (fun hc hf => ?_)
  · refine lv_iload_n (pc := 18) hexec hb dX9_laysFlow_18 rfl (lv_at hl 1 rfl) ?_
    refine lv_istore_n (pc := 19) hexec hb dX9_laysFlow_19 rfl hl (nle rfl) rfl (fun ls (hl : lv_has ls 3 [(2, .int p1), (0, .ref a0), (1, .int p1)]) => ?_)
    obtain ⟨l20, el20, hf⟩ := bvf3 hf
    obtain ⟨x0_flowLong_2, y1_flow_2, hz, hf⟩ := bd2_e hf
    have hE20 : ∀ (H : Heap) (locs : List Loc) (ls : Array Slot), va_P g.1 vwCl (w_X9_laysFlow g a0 a1 a2 a3 u0_1 u0_2 u0_3 u0_4 u0_5 u0_6 u0_7 u0_11 u0_12 u0_13 u0_14 u0_15 u0_16 u0_17 u0_18 u0_19 u0_20 u0_21 u0_22 u0_23 u0_24 u0_25 u0_26 u0_27 u0_28 u0_29 u0_30 x0_flowLong_2 y1_flow_2 y2_s y3_sums) H → va_D A (w_X9_laysFlow g a0 a1 a2 a3 u0_1 u0_2 u0_3 u0_4 u0_5 u0_6 u0_7 u0_11 u0_12 u0_13 u0_14 u0_15 u0_16 u0_17 u0_18 u0_19 u0_20 u0_21 u0_22 u0_23 u0_24 u0_25 u0_26 u0_27 u0_28 u0_29 u0_30 x0_flowLong_2 y1_flow_2 y2_s y3_sums) → va_S A s.heap H locs → lv_has ls 3 [] → W p l e (RM 8 188) s m args below meth c H locs 0 0 Q (F0 m 66 ls []) := by
      intro H locs ls hP hD hS hl
      refine lv_iconst (pc := 66) hexec hb dX9_laysFlow_66 ki_1 ?_
      cases hf
      exact ke_z hQ hexec hb hr (.inr rfl) hP hD hS dX9_laysFlow_67 hlocks
    obtain ⟨n, hz⟩ := lq3_e hz
    have hL20 : ∀ (n : Nat) (v2 : Int32) (x0_flowLong_1 : Int32) (y1_flow_1 : Nat → Int32) (H : Heap) (locs : List Loc) (ls : Array Slot), it3 l20 n v2 x0_flowLong_1 y1_flow_1 = some (x0_flowLong_2, y1_flow_2) → va_P g.1 vwCl (w_X9_laysFlow g a0 a1 a2 a3 u0_1 u0_2 u0_3 u0_4 u0_5 u0_6 u0_7 u0_11 u0_12 u0_13 u0_14 u0_15 u0_16 u0_17 u0_18 u0_19 u0_20 u0_21 u0_22 u0_23 u0_24 u0_25 u0_26 u0_27 u0_28 u0_29 u0_30 x0_flowLong_1 y1_flow_1 y2_s y3_sums) H → va_D A (w_X9_laysFlow g a0 a1 a2 a3 u0_1 u0_2 u0_3 u0_4 u0_5 u0_6 u0_7 u0_11 u0_12 u0_13 u0_14 u0_15 u0_16 u0_17 u0_18 u0_19 u0_20 u0_21 u0_22 u0_23 u0_24 u0_25 u0_26 u0_27 u0_28 u0_29 u0_30 x0_flowLong_1 y1_flow_1 y2_s y3_sums) → va_S A s.heap H locs → lv_has ls 3 [(0, .ref a0), (2, .int v2)] → W p l e (RM 8 188) s m args below meth c H locs 0 0 Q (F0 m 20 ls []) := by
      intro n
      induction n with
      | zero =>
        intro v2 x0_flowLong_1 y1_flow_1 H locs ls hf hP hD hS hl
        exact it3_0 hf
      | succ n20 ih20 =>
        intro v2 x0_flowLong_1 y1_flow_1 H locs ls hf hP hD hS hl
        obtain ⟨q20, hf, hk20⟩ := it3_e hf
        have hf := (el20 v2 x0_flowLong_1 y1_flow_1).symm.trans hf
        refine lv_iload_n (pc := 20) hexec hb dX9_laysFlow_20 rfl (lv_at hl 1 rfl) ?_
        refine lv_iconst (pc := 21) hexec hb dX9_laysFlow_21 ki_m1 ?_
        refine ki_eq (pc := 22) hexec hb dX9_laysFlow_22 (tgt := 66) rfl hf (fun hc hf => ?_) (fun hc hf => ?_)
        · cases sr3 hf hk20
          exact hE20 _ _ _ hP hD hS (lv_sub hl [] rfl)
        · refine lv_aload_n (pc := 25) hexec hb dX9_laysFlow_25 rfl (lv_at hl 0 rfl) ?_
          refine kg_get (pc := 26) hexec hb (own := RX9) hWX9 hown hG hP 0 rfl rfl 9 (nle rfl) (hts _ (List.mem_cons_of_mem _ (List.mem_append_left _ (List.mem_append_left _ (List.mem_of_getElem? (i := 3) rfl))))) rfl rfl dX9_laysFlow_26 ?_
          refine lv_aload_n (pc := 29) hexec hb dX9_laysFlow_29 rfl (lv_at hl 0 rfl) ?_
          refine kg_get (pc := 30) hexec hb (own := RX9) hWX9 hown hG hP 0 rfl rfl 10 (nle rfl) (hts _ (List.mem_cons_of_mem _ (List.mem_append_left _ (List.mem_append_left _ (List.mem_of_getElem? (i := 0) rfl))))) rfl rfl dX9_laysFlow_30 ?_
          refine lv_iload_n (pc := 33) hexec hb dX9_laysFlow_33 rfl (lv_at hl 1 rfl) ?_
          refine kw_iast (pc := 34) hexec hb hG hP hD hS 1 rfl hf dX9_laysFlow_34 (fun y1_flow_3 H locs hf (hP : va_P g.1 vwCl (w_X9_laysFlow g a0 a1 a2 a3 u0_1 u0_2 u0_3 u0_4 u0_5 u0_6 u0_7 u0_11 u0_12 u0_13 u0_14 u0_15 u0_16 u0_17 u0_18 u0_19 u0_20 u0_21 u0_22 u0_23 u0_24 u0_25 u0_26 u0_27 u0_28 u0_29 u0_30 x0_flowLong_1 y1_flow_3 y2_s y3_sums) H) (hD : va_D A (w_X9_laysFlow g a0 a1 a2 a3 u0_1 u0_2 u0_3 u0_4 u0_5 u0_6 u0_7 u0_11 u0_12 u0_13 u0_14 u0_15 u0_16 u0_17 u0_18 u0_19 u0_20 u0_21 u0_22 u0_23 u0_24 u0_25 u0_26 u0_27 u0_28 u0_29 u0_30 x0_flowLong_1 y1_flow_3 y2_s y3_sums)) hS => ?_)
          refine lv_aload_n (pc := 35) hexec hb dX9_laysFlow_35 rfl (lv_at hl 0 rfl) ?_
          refine lv_dup (pc := 36) hexec hb dX9_laysFlow_36 rfl ?_
          refine kg_get (pc := 37) hexec hb (own := RX9) hWX9 hown hG hP 0 rfl rfl 10 (nle rfl) (hts _ (List.mem_cons_of_mem _ (List.mem_append_left _ (List.mem_append_left _ (List.mem_of_getElem? (i := 0) rfl))))) rfl rfl dX9_laysFlow_37 ?_
          refine lv_iconst (pc := 40) hexec hb dX9_laysFlow_40 ki_1 ?_
          refine lv_iadd (pc := 41) hexec hb dX9_laysFlow_41 ?_
          obtain ⟨x0_flowLong_3, ex0_flowLong_3, hf⟩ := bv_e hf
          refine kn_i ex0_flowLong_3 ?_
          refine kp_put (pc := 42) hexec hb (own := RX9) hWX9 tyX9 tyX9_ok nmX9 hown hG hP hD hS 0 rfl rfl 10 (nle rfl) (hts _ (List.mem_cons_of_mem _ (List.mem_append_left _ (List.mem_append_left _ (List.mem_of_getElem? (i := 0) rfl))))) rfl rfl rfl rfl (nle rfl) dX9_laysFlow_42 (fun H locs (hP : va_P g.1 vwCl (w_X9_laysFlow g a0 a1 a2 a3 u0_1 u0_2 u0_3 u0_4 u0_5 u0_6 u0_7 u0_11 u0_12 u0_13 u0_14 u0_15 u0_16 u0_17 u0_18 u0_19 u0_20 u0_21 u0_22 u0_23 u0_24 u0_25 u0_26 u0_27 u0_28 u0_29 u0_30 x0_flowLong_3 y1_flow_3 y2_s y3_sums) H) (hD : va_D A (w_X9_laysFlow g a0 a1 a2 a3 u0_1 u0_2 u0_3 u0_4 u0_5 u0_6 u0_7 u0_11 u0_12 u0_13 u0_14 u0_15 u0_16 u0_17 u0_18 u0_19 u0_20 u0_21 u0_22 u0_23 u0_24 u0_25 u0_26 u0_27 u0_28 u0_29 u0_30 x0_flowLong_3 y1_flow_3 y2_s y3_sums)) hS => ?_)
          refine lv_aload_n (pc := 45) hexec hb dX9_laysFlow_45 rfl (lv_at hl 0 rfl) ?_
          refine lv_iload_n (pc := 46) hexec hb dX9_laysFlow_46 rfl (lv_at hl 1 rfl) ?_
          obtain ⟨r47, hc, hf⟩ := bd1_e hf
          refine kVp (pc := 47) (S := ⟨hexec, hb, hml, hown, hts⟩) hP hD hG hA hS [0, 2] [1, 3] [2, 0, 3, 1] (w2 := (w_X9_laysFlow g a0 a1 a2 a3 u0_1 u0_2 u0_3 u0_4 u0_5 u0_6 u0_7 u0_11 u0_12 u0_13 u0_14 u0_15 u0_16 u0_17 u0_18 u0_19 u0_20 u0_21 u0_22 u0_23 u0_24 u0_25 u0_26 u0_27 u0_28 u0_29 u0_30 x0_flowLong_3 y1_flow_3 y2_s y3_sums)) rfl rfl rfl rfl rfl rfl (by decide) (c_X9_isEnd l g a0 a2 _ u0_1 u0_2 u0_3 u0_4 u0_5 u0_6 u0_7 (.ref a3) (.ref a1) (.int x0_flowLong_3) u0_11 u0_12 u0_13 u0_14 u0_15 u0_16 u0_17 u0_18 u0_19 u0_20 u0_21 u0_22 u0_23 u0_24 u0_25 u0_26 u0_27 u0_28 u0_29 u0_30 y2_s v2 r47 hc) gX9_laysFlow_X9_isEnd rfl hv_X9_isEnd ⟨nle rfl, nle rfl⟩ 9 0 rfl rfl rfl (rest := []) rfl rfl hl.1 (nle rfl) dX9_laysFlow_47 (fun H locs hP hD hS => ?_)
          obtain ⟨j62, ej62, hf⟩ := bvf1 hf
          have hj62 : ∀ (t62 : Int32) (H : Heap) (locs : List Loc) (ls : Array Slot), j62 t62 = some q20 → va_P g.1 vwCl (w_X9_laysFlow g a0 a1 a2 a3 u0_1 u0_2 u0_3 u0_4 u0_5 u0_6 u0_7 u0_11 u0_12 u0_13 u0_14 u0_15 u0_16 u0_17 u0_18 u0_19 u0_20 u0_21 u0_22 u0_23 u0_24 u0_25 u0_26 u0_27 u0_28 u0_29 u0_30 x0_flowLong_3 y1_flow_3 y2_s y3_sums) H → va_D A (w_X9_laysFlow g a0 a1 a2 a3 u0_1 u0_2 u0_3 u0_4 u0_5 u0_6 u0_7 u0_11 u0_12 u0_13 u0_14 u0_15 u0_16 u0_17 u0_18 u0_19 u0_20 u0_21 u0_22 u0_23 u0_24 u0_25 u0_26 u0_27 u0_28 u0_29 u0_30 x0_flowLong_3 y1_flow_3 y2_s y3_sums) → va_S A s.heap H locs → lv_has ls 3 [(0, .ref a0)] → W p l e (RM 8 188) s m args below meth c H locs 0 0 Q (F0 m 62 ls [.int t62]) := by
            intro t62 H locs ls hf hP hD hS hl
            have hf := (ej62 t62).symm.trans hf
            refine lv_istore_n (pc := 62) hexec hb dX9_laysFlow_62 rfl hl (nle rfl) rfl (fun ls (hl : lv_has ls 3 [(2, .int t62), (0, .ref a0)]) => ?_)
            refine lv_goto (pc := 63) hexec hb dX9_laysFlow_63 (tgt := 20) rfl ?_
            exact ih20 _ _ _ _ _ _ (sl3 hf hk20) hP hD hS (lv_sub hl [1, 0] rfl)
          refine kb_eq (pc := 50) hexec hb dX9_laysFlow_50 (tgt := 57) rfl hf (fun hc hf => ?_) (fun hc hf => ?_)
          · refine lv_aload_n (pc := 57) hexec hb dX9_laysFlow_57 rfl (lv_at hl 0 rfl) ?_
            refine lv_iload_n (pc := 58) hexec hb dX9_laysFlow_58 rfl (lv_at hl 1 rfl) ?_
            obtain ⟨r59, hc, hf⟩ := bd1_e hf
            refine kVp (pc := 59) (S := ⟨hexec, hb, hml, hown, hts⟩) hP hD hG hA hS [0, 2, 3] [1] [1, 0, 2, 3] (w2 := (w_X9_laysFlow g a0 a1 a2 a3 u0_1 u0_2 u0_3 u0_4 u0_5 u0_6 u0_7 u0_11 u0_12 u0_13 u0_14 u0_15 u0_16 u0_17 u0_18 u0_19 u0_20 u0_21 u0_22 u0_23 u0_24 u0_25 u0_26 u0_27 u0_28 u0_29 u0_30 x0_flowLong_3 y1_flow_3 y2_s y3_sums)) rfl rfl rfl rfl rfl rfl (by decide) (c_X9_stepFrom l g a0 a2 a3 _ u0_1 u0_2 u0_3 u0_4 u0_5 u0_6 u0_7 (.ref a1) (.int x0_flowLong_3) u0_11 u0_12 u0_13 u0_14 u0_15 u0_16 u0_17 u0_18 u0_19 u0_20 u0_21 u0_22 u0_23 u0_24 u0_25 u0_26 u0_27 u0_28 u0_29 u0_30 y2_s y3_sums v2 r59 hc) gX9_laysFlow_X9_stepFrom rfl hv_X9_stepFrom ⟨nle rfl, nle rfl⟩ 9 0 rfl rfl rfl (rest := []) rfl rfl hl.1 (nle rfl) dX9_laysFlow_59 (fun H locs hP hD hS => ?_)
            exact hj62 _ _ _ _ hf hP hD hS (lv_sub hl [0] rfl)
          · refine lv_iconst (pc := 53) hexec hb dX9_laysFlow_53 ki_m1 ?_
            refine lv_goto (pc := 54) hexec hb dX9_laysFlow_54 (tgt := 62) rfl ?_
            exact hj62 _ _ _ _ hf hP hD hS (lv_sub hl [0] rfl)
    exact hL20 n _ _ _ _ _ _ hz hP hD hS (lv_sub hl [1, 0] rfl)
  · refine lv_iconst (pc := 16) hexec hb dX9_laysFlow_16 ki_0 ?_
    cases hf
    exact ke_z hQ hexec hb hr (.inl rfl) hP hD hS dX9_laysFlow_17 hlocks
abbrev w_X9_findsFlow (g : GE) (a0 a1 a2 a3 : Nat) (u0_1 u0_2 u0_3 u0_4 u0_5 u0_6 u0_7 u0_11 u0_12 u0_13 u0_14 u0_15 u0_16 u0_17 u0_18 u0_19 u0_20 u0_21 u0_22 u0_23 u0_24 u0_25 u0_26 u0_27 u0_28 u0_29 u0_30 : Value) (x0_flowLong : Int32) (y1_flow : Nat → Int32) (y2_s : Nat → Int32) (y3_sums : Nat → Int32) : va_W := [(a0, .inr (9, [.ref a2, u0_1, u0_2, u0_3, u0_4, u0_5, u0_6, u0_7, .ref a3, .ref a1, .int x0_flowLong, u0_11, u0_12, u0_13, u0_14, u0_15, u0_16, u0_17, u0_18, u0_19, u0_20, u0_21, u0_22, u0_23, u0_24, u0_25, u0_26, u0_27, u0_28, u0_29, u0_30])), (a1, .inl (g.2.1 0, 144, .inl y1_flow)), (a2, .inl (g.2.1 0, 552, .inl y2_s)), (a3, .inl (g.2.1 0, 144, .inl y3_sums))]
set_option maxRecDepth 20000 in
theorem c_X9_findsFlow (l : Launch) (g : GE) (a0 a1 a2 a3 : Nat) (sz : Nat) (u0_1 u0_2 u0_3 u0_4 u0_5 u0_6 u0_7 u0_11 u0_12 u0_13 u0_14 u0_15 u0_16 u0_17 u0_18 u0_19 u0_20 u0_21 u0_22 u0_23 u0_24 u0_25 u0_26 u0_27 u0_28 u0_29 u0_30 : Value) (x0_flowLong : Int32) (y1_flow : Nat → Int32) (y2_s : Nat → Int32) (y3_sums : Nat → Int32) (p1 : Int32)  (r : Int32) (o_x0_flowLong : Int32) (o_y1_flow : Nat → Int32) (o_y3_sums : Nat → Int32) (hf : f_X9_findsFlow x0_flowLong y1_flow y2_s y3_sums p1 = some (r, o_x0_flowLong, o_y1_flow, o_y3_sums)) : MI l g yX9_findsFlow wsX9_findsFlow 9 210 [.ref a0, .int p1] (w_X9_findsFlow g a0 a1 a2 a3 u0_1 u0_2 u0_3 u0_4 u0_5 u0_6 u0_7 u0_11 u0_12 u0_13 u0_14 u0_15 u0_16 u0_17 u0_18 u0_19 u0_20 u0_21 u0_22 u0_23 u0_24 u0_25 u0_26 u0_27 u0_28 u0_29 u0_30 x0_flowLong y1_flow y2_s y3_sums) sz (some (.int r)) (w_X9_findsFlow g a0 a1 a2 a3 u0_1 u0_2 u0_3 u0_4 u0_5 u0_6 u0_7 u0_11 u0_12 u0_13 u0_14 u0_15 u0_16 u0_17 u0_18 u0_19 u0_20 u0_21 u0_22 u0_23 u0_24 u0_25 u0_26 u0_27 u0_28 u0_29 u0_30 o_x0_flowLong o_y1_flow y2_s o_y3_sums) := by
  refine MI.start (cc := cX9_findsFlow) (maxL := 2) (ret := (some .boolean)) rfl rfl (nle rfl) ?_
  intro p e s m args below meth c A ls Q hQ hexec hb hr hts hown hlocks hml hA hP hD hG hS hl
  unfold f_X9_findsFlow at hf
  have hWX9 : ∀ w ∈ wsX90, w.before args s = true := fun w h => hts w (List.mem_cons_of_mem _ (List.mem_append_right _ h))
  have hS : va_S A s.heap s.heap [] := hS
  refine lv_aload_n (pc := 0) hexec hb dX9_findsFlow_0 rfl (lv_at hl 0 rfl) ?_
  obtain ⟨y3_sums_1, hc, hf⟩ := bd1_e hf
  refine kVp (pc := 1) (S := ⟨hexec, hb, hml, hown, hts⟩) hP hD hG hA hS [0, 2, 3] [1] [1, 0, 2, 3] (w2 := (w_X9_findsFlow g a0 a1 a2 a3 u0_1 u0_2 u0_3 u0_4 u0_5 u0_6 u0_7 u0_11 u0_12 u0_13 u0_14 u0_15 u0_16 u0_17 u0_18 u0_19 u0_20 u0_21 u0_22 u0_23 u0_24 u0_25 u0_26 u0_27 u0_28 u0_29 u0_30 x0_flowLong y1_flow y2_s y3_sums_1)) rfl rfl rfl rfl rfl rfl (by decide) (c_X9_laysSums l g a0 a2 a3 _ u0_1 u0_2 u0_3 u0_4 u0_5 u0_6 u0_7 (.ref a1) (.int x0_flowLong) u0_11 u0_12 u0_13 u0_14 u0_15 u0_16 u0_17 u0_18 u0_19 u0_20 u0_21 u0_22 u0_23 u0_24 u0_25 u0_26 u0_27 u0_28 u0_29 u0_30 y2_s y3_sums y3_sums_1 hc) gX9_findsFlow_X9_laysSums rfl hv_X9_laysSums ⟨nle rfl, nle rfl⟩ 9 0 rfl rfl rfl (rest := []) rfl rfl hl.1 (nle rfl) dX9_findsFlow_1 (fun H locs hP hD hS => ?_)
  refine lv_aload_n (pc := 4) hexec hb dX9_findsFlow_4 rfl (lv_at hl 0 rfl) ?_
  refine lv_iload_n (pc := 5) hexec hb dX9_findsFlow_5 rfl (lv_at hl 1 rfl) ?_
  obtain ⟨r6, x0_flowLong_1, y1_flow_1, hc, hf⟩ := bd3_e hf
  refine kVp (pc := 6) (S := ⟨hexec, hb, hml, hown, hts⟩) hP hD hG hA hS [0, 1, 2, 3] [] [0, 1, 2, 3] (w2 := (w_X9_findsFlow g a0 a1 a2 a3 u0_1 u0_2 u0_3 u0_4 u0_5 u0_6 u0_7 u0_11 u0_12 u0_13 u0_14 u0_15 u0_16 u0_17 u0_18 u0_19 u0_20 u0_21 u0_22 u0_23 u0_24 u0_25 u0_26 u0_27 u0_28 u0_29 u0_30 x0_flowLong_1 y1_flow_1 y2_s y3_sums_1)) rfl rfl rfl rfl rfl rfl (by decide) (c_X9_laysFlow l g a0 a1 a2 a3 _ u0_1 u0_2 u0_3 u0_4 u0_5 u0_6 u0_7 u0_11 u0_12 u0_13 u0_14 u0_15 u0_16 u0_17 u0_18 u0_19 u0_20 u0_21 u0_22 u0_23 u0_24 u0_25 u0_26 u0_27 u0_28 u0_29 u0_30 x0_flowLong y1_flow y2_s y3_sums_1 p1 r6 x0_flowLong_1 y1_flow_1 hc) gX9_findsFlow_X9_laysFlow rfl hv_X9_laysFlow ⟨nle rfl, nle rfl⟩ 9 0 rfl rfl rfl (rest := []) rfl rfl hl.1 (nle rfl) dX9_findsFlow_6 (fun H locs hP hD hS => ?_)
  obtain ⟨hx, hf⟩ := zb_e hf
  cases hf
  exact ke_z hQ hexec hb hr hx hP hD hS dX9_findsFlow_9 hlocks
abbrev w_X9_washedBy (g : GE) (a0 a1 a2 : Nat) (u0_1 u0_2 u0_3 u0_4 u0_5 u0_6 u0_7 u0_8 u0_11 u0_12 u0_13 u0_14 u0_15 u0_16 u0_17 u0_18 u0_19 u0_20 u0_21 u0_22 u0_23 u0_24 u0_25 u0_26 u0_27 u0_28 u0_29 u0_30 : Value) (x0_flowLong : Int32) (y1_flow : Nat → Int32) (y2_s : Nat → Int32) : va_W := [(a0, .inr (9, [.ref a2, u0_1, u0_2, u0_3, u0_4, u0_5, u0_6, u0_7, u0_8, .ref a1, .int x0_flowLong, u0_11, u0_12, u0_13, u0_14, u0_15, u0_16, u0_17, u0_18, u0_19, u0_20, u0_21, u0_22, u0_23, u0_24, u0_25, u0_26, u0_27, u0_28, u0_29, u0_30])), (a1, .inl (g.2.1 0, 144, .inl y1_flow)), (a2, .inl (g.2.1 0, 552, .inl y2_s))]
set_option maxRecDepth 20000 in
theorem c_X9_washedBy (l : Launch) (g : GE) (a0 a1 a2 : Nat) (sz : Nat) (u0_1 u0_2 u0_3 u0_4 u0_5 u0_6 u0_7 u0_8 u0_11 u0_12 u0_13 u0_14 u0_15 u0_16 u0_17 u0_18 u0_19 u0_20 u0_21 u0_22 u0_23 u0_24 u0_25 u0_26 u0_27 u0_28 u0_29 u0_30 : Value) (x0_flowLong : Int32) (y1_flow : Nat → Int32) (y2_s : Nat → Int32)   (r : Int32) (hf : f_X9_washedBy x0_flowLong y1_flow y2_s = some r) : MI l g yX9_washedBy wsX9_washedBy 6 143 [.ref a0] (w_X9_washedBy g a0 a1 a2 u0_1 u0_2 u0_3 u0_4 u0_5 u0_6 u0_7 u0_8 u0_11 u0_12 u0_13 u0_14 u0_15 u0_16 u0_17 u0_18 u0_19 u0_20 u0_21 u0_22 u0_23 u0_24 u0_25 u0_26 u0_27 u0_28 u0_29 u0_30 x0_flowLong y1_flow y2_s) sz (some (.int r)) (w_X9_washedBy g a0 a1 a2 u0_1 u0_2 u0_3 u0_4 u0_5 u0_6 u0_7 u0_8 u0_11 u0_12 u0_13 u0_14 u0_15 u0_16 u0_17 u0_18 u0_19 u0_20 u0_21 u0_22 u0_23 u0_24 u0_25 u0_26 u0_27 u0_28 u0_29 u0_30 x0_flowLong y1_flow y2_s) := by
  refine MI.start (cc := cX9_washedBy) (maxL := 3) (ret := (some .int)) rfl rfl (nle rfl) ?_
  intro p e s m args below meth c A ls Q hQ hexec hb hr hts hown hlocks hml hA hP hD hG hS hl
  unfold f_X9_washedBy at hf
  have hWX9 : ∀ w ∈ wsX90, w.before args s = true := fun w h => hts w (List.mem_cons_of_mem _ (List.mem_append_right _ h))
  have hS : va_S A s.heap s.heap [] := hS
  refine lv_iconst (pc := 0) hexec hb dX9_washedBy_0 ki_0 ?_
  refine lv_istore_n (pc := 1) hexec hb dX9_washedBy_1 rfl hl (nle rfl) rfl (fun ls (hl : lv_has ls 3 [(1, .int 0), (0, .ref a0)]) => ?_)
  refine lv_iconst (pc := 2) hexec hb dX9_washedBy_2 ki_0 ?_
  refine lv_istore_n (pc := 3) hexec hb dX9_washedBy_3 rfl hl (nle rfl) rfl (fun ls (hl : lv_has ls 3 [(2, .int 0), (1, .int 0), (0, .ref a0)]) => ?_)
  obtain ⟨l4, el4, hf⟩ := bvf2 hf
  obtain ⟨v1_1, hz, hf⟩ := bd1_e hf
  have hE4 : ∀ (H : Heap) (locs : List Loc) (ls : Array Slot), va_P g.1 vwCl (w_X9_washedBy g a0 a1 a2 u0_1 u0_2 u0_3 u0_4 u0_5 u0_6 u0_7 u0_8 u0_11 u0_12 u0_13 u0_14 u0_15 u0_16 u0_17 u0_18 u0_19 u0_20 u0_21 u0_22 u0_23 u0_24 u0_25 u0_26 u0_27 u0_28 u0_29 u0_30 x0_flowLong y1_flow y2_s) H → va_D A (w_X9_washedBy g a0 a1 a2 u0_1 u0_2 u0_3 u0_4 u0_5 u0_6 u0_7 u0_8 u0_11 u0_12 u0_13 u0_14 u0_15 u0_16 u0_17 u0_18 u0_19 u0_20 u0_21 u0_22 u0_23 u0_24 u0_25 u0_26 u0_27 u0_28 u0_29 u0_30 x0_flowLong y1_flow y2_s) → va_S A s.heap H locs → lv_has ls 3 [(1, .int v1_1)] → W p l e (RM 6 143) s m args below meth c H locs 0 0 Q (F0 m 31 ls []) := by
    intro H locs ls hP hD hS hl
    refine lv_iload_n (pc := 31) hexec hb dX9_washedBy_31 rfl (lv_at hl 0 rfl) ?_
    cases hf
    exact ke_i hQ hexec hb hr hP hD hS dX9_washedBy_32 hlocks
  obtain ⟨n, hz⟩ := lq2_e hz
  have hL4 : ∀ (n : Nat) (v1 : Int32) (v2 : Int32) (H : Heap) (locs : List Loc) (ls : Array Slot), it2 l4 n v1 v2 = some v1_1 → va_P g.1 vwCl (w_X9_washedBy g a0 a1 a2 u0_1 u0_2 u0_3 u0_4 u0_5 u0_6 u0_7 u0_8 u0_11 u0_12 u0_13 u0_14 u0_15 u0_16 u0_17 u0_18 u0_19 u0_20 u0_21 u0_22 u0_23 u0_24 u0_25 u0_26 u0_27 u0_28 u0_29 u0_30 x0_flowLong y1_flow y2_s) H → va_D A (w_X9_washedBy g a0 a1 a2 u0_1 u0_2 u0_3 u0_4 u0_5 u0_6 u0_7 u0_8 u0_11 u0_12 u0_13 u0_14 u0_15 u0_16 u0_17 u0_18 u0_19 u0_20 u0_21 u0_22 u0_23 u0_24 u0_25 u0_26 u0_27 u0_28 u0_29 u0_30 x0_flowLong y1_flow y2_s) → va_S A s.heap H locs → lv_has ls 3 [(0, .ref a0), (1, .int v1), (2, .int v2)] → W p l e (RM 6 143) s m args below meth c H locs 0 0 Q (F0 m 4 ls []) := by
    intro n
    induction n with
    | zero =>
      intro v1 v2 H locs ls hf hP hD hS hl
      exact it2_0 hf
    | succ n4 ih4 =>
      intro v1 v2 H locs ls hf hP hD hS hl
      obtain ⟨q4, hf, hk4⟩ := it2_e hf
      have hf := (el4 v1 v2).symm.trans hf
      refine lv_iload_n (pc := 4) hexec hb dX9_washedBy_4 rfl (lv_at hl 2 rfl) ?_
      refine lv_aload_n (pc := 5) hexec hb dX9_washedBy_5 rfl (lv_at hl 0 rfl) ?_
      refine kg_get (pc := 6) hexec hb (own := RX9) hWX9 hown hG hP 0 rfl rfl 10 (nle rfl) (hts _ (List.mem_cons_of_mem _ (List.mem_append_left _ (List.mem_append_left _ (List.mem_of_getElem? (i := 0) rfl))))) rfl rfl dX9_washedBy_6 ?_
      refine ki_ge (pc := 9) hexec hb dX9_washedBy_9 (tgt := 31) rfl hf (fun hc hf => ?_) (fun hc hf => ?_)
      · cases sr2 hf hk4
        exact hE4 _ _ _ hP hD hS (lv_sub hl [1] rfl)
      · refine lv_iload_n (pc := 12) hexec hb dX9_washedBy_12 rfl (lv_at hl 1 rfl) ?_
        refine lv_aload_n (pc := 13) hexec hb dX9_washedBy_13 rfl (lv_at hl 0 rfl) ?_
        refine lv_aload_n (pc := 14) hexec hb dX9_washedBy_14 rfl (lv_at hl 0 rfl) ?_
        refine kg_get (pc := 15) hexec hb (own := RX9) hWX9 hown hG hP 0 rfl rfl 9 (nle rfl) (hts _ (List.mem_cons_of_mem _ (List.mem_append_left _ (List.mem_append_left _ (List.mem_of_getElem? (i := 1) rfl))))) rfl rfl dX9_washedBy_15 ?_
        refine lv_iload_n (pc := 18) hexec hb dX9_washedBy_18 rfl (lv_at hl 2 rfl) ?_
        refine kr_iald (pc := 19) hexec hb hG hP 1 rfl hf dX9_washedBy_19 (fun hf => ?_)
        obtain ⟨r20, hc, hf⟩ := bd1_e hf
        refine kVp (pc := 20) (S := ⟨hexec, hb, hml, hown, hts⟩) hP hD hG hA hS [0, 2] [1] [1, 0, 2] (w2 := (w_X9_washedBy g a0 a1 a2 u0_1 u0_2 u0_3 u0_4 u0_5 u0_6 u0_7 u0_8 u0_11 u0_12 u0_13 u0_14 u0_15 u0_16 u0_17 u0_18 u0_19 u0_20 u0_21 u0_22 u0_23 u0_24 u0_25 u0_26 u0_27 u0_28 u0_29 u0_30 x0_flowLong y1_flow y2_s)) rfl rfl rfl rfl rfl rfl (by decide) (c_X9_namesIn l g a0 a2 _ u0_1 u0_2 u0_3 u0_4 u0_5 u0_6 u0_7 u0_8 (.ref a1) (.int x0_flowLong) u0_11 u0_12 u0_13 u0_14 u0_15 u0_16 u0_17 u0_18 u0_19 u0_20 u0_21 u0_22 u0_23 u0_24 u0_25 u0_26 u0_27 u0_28 u0_29 u0_30 y2_s (y1_flow v2.toNatClampNeg) r20 hc) gX9_washedBy_X9_namesIn rfl hv_X9_namesIn ⟨nle rfl, nle rfl⟩ 9 0 rfl rfl rfl (rest := [.int v1]) rfl rfl hl.1 (nle rfl) dX9_washedBy_20 (fun H locs hP hD hS => ?_)
        refine lv_ior (pc := 23) hexec hb dX9_washedBy_23 ?_
        obtain ⟨v1_2, ev1_2, hf⟩ := bv_e hf
        refine kn_i ev1_2 ?_
        refine lv_istore_n (pc := 24) hexec hb dX9_washedBy_24 rfl hl (nle rfl) rfl (fun ls (hl : lv_has ls 3 [(1, .int v1_2), (0, .ref a0), (2, .int v2)]) => ?_)
        obtain ⟨v2_1, ev2_1, hf⟩ := bv_e hf
        refine k_iinc (pc := 25) hexec hb dX9_washedBy_25 kq_1 hl (k := 2) rfl ev2_1 (nle rfl) rfl (fun ls (hl : lv_has ls 3 [(2, .int v2_1), (1, .int v1_2), (0, .ref a0)]) => ?_)
        refine lv_goto (pc := 28) hexec hb dX9_washedBy_28 (tgt := 4) rfl ?_
        exact ih4 _ _ _ _ _ (sl2 hf hk4) hP hD hS (lv_sub hl [2, 1, 0] rfl)
  exact hL4 n _ _ _ _ _ hz hP hD hS (lv_sub hl [2, 1, 0] rfl)
abbrev w_X9_flows (g : GE) (a0 a1 a2 : Nat) (u0_1 u0_2 u0_3 u0_4 u0_5 u0_6 u0_7 u0_8 u0_11 u0_12 u0_13 u0_14 u0_15 u0_16 u0_17 u0_18 u0_19 u0_20 u0_21 u0_22 u0_23 u0_24 u0_25 u0_26 u0_27 u0_28 u0_29 u0_30 : Value) (x0_flowLong : Int32) (y1_flow : Nat → Int32) (y2_s : Nat → Int32) : va_W := [(a0, .inr (9, [.ref a2, u0_1, u0_2, u0_3, u0_4, u0_5, u0_6, u0_7, u0_8, .ref a1, .int x0_flowLong, u0_11, u0_12, u0_13, u0_14, u0_15, u0_16, u0_17, u0_18, u0_19, u0_20, u0_21, u0_22, u0_23, u0_24, u0_25, u0_26, u0_27, u0_28, u0_29, u0_30])), (a1, .inl (g.2.1 0, 144, .inl y1_flow)), (a2, .inl (g.2.1 0, 552, .inl y2_s))]
set_option maxRecDepth 20000 in
theorem c_X9_flows (l : Launch) (g : GE) (a0 a1 a2 : Nat) (sz : Nat) (u0_1 u0_2 u0_3 u0_4 u0_5 u0_6 u0_7 u0_8 u0_11 u0_12 u0_13 u0_14 u0_15 u0_16 u0_17 u0_18 u0_19 u0_20 u0_21 u0_22 u0_23 u0_24 u0_25 u0_26 u0_27 u0_28 u0_29 u0_30 : Value) (x0_flowLong : Int32) (y1_flow : Nat → Int32) (y2_s : Nat → Int32)   (o_y2_s : Nat → Int32) (hf : f_X9_flows x0_flowLong y1_flow y2_s = some o_y2_s) : MI l g yX9_flows wsX9_flows 7 165 [.ref a0] (w_X9_flows g a0 a1 a2 u0_1 u0_2 u0_3 u0_4 u0_5 u0_6 u0_7 u0_8 u0_11 u0_12 u0_13 u0_14 u0_15 u0_16 u0_17 u0_18 u0_19 u0_20 u0_21 u0_22 u0_23 u0_24 u0_25 u0_26 u0_27 u0_28 u0_29 u0_30 x0_flowLong y1_flow y2_s) sz none (w_X9_flows g a0 a1 a2 u0_1 u0_2 u0_3 u0_4 u0_5 u0_6 u0_7 u0_8 u0_11 u0_12 u0_13 u0_14 u0_15 u0_16 u0_17 u0_18 u0_19 u0_20 u0_21 u0_22 u0_23 u0_24 u0_25 u0_26 u0_27 u0_28 u0_29 u0_30 x0_flowLong y1_flow o_y2_s) := by
  refine MI.start (cc := cX9_flows) (maxL := 3) (ret := none) rfl rfl (nle rfl) ?_
  intro p e s m args below meth c A ls Q hQ hexec hb hr hts hown hlocks hml hA hP hD hG hS hl
  unfold f_X9_flows at hf
  have hWX9 : ∀ w ∈ wsX90, w.before args s = true := fun w h => hts w (List.mem_cons_of_mem _ (List.mem_append_right _ h))
  have hS : va_S A s.heap s.heap [] := hS
  refine lv_aload_n (pc := 0) hexec hb dX9_flows_0 rfl (lv_at hl 0 rfl) ?_
  refine lv_aload_n (pc := 1) hexec hb dX9_flows_1 rfl (lv_at hl 0 rfl) ?_
  obtain ⟨r2, hc, hf⟩ := bd1_e hf
  refine kVp (pc := 2) (S := ⟨hexec, hb, hml, hown, hts⟩) hP hD hG hA hS [0, 1, 2] [] [0, 1, 2] (w2 := (w_X9_flows g a0 a1 a2 u0_1 u0_2 u0_3 u0_4 u0_5 u0_6 u0_7 u0_8 u0_11 u0_12 u0_13 u0_14 u0_15 u0_16 u0_17 u0_18 u0_19 u0_20 u0_21 u0_22 u0_23 u0_24 u0_25 u0_26 u0_27 u0_28 u0_29 u0_30 x0_flowLong y1_flow y2_s)) rfl rfl rfl rfl rfl rfl (by decide) (c_X9_washedBy l g a0 a1 a2 _ u0_1 u0_2 u0_3 u0_4 u0_5 u0_6 u0_7 u0_8 u0_11 u0_12 u0_13 u0_14 u0_15 u0_16 u0_17 u0_18 u0_19 u0_20 u0_21 u0_22 u0_23 u0_24 u0_25 u0_26 u0_27 u0_28 u0_29 u0_30 x0_flowLong y1_flow y2_s r2 hc) gX9_flows_X9_washedBy rfl hv_X9_washedBy ⟨nle rfl, nle rfl⟩ 9 0 rfl rfl rfl (rest := [.ref a0]) rfl rfl hl.1 (nle rfl) dX9_flows_2 (fun H locs hP hD hS => ?_)
  obtain ⟨r5, y2_s_1, hc, hf⟩ := bd2_e hf
  refine kVp (pc := 5) (S := ⟨hexec, hb, hml, hown, hts⟩) hP hD hG hA hS [0, 2] [1] [1, 0, 2] (w2 := (w_X9_flows g a0 a1 a2 u0_1 u0_2 u0_3 u0_4 u0_5 u0_6 u0_7 u0_8 u0_11 u0_12 u0_13 u0_14 u0_15 u0_16 u0_17 u0_18 u0_19 u0_20 u0_21 u0_22 u0_23 u0_24 u0_25 u0_26 u0_27 u0_28 u0_29 u0_30 x0_flowLong y1_flow y2_s_1)) rfl rfl rfl rfl rfl rfl (by decide) (c_X9_lifts l g a0 a2 _ u0_1 u0_2 u0_3 u0_4 u0_5 u0_6 u0_7 u0_8 (.ref a1) (.int x0_flowLong) u0_11 u0_12 u0_13 u0_14 u0_15 u0_16 u0_17 u0_18 u0_19 u0_20 u0_21 u0_22 u0_23 u0_24 u0_25 u0_26 u0_27 u0_28 u0_29 u0_30 y2_s r2 r5 y2_s_1 hc) gX9_flows_X9_lifts rfl hv_X9_lifts ⟨nle rfl, nle rfl⟩ 9 0 rfl rfl rfl (rest := []) rfl rfl hl.1 (nle rfl) dX9_flows_5 (fun H locs hP hD hS => ?_)
  refine lv_istore_n (pc := 8) hexec hb dX9_flows_8 rfl hl (nle rfl) rfl (fun ls (hl : lv_has ls 3 [(1, .int r5), (0, .ref a0)]) => ?_)
  refine lv_aload_n (pc := 9) hexec hb dX9_flows_9 rfl (lv_at hl 1 rfl) ?_
  refine kg_get (pc := 10) hexec hb (own := RX9) hWX9 hown hG hP 0 rfl rfl 0 (nle rfl) (hts _ (List.mem_cons_of_mem _ (List.mem_append_left _ (List.mem_append_left _ (List.mem_of_getElem? (i := 0) rfl))))) rfl rfl dX9_flows_10 ?_
  refine lv_iconst (pc := 13) hexec hb dX9_flows_13 ki_3 ?_
  refine lv_dup2_11 (pc := 14) hexec hb dX9_flows_14 rfl rfl ?_
  refine kr_iald (pc := 15) hexec hb hG hP 2 rfl hf dX9_flows_15 (fun hf => ?_)
  refine lv_iconst (pc := 16) hexec hb dX9_flows_16 ki_1 ?_
  refine lv_iadd (pc := 17) hexec hb dX9_flows_17 ?_
  refine kw_iast (pc := 18) hexec hb hG hP hD hS 2 rfl hf dX9_flows_18 (fun y2_s_2 H locs hf (hP : va_P g.1 vwCl (w_X9_flows g a0 a1 a2 u0_1 u0_2 u0_3 u0_4 u0_5 u0_6 u0_7 u0_8 u0_11 u0_12 u0_13 u0_14 u0_15 u0_16 u0_17 u0_18 u0_19 u0_20 u0_21 u0_22 u0_23 u0_24 u0_25 u0_26 u0_27 u0_28 u0_29 u0_30 x0_flowLong y1_flow y2_s_2) H) (hD : va_D A (w_X9_flows g a0 a1 a2 u0_1 u0_2 u0_3 u0_4 u0_5 u0_6 u0_7 u0_8 u0_11 u0_12 u0_13 u0_14 u0_15 u0_16 u0_17 u0_18 u0_19 u0_20 u0_21 u0_22 u0_23 u0_24 u0_25 u0_26 u0_27 u0_28 u0_29 u0_30 x0_flowLong y1_flow y2_s_2)) hS => ?_)
  refine lv_iconst (pc := 19) hexec hb dX9_flows_19 ki_0 ?_
  refine lv_istore_n (pc := 20) hexec hb dX9_flows_20 rfl hl (nle rfl) rfl (fun ls (hl : lv_has ls 3 [(2, .int 0), (1, .int r5), (0, .ref a0)]) => ?_)
  obtain ⟨l21, el21, hf⟩ := bvf2 hf
  obtain ⟨y2_s_4, hz, hf⟩ := bd1_e hf
  have hE21 : ∀ (H : Heap) (locs : List Loc) (ls : Array Slot), va_P g.1 vwCl (w_X9_flows g a0 a1 a2 u0_1 u0_2 u0_3 u0_4 u0_5 u0_6 u0_7 u0_8 u0_11 u0_12 u0_13 u0_14 u0_15 u0_16 u0_17 u0_18 u0_19 u0_20 u0_21 u0_22 u0_23 u0_24 u0_25 u0_26 u0_27 u0_28 u0_29 u0_30 x0_flowLong y1_flow y2_s_4) H → va_D A (w_X9_flows g a0 a1 a2 u0_1 u0_2 u0_3 u0_4 u0_5 u0_6 u0_7 u0_8 u0_11 u0_12 u0_13 u0_14 u0_15 u0_16 u0_17 u0_18 u0_19 u0_20 u0_21 u0_22 u0_23 u0_24 u0_25 u0_26 u0_27 u0_28 u0_29 u0_30 x0_flowLong y1_flow y2_s_4) → va_S A s.heap H locs → lv_has ls 3 [] → W p l e (RM 7 165) s m args below meth c H locs 0 0 Q (F0 m 72 ls []) := by
    intro H locs ls hP hD hS hl
    cases hf
    exact ke_v hQ hexec hb hr hP hD hS dX9_flows_72 hlocks
  obtain ⟨n, hz⟩ := lq2_e hz
  have hL21 : ∀ (n : Nat) (v2 : Int32) (y2_s_3 : Nat → Int32) (H : Heap) (locs : List Loc) (ls : Array Slot), it2 l21 n v2 y2_s_3 = some y2_s_4 → va_P g.1 vwCl (w_X9_flows g a0 a1 a2 u0_1 u0_2 u0_3 u0_4 u0_5 u0_6 u0_7 u0_8 u0_11 u0_12 u0_13 u0_14 u0_15 u0_16 u0_17 u0_18 u0_19 u0_20 u0_21 u0_22 u0_23 u0_24 u0_25 u0_26 u0_27 u0_28 u0_29 u0_30 x0_flowLong y1_flow y2_s_3) H → va_D A (w_X9_flows g a0 a1 a2 u0_1 u0_2 u0_3 u0_4 u0_5 u0_6 u0_7 u0_8 u0_11 u0_12 u0_13 u0_14 u0_15 u0_16 u0_17 u0_18 u0_19 u0_20 u0_21 u0_22 u0_23 u0_24 u0_25 u0_26 u0_27 u0_28 u0_29 u0_30 x0_flowLong y1_flow y2_s_3) → va_S A s.heap H locs → lv_has ls 3 [(0, .ref a0), (2, .int v2)] → W p l e (RM 7 165) s m args below meth c H locs 0 0 Q (F0 m 21 ls []) := by
    intro n
    induction n with
    | zero =>
      intro v2 y2_s_3 H locs ls hf hP hD hS hl
      exact it2_0 hf
    | succ n21 ih21 =>
      intro v2 y2_s_3 H locs ls hf hP hD hS hl
      obtain ⟨q21, hf, hk21⟩ := it2_e hf
      have hf := (el21 v2 y2_s_3).symm.trans hf
      refine lv_iload_n (pc := 21) hexec hb dX9_flows_21 rfl (lv_at hl 1 rfl) ?_
      refine lv_aload_n (pc := 22) hexec hb dX9_flows_22 rfl (lv_at hl 0 rfl) ?_
      refine kg_get (pc := 23) hexec hb (own := RX9) hWX9 hown hG hP 0 rfl rfl 10 (nle rfl) (hts _ (List.mem_cons_of_mem _ (List.mem_append_left _ (List.mem_append_left _ (List.mem_of_getElem? (i := 1) rfl))))) rfl rfl dX9_flows_23 ?_
      refine ki_ge (pc := 26) hexec hb dX9_flows_26 (tgt := 72) rfl hf (fun hc hf => ?_) (fun hc hf => ?_)
      · cases sr2 hf hk21
        exact hE21 _ _ _ hP hD hS (lv_sub hl [] rfl)
      · refine lv_aload_n (pc := 29) hexec hb dX9_flows_29 rfl (lv_at hl 0 rfl) ?_
        refine kg_get (pc := 30) hexec hb (own := RX9) hWX9 hown hG hP 0 rfl rfl 0 (nle rfl) (hts _ (List.mem_cons_of_mem _ (List.mem_append_left _ (List.mem_append_left _ (List.mem_of_getElem? (i := 0) rfl))))) rfl rfl dX9_flows_30 ?_
        refine lv_sipush (pc := 33) hexec hb dX9_flows_33 ks_152 ?_
        refine lv_aload_n (pc := 36) hexec hb dX9_flows_36 rfl (lv_at hl 0 rfl) ?_
        refine kg_get (pc := 37) hexec hb (own := RX9) hWX9 hown hG hP 0 rfl rfl 9 (nle rfl) (hts _ (List.mem_cons_of_mem _ (List.mem_append_left _ (List.mem_append_left _ (List.mem_of_getElem? (i := 2) rfl))))) rfl rfl dX9_flows_37 ?_
        refine lv_iload_n (pc := 40) hexec hb dX9_flows_40 rfl (lv_at hl 1 rfl) ?_
        refine kr_iald (pc := 41) hexec hb hG hP 1 rfl hf dX9_flows_41 (fun hf => ?_)
        refine lv_iadd (pc := 42) hexec hb dX9_flows_42 ?_
        refine lv_aload_n (pc := 43) hexec hb dX9_flows_43 rfl (lv_at hl 0 rfl) ?_
        refine kg_get (pc := 44) hexec hb (own := RX9) hWX9 hown hG hP 0 rfl rfl 0 (nle rfl) (hts _ (List.mem_cons_of_mem _ (List.mem_append_left _ (List.mem_append_left _ (List.mem_of_getElem? (i := 0) rfl))))) rfl rfl dX9_flows_44 ?_
        refine lv_iconst (pc := 47) hexec hb dX9_flows_47 ki_3 ?_
        refine kr_iald (pc := 48) hexec hb hG hP 2 rfl hf dX9_flows_48 (fun hf => ?_)
        refine kw_iast (pc := 49) hexec hb hG hP hD hS 2 rfl hf dX9_flows_49 (fun y2_s_5 H locs hf (hP : va_P g.1 vwCl (w_X9_flows g a0 a1 a2 u0_1 u0_2 u0_3 u0_4 u0_5 u0_6 u0_7 u0_8 u0_11 u0_12 u0_13 u0_14 u0_15 u0_16 u0_17 u0_18 u0_19 u0_20 u0_21 u0_22 u0_23 u0_24 u0_25 u0_26 u0_27 u0_28 u0_29 u0_30 x0_flowLong y1_flow y2_s_5) H) (hD : va_D A (w_X9_flows g a0 a1 a2 u0_1 u0_2 u0_3 u0_4 u0_5 u0_6 u0_7 u0_8 u0_11 u0_12 u0_13 u0_14 u0_15 u0_16 u0_17 u0_18 u0_19 u0_20 u0_21 u0_22 u0_23 u0_24 u0_25 u0_26 u0_27 u0_28 u0_29 u0_30 x0_flowLong y1_flow y2_s_5)) hS => ?_)
        refine lv_aload_n (pc := 50) hexec hb dX9_flows_50 rfl (lv_at hl 0 rfl) ?_
        refine kg_get (pc := 51) hexec hb (own := RX9) hWX9 hown hG hP 0 rfl rfl 0 (nle rfl) (hts _ (List.mem_cons_of_mem _ (List.mem_append_left _ (List.mem_append_left _ (List.mem_of_getElem? (i := 0) rfl))))) rfl rfl dX9_flows_51 ?_
        refine lv_sipush (pc := 54) hexec hb dX9_flows_54 ks_296 ?_
        refine lv_aload_n (pc := 57) hexec hb dX9_flows_57 rfl (lv_at hl 0 rfl) ?_
        refine kg_get (pc := 58) hexec hb (own := RX9) hWX9 hown hG hP 0 rfl rfl 9 (nle rfl) (hts _ (List.mem_cons_of_mem _ (List.mem_append_left _ (List.mem_append_left _ (List.mem_of_getElem? (i := 2) rfl))))) rfl rfl dX9_flows_58 ?_
        refine lv_iload_n (pc := 61) hexec hb dX9_flows_61 rfl (lv_at hl 1 rfl) ?_
        refine kr_iald (pc := 62) hexec hb hG hP 1 rfl hf dX9_flows_62 (fun hf => ?_)
        refine lv_iadd (pc := 63) hexec hb dX9_flows_63 ?_
        refine lv_iload_n (pc := 64) hexec hb dX9_flows_64 rfl (lv_at hl 1 rfl) ?_
        refine kw_iast (pc := 65) hexec hb hG hP hD hS 2 rfl hf dX9_flows_65 (fun y2_s_6 H locs hf (hP : va_P g.1 vwCl (w_X9_flows g a0 a1 a2 u0_1 u0_2 u0_3 u0_4 u0_5 u0_6 u0_7 u0_8 u0_11 u0_12 u0_13 u0_14 u0_15 u0_16 u0_17 u0_18 u0_19 u0_20 u0_21 u0_22 u0_23 u0_24 u0_25 u0_26 u0_27 u0_28 u0_29 u0_30 x0_flowLong y1_flow y2_s_6) H) (hD : va_D A (w_X9_flows g a0 a1 a2 u0_1 u0_2 u0_3 u0_4 u0_5 u0_6 u0_7 u0_8 u0_11 u0_12 u0_13 u0_14 u0_15 u0_16 u0_17 u0_18 u0_19 u0_20 u0_21 u0_22 u0_23 u0_24 u0_25 u0_26 u0_27 u0_28 u0_29 u0_30 x0_flowLong y1_flow y2_s_6)) hS => ?_)
        obtain ⟨v2_1, ev2_1, hf⟩ := bv_e hf
        refine k_iinc (pc := 66) hexec hb dX9_flows_66 kq_1 hl (k := 1) rfl ev2_1 (nle rfl) rfl (fun ls (hl : lv_has ls 3 [(2, .int v2_1), (0, .ref a0)]) => ?_)
        refine lv_goto (pc := 69) hexec hb dX9_flows_69 (tgt := 21) rfl ?_
        exact ih21 _ _ _ _ _ (sl2 hf hk21) hP hD hS (lv_sub hl [1, 0] rfl)
  exact hL21 n _ _ _ _ _ hz hP hD hS (lv_sub hl [2, 0] rfl)
abbrev w_X9_quarters (g : GE) : va_W := []
set_option maxRecDepth 20000 in
theorem c_X9_quarters (l : Launch) (g : GE) (sz : Nat)  (p0 : Int32) (p1 : Int32)  (r : Int32) (hf : f_X9_quarters p0 p1 = some r) : MI l g yX9_quarters wsX9_quarters 1 24 [.int p0, .int p1] (w_X9_quarters g ) sz (some (.int r)) (w_X9_quarters g ) := by
  refine MI.start (cc := cX9_quarters) (maxL := 3) (ret := (some .int)) rfl rfl (nle rfl) ?_
  intro p e s m args below meth c A ls Q hQ hexec hb hr hts hown hlocks hml hA hP hD hG hS hl
  unfold f_X9_quarters at hf
  have hS : va_S A s.heap s.heap [] := hS
  refine lv_iload_n (pc := 0) hexec hb dX9_quarters_0 rfl (lv_at hl 0 rfl) ?_
  refine lv_iload_n (pc := 1) hexec hb dX9_quarters_1 rfl (lv_at hl 1 rfl) ?_
  refine lv_isub (pc := 2) hexec hb dX9_quarters_2 ?_
  refine va_mabs (pc := 3) hexec hb (hml.trans hl.1.symm) (own := RX9) hown (hts _ (List.mem_cons_of_mem _ (List.mem_of_getElem? (i := 0) rfl))) (hts _ (List.mem_cons_of_mem _ (List.mem_of_getElem? (i := 1) rfl))) (hts _ (List.mem_cons_of_mem _ (List.mem_of_getElem? (i := 2) rfl))) (hts _ (List.mem_cons_of_mem _ (List.mem_of_getElem? (i := 3) rfl))) (nle rfl) (nle rfl) (nle rfl) (nle rfl) dX9_quarters_3 ?_
  obtain ⟨v2, ev2, hf⟩ := bv_e hf
  refine kn_i ev2 ?_
  refine lv_istore_n (pc := 6) hexec hb dX9_quarters_6 rfl hl (nle rfl) rfl (fun ls (hl : lv_has ls 3 [(2, .int v2), (0, .int p0), (1, .int p1)]) => ?_)
  refine lv_iload_n (pc := 7) hexec hb dX9_quarters_7 rfl (lv_at hl 0 rfl) ?_
  refine lv_iconst (pc := 8) hexec hb dX9_quarters_8 ki_4 ?_
  refine lv_iload_n (pc := 9) hexec hb dX9_quarters_9 rfl (lv_at hl 0 rfl) ?_
  refine lv_isub (pc := 10) hexec hb dX9_quarters_10 ?_
  refine va_mmin (pc := 11) hexec hb (hml.trans hl.1.symm) (own := RX9) hown (hts _ (List.mem_cons_of_mem _ (List.mem_of_getElem? (i := 4) rfl))) (hts _ (List.mem_cons_of_mem _ (List.mem_of_getElem? (i := 5) rfl))) (hts _ (List.mem_cons_of_mem _ (List.mem_of_getElem? (i := 2) rfl))) (hts _ (List.mem_cons_of_mem _ (List.mem_of_getElem? (i := 6) rfl))) (nle rfl) (nle rfl) (nle rfl) (nle rfl) dX9_quarters_11 ?_
  cases hf
  exact ke_i hQ hexec hb hr hP hD hS dX9_quarters_14 hlocks
abbrev w_X9_uprightBy (g : GE) : va_W := []
set_option maxRecDepth 20000 in
theorem c_X9_uprightBy (l : Launch) (g : GE) (sz : Nat)  (p0 : Int32)  (r : Int32) (hf : f_X9_uprightBy p0 = some r) : MI l g yX9_uprightBy wsX9_uprightBy 1 24 [.int p0] (w_X9_uprightBy g ) sz (some (.int r)) (w_X9_uprightBy g ) := by
  refine MI.start (cc := cX9_uprightBy) (maxL := 1) (ret := (some .int)) rfl rfl (nle rfl) ?_
  intro p e s m args below meth c A ls Q hQ hexec hb hr hts hown hlocks hml hA hP hD hG hS hl
  unfold f_X9_uprightBy at hf
  have hS : va_S A s.heap s.heap [] := hS
  refine lv_iload_n (pc := 0) hexec hb dX9_uprightBy_0 rfl (lv_at hl 0 rfl) ?_
  refine lv_iconst (pc := 1) hexec hb dX9_uprightBy_1 ki_3 ?_
  refine lv_iadd (pc := 2) hexec hb dX9_uprightBy_2 ?_
  refine lv_iconst (pc := 3) hexec hb dX9_uprightBy_3 ki_4 ?_
  refine lv_irem (pc := 4) hexec hb dX9_uprightBy_4 (by decide) ?_
  cases hf
  exact ke_i hQ hexec hb hr hP hD hS dX9_uprightBy_5 hlocks
abbrev w_X9_turningBy (g : GE) (a0 a1 a2 : Nat) (u0_1 u0_2 u0_3 u0_4 u0_5 u0_6 u0_7 u0_8 u0_9 u0_10 u0_12 u0_13 u0_14 u0_15 u0_16 u0_17 u0_18 u0_19 u0_20 u0_21 u0_22 u0_23 u0_24 u0_25 u0_26 u0_27 u0_28 u0_29 u0_30 : Value) (y1_s : Nat → Int32) (y2_ways : Nat → Int32) : va_W := [(a0, .inr (9, [.ref a1, u0_1, u0_2, u0_3, u0_4, u0_5, u0_6, u0_7, u0_8, u0_9, u0_10, .ref a2, u0_12, u0_13, u0_14, u0_15, u0_16, u0_17, u0_18, u0_19, u0_20, u0_21, u0_22, u0_23, u0_24, u0_25, u0_26, u0_27, u0_28, u0_29, u0_30])), (a1, .inl (g.2.1 0, 552, .inl y1_s)), (a2, .inl (g.2.1 0, 8, .inl y2_ways))]
set_option maxRecDepth 20000 in
theorem c_X9_turningBy (l : Launch) (g : GE) (a0 a1 a2 : Nat) (sz : Nat) (u0_1 u0_2 u0_3 u0_4 u0_5 u0_6 u0_7 u0_8 u0_9 u0_10 u0_12 u0_13 u0_14 u0_15 u0_16 u0_17 u0_18 u0_19 u0_20 u0_21 u0_22 u0_23 u0_24 u0_25 u0_26 u0_27 u0_28 u0_29 u0_30 : Value) (y1_s : Nat → Int32) (y2_ways : Nat → Int32) (p1 : Int32)  (r : Int32) (hf : f_X9_turningBy y1_s y2_ways p1 = some r) : MI l g yX9_turningBy wsX9_turningBy 2 46 [.ref a0, .int p1] (w_X9_turningBy g a0 a1 a2 u0_1 u0_2 u0_3 u0_4 u0_5 u0_6 u0_7 u0_8 u0_9 u0_10 u0_12 u0_13 u0_14 u0_15 u0_16 u0_17 u0_18 u0_19 u0_20 u0_21 u0_22 u0_23 u0_24 u0_25 u0_26 u0_27 u0_28 u0_29 u0_30 y1_s y2_ways) sz (some (.int r)) (w_X9_turningBy g a0 a1 a2 u0_1 u0_2 u0_3 u0_4 u0_5 u0_6 u0_7 u0_8 u0_9 u0_10 u0_12 u0_13 u0_14 u0_15 u0_16 u0_17 u0_18 u0_19 u0_20 u0_21 u0_22 u0_23 u0_24 u0_25 u0_26 u0_27 u0_28 u0_29 u0_30 y1_s y2_ways) := by
  refine MI.start (cc := cX9_turningBy) (maxL := 6) (ret := (some .int)) rfl rfl (nle rfl) ?_
  intro p e s m args below meth c A ls Q hQ hexec hb hr hts hown hlocks hml hA hP hD hG hS hl
  unfold f_X9_turningBy at hf
  have hWX9 : ∀ w ∈ wsX90, w.before args s = true := fun w h => hts w (List.mem_cons_of_mem _ (List.mem_append_right _ h))
  have hS : va_S A s.heap s.heap [] := hS
  refine lv_iload_n (pc := 0) hexec hb dX9_turningBy_0 rfl (lv_at hl 1 rfl) ?_
  refine lv_istore_n (pc := 1) hexec hb dX9_turningBy_1 rfl hl (nle rfl) rfl (fun ls (hl : lv_has ls 6 [(2, .int p1), (0, .ref a0), (1, .int p1)]) => ?_)
  refine lv_iconst (pc := 2) hexec hb dX9_turningBy_2 ki_0 ?_
  refine lv_istore_n (pc := 3) hexec hb dX9_turningBy_3 rfl hl (nle rfl) rfl (fun ls (hl : lv_has ls 6 [(3, .int 0), (2, .int p1), (0, .ref a0), (1, .int p1)]) => ?_)
  refine lv_iconst (pc := 4) hexec hb dX9_turningBy_4 ki_0 ?_
  refine lv_istore (pc := 5) hexec hb dX9_turningBy_5 hl (nle rfl) rfl (fun ls (hl : lv_has ls 6 [(4, .int 0), (3, .int 0), (2, .int p1), (0, .ref a0), (1, .int p1)]) => ?_)
  obtain ⟨l7, el7, hf⟩ := bvf3 hf
  obtain ⟨v3_1, hz, hf⟩ := bd1_e hf
  have hE7 : ∀ (H : Heap) (locs : List Loc) (ls : Array Slot), va_P g.1 vwCl (w_X9_turningBy g a0 a1 a2 u0_1 u0_2 u0_3 u0_4 u0_5 u0_6 u0_7 u0_8 u0_9 u0_10 u0_12 u0_13 u0_14 u0_15 u0_16 u0_17 u0_18 u0_19 u0_20 u0_21 u0_22 u0_23 u0_24 u0_25 u0_26 u0_27 u0_28 u0_29 u0_30 y1_s y2_ways) H → va_D A (w_X9_turningBy g a0 a1 a2 u0_1 u0_2 u0_3 u0_4 u0_5 u0_6 u0_7 u0_8 u0_9 u0_10 u0_12 u0_13 u0_14 u0_15 u0_16 u0_17 u0_18 u0_19 u0_20 u0_21 u0_22 u0_23 u0_24 u0_25 u0_26 u0_27 u0_28 u0_29 u0_30 y1_s y2_ways) → va_S A s.heap H locs → lv_has ls 6 [(3, .int v3_1)] → W p l e (RM 2 46) s m args below meth c H locs 0 0 Q (F0 m 66 ls []) := by
    intro H locs ls hP hD hS hl
    refine lv_iload_n (pc := 66) hexec hb dX9_turningBy_66 rfl (lv_at hl 0 rfl) ?_
    cases hf
    exact ke_i hQ hexec hb hr hP hD hS dX9_turningBy_67 hlocks
  obtain ⟨n, hz⟩ := lq3_e hz
  have hL7 : ∀ (n : Nat) (v2 : Int32) (v3 : Int32) (v4 : Int32) (H : Heap) (locs : List Loc) (ls : Array Slot), it3 l7 n v2 v3 v4 = some v3_1 → va_P g.1 vwCl (w_X9_turningBy g a0 a1 a2 u0_1 u0_2 u0_3 u0_4 u0_5 u0_6 u0_7 u0_8 u0_9 u0_10 u0_12 u0_13 u0_14 u0_15 u0_16 u0_17 u0_18 u0_19 u0_20 u0_21 u0_22 u0_23 u0_24 u0_25 u0_26 u0_27 u0_28 u0_29 u0_30 y1_s y2_ways) H → va_D A (w_X9_turningBy g a0 a1 a2 u0_1 u0_2 u0_3 u0_4 u0_5 u0_6 u0_7 u0_8 u0_9 u0_10 u0_12 u0_13 u0_14 u0_15 u0_16 u0_17 u0_18 u0_19 u0_20 u0_21 u0_22 u0_23 u0_24 u0_25 u0_26 u0_27 u0_28 u0_29 u0_30 y1_s y2_ways) → va_S A s.heap H locs → lv_has ls 6 [(0, .ref a0), (2, .int v2), (3, .int v3), (4, .int v4)] → W p l e (RM 2 46) s m args below meth c H locs 0 0 Q (F0 m 7 ls []) := by
    intro n
    induction n with
    | zero =>
      intro v2 v3 v4 H locs ls hf hP hD hS hl
      exact it3_0 hf
    | succ n7 ih7 =>
      intro v2 v3 v4 H locs ls hf hP hD hS hl
      obtain ⟨q7, hf, hk7⟩ := it3_e hf
      have hf := (el7 v2 v3 v4).symm.trans hf
      refine lv_iload (pc := 7) hexec hb dX9_turningBy_7 (lv_at hl 3 rfl) ?_
      refine lv_aload_n (pc := 9) hexec hb dX9_turningBy_9 rfl (lv_at hl 0 rfl) ?_
      refine kg_get (pc := 10) hexec hb (own := RX9) hWX9 hown hG hP 0 rfl rfl 0 (nle rfl) (hts _ (List.mem_cons_of_mem _ (List.mem_append_left _ (List.mem_of_getElem? (i := 0) rfl)))) rfl rfl dX9_turningBy_10 ?_
      refine lv_iconst (pc := 13) hexec hb dX9_turningBy_13 ki_4 ?_
      refine kr_iald (pc := 14) hexec hb hG hP 1 rfl hf dX9_turningBy_14 (fun hf => ?_)
      refine ki_ge (pc := 15) hexec hb dX9_turningBy_15 (tgt := 66) rfl hf (fun hc hf => ?_) (fun hc hf => ?_)
      · cases sr3 hf hk7
        exact hE7 _ _ _ hP hD hS (lv_sub hl [2] rfl)
      · refine lv_aload_n (pc := 18) hexec hb dX9_turningBy_18 rfl (lv_at hl 0 rfl) ?_
        refine kg_get (pc := 19) hexec hb (own := RX9) hWX9 hown hG hP 0 rfl rfl 11 (nle rfl) (hts _ (List.mem_cons_of_mem _ (List.mem_append_left _ (List.mem_of_getElem? (i := 1) rfl)))) rfl rfl dX9_turningBy_19 ?_
        refine lv_aload_n (pc := 22) hexec hb dX9_turningBy_22 rfl (lv_at hl 0 rfl) ?_
        refine kg_get (pc := 23) hexec hb (own := RX9) hWX9 hown hG hP 0 rfl rfl 0 (nle rfl) (hts _ (List.mem_cons_of_mem _ (List.mem_append_left _ (List.mem_of_getElem? (i := 0) rfl)))) rfl rfl dX9_turningBy_23 ?_
        refine lv_sipush (pc := 26) hexec hb dX9_turningBy_26 ks_536 ?_
        refine lv_iload (pc := 29) hexec hb dX9_turningBy_29 (lv_at hl 3 rfl) ?_
        refine lv_iadd (pc := 31) hexec hb dX9_turningBy_31 ?_
        refine kr_iald (pc := 32) hexec hb hG hP 1 rfl hf dX9_turningBy_32 (fun hf => ?_)
        refine kr_iald (pc := 33) hexec hb hG hP 2 rfl hf dX9_turningBy_33 (fun hf => ?_)
        obtain ⟨v5, ev5, hf⟩ := bv_e hf
        refine kn_i ev5 ?_
        refine lv_istore (pc := 34) hexec hb dX9_turningBy_34 hl (nle rfl) rfl (fun ls (hl : lv_has ls 6 [(5, .int v5), (0, .ref a0), (2, .int v2), (3, .int v3), (4, .int v4)]) => ?_)
        refine lv_iload (pc := 36) hexec hb dX9_turningBy_36 (lv_at hl 0 rfl) ?_
        refine lv_iconst (pc := 38) hexec hb dX9_turningBy_38 ki_m1 ?_
        obtain ⟨j60, ej60, hf⟩ := bvf2 hf
        have hj60 : ∀ (v2_1 : Int32) (v3_2 : Int32) (H : Heap) (locs : List Loc) (ls : Array Slot), j60 v2_1 v3_2 = some q7 → va_P g.1 vwCl (w_X9_turningBy g a0 a1 a2 u0_1 u0_2 u0_3 u0_4 u0_5 u0_6 u0_7 u0_8 u0_9 u0_10 u0_12 u0_13 u0_14 u0_15 u0_16 u0_17 u0_18 u0_19 u0_20 u0_21 u0_22 u0_23 u0_24 u0_25 u0_26 u0_27 u0_28 u0_29 u0_30 y1_s y2_ways) H → va_D A (w_X9_turningBy g a0 a1 a2 u0_1 u0_2 u0_3 u0_4 u0_5 u0_6 u0_7 u0_8 u0_9 u0_10 u0_12 u0_13 u0_14 u0_15 u0_16 u0_17 u0_18 u0_19 u0_20 u0_21 u0_22 u0_23 u0_24 u0_25 u0_26 u0_27 u0_28 u0_29 u0_30 y1_s y2_ways) → va_S A s.heap H locs → lv_has ls 6 [(0, .ref a0), (2, .int v2_1), (3, .int v3_2), (4, .int v4)] → W p l e (RM 2 46) s m args below meth c H locs 0 0 Q (F0 m 60 ls []) := by
          intro v2_1 v3_2 H locs ls hf hP hD hS hl
          have hf := (ej60 v2_1 v3_2).symm.trans hf
          obtain ⟨v4_1, ev4_1, hf⟩ := bv_e hf
          refine k_iinc (pc := 60) hexec hb dX9_turningBy_60 kq_1 hl (k := 3) rfl ev4_1 (nle rfl) rfl (fun ls (hl : lv_has ls 6 [(4, .int v4_1), (0, .ref a0), (2, .int v2_1), (3, .int v3_2)]) => ?_)
          refine lv_goto (pc := 63) hexec hb dX9_turningBy_63 (tgt := 7) rfl ?_
          exact ih7 _ _ _ _ _ _ (sl3 hf hk7) hP hD hS (lv_sub hl [1, 2, 3, 0] rfl)
        refine ki_eq (pc := 39) hexec hb dX9_turningBy_39 (tgt := 60) rfl hf (fun hc hf => ?_) (fun hc hf => ?_)
        · exact hj60 _ _ _ _ _ hf hP hD hS (lv_sub hl [1, 2, 3, 4] rfl)
        · refine lv_iload_n (pc := 42) hexec hb dX9_turningBy_42 rfl (lv_at hl 3 rfl) ?_
          refine lv_iload_n (pc := 43) hexec hb dX9_turningBy_43 rfl (lv_at hl 2 rfl) ?_
          refine lv_iload (pc := 44) hexec hb dX9_turningBy_44 (lv_at hl 0 rfl) ?_
          obtain ⟨r46, hc, hf⟩ := bd1_e hf
          refine kSp (pc := 46) (S := ⟨hexec, hb, hml, hown, hts⟩) hP hD hG hA hS [] [0, 1, 2] [0, 1, 2] (w2 := (w_X9_turningBy g a0 a1 a2 u0_1 u0_2 u0_3 u0_4 u0_5 u0_6 u0_7 u0_8 u0_9 u0_10 u0_12 u0_13 u0_14 u0_15 u0_16 u0_17 u0_18 u0_19 u0_20 u0_21 u0_22 u0_23 u0_24 u0_25 u0_26 u0_27 u0_28 u0_29 u0_30 y1_s y2_ways)) rfl rfl rfl rfl rfl rfl (by decide) (c_X9_uprightBy l g _ v5 r46 hc) gX9_turningBy_X9_uprightBy rfl hs_X9_uprightBy ⟨nle rfl, nle rfl⟩ (rest := [.int v2, .int v3]) rfl rfl hl.1 (nle rfl) dX9_turningBy_46 (fun H locs hP hD hS => ?_)
          obtain ⟨r49, hc, hf⟩ := bd1_e hf
          refine kSp (pc := 49) (S := ⟨hexec, hb, hml, hown, hts⟩) hP hD hG hA hS [] [0, 1, 2] [0, 1, 2] (w2 := (w_X9_turningBy g a0 a1 a2 u0_1 u0_2 u0_3 u0_4 u0_5 u0_6 u0_7 u0_8 u0_9 u0_10 u0_12 u0_13 u0_14 u0_15 u0_16 u0_17 u0_18 u0_19 u0_20 u0_21 u0_22 u0_23 u0_24 u0_25 u0_26 u0_27 u0_28 u0_29 u0_30 y1_s y2_ways)) rfl rfl rfl rfl rfl rfl (by decide) (c_X9_quarters l g _ v2 r46 r49 hc) gX9_turningBy_X9_quarters rfl hs_X9_quarters ⟨nle rfl, nle rfl⟩ (rest := [.int v3]) rfl rfl hl.1 (nle rfl) dX9_turningBy_49 (fun H locs hP hD hS => ?_)
          refine lv_iadd (pc := 52) hexec hb dX9_turningBy_52 ?_
          obtain ⟨v3_3, ev3_3, hf⟩ := bv_e hf
          refine kn_i ev3_3 ?_
          refine lv_istore_n (pc := 53) hexec hb dX9_turningBy_53 rfl hl (nle rfl) rfl (fun ls (hl : lv_has ls 6 [(3, .int v3_3), (5, .int v5), (0, .ref a0), (2, .int v2), (4, .int v4)]) => ?_)
          refine lv_iload (pc := 54) hexec hb dX9_turningBy_54 (lv_at hl 1 rfl) ?_
          obtain ⟨r56, hc, hf⟩ := bd1_e hf
          refine kSp (pc := 56) (S := ⟨hexec, hb, hml, hown, hts⟩) hP hD hG hA hS [] [0, 1, 2] [0, 1, 2] (w2 := (w_X9_turningBy g a0 a1 a2 u0_1 u0_2 u0_3 u0_4 u0_5 u0_6 u0_7 u0_8 u0_9 u0_10 u0_12 u0_13 u0_14 u0_15 u0_16 u0_17 u0_18 u0_19 u0_20 u0_21 u0_22 u0_23 u0_24 u0_25 u0_26 u0_27 u0_28 u0_29 u0_30 y1_s y2_ways)) rfl rfl rfl rfl rfl rfl (by decide) (c_X9_uprightBy l g _ v5 r56 hc) gX9_turningBy_X9_uprightBy rfl hs_X9_uprightBy ⟨nle rfl, nle rfl⟩ (rest := []) rfl rfl hl.1 (nle rfl) dX9_turningBy_56 (fun H locs hP hD hS => ?_)
          refine lv_istore_n (pc := 59) hexec hb dX9_turningBy_59 rfl hl (nle rfl) rfl (fun ls (hl : lv_has ls 6 [(2, .int r56), (3, .int v3_3), (5, .int v5), (0, .ref a0), (4, .int v4)]) => ?_)
          exact hj60 _ _ _ _ _ hf hP hD hS (lv_sub hl [3, 0, 1, 4] rfl)
  exact hL7 n _ _ _ _ _ _ hz hP hD hS (lv_sub hl [3, 2, 1, 0] rfl)
abbrev w_X9_turningNow (g : GE) (a0 a1 a2 : Nat) (u0_1 u0_2 u0_3 u0_4 u0_5 u0_6 u0_7 u0_8 u0_9 u0_10 u0_12 u0_13 u0_14 u0_15 u0_16 u0_17 u0_18 u0_19 u0_20 u0_21 u0_22 u0_23 u0_24 u0_25 u0_26 u0_27 u0_28 u0_29 u0_30 : Value) (y1_s : Nat → Int32) (y2_ways : Nat → Int32) : va_W := [(a0, .inr (9, [.ref a1, u0_1, u0_2, u0_3, u0_4, u0_5, u0_6, u0_7, u0_8, u0_9, u0_10, .ref a2, u0_12, u0_13, u0_14, u0_15, u0_16, u0_17, u0_18, u0_19, u0_20, u0_21, u0_22, u0_23, u0_24, u0_25, u0_26, u0_27, u0_28, u0_29, u0_30])), (a1, .inl (g.2.1 0, 552, .inl y1_s)), (a2, .inl (g.2.1 0, 8, .inl y2_ways))]
set_option maxRecDepth 20000 in
theorem c_X9_turningNow (l : Launch) (g : GE) (a0 a1 a2 : Nat) (sz : Nat) (u0_1 u0_2 u0_3 u0_4 u0_5 u0_6 u0_7 u0_8 u0_9 u0_10 u0_12 u0_13 u0_14 u0_15 u0_16 u0_17 u0_18 u0_19 u0_20 u0_21 u0_22 u0_23 u0_24 u0_25 u0_26 u0_27 u0_28 u0_29 u0_30 : Value) (y1_s : Nat → Int32) (y2_ways : Nat → Int32) (p1 : Int32)  (r : Int32) (o_y2_ways : Nat → Int32) (hf : f_X9_turningNow y1_s y2_ways p1 = some (r, o_y2_ways)) : MI l g yX9_turningNow wsX9_turningNow 3 71 [.ref a0, .int p1] (w_X9_turningNow g a0 a1 a2 u0_1 u0_2 u0_3 u0_4 u0_5 u0_6 u0_7 u0_8 u0_9 u0_10 u0_12 u0_13 u0_14 u0_15 u0_16 u0_17 u0_18 u0_19 u0_20 u0_21 u0_22 u0_23 u0_24 u0_25 u0_26 u0_27 u0_28 u0_29 u0_30 y1_s y2_ways) sz (some (.int r)) (w_X9_turningNow g a0 a1 a2 u0_1 u0_2 u0_3 u0_4 u0_5 u0_6 u0_7 u0_8 u0_9 u0_10 u0_12 u0_13 u0_14 u0_15 u0_16 u0_17 u0_18 u0_19 u0_20 u0_21 u0_22 u0_23 u0_24 u0_25 u0_26 u0_27 u0_28 u0_29 u0_30 y1_s o_y2_ways) := by
  refine MI.start (cc := cX9_turningNow) (maxL := 3) (ret := (some .int)) rfl rfl (nle rfl) ?_
  intro p e s m args below meth c A ls Q hQ hexec hb hr hts hown hlocks hml hA hP hD hG hS hl
  unfold f_X9_turningNow at hf
  have hWX9 : ∀ w ∈ wsX90, w.before args s = true := fun w h => hts w (List.mem_cons_of_mem _ (List.mem_append_right _ h))
  have hS : va_S A s.heap s.heap [] := hS
  refine lv_iconst (pc := 0) hexec hb dX9_turningNow_0 ki_0 ?_
  refine lv_istore_n (pc := 1) hexec hb dX9_turningNow_1 rfl hl (nle rfl) rfl (fun ls (hl : lv_has ls 3 [(2, .int 0), (0, .ref a0), (1, .int p1)]) => ?_)
  obtain ⟨l2, el2, hf⟩ := bvf2 hf
  obtain ⟨y2_ways_2, hz, hf⟩ := bd1_e hf
  have hE2 : ∀ (H : Heap) (locs : List Loc) (ls : Array Slot), va_P g.1 vwCl (w_X9_turningNow g a0 a1 a2 u0_1 u0_2 u0_3 u0_4 u0_5 u0_6 u0_7 u0_8 u0_9 u0_10 u0_12 u0_13 u0_14 u0_15 u0_16 u0_17 u0_18 u0_19 u0_20 u0_21 u0_22 u0_23 u0_24 u0_25 u0_26 u0_27 u0_28 u0_29 u0_30 y1_s y2_ways_2) H → va_D A (w_X9_turningNow g a0 a1 a2 u0_1 u0_2 u0_3 u0_4 u0_5 u0_6 u0_7 u0_8 u0_9 u0_10 u0_12 u0_13 u0_14 u0_15 u0_16 u0_17 u0_18 u0_19 u0_20 u0_21 u0_22 u0_23 u0_24 u0_25 u0_26 u0_27 u0_28 u0_29 u0_30 y1_s y2_ways_2) → va_S A s.heap H locs → lv_has ls 3 [(0, .ref a0), (1, .int p1)] → W p l e (RM 3 71) s m args below meth c H locs 0 0 Q (F0 m 30 ls []) := by
    intro H locs ls hP hD hS hl
    refine lv_aload_n (pc := 30) hexec hb dX9_turningNow_30 rfl (lv_at hl 0 rfl) ?_
    refine lv_iload_n (pc := 31) hexec hb dX9_turningNow_31 rfl (lv_at hl 1 rfl) ?_
    obtain ⟨r32, hc, hf⟩ := bd1_e hf
    refine kVp (pc := 32) (S := ⟨hexec, hb, hml, hown, hts⟩) hP hD hG hA hS [0, 1, 2] [] [0, 1, 2] (w2 := (w_X9_turningNow g a0 a1 a2 u0_1 u0_2 u0_3 u0_4 u0_5 u0_6 u0_7 u0_8 u0_9 u0_10 u0_12 u0_13 u0_14 u0_15 u0_16 u0_17 u0_18 u0_19 u0_20 u0_21 u0_22 u0_23 u0_24 u0_25 u0_26 u0_27 u0_28 u0_29 u0_30 y1_s y2_ways_2)) rfl rfl rfl rfl rfl rfl (by decide) (c_X9_turningBy l g a0 a1 a2 _ u0_1 u0_2 u0_3 u0_4 u0_5 u0_6 u0_7 u0_8 u0_9 u0_10 u0_12 u0_13 u0_14 u0_15 u0_16 u0_17 u0_18 u0_19 u0_20 u0_21 u0_22 u0_23 u0_24 u0_25 u0_26 u0_27 u0_28 u0_29 u0_30 y1_s y2_ways_2 p1 r32 hc) gX9_turningNow_X9_turningBy rfl hv_X9_turningBy ⟨nle rfl, nle rfl⟩ 9 0 rfl rfl rfl (rest := []) rfl rfl hl.1 (nle rfl) dX9_turningNow_32 (fun H locs hP hD hS => ?_)
    cases hf
    exact ke_i hQ hexec hb hr hP hD hS dX9_turningNow_35 hlocks
  obtain ⟨n, hz⟩ := lq2_e hz
  have hL2 : ∀ (n : Nat) (v2 : Int32) (y2_ways_1 : Nat → Int32) (H : Heap) (locs : List Loc) (ls : Array Slot), it2 l2 n v2 y2_ways_1 = some y2_ways_2 → va_P g.1 vwCl (w_X9_turningNow g a0 a1 a2 u0_1 u0_2 u0_3 u0_4 u0_5 u0_6 u0_7 u0_8 u0_9 u0_10 u0_12 u0_13 u0_14 u0_15 u0_16 u0_17 u0_18 u0_19 u0_20 u0_21 u0_22 u0_23 u0_24 u0_25 u0_26 u0_27 u0_28 u0_29 u0_30 y1_s y2_ways_1) H → va_D A (w_X9_turningNow g a0 a1 a2 u0_1 u0_2 u0_3 u0_4 u0_5 u0_6 u0_7 u0_8 u0_9 u0_10 u0_12 u0_13 u0_14 u0_15 u0_16 u0_17 u0_18 u0_19 u0_20 u0_21 u0_22 u0_23 u0_24 u0_25 u0_26 u0_27 u0_28 u0_29 u0_30 y1_s y2_ways_1) → va_S A s.heap H locs → lv_has ls 3 [(0, .ref a0), (1, .int p1), (2, .int v2)] → W p l e (RM 3 71) s m args below meth c H locs 0 0 Q (F0 m 2 ls []) := by
    intro n
    induction n with
    | zero =>
      intro v2 y2_ways_1 H locs ls hf hP hD hS hl
      exact it2_0 hf
    | succ n2 ih2 =>
      intro v2 y2_ways_1 H locs ls hf hP hD hS hl
      obtain ⟨q2, hf, hk2⟩ := it2_e hf
      have hf := (el2 v2 y2_ways_1).symm.trans hf
      refine lv_iload_n (pc := 2) hexec hb dX9_turningNow_2 rfl (lv_at hl 2 rfl) ?_
      refine lv_aload_n (pc := 3) hexec hb dX9_turningNow_3 rfl (lv_at hl 0 rfl) ?_
      refine kg_get (pc := 4) hexec hb (own := RX9) hWX9 hown hG hP 0 rfl rfl 0 (nle rfl) (hts _ (List.mem_cons_of_mem _ (List.mem_append_left _ (List.mem_of_getElem? (i := 0) rfl)))) rfl rfl dX9_turningNow_4 ?_
      refine lv_iconst (pc := 7) hexec hb dX9_turningNow_7 ki_2 ?_
      refine kr_iald (pc := 8) hexec hb hG hP 1 rfl hf dX9_turningNow_8 (fun hf => ?_)
      refine ki_ge (pc := 9) hexec hb dX9_turningNow_9 (tgt := 30) rfl hf (fun hc hf => ?_) (fun hc hf => ?_)
      · cases sr2 hf hk2
        exact hE2 _ _ _ hP hD hS (lv_sub hl [0, 1] rfl)
      · refine lv_aload_n (pc := 12) hexec hb dX9_turningNow_12 rfl (lv_at hl 0 rfl) ?_
        refine kg_get (pc := 13) hexec hb (own := RX9) hWX9 hown hG hP 0 rfl rfl 11 (nle rfl) (hts _ (List.mem_cons_of_mem _ (List.mem_append_left _ (List.mem_of_getElem? (i := 1) rfl)))) rfl rfl dX9_turningNow_13 ?_
        refine lv_iload_n (pc := 16) hexec hb dX9_turningNow_16 rfl (lv_at hl 2 rfl) ?_
        refine lv_aload_n (pc := 17) hexec hb dX9_turningNow_17 rfl (lv_at hl 0 rfl) ?_
        refine lv_iload_n (pc := 18) hexec hb dX9_turningNow_18 rfl (lv_at hl 2 rfl) ?_
        refine lv_iconst (pc := 19) hexec hb dX9_turningNow_19 ki_2 ?_
        obtain ⟨r20, hc, hf⟩ := bd1_e hf
        refine kVp (pc := 20) (S := ⟨hexec, hb, hml, hown, hts⟩) hP hD hG hA hS [0, 1] [2] [1, 2, 0] (w2 := (w_X9_turningNow g a0 a1 a2 u0_1 u0_2 u0_3 u0_4 u0_5 u0_6 u0_7 u0_8 u0_9 u0_10 u0_12 u0_13 u0_14 u0_15 u0_16 u0_17 u0_18 u0_19 u0_20 u0_21 u0_22 u0_23 u0_24 u0_25 u0_26 u0_27 u0_28 u0_29 u0_30 y1_s y2_ways_1)) rfl rfl rfl rfl rfl rfl (by decide) (c_X9_of l g a0 a1 _ u0_1 u0_2 u0_3 u0_4 u0_5 u0_6 u0_7 u0_8 u0_9 u0_10 (.ref a2) u0_12 u0_13 u0_14 u0_15 u0_16 u0_17 u0_18 u0_19 u0_20 u0_21 u0_22 u0_23 u0_24 u0_25 u0_26 u0_27 u0_28 u0_29 u0_30 y1_s v2 2 r20 hc) gX9_turningNow_X9_of rfl hv_X9_of ⟨nle rfl, nle rfl⟩ 9 0 rfl rfl rfl (rest := [.int v2, .ref a2]) rfl rfl hl.1 (nle rfl) dX9_turningNow_20 (fun H locs hP hD hS => ?_)
        refine kw_iast (pc := 23) hexec hb hG hP hD hS 2 rfl hf dX9_turningNow_23 (fun y2_ways_3 H locs hf (hP : va_P g.1 vwCl (w_X9_turningNow g a0 a1 a2 u0_1 u0_2 u0_3 u0_4 u0_5 u0_6 u0_7 u0_8 u0_9 u0_10 u0_12 u0_13 u0_14 u0_15 u0_16 u0_17 u0_18 u0_19 u0_20 u0_21 u0_22 u0_23 u0_24 u0_25 u0_26 u0_27 u0_28 u0_29 u0_30 y1_s y2_ways_3) H) (hD : va_D A (w_X9_turningNow g a0 a1 a2 u0_1 u0_2 u0_3 u0_4 u0_5 u0_6 u0_7 u0_8 u0_9 u0_10 u0_12 u0_13 u0_14 u0_15 u0_16 u0_17 u0_18 u0_19 u0_20 u0_21 u0_22 u0_23 u0_24 u0_25 u0_26 u0_27 u0_28 u0_29 u0_30 y1_s y2_ways_3)) hS => ?_)
        obtain ⟨v2_1, ev2_1, hf⟩ := bv_e hf
        refine k_iinc (pc := 24) hexec hb dX9_turningNow_24 kq_1 hl (k := 2) rfl ev2_1 (nle rfl) rfl (fun ls (hl : lv_has ls 3 [(2, .int v2_1), (0, .ref a0), (1, .int p1)]) => ?_)
        refine lv_goto (pc := 27) hexec hb dX9_turningNow_27 (tgt := 2) rfl ?_
        exact ih2 _ _ _ _ _ (sl2 hf hk2) hP hD hS (lv_sub hl [1, 2, 0] rfl)
  exact hL2 n _ _ _ _ _ hz hP hD hS (lv_sub hl [1, 2, 0] rfl)
abbrev w_X9_laysPairs (g : GE) (a0 a1 a2 a3 a4 : Nat) (u0_1 u0_2 u0_3 u0_4 u0_5 u0_6 u0_7 u0_8 u0_9 u0_10 u0_11 u0_12 u0_13 u0_14 u0_15 u0_19 u0_20 u0_21 u0_22 u0_23 u0_24 u0_25 u0_26 u0_27 u0_28 u0_29 u0_30 : Value) (y1_against : Nat → Int32) (y2_may : Nat → Int32) (y3_redThen : Nat → Int32) (y4_s : Nat → Int32) : va_W := [(a0, .inr (9, [.ref a4, u0_1, u0_2, u0_3, u0_4, u0_5, u0_6, u0_7, u0_8, u0_9, u0_10, u0_11, u0_12, u0_13, u0_14, u0_15, .ref a3, .ref a2, .ref a1, u0_19, u0_20, u0_21, u0_22, u0_23, u0_24, u0_25, u0_26, u0_27, u0_28, u0_29, u0_30])), (a1, .inl (g.2.1 1, 1024, .inl y1_against)), (a2, .inl (g.2.1 1, 32, .inl y2_may)), (a3, .inl (g.2.1 1, 8, .inl y3_redThen)), (a4, .inl (g.2.1 0, 552, .inl y4_s))]
set_option maxRecDepth 20000 in
theorem c_X9_laysPairs (l : Launch) (g : GE) (a0 a1 a2 a3 a4 : Nat) (sz : Nat) (u0_1 u0_2 u0_3 u0_4 u0_5 u0_6 u0_7 u0_8 u0_9 u0_10 u0_11 u0_12 u0_13 u0_14 u0_15 u0_19 u0_20 u0_21 u0_22 u0_23 u0_24 u0_25 u0_26 u0_27 u0_28 u0_29 u0_30 : Value) (y1_against : Nat → Int32) (y2_may : Nat → Int32) (y3_redThen : Nat → Int32) (y4_s : Nat → Int32) (p1 : Int32)  (o_y1_against : Nat → Int32) (o_y2_may : Nat → Int32) (hf : f_X9_laysPairs y1_against y2_may y3_redThen y4_s p1 = some (o_y1_against, o_y2_may)) : MI l g yX9_laysPairs wsX9_laysPairs 5 127 [.ref a0, .int p1] (w_X9_laysPairs g a0 a1 a2 a3 a4 u0_1 u0_2 u0_3 u0_4 u0_5 u0_6 u0_7 u0_8 u0_9 u0_10 u0_11 u0_12 u0_13 u0_14 u0_15 u0_19 u0_20 u0_21 u0_22 u0_23 u0_24 u0_25 u0_26 u0_27 u0_28 u0_29 u0_30 y1_against y2_may y3_redThen y4_s) sz none (w_X9_laysPairs g a0 a1 a2 a3 a4 u0_1 u0_2 u0_3 u0_4 u0_5 u0_6 u0_7 u0_8 u0_9 u0_10 u0_11 u0_12 u0_13 u0_14 u0_15 u0_19 u0_20 u0_21 u0_22 u0_23 u0_24 u0_25 u0_26 u0_27 u0_28 u0_29 u0_30 o_y1_against o_y2_may y3_redThen y4_s) := by
  refine MI.start (cc := cX9_laysPairs) (maxL := 6) (ret := none) rfl rfl (nle rfl) ?_
  intro p e s m args below meth c A ls Q hQ hexec hb hr hts hown hlocks hml hA hP hD hG hS hl
  unfold f_X9_laysPairs at hf
  have hWX9 : ∀ w ∈ wsX90, w.before args s = true := fun w h => hts w (List.mem_cons_of_mem _ (List.mem_append_right _ h))
  have hS : va_S A s.heap s.heap [] := hS
  refine lv_aload_n (pc := 0) hexec hb dX9_laysPairs_0 rfl (lv_at hl 0 rfl) ?_
  refine kg_get (pc := 1) hexec hb (own := RX9) hWX9 hown hG hP 0 rfl rfl 0 (nle rfl) (hts _ (List.mem_cons_of_mem _ (List.mem_append_left _ (List.mem_append_left _ (List.mem_of_getElem? (i := 0) rfl))))) rfl rfl dX9_laysPairs_1 ?_
  refine lv_iconst (pc := 4) hexec hb dX9_laysPairs_4 ki_2 ?_
  refine kr_iald (pc := 5) hexec hb hG hP 4 rfl hf dX9_laysPairs_5 (fun hf => ?_)
  obtain ⟨v2, ev2, hf⟩ := bv_e hf
  refine kn_i ev2 ?_
  refine lv_istore_n (pc := 6) hexec hb dX9_laysPairs_6 rfl hl (nle rfl) rfl (fun ls (hl : lv_has ls 6 [(2, .int v2), (0, .ref a0), (1, .int p1)]) => ?_)
  refine lv_iconst (pc := 7) hexec hb dX9_laysPairs_7 ki_0 ?_
  refine lv_istore_n (pc := 8) hexec hb dX9_laysPairs_8 rfl hl (nle rfl) rfl (fun ls (hl : lv_has ls 6 [(3, .int 0), (2, .int v2), (0, .ref a0), (1, .int p1)]) => ?_)
  obtain ⟨l9, el9, hf⟩ := bvf2 hf
  obtain ⟨y2_may_2, hz, hf⟩ := bd1_e hf
  have hE9 : ∀ (H : Heap) (locs : List Loc) (ls : Array Slot), va_P g.1 vwCl (w_X9_laysPairs g a0 a1 a2 a3 a4 u0_1 u0_2 u0_3 u0_4 u0_5 u0_6 u0_7 u0_8 u0_9 u0_10 u0_11 u0_12 u0_13 u0_14 u0_15 u0_19 u0_20 u0_21 u0_22 u0_23 u0_24 u0_25 u0_26 u0_27 u0_28 u0_29 u0_30 y1_against y2_may_2 y3_redThen y4_s) H → va_D A (w_X9_laysPairs g a0 a1 a2 a3 a4 u0_1 u0_2 u0_3 u0_4 u0_5 u0_6 u0_7 u0_8 u0_9 u0_10 u0_11 u0_12 u0_13 u0_14 u0_15 u0_19 u0_20 u0_21 u0_22 u0_23 u0_24 u0_25 u0_26 u0_27 u0_28 u0_29 u0_30 y1_against y2_may_2 y3_redThen y4_s) → va_S A s.heap H locs → lv_has ls 6 [(0, .ref a0), (2, .int v2)] → W p l e (RM 5 127) s m args below meth c H locs 0 0 Q (F0 m 54 ls []) := by
    intro H locs ls hP hD hS hl
    refine lv_iconst (pc := 54) hexec hb dX9_laysPairs_54 ki_0 ?_
    refine lv_istore_n (pc := 55) hexec hb dX9_laysPairs_55 rfl hl (nle rfl) rfl (fun ls (hl : lv_has ls 6 [(3, .int 0), (0, .ref a0), (2, .int v2)]) => ?_)
    obtain ⟨l56, el56, hf⟩ := bvf2 hf
    obtain ⟨y1_against_2, hz, hf⟩ := bd1_e hf
    have hE56 : ∀ (H : Heap) (locs : List Loc) (ls : Array Slot), va_P g.1 vwCl (w_X9_laysPairs g a0 a1 a2 a3 a4 u0_1 u0_2 u0_3 u0_4 u0_5 u0_6 u0_7 u0_8 u0_9 u0_10 u0_11 u0_12 u0_13 u0_14 u0_15 u0_19 u0_20 u0_21 u0_22 u0_23 u0_24 u0_25 u0_26 u0_27 u0_28 u0_29 u0_30 y1_against_2 y2_may_2 y3_redThen y4_s) H → va_D A (w_X9_laysPairs g a0 a1 a2 a3 a4 u0_1 u0_2 u0_3 u0_4 u0_5 u0_6 u0_7 u0_8 u0_9 u0_10 u0_11 u0_12 u0_13 u0_14 u0_15 u0_19 u0_20 u0_21 u0_22 u0_23 u0_24 u0_25 u0_26 u0_27 u0_28 u0_29 u0_30 y1_against_2 y2_may_2 y3_redThen y4_s) → va_S A s.heap H locs → lv_has ls 6 [] → W p l e (RM 5 127) s m args below meth c H locs 0 0 Q (F0 m 182 ls []) := by
      intro H locs ls hP hD hS hl
      cases hf
      exact ke_v hQ hexec hb hr hP hD hS dX9_laysPairs_182 hlocks
    obtain ⟨n, hz⟩ := lq2_e hz
    have hL56 : ∀ (n : Nat) (v3_2 : Int32) (y1_against_1 : Nat → Int32) (H : Heap) (locs : List Loc) (ls : Array Slot), it2 l56 n v3_2 y1_against_1 = some y1_against_2 → va_P g.1 vwCl (w_X9_laysPairs g a0 a1 a2 a3 a4 u0_1 u0_2 u0_3 u0_4 u0_5 u0_6 u0_7 u0_8 u0_9 u0_10 u0_11 u0_12 u0_13 u0_14 u0_15 u0_19 u0_20 u0_21 u0_22 u0_23 u0_24 u0_25 u0_26 u0_27 u0_28 u0_29 u0_30 y1_against_1 y2_may_2 y3_redThen y4_s) H → va_D A (w_X9_laysPairs g a0 a1 a2 a3 a4 u0_1 u0_2 u0_3 u0_4 u0_5 u0_6 u0_7 u0_8 u0_9 u0_10 u0_11 u0_12 u0_13 u0_14 u0_15 u0_19 u0_20 u0_21 u0_22 u0_23 u0_24 u0_25 u0_26 u0_27 u0_28 u0_29 u0_30 y1_against_1 y2_may_2 y3_redThen y4_s) → va_S A s.heap H locs → lv_has ls 6 [(0, .ref a0), (2, .int v2), (3, .int v3_2)] → W p l e (RM 5 127) s m args below meth c H locs 0 0 Q (F0 m 56 ls []) := by
      intro n
      induction n with
      | zero =>
        intro v3_2 y1_against_1 H locs ls hf hP hD hS hl
        exact it2_0 hf
      | succ n56 ih56 =>
        intro v3_2 y1_against_1 H locs ls hf hP hD hS hl
        obtain ⟨q56, hf, hk56⟩ := it2_e hf
        have hf := (el56 v3_2 y1_against_1).symm.trans hf
        refine lv_iload_n (pc := 56) hexec hb dX9_laysPairs_56 rfl (lv_at hl 2 rfl) ?_
        refine lv_iload_n (pc := 57) hexec hb dX9_laysPairs_57 rfl (lv_at hl 1 rfl) ?_
        refine lv_iconst (pc := 58) hexec hb dX9_laysPairs_58 ki_4 ?_
        refine lv_imul (pc := 59) hexec hb dX9_laysPairs_59 ?_
        refine ki_ge (pc := 60) hexec hb dX9_laysPairs_60 (tgt := 182) rfl hf (fun hc hf => ?_) (fun hc hf => ?_)
        · cases sr2 hf hk56
          exact hE56 _ _ _ hP hD hS (lv_sub hl [] rfl)
        · refine lv_iconst (pc := 63) hexec hb dX9_laysPairs_63 ki_0 ?_
          refine lv_istore (pc := 64) hexec hb dX9_laysPairs_64 hl (nle rfl) rfl (fun ls (hl : lv_has ls 6 [(4, .int 0), (0, .ref a0), (2, .int v2), (3, .int v3_2)]) => ?_)
          obtain ⟨l66, el66, hf⟩ := bvf2 hf
          obtain ⟨y1_against_4, hz, hf⟩ := bd1_e hf
          have hE66 : ∀ (H : Heap) (locs : List Loc) (ls : Array Slot), va_P g.1 vwCl (w_X9_laysPairs g a0 a1 a2 a3 a4 u0_1 u0_2 u0_3 u0_4 u0_5 u0_6 u0_7 u0_8 u0_9 u0_10 u0_11 u0_12 u0_13 u0_14 u0_15 u0_19 u0_20 u0_21 u0_22 u0_23 u0_24 u0_25 u0_26 u0_27 u0_28 u0_29 u0_30 y1_against_4 y2_may_2 y3_redThen y4_s) H → va_D A (w_X9_laysPairs g a0 a1 a2 a3 a4 u0_1 u0_2 u0_3 u0_4 u0_5 u0_6 u0_7 u0_8 u0_9 u0_10 u0_11 u0_12 u0_13 u0_14 u0_15 u0_19 u0_20 u0_21 u0_22 u0_23 u0_24 u0_25 u0_26 u0_27 u0_28 u0_29 u0_30 y1_against_4 y2_may_2 y3_redThen y4_s) → va_S A s.heap H locs → lv_has ls 6 [(0, .ref a0), (2, .int v2), (3, .int v3_2)] → W p l e (RM 5 127) s m args below meth c H locs 0 0 Q (F0 m 176 ls []) := by
            intro H locs ls hP hD hS hl
            obtain ⟨v3_3, ev3_3, hf⟩ := bv_e hf
            refine k_iinc (pc := 176) hexec hb dX9_laysPairs_176 kq_1 hl (k := 2) rfl ev3_3 (nle rfl) rfl (fun ls (hl : lv_has ls 6 [(3, .int v3_3), (0, .ref a0), (2, .int v2)]) => ?_)
            refine lv_goto (pc := 179) hexec hb dX9_laysPairs_179 (tgt := 56) rfl ?_
            exact ih56 _ _ _ _ _ (sl2 hf hk56) hP hD hS (lv_sub hl [1, 2, 0] rfl)
          obtain ⟨n, hz⟩ := lq2_e hz
          have hL66 : ∀ (n : Nat) (v4 : Int32) (y1_against_3 : Nat → Int32) (H : Heap) (locs : List Loc) (ls : Array Slot), it2 l66 n v4 y1_against_3 = some y1_against_4 → va_P g.1 vwCl (w_X9_laysPairs g a0 a1 a2 a3 a4 u0_1 u0_2 u0_3 u0_4 u0_5 u0_6 u0_7 u0_8 u0_9 u0_10 u0_11 u0_12 u0_13 u0_14 u0_15 u0_19 u0_20 u0_21 u0_22 u0_23 u0_24 u0_25 u0_26 u0_27 u0_28 u0_29 u0_30 y1_against_3 y2_may_2 y3_redThen y4_s) H → va_D A (w_X9_laysPairs g a0 a1 a2 a3 a4 u0_1 u0_2 u0_3 u0_4 u0_5 u0_6 u0_7 u0_8 u0_9 u0_10 u0_11 u0_12 u0_13 u0_14 u0_15 u0_19 u0_20 u0_21 u0_22 u0_23 u0_24 u0_25 u0_26 u0_27 u0_28 u0_29 u0_30 y1_against_3 y2_may_2 y3_redThen y4_s) → va_S A s.heap H locs → lv_has ls 6 [(0, .ref a0), (2, .int v2), (3, .int v3_2), (4, .int v4)] → W p l e (RM 5 127) s m args below meth c H locs 0 0 Q (F0 m 66 ls []) := by
            intro n
            induction n with
            | zero =>
              intro v4 y1_against_3 H locs ls hf hP hD hS hl
              exact it2_0 hf
            | succ n66 ih66 =>
              intro v4 y1_against_3 H locs ls hf hP hD hS hl
              obtain ⟨q66, hf, hk66⟩ := it2_e hf
              have hf := (el66 v4 y1_against_3).symm.trans hf
              refine lv_iload (pc := 66) hexec hb dX9_laysPairs_66 (lv_at hl 3 rfl) ?_
              refine lv_iload_n (pc := 68) hexec hb dX9_laysPairs_68 rfl (lv_at hl 1 rfl) ?_
              refine lv_iconst (pc := 69) hexec hb dX9_laysPairs_69 ki_4 ?_
              refine lv_imul (pc := 70) hexec hb dX9_laysPairs_70 ?_
              refine ki_ge (pc := 71) hexec hb dX9_laysPairs_71 (tgt := 176) rfl hf (fun hc hf => ?_) (fun hc hf => ?_)
              · cases sr2 hf hk66
                exact hE66 _ _ _ hP hD hS (lv_sub hl [0, 1, 2] rfl)
              · refine lv_aload_n (pc := 74) hexec hb dX9_laysPairs_74 rfl (lv_at hl 0 rfl) ?_
                refine kg_get (pc := 75) hexec hb (own := RX9) hWX9 hown hG hP 0 rfl rfl 17 (nle rfl) (hts _ (List.mem_cons_of_mem _ (List.mem_append_left _ (List.mem_append_left _ (List.mem_of_getElem? (i := 1) rfl))))) rfl rfl dX9_laysPairs_75 ?_
                refine lv_iload_n (pc := 78) hexec hb dX9_laysPairs_78 rfl (lv_at hl 2 rfl) ?_
                refine kr_zald (pc := 79) hexec hb hG hP 2 rfl hf dX9_laysPairs_79 (fun hf => ?_)
                obtain ⟨j108, ej108, hf⟩ := bvf1 hf
                have hj108 : ∀ (t108 : Int32) (H : Heap) (locs : List Loc) (ls : Array Slot), j108 t108 = some q66 → va_P g.1 vwCl (w_X9_laysPairs g a0 a1 a2 a3 a4 u0_1 u0_2 u0_3 u0_4 u0_5 u0_6 u0_7 u0_8 u0_9 u0_10 u0_11 u0_12 u0_13 u0_14 u0_15 u0_19 u0_20 u0_21 u0_22 u0_23 u0_24 u0_25 u0_26 u0_27 u0_28 u0_29 u0_30 y1_against_3 y2_may_2 y3_redThen y4_s) H → va_D A (w_X9_laysPairs g a0 a1 a2 a3 a4 u0_1 u0_2 u0_3 u0_4 u0_5 u0_6 u0_7 u0_8 u0_9 u0_10 u0_11 u0_12 u0_13 u0_14 u0_15 u0_19 u0_20 u0_21 u0_22 u0_23 u0_24 u0_25 u0_26 u0_27 u0_28 u0_29 u0_30 y1_against_3 y2_may_2 y3_redThen y4_s) → va_S A s.heap H locs → lv_has ls 6 [(0, .ref a0), (2, .int v2), (3, .int v3_2), (4, .int v4)] → W p l e (RM 5 127) s m args below meth c H locs 0 0 Q (F0 m 108 ls [.int t108]) := by
                  intro t108 H locs ls hf hP hD hS hl
                  have hf := (ej108 t108).symm.trans hf
                  refine lv_istore (pc := 108) hexec hb dX9_laysPairs_108 hl (nle rfl) rfl (fun ls (hl : lv_has ls 6 [(5, .int t108), (0, .ref a0), (2, .int v2), (3, .int v3_2), (4, .int v4)]) => ?_)
                  refine lv_aload_n (pc := 110) hexec hb dX9_laysPairs_110 rfl (lv_at hl 1 rfl) ?_
                  refine kg_get (pc := 111) hexec hb (own := RX9) hWX9 hown hG hP 0 rfl rfl 18 (nle rfl) (hts _ (List.mem_cons_of_mem _ (List.mem_append_left _ (List.mem_append_left _ (List.mem_of_getElem? (i := 2) rfl))))) rfl rfl dX9_laysPairs_111 ?_
                  refine lv_bipush (pc := 114) hexec hb dX9_laysPairs_114 kb_32 ?_
                  refine lv_iload_n (pc := 116) hexec hb dX9_laysPairs_116 rfl (lv_at hl 3 rfl) ?_
                  refine lv_imul (pc := 117) hexec hb dX9_laysPairs_117 ?_
                  refine lv_iload (pc := 118) hexec hb dX9_laysPairs_118 (lv_at hl 4 rfl) ?_
                  refine lv_iadd (pc := 120) hexec hb dX9_laysPairs_120 ?_
                  refine lv_iload (pc := 121) hexec hb dX9_laysPairs_121 (lv_at hl 0 rfl) ?_
                  obtain ⟨j169, ej169, hf⟩ := bvf1 hf
                  have hj169 : ∀ (t169 : Int32) (H : Heap) (locs : List Loc) (ls : Array Slot), j169 t169 = some q66 → va_P g.1 vwCl (w_X9_laysPairs g a0 a1 a2 a3 a4 u0_1 u0_2 u0_3 u0_4 u0_5 u0_6 u0_7 u0_8 u0_9 u0_10 u0_11 u0_12 u0_13 u0_14 u0_15 u0_19 u0_20 u0_21 u0_22 u0_23 u0_24 u0_25 u0_26 u0_27 u0_28 u0_29 u0_30 y1_against_3 y2_may_2 y3_redThen y4_s) H → va_D A (w_X9_laysPairs g a0 a1 a2 a3 a4 u0_1 u0_2 u0_3 u0_4 u0_5 u0_6 u0_7 u0_8 u0_9 u0_10 u0_11 u0_12 u0_13 u0_14 u0_15 u0_19 u0_20 u0_21 u0_22 u0_23 u0_24 u0_25 u0_26 u0_27 u0_28 u0_29 u0_30 y1_against_3 y2_may_2 y3_redThen y4_s) → va_S A s.heap H locs → lv_has ls 6 [(0, .ref a0), (2, .int v2), (3, .int v3_2), (4, .int v4)] → W p l e (RM 5 127) s m args below meth c H locs 0 0 Q (F0 m 169 ls [.int t169, .int ((32 * v3_2) + v4), .ref a1]) := by
                    intro t169 H locs ls hf hP hD hS hl
                    have hf := (ej169 t169).symm.trans hf
                    refine kw_zast (pc := 169) hexec hb hG hP hD hS 1 rfl hf dX9_laysPairs_169 (fun y1_against_5 H locs hf (hP : va_P g.1 vwCl (w_X9_laysPairs g a0 a1 a2 a3 a4 u0_1 u0_2 u0_3 u0_4 u0_5 u0_6 u0_7 u0_8 u0_9 u0_10 u0_11 u0_12 u0_13 u0_14 u0_15 u0_19 u0_20 u0_21 u0_22 u0_23 u0_24 u0_25 u0_26 u0_27 u0_28 u0_29 u0_30 y1_against_5 y2_may_2 y3_redThen y4_s) H) (hD : va_D A (w_X9_laysPairs g a0 a1 a2 a3 a4 u0_1 u0_2 u0_3 u0_4 u0_5 u0_6 u0_7 u0_8 u0_9 u0_10 u0_11 u0_12 u0_13 u0_14 u0_15 u0_19 u0_20 u0_21 u0_22 u0_23 u0_24 u0_25 u0_26 u0_27 u0_28 u0_29 u0_30 y1_against_5 y2_may_2 y3_redThen y4_s)) hS => ?_)
                    obtain ⟨v4_1, ev4_1, hf⟩ := bv_e hf
                    refine k_iinc (pc := 170) hexec hb dX9_laysPairs_170 kq_1 hl (k := 3) rfl ev4_1 (nle rfl) rfl (fun ls (hl : lv_has ls 6 [(4, .int v4_1), (0, .ref a0), (2, .int v2), (3, .int v3_2)]) => ?_)
                    refine lv_goto (pc := 173) hexec hb dX9_laysPairs_173 (tgt := 66) rfl ?_
                    exact ih66 _ _ _ _ _ (sl2 hf hk66) hP hD hS (lv_sub hl [1, 2, 3, 0] rfl)
                  obtain ⟨j168, ej168, hf⟩ := bvf1 hf
                  have hj168 : ∀ (u : Unit) (H : Heap) (locs : List Loc) (ls : Array Slot), j168 u = some q66 → va_P g.1 vwCl (w_X9_laysPairs g a0 a1 a2 a3 a4 u0_1 u0_2 u0_3 u0_4 u0_5 u0_6 u0_7 u0_8 u0_9 u0_10 u0_11 u0_12 u0_13 u0_14 u0_15 u0_19 u0_20 u0_21 u0_22 u0_23 u0_24 u0_25 u0_26 u0_27 u0_28 u0_29 u0_30 y1_against_3 y2_may_2 y3_redThen y4_s) H → va_D A (w_X9_laysPairs g a0 a1 a2 a3 a4 u0_1 u0_2 u0_3 u0_4 u0_5 u0_6 u0_7 u0_8 u0_9 u0_10 u0_11 u0_12 u0_13 u0_14 u0_15 u0_19 u0_20 u0_21 u0_22 u0_23 u0_24 u0_25 u0_26 u0_27 u0_28 u0_29 u0_30 y1_against_3 y2_may_2 y3_redThen y4_s) → va_S A s.heap H locs → lv_has ls 6 [(0, .ref a0), (2, .int v2), (3, .int v3_2), (4, .int v4)] → W p l e (RM 5 127) s m args below meth c H locs 0 0 Q (F0 m 168 ls [.int ((32 * v3_2) + v4), .ref a1]) := by
                    intro u H locs ls hf hP hD hS hl
                    have hf := (ej168 u).symm.trans hf
                    refine lv_iconst (pc := 168) hexec hb dX9_laysPairs_168 ki_0 ?_
                    exact hj169 _ _ _ _ hf hP hD hS (lv_sub hl [0, 1, 2, 3] rfl)
                  refine kb_eq (pc := 123) hexec hb dX9_laysPairs_123 (tgt := 168) rfl hf (fun hc hf => ?_) (fun hc hf => ?_)
                  · exact hj168 _ _ _ _ hf hP hD hS (lv_sub hl [1, 2, 3, 4] rfl)
                  · refine lv_aload_n (pc := 126) hexec hb dX9_laysPairs_126 rfl (lv_at hl 1 rfl) ?_
                    refine lv_iload_n (pc := 127) hexec hb dX9_laysPairs_127 rfl (lv_at hl 3 rfl) ?_
                    refine lv_iconst (pc := 128) hexec hb dX9_laysPairs_128 ki_4 ?_
                    refine lv_idiv (pc := 129) hexec hb dX9_laysPairs_129 (by decide) ?_
                    refine lv_iload_n (pc := 130) hexec hb dX9_laysPairs_130 rfl (lv_at hl 3 rfl) ?_
                    refine lv_iconst (pc := 131) hexec hb dX9_laysPairs_131 ki_4 ?_
                    refine lv_irem (pc := 132) hexec hb dX9_laysPairs_132 (by decide) ?_
                    refine lv_aload_n (pc := 133) hexec hb dX9_laysPairs_133 rfl (lv_at hl 1 rfl) ?_
                    refine kg_get (pc := 134) hexec hb (own := RX9) hWX9 hown hG hP 0 rfl rfl 16 (nle rfl) (hts _ (List.mem_cons_of_mem _ (List.mem_append_left _ (List.mem_append_left _ (List.mem_of_getElem? (i := 3) rfl))))) rfl rfl dX9_laysPairs_134 ?_
                    refine lv_iload_n (pc := 137) hexec hb dX9_laysPairs_137 rfl (lv_at hl 3 rfl) ?_
                    refine lv_iconst (pc := 138) hexec hb dX9_laysPairs_138 ki_4 ?_
                    refine lv_idiv (pc := 139) hexec hb dX9_laysPairs_139 (by decide) ?_
                    refine kr_zald (pc := 140) hexec hb hG hP 3 rfl hf dX9_laysPairs_140 (fun hf => ?_)
                    refine lv_iload (pc := 141) hexec hb dX9_laysPairs_141 (lv_at hl 4 rfl) ?_
                    refine lv_iconst (pc := 143) hexec hb dX9_laysPairs_143 ki_4 ?_
                    refine lv_idiv (pc := 144) hexec hb dX9_laysPairs_144 (by decide) ?_
                    refine lv_iload (pc := 145) hexec hb dX9_laysPairs_145 (lv_at hl 4 rfl) ?_
                    refine lv_iconst (pc := 147) hexec hb dX9_laysPairs_147 ki_4 ?_
                    refine lv_irem (pc := 148) hexec hb dX9_laysPairs_148 (by decide) ?_
                    refine lv_aload_n (pc := 149) hexec hb dX9_laysPairs_149 rfl (lv_at hl 1 rfl) ?_
                    refine kg_get (pc := 150) hexec hb (own := RX9) hWX9 hown hG hP 0 rfl rfl 16 (nle rfl) (hts _ (List.mem_cons_of_mem _ (List.mem_append_left _ (List.mem_append_left _ (List.mem_of_getElem? (i := 3) rfl))))) rfl rfl dX9_laysPairs_150 ?_
                    refine lv_iload (pc := 153) hexec hb dX9_laysPairs_153 (lv_at hl 4 rfl) ?_
                    refine lv_iconst (pc := 155) hexec hb dX9_laysPairs_155 ki_4 ?_
                    refine lv_idiv (pc := 156) hexec hb dX9_laysPairs_156 (by decide) ?_
                    refine kr_zald (pc := 157) hexec hb hG hP 3 rfl hf dX9_laysPairs_157 (fun hf => ?_)
                    obtain ⟨r158, hc, hf⟩ := bd1_e hf
                    refine kVp (pc := 158) (S := ⟨hexec, hb, hml, hown, hts⟩) hP hD hG hA hS [0, 4] [1, 2, 3] [3, 0, 1, 2, 4] (w2 := (w_X9_laysPairs g a0 a1 a2 a3 a4 u0_1 u0_2 u0_3 u0_4 u0_5 u0_6 u0_7 u0_8 u0_9 u0_10 u0_11 u0_12 u0_13 u0_14 u0_15 u0_19 u0_20 u0_21 u0_22 u0_23 u0_24 u0_25 u0_26 u0_27 u0_28 u0_29 u0_30 y1_against_3 y2_may_2 y3_redThen y4_s)) rfl rfl rfl rfl rfl rfl (by decide) (c_X9_areAgainst l g a0 a4 _ u0_1 u0_2 u0_3 u0_4 u0_5 u0_6 u0_7 u0_8 u0_9 u0_10 u0_11 u0_12 u0_13 u0_14 u0_15 (.ref a3) (.ref a2) (.ref a1) u0_19 u0_20 u0_21 u0_22 u0_23 u0_24 u0_25 u0_26 u0_27 u0_28 u0_29 u0_30 y4_s (v3_2 / 4) (v3_2 - v3_2 / 4 * 4) (y3_redThen (v3_2 / 4).toNatClampNeg) (v4 / 4) (v4 - v4 / 4 * 4) (y3_redThen (v4 / 4).toNatClampNeg) r158 hc) gX9_laysPairs_X9_areAgainst rfl hv_X9_areAgainst ⟨nle rfl, nle rfl⟩ 9 0 rfl rfl rfl (rest := [.int ((32 * v3_2) + v4), .ref a1]) rfl rfl hl.1 (nle rfl) dX9_laysPairs_158 (fun H locs hP hD hS => ?_)
                    refine kb_eq (pc := 161) hexec hb dX9_laysPairs_161 (tgt := 168) rfl hf (fun hc hf => ?_) (fun hc hf => ?_)
                    · exact hj168 _ _ _ _ hf hP hD hS (lv_sub hl [1, 2, 3, 4] rfl)
                    · refine lv_iconst (pc := 164) hexec hb dX9_laysPairs_164 ki_1 ?_
                      refine lv_goto (pc := 165) hexec hb dX9_laysPairs_165 (tgt := 169) rfl ?_
                      exact hj169 _ _ _ _ hf hP hD hS (lv_sub hl [1, 2, 3, 4] rfl)
                obtain ⟨j107, ej107, hf⟩ := bvf1 hf
                have hj107 : ∀ (u : Unit) (H : Heap) (locs : List Loc) (ls : Array Slot), j107 u = some q66 → va_P g.1 vwCl (w_X9_laysPairs g a0 a1 a2 a3 a4 u0_1 u0_2 u0_3 u0_4 u0_5 u0_6 u0_7 u0_8 u0_9 u0_10 u0_11 u0_12 u0_13 u0_14 u0_15 u0_19 u0_20 u0_21 u0_22 u0_23 u0_24 u0_25 u0_26 u0_27 u0_28 u0_29 u0_30 y1_against_3 y2_may_2 y3_redThen y4_s) H → va_D A (w_X9_laysPairs g a0 a1 a2 a3 a4 u0_1 u0_2 u0_3 u0_4 u0_5 u0_6 u0_7 u0_8 u0_9 u0_10 u0_11 u0_12 u0_13 u0_14 u0_15 u0_19 u0_20 u0_21 u0_22 u0_23 u0_24 u0_25 u0_26 u0_27 u0_28 u0_29 u0_30 y1_against_3 y2_may_2 y3_redThen y4_s) → va_S A s.heap H locs → lv_has ls 6 [(0, .ref a0), (2, .int v2), (3, .int v3_2), (4, .int v4)] → W p l e (RM 5 127) s m args below meth c H locs 0 0 Q (F0 m 107 ls []) := by
                  intro u H locs ls hf hP hD hS hl
                  have hf := (ej107 u).symm.trans hf
                  refine lv_iconst (pc := 107) hexec hb dX9_laysPairs_107 ki_0 ?_
                  exact hj108 _ _ _ _ hf hP hD hS (lv_sub hl [0, 1, 2, 3] rfl)
                refine kb_eq (pc := 80) hexec hb dX9_laysPairs_80 (tgt := 107) rfl hf (fun hc hf => ?_) (fun hc hf => ?_)
                · exact hj107 _ _ _ _ hf hP hD hS (lv_sub hl [0, 1, 2, 3] rfl)
                · refine lv_aload_n (pc := 83) hexec hb dX9_laysPairs_83 rfl (lv_at hl 0 rfl) ?_
                  refine kg_get (pc := 84) hexec hb (own := RX9) hWX9 hown hG hP 0 rfl rfl 17 (nle rfl) (hts _ (List.mem_cons_of_mem _ (List.mem_append_left _ (List.mem_append_left _ (List.mem_of_getElem? (i := 1) rfl))))) rfl rfl dX9_laysPairs_84 ?_
                  refine lv_iload (pc := 87) hexec hb dX9_laysPairs_87 (lv_at hl 3 rfl) ?_
                  refine kr_zald (pc := 89) hexec hb hG hP 2 rfl hf dX9_laysPairs_89 (fun hf => ?_)
                  refine kb_eq (pc := 90) hexec hb dX9_laysPairs_90 (tgt := 107) rfl hf (fun hc hf => ?_) (fun hc hf => ?_)
                  · exact hj107 _ _ _ _ hf hP hD hS (lv_sub hl [0, 1, 2, 3] rfl)
                  · refine lv_iload_n (pc := 93) hexec hb dX9_laysPairs_93 rfl (lv_at hl 2 rfl) ?_
                    refine lv_iconst (pc := 94) hexec hb dX9_laysPairs_94 ki_4 ?_
                    refine lv_idiv (pc := 95) hexec hb dX9_laysPairs_95 (by decide) ?_
                    refine lv_iload (pc := 96) hexec hb dX9_laysPairs_96 (lv_at hl 3 rfl) ?_
                    refine lv_iconst (pc := 98) hexec hb dX9_laysPairs_98 ki_4 ?_
                    refine lv_idiv (pc := 99) hexec hb dX9_laysPairs_99 (by decide) ?_
                    refine ki_eq (pc := 100) hexec hb dX9_laysPairs_100 (tgt := 107) rfl hf (fun hc hf => ?_) (fun hc hf => ?_)
                    · exact hj107 _ _ _ _ hf hP hD hS (lv_sub hl [0, 1, 2, 3] rfl)
                    · refine lv_iconst (pc := 103) hexec hb dX9_laysPairs_103 ki_1 ?_
                      refine lv_goto (pc := 104) hexec hb dX9_laysPairs_104 (tgt := 108) rfl ?_
                      exact hj108 _ _ _ _ hf hP hD hS (lv_sub hl [0, 1, 2, 3] rfl)
          exact hL66 n _ _ _ _ _ hz hP hD hS (lv_sub hl [1, 2, 3, 0] rfl)
    exact hL56 n _ _ _ _ _ hz hP hD hS (lv_sub hl [1, 2, 0] rfl)
  obtain ⟨n, hz⟩ := lq2_e hz
  have hL9 : ∀ (n : Nat) (v3 : Int32) (y2_may_1 : Nat → Int32) (H : Heap) (locs : List Loc) (ls : Array Slot), it2 l9 n v3 y2_may_1 = some y2_may_2 → va_P g.1 vwCl (w_X9_laysPairs g a0 a1 a2 a3 a4 u0_1 u0_2 u0_3 u0_4 u0_5 u0_6 u0_7 u0_8 u0_9 u0_10 u0_11 u0_12 u0_13 u0_14 u0_15 u0_19 u0_20 u0_21 u0_22 u0_23 u0_24 u0_25 u0_26 u0_27 u0_28 u0_29 u0_30 y1_against y2_may_1 y3_redThen y4_s) H → va_D A (w_X9_laysPairs g a0 a1 a2 a3 a4 u0_1 u0_2 u0_3 u0_4 u0_5 u0_6 u0_7 u0_8 u0_9 u0_10 u0_11 u0_12 u0_13 u0_14 u0_15 u0_19 u0_20 u0_21 u0_22 u0_23 u0_24 u0_25 u0_26 u0_27 u0_28 u0_29 u0_30 y1_against y2_may_1 y3_redThen y4_s) → va_S A s.heap H locs → lv_has ls 6 [(0, .ref a0), (1, .int p1), (2, .int v2), (3, .int v3)] → W p l e (RM 5 127) s m args below meth c H locs 0 0 Q (F0 m 9 ls []) := by
    intro n
    induction n with
    | zero =>
      intro v3 y2_may_1 H locs ls hf hP hD hS hl
      exact it2_0 hf
    | succ n9 ih9 =>
      intro v3 y2_may_1 H locs ls hf hP hD hS hl
      obtain ⟨q9, hf, hk9⟩ := it2_e hf
      have hf := (el9 v3 y2_may_1).symm.trans hf
      refine lv_iload_n (pc := 9) hexec hb dX9_laysPairs_9 rfl (lv_at hl 3 rfl) ?_
      refine lv_iload_n (pc := 10) hexec hb dX9_laysPairs_10 rfl (lv_at hl 2 rfl) ?_
      refine lv_iconst (pc := 11) hexec hb dX9_laysPairs_11 ki_4 ?_
      refine lv_imul (pc := 12) hexec hb dX9_laysPairs_12 ?_
      refine ki_ge (pc := 13) hexec hb dX9_laysPairs_13 (tgt := 54) rfl hf (fun hc hf => ?_) (fun hc hf => ?_)
      · cases sr2 hf hk9
        exact hE9 _ _ _ hP hD hS (lv_sub hl [0, 2] rfl)
      · refine lv_aload_n (pc := 16) hexec hb dX9_laysPairs_16 rfl (lv_at hl 0 rfl) ?_
        refine kg_get (pc := 17) hexec hb (own := RX9) hWX9 hown hG hP 0 rfl rfl 17 (nle rfl) (hts _ (List.mem_cons_of_mem _ (List.mem_append_left _ (List.mem_append_left _ (List.mem_of_getElem? (i := 1) rfl))))) rfl rfl dX9_laysPairs_17 ?_
        refine lv_iload_n (pc := 20) hexec hb dX9_laysPairs_20 rfl (lv_at hl 3 rfl) ?_
        refine lv_iload_n (pc := 21) hexec hb dX9_laysPairs_21 rfl (lv_at hl 3 rfl) ?_
        refine lv_iconst (pc := 22) hexec hb dX9_laysPairs_22 ki_4 ?_
        refine lv_idiv (pc := 23) hexec hb dX9_laysPairs_23 (by decide) ?_
        refine lv_iload_n (pc := 24) hexec hb dX9_laysPairs_24 rfl (lv_at hl 1 rfl) ?_
        obtain ⟨j47, ej47, hf⟩ := bvf1 hf
        have hj47 : ∀ (t47 : Int32) (H : Heap) (locs : List Loc) (ls : Array Slot), j47 t47 = some q9 → va_P g.1 vwCl (w_X9_laysPairs g a0 a1 a2 a3 a4 u0_1 u0_2 u0_3 u0_4 u0_5 u0_6 u0_7 u0_8 u0_9 u0_10 u0_11 u0_12 u0_13 u0_14 u0_15 u0_19 u0_20 u0_21 u0_22 u0_23 u0_24 u0_25 u0_26 u0_27 u0_28 u0_29 u0_30 y1_against y2_may_1 y3_redThen y4_s) H → va_D A (w_X9_laysPairs g a0 a1 a2 a3 a4 u0_1 u0_2 u0_3 u0_4 u0_5 u0_6 u0_7 u0_8 u0_9 u0_10 u0_11 u0_12 u0_13 u0_14 u0_15 u0_19 u0_20 u0_21 u0_22 u0_23 u0_24 u0_25 u0_26 u0_27 u0_28 u0_29 u0_30 y1_against y2_may_1 y3_redThen y4_s) → va_S A s.heap H locs → lv_has ls 6 [(0, .ref a0), (1, .int p1), (2, .int v2), (3, .int v3)] → W p l e (RM 5 127) s m args below meth c H locs 0 0 Q (F0 m 47 ls [.int t47, .int v3, .ref a2]) := by
          intro t47 H locs ls hf hP hD hS hl
          have hf := (ej47 t47).symm.trans hf
          refine kw_zast (pc := 47) hexec hb hG hP hD hS 2 rfl hf dX9_laysPairs_47 (fun y2_may_3 H locs hf (hP : va_P g.1 vwCl (w_X9_laysPairs g a0 a1 a2 a3 a4 u0_1 u0_2 u0_3 u0_4 u0_5 u0_6 u0_7 u0_8 u0_9 u0_10 u0_11 u0_12 u0_13 u0_14 u0_15 u0_19 u0_20 u0_21 u0_22 u0_23 u0_24 u0_25 u0_26 u0_27 u0_28 u0_29 u0_30 y1_against y2_may_3 y3_redThen y4_s) H) (hD : va_D A (w_X9_laysPairs g a0 a1 a2 a3 a4 u0_1 u0_2 u0_3 u0_4 u0_5 u0_6 u0_7 u0_8 u0_9 u0_10 u0_11 u0_12 u0_13 u0_14 u0_15 u0_19 u0_20 u0_21 u0_22 u0_23 u0_24 u0_25 u0_26 u0_27 u0_28 u0_29 u0_30 y1_against y2_may_3 y3_redThen y4_s)) hS => ?_)
          obtain ⟨v3_1, ev3_1, hf⟩ := bv_e hf
          refine k_iinc (pc := 48) hexec hb dX9_laysPairs_48 kq_1 hl (k := 3) rfl ev3_1 (nle rfl) rfl (fun ls (hl : lv_has ls 6 [(3, .int v3_1), (0, .ref a0), (1, .int p1), (2, .int v2)]) => ?_)
          refine lv_goto (pc := 51) hexec hb dX9_laysPairs_51 (tgt := 9) rfl ?_
          exact ih9 _ _ _ _ _ (sl2 hf hk9) hP hD hS (lv_sub hl [1, 2, 3, 0] rfl)
        obtain ⟨j46, ej46, hf⟩ := bvf1 hf
        have hj46 : ∀ (u : Unit) (H : Heap) (locs : List Loc) (ls : Array Slot), j46 u = some q9 → va_P g.1 vwCl (w_X9_laysPairs g a0 a1 a2 a3 a4 u0_1 u0_2 u0_3 u0_4 u0_5 u0_6 u0_7 u0_8 u0_9 u0_10 u0_11 u0_12 u0_13 u0_14 u0_15 u0_19 u0_20 u0_21 u0_22 u0_23 u0_24 u0_25 u0_26 u0_27 u0_28 u0_29 u0_30 y1_against y2_may_1 y3_redThen y4_s) H → va_D A (w_X9_laysPairs g a0 a1 a2 a3 a4 u0_1 u0_2 u0_3 u0_4 u0_5 u0_6 u0_7 u0_8 u0_9 u0_10 u0_11 u0_12 u0_13 u0_14 u0_15 u0_19 u0_20 u0_21 u0_22 u0_23 u0_24 u0_25 u0_26 u0_27 u0_28 u0_29 u0_30 y1_against y2_may_1 y3_redThen y4_s) → va_S A s.heap H locs → lv_has ls 6 [(0, .ref a0), (1, .int p1), (2, .int v2), (3, .int v3)] → W p l e (RM 5 127) s m args below meth c H locs 0 0 Q (F0 m 46 ls [.int v3, .ref a2]) := by
          intro u H locs ls hf hP hD hS hl
          have hf := (ej46 u).symm.trans hf
          refine lv_iconst (pc := 46) hexec hb dX9_laysPairs_46 ki_0 ?_
          exact hj47 _ _ _ _ hf hP hD hS (lv_sub hl [0, 1, 2, 3] rfl)
        refine ki_eq (pc := 25) hexec hb dX9_laysPairs_25 (tgt := 46) rfl hf (fun hc hf => ?_) (fun hc hf => ?_)
        · exact hj46 _ _ _ _ hf hP hD hS (lv_sub hl [0, 1, 2, 3] rfl)
        · refine lv_aload_n (pc := 28) hexec hb dX9_laysPairs_28 rfl (lv_at hl 0 rfl) ?_
          refine lv_iload_n (pc := 29) hexec hb dX9_laysPairs_29 rfl (lv_at hl 3 rfl) ?_
          refine lv_iconst (pc := 30) hexec hb dX9_laysPairs_30 ki_4 ?_
          refine lv_idiv (pc := 31) hexec hb dX9_laysPairs_31 (by decide) ?_
          refine lv_iload_n (pc := 32) hexec hb dX9_laysPairs_32 rfl (lv_at hl 3 rfl) ?_
          refine lv_iconst (pc := 33) hexec hb dX9_laysPairs_33 ki_4 ?_
          refine lv_irem (pc := 34) hexec hb dX9_laysPairs_34 (by decide) ?_
          refine lv_iload_n (pc := 35) hexec hb dX9_laysPairs_35 rfl (lv_at hl 1 rfl) ?_
          obtain ⟨r36, hc, hf⟩ := bd1_e hf
          refine kVp (pc := 36) (S := ⟨hexec, hb, hml, hown, hts⟩) hP hD hG hA hS [0, 4] [1, 2, 3] [3, 0, 1, 2, 4] (w2 := (w_X9_laysPairs g a0 a1 a2 a3 a4 u0_1 u0_2 u0_3 u0_4 u0_5 u0_6 u0_7 u0_8 u0_9 u0_10 u0_11 u0_12 u0_13 u0_14 u0_15 u0_19 u0_20 u0_21 u0_22 u0_23 u0_24 u0_25 u0_26 u0_27 u0_28 u0_29 u0_30 y1_against y2_may_1 y3_redThen y4_s)) rfl rfl rfl rfl rfl rfl (by decide) (c_X9_chartReason l g a0 a4 _ u0_1 u0_2 u0_3 u0_4 u0_5 u0_6 u0_7 u0_8 u0_9 u0_10 u0_11 u0_12 u0_13 u0_14 u0_15 (.ref a3) (.ref a2) (.ref a1) u0_19 u0_20 u0_21 u0_22 u0_23 u0_24 u0_25 u0_26 u0_27 u0_28 u0_29 u0_30 y4_s (v3 / 4) (v3 - v3 / 4 * 4) p1 r36 hc) gX9_laysPairs_X9_chartReason rfl hv_X9_chartReason ⟨nle rfl, nle rfl⟩ 9 0 rfl rfl rfl (rest := [.int v3, .ref a2]) rfl rfl hl.1 (nle rfl) dX9_laysPairs_36 (fun H locs hP hD hS => ?_)
          refine kb_ne (pc := 39) hexec hb dX9_laysPairs_39 (tgt := 46) rfl hf (fun hc hf => ?_) (fun hc hf => ?_)
          · exact hj46 _ _ _ _ hf hP hD hS (lv_sub hl [0, 1, 2, 3] rfl)
          · refine lv_iconst (pc := 42) hexec hb dX9_laysPairs_42 ki_1 ?_
            refine lv_goto (pc := 43) hexec hb dX9_laysPairs_43 (tgt := 47) rfl ?_
            exact hj47 _ _ _ _ hf hP hD hS (lv_sub hl [0, 1, 2, 3] rfl)
  exact hL9 n _ _ _ _ _ hz hP hD hS (lv_sub hl [2, 3, 1, 0] rfl)
abbrev w_X9_canLie (g : GE) (a0 a1 a2 a3 : Nat) (u0_0 u0_1 u0_2 u0_3 u0_4 u0_5 u0_6 u0_7 u0_8 u0_9 u0_10 u0_12 u0_13 u0_14 u0_15 u0_16 u0_19 u0_20 u0_21 u0_22 u0_23 u0_24 u0_25 u0_26 u0_27 u0_28 u0_29 u0_30 : Value) (y1_against : Nat → Int32) (y2_may : Nat → Int32) (y3_ways : Nat → Int32) : va_W := [(a0, .inr (9, [u0_0, u0_1, u0_2, u0_3, u0_4, u0_5, u0_6, u0_7, u0_8, u0_9, u0_10, .ref a3, u0_12, u0_13, u0_14, u0_15, u0_16, .ref a2, .ref a1, u0_19, u0_20, u0_21, u0_22, u0_23, u0_24, u0_25, u0_26, u0_27, u0_28, u0_29, u0_30])), (a1, .inl (g.2.1 1, 1024, .inl y1_against)), (a2, .inl (g.2.1 1, 32, .inl y2_may)), (a3, .inl (g.2.1 0, 8, .inl y3_ways))]
set_option maxRecDepth 20000 in
theorem c_X9_canLie (l : Launch) (g : GE) (a0 a1 a2 a3 : Nat) (sz : Nat) (u0_0 u0_1 u0_2 u0_3 u0_4 u0_5 u0_6 u0_7 u0_8 u0_9 u0_10 u0_12 u0_13 u0_14 u0_15 u0_16 u0_19 u0_20 u0_21 u0_22 u0_23 u0_24 u0_25 u0_26 u0_27 u0_28 u0_29 u0_30 : Value) (y1_against : Nat → Int32) (y2_may : Nat → Int32) (y3_ways : Nat → Int32) (p1 : Int32) (p2 : Int32)  (r : Int32) (hf : f_X9_canLie y1_against y2_may y3_ways p1 p2 = some r) : MI l g yX9_canLie wsX9_canLie 1 24 [.ref a0, .int p1, .int p2] (w_X9_canLie g a0 a1 a2 a3 u0_0 u0_1 u0_2 u0_3 u0_4 u0_5 u0_6 u0_7 u0_8 u0_9 u0_10 u0_12 u0_13 u0_14 u0_15 u0_16 u0_19 u0_20 u0_21 u0_22 u0_23 u0_24 u0_25 u0_26 u0_27 u0_28 u0_29 u0_30 y1_against y2_may y3_ways) sz (some (.int r)) (w_X9_canLie g a0 a1 a2 a3 u0_0 u0_1 u0_2 u0_3 u0_4 u0_5 u0_6 u0_7 u0_8 u0_9 u0_10 u0_12 u0_13 u0_14 u0_15 u0_16 u0_19 u0_20 u0_21 u0_22 u0_23 u0_24 u0_25 u0_26 u0_27 u0_28 u0_29 u0_30 y1_against y2_may y3_ways) := by
  refine MI.start (cc := cX9_canLie) (maxL := 5) (ret := (some .boolean)) rfl rfl (nle rfl) ?_
  intro p e s m args below meth c A ls Q hQ hexec hb hr hts hown hlocks hml hA hP hD hG hS hl
  unfold f_X9_canLie at hf
  have hWX9 : ∀ w ∈ wsX90, w.before args s = true := fun w h => hts w (List.mem_cons_of_mem _ (List.mem_append_right _ h))
  have hS : va_S A s.heap s.heap [] := hS
  refine lv_aload_n (pc := 0) hexec hb dX9_canLie_0 rfl (lv_at hl 0 rfl) ?_
  refine kg_get (pc := 1) hexec hb (own := RX9) hWX9 hown hG hP 0 rfl rfl 17 (nle rfl) (hts _ (List.mem_cons_of_mem _ (List.mem_append_left _ (List.mem_of_getElem? (i := 0) rfl)))) rfl rfl dX9_canLie_1 ?_
  refine lv_iconst (pc := 4) hexec hb dX9_canLie_4 ki_4 ?_
  refine lv_iload_n (pc := 5) hexec hb dX9_canLie_5 rfl (lv_at hl 1 rfl) ?_
  refine lv_imul (pc := 6) hexec hb dX9_canLie_6 ?_
  refine lv_iload_n (pc := 7) hexec hb dX9_canLie_7 rfl (lv_at hl 2 rfl) ?_
  refine lv_iadd (pc := 8) hexec hb dX9_canLie_8 ?_
  refine kr_zald (pc := 9) hexec hb hG hP 2 rfl hf dX9_canLie_9 (fun hf => ?_)
  obtain ⟨v3, ev3, hf⟩ := bv_e hf
  refine kn_i ev3 ?_
  refine lv_istore_n (pc := 10) hexec hb dX9_canLie_10 rfl hl (nle rfl) rfl (fun ls (hl : lv_has ls 5 [(3, .int v3), (0, .ref a0), (1, .int p1), (2, .int p2)]) => ?_)
  refine lv_iconst (pc := 11) hexec hb dX9_canLie_11 ki_0 ?_
  refine lv_istore (pc := 12) hexec hb dX9_canLie_12 hl (nle rfl) rfl (fun ls (hl : lv_has ls 5 [(4, .int 0), (3, .int v3), (0, .ref a0), (1, .int p1), (2, .int p2)]) => ?_)
  obtain ⟨l14, el14, hf⟩ := bvf2 hf
  obtain ⟨v3_2, hz, hf⟩ := bd1_e hf
  have hE14 : ∀ (H : Heap) (locs : List Loc) (ls : Array Slot), va_P g.1 vwCl (w_X9_canLie g a0 a1 a2 a3 u0_0 u0_1 u0_2 u0_3 u0_4 u0_5 u0_6 u0_7 u0_8 u0_9 u0_10 u0_12 u0_13 u0_14 u0_15 u0_16 u0_19 u0_20 u0_21 u0_22 u0_23 u0_24 u0_25 u0_26 u0_27 u0_28 u0_29 u0_30 y1_against y2_may y3_ways) H → va_D A (w_X9_canLie g a0 a1 a2 a3 u0_0 u0_1 u0_2 u0_3 u0_4 u0_5 u0_6 u0_7 u0_8 u0_9 u0_10 u0_12 u0_13 u0_14 u0_15 u0_16 u0_19 u0_20 u0_21 u0_22 u0_23 u0_24 u0_25 u0_26 u0_27 u0_28 u0_29 u0_30 y1_against y2_may y3_ways) → va_S A s.heap H locs → lv_has ls 5 [(3, .int v3_2)] → W p l e (RM 1 24) s m args below meth c H locs 0 0 Q (F0 m 76 ls []) := by
    intro H locs ls hP hD hS hl
    refine lv_iload_n (pc := 76) hexec hb dX9_canLie_76 rfl (lv_at hl 0 rfl) ?_
    obtain ⟨hx, hf⟩ := zb_e hf
    cases hf
    exact ke_z hQ hexec hb hr hx hP hD hS dX9_canLie_77 hlocks
  obtain ⟨n, hz⟩ := lq2_e hz
  have hL14 : ∀ (n : Nat) (v3_1 : Int32) (v4 : Int32) (H : Heap) (locs : List Loc) (ls : Array Slot), it2 l14 n v3_1 v4 = some v3_2 → va_P g.1 vwCl (w_X9_canLie g a0 a1 a2 a3 u0_0 u0_1 u0_2 u0_3 u0_4 u0_5 u0_6 u0_7 u0_8 u0_9 u0_10 u0_12 u0_13 u0_14 u0_15 u0_16 u0_19 u0_20 u0_21 u0_22 u0_23 u0_24 u0_25 u0_26 u0_27 u0_28 u0_29 u0_30 y1_against y2_may y3_ways) H → va_D A (w_X9_canLie g a0 a1 a2 a3 u0_0 u0_1 u0_2 u0_3 u0_4 u0_5 u0_6 u0_7 u0_8 u0_9 u0_10 u0_12 u0_13 u0_14 u0_15 u0_16 u0_19 u0_20 u0_21 u0_22 u0_23 u0_24 u0_25 u0_26 u0_27 u0_28 u0_29 u0_30 y1_against y2_may y3_ways) → va_S A s.heap H locs → lv_has ls 5 [(0, .ref a0), (1, .int p1), (2, .int p2), (3, .int v3_1), (4, .int v4)] → W p l e (RM 1 24) s m args below meth c H locs 0 0 Q (F0 m 14 ls []) := by
    intro n
    induction n with
    | zero =>
      intro v3_1 v4 H locs ls hf hP hD hS hl
      exact it2_0 hf
    | succ n14 ih14 =>
      intro v3_1 v4 H locs ls hf hP hD hS hl
      obtain ⟨q14, hf, hk14⟩ := it2_e hf
      have hf := (el14 v3_1 v4).symm.trans hf
      refine lv_iload (pc := 14) hexec hb dX9_canLie_14 (lv_at hl 4 rfl) ?_
      refine lv_iload_n (pc := 16) hexec hb dX9_canLie_16 rfl (lv_at hl 1 rfl) ?_
      refine ki_ge (pc := 17) hexec hb dX9_canLie_17 (tgt := 76) rfl hf (fun hc hf => ?_) (fun hc hf => ?_)
      · cases sr2 hf hk14
        exact hE14 _ _ _ hP hD hS (lv_sub hl [3] rfl)
      · refine lv_iload_n (pc := 20) hexec hb dX9_canLie_20 rfl (lv_at hl 3 rfl) ?_
        refine kb_eq (pc := 21) hexec hb dX9_canLie_21 (tgt := 76) rfl hf (fun hc hf => ?_) (fun hc hf => ?_)
        · cases sr2 hf hk14
          exact hE14 _ _ _ hP hD hS (lv_sub hl [3] rfl)
        · refine lv_aload_n (pc := 24) hexec hb dX9_canLie_24 rfl (lv_at hl 0 rfl) ?_
          refine kg_get (pc := 25) hexec hb (own := RX9) hWX9 hown hG hP 0 rfl rfl 11 (nle rfl) (hts _ (List.mem_cons_of_mem _ (List.mem_append_left _ (List.mem_of_getElem? (i := 1) rfl)))) rfl rfl dX9_canLie_25 ?_
          refine lv_iload (pc := 28) hexec hb dX9_canLie_28 (lv_at hl 4 rfl) ?_
          refine kr_iald (pc := 30) hexec hb hG hP 3 rfl hf dX9_canLie_30 (fun hf => ?_)
          refine lv_iconst (pc := 31) hexec hb dX9_canLie_31 ki_m1 ?_
          obtain ⟨j69, ej69, hf⟩ := bvf1 hf
          have hj69 : ∀ (t69 : Int32) (H : Heap) (locs : List Loc) (ls : Array Slot), j69 t69 = some q14 → va_P g.1 vwCl (w_X9_canLie g a0 a1 a2 a3 u0_0 u0_1 u0_2 u0_3 u0_4 u0_5 u0_6 u0_7 u0_8 u0_9 u0_10 u0_12 u0_13 u0_14 u0_15 u0_16 u0_19 u0_20 u0_21 u0_22 u0_23 u0_24 u0_25 u0_26 u0_27 u0_28 u0_29 u0_30 y1_against y2_may y3_ways) H → va_D A (w_X9_canLie g a0 a1 a2 a3 u0_0 u0_1 u0_2 u0_3 u0_4 u0_5 u0_6 u0_7 u0_8 u0_9 u0_10 u0_12 u0_13 u0_14 u0_15 u0_16 u0_19 u0_20 u0_21 u0_22 u0_23 u0_24 u0_25 u0_26 u0_27 u0_28 u0_29 u0_30 y1_against y2_may y3_ways) → va_S A s.heap H locs → lv_has ls 5 [(0, .ref a0), (1, .int p1), (2, .int p2), (4, .int v4)] → W p l e (RM 1 24) s m args below meth c H locs 0 0 Q (F0 m 69 ls [.int t69]) := by
            intro t69 H locs ls hf hP hD hS hl
            have hf := (ej69 t69).symm.trans hf
            refine lv_istore_n (pc := 69) hexec hb dX9_canLie_69 rfl hl (nle rfl) rfl (fun ls (hl : lv_has ls 5 [(3, .int t69), (0, .ref a0), (1, .int p1), (2, .int p2), (4, .int v4)]) => ?_)
            obtain ⟨v4_1, ev4_1, hf⟩ := bv_e hf
            refine k_iinc (pc := 70) hexec hb dX9_canLie_70 kq_1 hl (k := 4) rfl ev4_1 (nle rfl) rfl (fun ls (hl : lv_has ls 5 [(4, .int v4_1), (3, .int t69), (0, .ref a0), (1, .int p1), (2, .int p2)]) => ?_)
            refine lv_goto (pc := 73) hexec hb dX9_canLie_73 (tgt := 14) rfl ?_
            exact ih14 _ _ _ _ _ (sl2 hf hk14) hP hD hS (lv_sub hl [2, 3, 4, 1, 0] rfl)
          obtain ⟨j64, ej64, hf⟩ := bvf1 hf
          have hj64 : ∀ (u : Unit) (H : Heap) (locs : List Loc) (ls : Array Slot), j64 u = some q14 → va_P g.1 vwCl (w_X9_canLie g a0 a1 a2 a3 u0_0 u0_1 u0_2 u0_3 u0_4 u0_5 u0_6 u0_7 u0_8 u0_9 u0_10 u0_12 u0_13 u0_14 u0_15 u0_16 u0_19 u0_20 u0_21 u0_22 u0_23 u0_24 u0_25 u0_26 u0_27 u0_28 u0_29 u0_30 y1_against y2_may y3_ways) H → va_D A (w_X9_canLie g a0 a1 a2 a3 u0_0 u0_1 u0_2 u0_3 u0_4 u0_5 u0_6 u0_7 u0_8 u0_9 u0_10 u0_12 u0_13 u0_14 u0_15 u0_16 u0_19 u0_20 u0_21 u0_22 u0_23 u0_24 u0_25 u0_26 u0_27 u0_28 u0_29 u0_30 y1_against y2_may y3_ways) → va_S A s.heap H locs → lv_has ls 5 [(0, .ref a0), (1, .int p1), (2, .int p2), (4, .int v4)] → W p l e (RM 1 24) s m args below meth c H locs 0 0 Q (F0 m 64 ls []) := by
            intro u H locs ls hf hP hD hS hl
            have hf := (ej64 u).symm.trans hf
            refine lv_iconst (pc := 64) hexec hb dX9_canLie_64 ki_1 ?_
            refine lv_goto (pc := 65) hexec hb dX9_canLie_65 (tgt := 69) rfl ?_
            exact hj69 _ _ _ _ hf hP hD hS (lv_sub hl [0, 1, 2, 3] rfl)
          refine ki_eq (pc := 32) hexec hb dX9_canLie_32 (tgt := 64) rfl hf (fun hc hf => ?_) (fun hc hf => ?_)
          · exact hj64 _ _ _ _ hf hP hD hS (lv_sub hl [0, 1, 2, 4] rfl)
          · refine lv_aload_n (pc := 35) hexec hb dX9_canLie_35 rfl (lv_at hl 0 rfl) ?_
            refine kg_get (pc := 36) hexec hb (own := RX9) hWX9 hown hG hP 0 rfl rfl 18 (nle rfl) (hts _ (List.mem_cons_of_mem _ (List.mem_append_left _ (List.mem_of_getElem? (i := 2) rfl)))) rfl rfl dX9_canLie_36 ?_
            refine lv_bipush (pc := 39) hexec hb dX9_canLie_39 kb_32 ?_
            refine lv_iconst (pc := 41) hexec hb dX9_canLie_41 ki_4 ?_
            refine lv_iload_n (pc := 42) hexec hb dX9_canLie_42 rfl (lv_at hl 1 rfl) ?_
            refine lv_imul (pc := 43) hexec hb dX9_canLie_43 ?_
            refine lv_iload_n (pc := 44) hexec hb dX9_canLie_44 rfl (lv_at hl 2 rfl) ?_
            refine lv_iadd (pc := 45) hexec hb dX9_canLie_45 ?_
            refine lv_imul (pc := 46) hexec hb dX9_canLie_46 ?_
            refine lv_iconst (pc := 47) hexec hb dX9_canLie_47 ki_4 ?_
            refine lv_iload (pc := 48) hexec hb dX9_canLie_48 (lv_at hl 4 rfl) ?_
            refine lv_imul (pc := 50) hexec hb dX9_canLie_50 ?_
            refine lv_iadd (pc := 51) hexec hb dX9_canLie_51 ?_
            refine lv_aload_n (pc := 52) hexec hb dX9_canLie_52 rfl (lv_at hl 0 rfl) ?_
            refine kg_get (pc := 53) hexec hb (own := RX9) hWX9 hown hG hP 0 rfl rfl 11 (nle rfl) (hts _ (List.mem_cons_of_mem _ (List.mem_append_left _ (List.mem_of_getElem? (i := 1) rfl)))) rfl rfl dX9_canLie_53 ?_
            refine lv_iload (pc := 56) hexec hb dX9_canLie_56 (lv_at hl 4 rfl) ?_
            refine kr_iald (pc := 58) hexec hb hG hP 3 rfl hf dX9_canLie_58 (fun hf => ?_)
            refine lv_iadd (pc := 59) hexec hb dX9_canLie_59 ?_
            refine kr_zald (pc := 60) hexec hb hG hP 1 rfl hf dX9_canLie_60 (fun hf => ?_)
            refine kb_ne (pc := 61) hexec hb dX9_canLie_61 (tgt := 68) rfl hf (fun hc hf => ?_) (fun hc hf => ?_)
            · refine lv_iconst (pc := 68) hexec hb dX9_canLie_68 ki_0 ?_
              exact hj69 _ _ _ _ hf hP hD hS (lv_sub hl [0, 1, 2, 4] rfl)
            · exact hj64 _ _ _ _ hf hP hD hS (lv_sub hl [0, 1, 2, 4] rfl)
  exact hL14 n _ _ _ _ _ hz hP hD hS (lv_sub hl [2, 3, 4, 1, 0] rfl)
abbrev w_X9_weighs (g : GE) (a0 a1 a2 a3 : Nat) (u0_1 u0_2 u0_3 u0_4 u0_5 u0_6 u0_7 u0_8 u0_9 u0_10 u0_16 u0_17 u0_18 u0_19 u0_20 u0_21 u0_22 u0_23 u0_24 u0_25 u0_26 u0_27 u0_28 u0_29 u0_30 : Value) (x0_bestReds : Int32) (x0_bestPlaced : Int32) (x0_bestTurning : Int32) (y1_best : Nat → Int32) (y2_s : Nat → Int32) (y3_ways : Nat → Int32) : va_W := [(a0, .inr (9, [.ref a2, u0_1, u0_2, u0_3, u0_4, u0_5, u0_6, u0_7, u0_8, u0_9, u0_10, .ref a3, .ref a1, .int x0_bestReds, .int x0_bestPlaced, .int x0_bestTurning, u0_16, u0_17, u0_18, u0_19, u0_20, u0_21, u0_22, u0_23, u0_24, u0_25, u0_26, u0_27, u0_28, u0_29, u0_30])), (a1, .inl (g.2.1 0, 8, .inl y1_best)), (a2, .inl (g.2.1 0, 552, .inl y2_s)), (a3, .inl (g.2.1 0, 8, .inl y3_ways))]
set_option maxRecDepth 20000 in
theorem c_X9_weighs (l : Launch) (g : GE) (a0 a1 a2 a3 : Nat) (sz : Nat) (u0_1 u0_2 u0_3 u0_4 u0_5 u0_6 u0_7 u0_8 u0_9 u0_10 u0_16 u0_17 u0_18 u0_19 u0_20 u0_21 u0_22 u0_23 u0_24 u0_25 u0_26 u0_27 u0_28 u0_29 u0_30 : Value) (x0_bestReds : Int32) (x0_bestPlaced : Int32) (x0_bestTurning : Int32) (y1_best : Nat → Int32) (y2_s : Nat → Int32) (y3_ways : Nat → Int32) (p1 : Int32) (p2 : Int32)  (o_x0_bestReds : Int32) (o_x0_bestPlaced : Int32) (o_x0_bestTurning : Int32) (o_y1_best : Nat → Int32) (hf : f_X9_weighs x0_bestReds x0_bestPlaced x0_bestTurning y1_best y2_s y3_ways p1 p2 = some (o_x0_bestReds, o_x0_bestPlaced, o_x0_bestTurning, o_y1_best)) : MI l g yX9_weighs wsX9_weighs 3 71 [.ref a0, .int p1, .int p2] (w_X9_weighs g a0 a1 a2 a3 u0_1 u0_2 u0_3 u0_4 u0_5 u0_6 u0_7 u0_8 u0_9 u0_10 u0_16 u0_17 u0_18 u0_19 u0_20 u0_21 u0_22 u0_23 u0_24 u0_25 u0_26 u0_27 u0_28 u0_29 u0_30 x0_bestReds x0_bestPlaced x0_bestTurning y1_best y2_s y3_ways) sz none (w_X9_weighs g a0 a1 a2 a3 u0_1 u0_2 u0_3 u0_4 u0_5 u0_6 u0_7 u0_8 u0_9 u0_10 u0_16 u0_17 u0_18 u0_19 u0_20 u0_21 u0_22 u0_23 u0_24 u0_25 u0_26 u0_27 u0_28 u0_29 u0_30 o_x0_bestReds o_x0_bestPlaced o_x0_bestTurning o_y1_best y2_s y3_ways) := by
  refine MI.start (cc := cX9_weighs) (maxL := 5) (ret := none) rfl rfl (nle rfl) ?_
  intro p e s m args below meth c A ls Q hQ hexec hb hr hts hown hlocks hml hA hP hD hG hS hl
  unfold f_X9_weighs at hf
  have hWX9 : ∀ w ∈ wsX90, w.before args s = true := fun w h => hts w (List.mem_cons_of_mem _ (List.mem_append_right _ h))
  have hS : va_S A s.heap s.heap [] := hS
  refine lv_iload_n (pc := 0) hexec hb dX9_weighs_0 rfl (lv_at hl 2 rfl) ?_
  refine lv_aload_n (pc := 1) hexec hb dX9_weighs_1 rfl (lv_at hl 0 rfl) ?_
  refine kg_get (pc := 2) hexec hb (own := RX9) hWX9 hown hG hP 0 rfl rfl 13 (nle rfl) (hts _ (List.mem_cons_of_mem _ (List.mem_append_left _ (List.mem_of_getElem? (i := 0) rfl)))) rfl rfl dX9_weighs_2 ?_
  refine ki_lt (pc := 5) hexec hb dX9_weighs_5 (tgt := 24) rfl hf (fun hc hf => ?_) (fun hc hf => ?_)
  · cases hf
    exact ke_v hQ hexec hb hr hP hD hS dX9_weighs_24 hlocks
  · refine lv_iload_n (pc := 8) hexec hb dX9_weighs_8 rfl (lv_at hl 2 rfl) ?_
    refine lv_aload_n (pc := 9) hexec hb dX9_weighs_9 rfl (lv_at hl 0 rfl) ?_
    refine kg_get (pc := 10) hexec hb (own := RX9) hWX9 hown hG hP 0 rfl rfl 13 (nle rfl) (hts _ (List.mem_cons_of_mem _ (List.mem_append_left _ (List.mem_of_getElem? (i := 0) rfl)))) rfl rfl dX9_weighs_10 ?_
    obtain ⟨j25, ej25, hf⟩ := bvf1 hf
    have hj25 : ∀ (u : Unit) (H : Heap) (locs : List Loc) (ls : Array Slot), j25 u = some (o_x0_bestReds, o_x0_bestPlaced, o_x0_bestTurning, o_y1_best) → va_P g.1 vwCl (w_X9_weighs g a0 a1 a2 a3 u0_1 u0_2 u0_3 u0_4 u0_5 u0_6 u0_7 u0_8 u0_9 u0_10 u0_16 u0_17 u0_18 u0_19 u0_20 u0_21 u0_22 u0_23 u0_24 u0_25 u0_26 u0_27 u0_28 u0_29 u0_30 x0_bestReds x0_bestPlaced x0_bestTurning y1_best y2_s y3_ways) H → va_D A (w_X9_weighs g a0 a1 a2 a3 u0_1 u0_2 u0_3 u0_4 u0_5 u0_6 u0_7 u0_8 u0_9 u0_10 u0_16 u0_17 u0_18 u0_19 u0_20 u0_21 u0_22 u0_23 u0_24 u0_25 u0_26 u0_27 u0_28 u0_29 u0_30 x0_bestReds x0_bestPlaced x0_bestTurning y1_best y2_s y3_ways) → va_S A s.heap H locs → lv_has ls 5 [(0, .ref a0), (1, .int p1), (2, .int p2)] → W p l e (RM 3 71) s m args below meth c H locs 0 0 Q (F0 m 25 ls []) := by
      intro u H locs ls hf hP hD hS hl
      have hf := (ej25 u).symm.trans hf
      refine lv_aload_n (pc := 25) hexec hb dX9_weighs_25 rfl (lv_at hl 0 rfl) ?_
      refine lv_aload_n (pc := 26) hexec hb dX9_weighs_26 rfl (lv_at hl 0 rfl) ?_
      refine kg_get (pc := 27) hexec hb (own := RX9) hWX9 hown hG hP 0 rfl rfl 0 (nle rfl) (hts _ (List.mem_cons_of_mem _ (List.mem_append_left _ (List.mem_of_getElem? (i := 2) rfl)))) rfl rfl dX9_weighs_27 ?_
      refine lv_iconst (pc := 30) hexec hb dX9_weighs_30 ki_5 ?_
      refine kr_iald (pc := 31) hexec hb hG hP 2 rfl hf dX9_weighs_31 (fun hf => ?_)
      obtain ⟨r32, hc, hf⟩ := bd1_e hf
      refine kVp (pc := 32) (S := ⟨hexec, hb, hml, hown, hts⟩) hP hD hG hA hS [0, 2, 3] [1] [1, 0, 2, 3] (w2 := (w_X9_weighs g a0 a1 a2 a3 u0_1 u0_2 u0_3 u0_4 u0_5 u0_6 u0_7 u0_8 u0_9 u0_10 u0_16 u0_17 u0_18 u0_19 u0_20 u0_21 u0_22 u0_23 u0_24 u0_25 u0_26 u0_27 u0_28 u0_29 u0_30 x0_bestReds x0_bestPlaced x0_bestTurning y1_best y2_s y3_ways)) rfl rfl rfl rfl rfl rfl (by decide) (c_X9_turningBy l g a0 a2 a3 _ u0_1 u0_2 u0_3 u0_4 u0_5 u0_6 u0_7 u0_8 u0_9 u0_10 (.ref a1) (.int x0_bestReds) (.int x0_bestPlaced) (.int x0_bestTurning) u0_16 u0_17 u0_18 u0_19 u0_20 u0_21 u0_22 u0_23 u0_24 u0_25 u0_26 u0_27 u0_28 u0_29 u0_30 y2_s y3_ways (y2_s (5 : Int32).toNatClampNeg) r32 hc) gX9_weighs_X9_turningBy rfl hv_X9_turningBy ⟨nle rfl, nle rfl⟩ 9 0 rfl rfl rfl (rest := []) rfl rfl hl.1 (nle rfl) dX9_weighs_32 (fun H locs hP hD hS => ?_)
      refine lv_istore_n (pc := 35) hexec hb dX9_weighs_35 rfl hl (nle rfl) rfl (fun ls (hl : lv_has ls 5 [(3, .int r32), (0, .ref a0), (1, .int p1), (2, .int p2)]) => ?_)
      refine lv_iload_n (pc := 36) hexec hb dX9_weighs_36 rfl (lv_at hl 3 rfl) ?_
      refine lv_aload_n (pc := 37) hexec hb dX9_weighs_37 rfl (lv_at hl 1 rfl) ?_
      refine kg_get (pc := 38) hexec hb (own := RX9) hWX9 hown hG hP 0 rfl rfl 13 (nle rfl) (hts _ (List.mem_cons_of_mem _ (List.mem_append_left _ (List.mem_of_getElem? (i := 0) rfl)))) rfl rfl dX9_weighs_38 ?_
      obtain ⟨j61, ej61, hf⟩ := bvf1 hf
      have hj61 : ∀ (u : Unit) (H : Heap) (locs : List Loc) (ls : Array Slot), j61 u = some (o_x0_bestReds, o_x0_bestPlaced, o_x0_bestTurning, o_y1_best) → va_P g.1 vwCl (w_X9_weighs g a0 a1 a2 a3 u0_1 u0_2 u0_3 u0_4 u0_5 u0_6 u0_7 u0_8 u0_9 u0_10 u0_16 u0_17 u0_18 u0_19 u0_20 u0_21 u0_22 u0_23 u0_24 u0_25 u0_26 u0_27 u0_28 u0_29 u0_30 x0_bestReds x0_bestPlaced x0_bestTurning y1_best y2_s y3_ways) H → va_D A (w_X9_weighs g a0 a1 a2 a3 u0_1 u0_2 u0_3 u0_4 u0_5 u0_6 u0_7 u0_8 u0_9 u0_10 u0_16 u0_17 u0_18 u0_19 u0_20 u0_21 u0_22 u0_23 u0_24 u0_25 u0_26 u0_27 u0_28 u0_29 u0_30 x0_bestReds x0_bestPlaced x0_bestTurning y1_best y2_s y3_ways) → va_S A s.heap H locs → lv_has ls 5 [(0, .ref a0), (1, .int p1), (2, .int p2), (3, .int r32)] → W p l e (RM 3 71) s m args below meth c H locs 0 0 Q (F0 m 61 ls []) := by
        intro u H locs ls hf hP hD hS hl
        have hf := (ej61 u).symm.trans hf
        refine lv_aload_n (pc := 61) hexec hb dX9_weighs_61 rfl (lv_at hl 0 rfl) ?_
        refine lv_iload_n (pc := 62) hexec hb dX9_weighs_62 rfl (lv_at hl 2 rfl) ?_
        refine kp_put (pc := 63) hexec hb (own := RX9) hWX9 tyX9 tyX9_ok nmX9 hown hG hP hD hS 0 rfl rfl 13 (nle rfl) (hts _ (List.mem_cons_of_mem _ (List.mem_append_left _ (List.mem_of_getElem? (i := 0) rfl)))) rfl rfl rfl rfl (nle rfl) dX9_weighs_63 (fun H locs (hP : va_P g.1 vwCl (w_X9_weighs g a0 a1 a2 a3 u0_1 u0_2 u0_3 u0_4 u0_5 u0_6 u0_7 u0_8 u0_9 u0_10 u0_16 u0_17 u0_18 u0_19 u0_20 u0_21 u0_22 u0_23 u0_24 u0_25 u0_26 u0_27 u0_28 u0_29 u0_30 p2 x0_bestPlaced x0_bestTurning y1_best y2_s y3_ways) H) (hD : va_D A (w_X9_weighs g a0 a1 a2 a3 u0_1 u0_2 u0_3 u0_4 u0_5 u0_6 u0_7 u0_8 u0_9 u0_10 u0_16 u0_17 u0_18 u0_19 u0_20 u0_21 u0_22 u0_23 u0_24 u0_25 u0_26 u0_27 u0_28 u0_29 u0_30 p2 x0_bestPlaced x0_bestTurning y1_best y2_s y3_ways)) hS => ?_)
        refine lv_aload_n (pc := 66) hexec hb dX9_weighs_66 rfl (lv_at hl 0 rfl) ?_
        refine lv_iload_n (pc := 67) hexec hb dX9_weighs_67 rfl (lv_at hl 1 rfl) ?_
        refine kp_put (pc := 68) hexec hb (own := RX9) hWX9 tyX9 tyX9_ok nmX9 hown hG hP hD hS 0 rfl rfl 14 (nle rfl) (hts _ (List.mem_cons_of_mem _ (List.mem_append_left _ (List.mem_of_getElem? (i := 1) rfl)))) rfl rfl rfl rfl (nle rfl) dX9_weighs_68 (fun H locs (hP : va_P g.1 vwCl (w_X9_weighs g a0 a1 a2 a3 u0_1 u0_2 u0_3 u0_4 u0_5 u0_6 u0_7 u0_8 u0_9 u0_10 u0_16 u0_17 u0_18 u0_19 u0_20 u0_21 u0_22 u0_23 u0_24 u0_25 u0_26 u0_27 u0_28 u0_29 u0_30 p2 p1 x0_bestTurning y1_best y2_s y3_ways) H) (hD : va_D A (w_X9_weighs g a0 a1 a2 a3 u0_1 u0_2 u0_3 u0_4 u0_5 u0_6 u0_7 u0_8 u0_9 u0_10 u0_16 u0_17 u0_18 u0_19 u0_20 u0_21 u0_22 u0_23 u0_24 u0_25 u0_26 u0_27 u0_28 u0_29 u0_30 p2 p1 x0_bestTurning y1_best y2_s y3_ways)) hS => ?_)
        refine lv_aload_n (pc := 71) hexec hb dX9_weighs_71 rfl (lv_at hl 0 rfl) ?_
        refine lv_iload_n (pc := 72) hexec hb dX9_weighs_72 rfl (lv_at hl 3 rfl) ?_
        refine kp_put (pc := 73) hexec hb (own := RX9) hWX9 tyX9 tyX9_ok nmX9 hown hG hP hD hS 0 rfl rfl 15 (nle rfl) (hts _ (List.mem_cons_of_mem _ (List.mem_append_left _ (List.mem_of_getElem? (i := 3) rfl)))) rfl rfl rfl rfl (nle rfl) dX9_weighs_73 (fun H locs (hP : va_P g.1 vwCl (w_X9_weighs g a0 a1 a2 a3 u0_1 u0_2 u0_3 u0_4 u0_5 u0_6 u0_7 u0_8 u0_9 u0_10 u0_16 u0_17 u0_18 u0_19 u0_20 u0_21 u0_22 u0_23 u0_24 u0_25 u0_26 u0_27 u0_28 u0_29 u0_30 p2 p1 r32 y1_best y2_s y3_ways) H) (hD : va_D A (w_X9_weighs g a0 a1 a2 a3 u0_1 u0_2 u0_3 u0_4 u0_5 u0_6 u0_7 u0_8 u0_9 u0_10 u0_16 u0_17 u0_18 u0_19 u0_20 u0_21 u0_22 u0_23 u0_24 u0_25 u0_26 u0_27 u0_28 u0_29 u0_30 p2 p1 r32 y1_best y2_s y3_ways)) hS => ?_)
        refine lv_iconst (pc := 76) hexec hb dX9_weighs_76 ki_0 ?_
        refine lv_istore (pc := 77) hexec hb dX9_weighs_77 hl (nle rfl) rfl (fun ls (hl : lv_has ls 5 [(4, .int 0), (0, .ref a0), (1, .int p1), (2, .int p2), (3, .int r32)]) => ?_)
        obtain ⟨l79, el79, hf⟩ := bvf2 hf
        obtain ⟨y1_best_2, hz, hf⟩ := bd1_e hf
        have hE79 : ∀ (H : Heap) (locs : List Loc) (ls : Array Slot), va_P g.1 vwCl (w_X9_weighs g a0 a1 a2 a3 u0_1 u0_2 u0_3 u0_4 u0_5 u0_6 u0_7 u0_8 u0_9 u0_10 u0_16 u0_17 u0_18 u0_19 u0_20 u0_21 u0_22 u0_23 u0_24 u0_25 u0_26 u0_27 u0_28 u0_29 u0_30 p2 p1 r32 y1_best_2 y2_s y3_ways) H → va_D A (w_X9_weighs g a0 a1 a2 a3 u0_1 u0_2 u0_3 u0_4 u0_5 u0_6 u0_7 u0_8 u0_9 u0_10 u0_16 u0_17 u0_18 u0_19 u0_20 u0_21 u0_22 u0_23 u0_24 u0_25 u0_26 u0_27 u0_28 u0_29 u0_30 p2 p1 r32 y1_best_2 y2_s y3_ways) → va_S A s.heap H locs → lv_has ls 5 [] → W p l e (RM 3 71) s m args below meth c H locs 0 0 Q (F0 m 110 ls []) := by
          intro H locs ls hP hD hS hl
          cases hf
          exact ke_v hQ hexec hb hr hP hD hS dX9_weighs_110 hlocks
        obtain ⟨n, hz⟩ := lq2_e hz
        have hL79 : ∀ (n : Nat) (v4 : Int32) (y1_best_1 : Nat → Int32) (H : Heap) (locs : List Loc) (ls : Array Slot), it2 l79 n v4 y1_best_1 = some y1_best_2 → va_P g.1 vwCl (w_X9_weighs g a0 a1 a2 a3 u0_1 u0_2 u0_3 u0_4 u0_5 u0_6 u0_7 u0_8 u0_9 u0_10 u0_16 u0_17 u0_18 u0_19 u0_20 u0_21 u0_22 u0_23 u0_24 u0_25 u0_26 u0_27 u0_28 u0_29 u0_30 p2 p1 r32 y1_best_1 y2_s y3_ways) H → va_D A (w_X9_weighs g a0 a1 a2 a3 u0_1 u0_2 u0_3 u0_4 u0_5 u0_6 u0_7 u0_8 u0_9 u0_10 u0_16 u0_17 u0_18 u0_19 u0_20 u0_21 u0_22 u0_23 u0_24 u0_25 u0_26 u0_27 u0_28 u0_29 u0_30 p2 p1 r32 y1_best_1 y2_s y3_ways) → va_S A s.heap H locs → lv_has ls 5 [(0, .ref a0), (4, .int v4)] → W p l e (RM 3 71) s m args below meth c H locs 0 0 Q (F0 m 79 ls []) := by
          intro n
          induction n with
          | zero =>
            intro v4 y1_best_1 H locs ls hf hP hD hS hl
            exact it2_0 hf
          | succ n79 ih79 =>
            intro v4 y1_best_1 H locs ls hf hP hD hS hl
            obtain ⟨q79, hf, hk79⟩ := it2_e hf
            have hf := (el79 v4 y1_best_1).symm.trans hf
            refine lv_iload (pc := 79) hexec hb dX9_weighs_79 (lv_at hl 1 rfl) ?_
            refine lv_aload_n (pc := 81) hexec hb dX9_weighs_81 rfl (lv_at hl 0 rfl) ?_
            refine kg_get (pc := 82) hexec hb (own := RX9) hWX9 hown hG hP 0 rfl rfl 0 (nle rfl) (hts _ (List.mem_cons_of_mem _ (List.mem_append_left _ (List.mem_of_getElem? (i := 2) rfl)))) rfl rfl dX9_weighs_82 ?_
            refine lv_iconst (pc := 85) hexec hb dX9_weighs_85 ki_2 ?_
            refine kr_iald (pc := 86) hexec hb hG hP 2 rfl hf dX9_weighs_86 (fun hf => ?_)
            refine ki_ge (pc := 87) hexec hb dX9_weighs_87 (tgt := 110) rfl hf (fun hc hf => ?_) (fun hc hf => ?_)
            · cases sr2 hf hk79
              exact hE79 _ _ _ hP hD hS (lv_sub hl [] rfl)
            · refine lv_aload_n (pc := 90) hexec hb dX9_weighs_90 rfl (lv_at hl 0 rfl) ?_
              refine kg_get (pc := 91) hexec hb (own := RX9) hWX9 hown hG hP 0 rfl rfl 12 (nle rfl) (hts _ (List.mem_cons_of_mem _ (List.mem_append_left _ (List.mem_of_getElem? (i := 4) rfl)))) rfl rfl dX9_weighs_91 ?_
              refine lv_iload (pc := 94) hexec hb dX9_weighs_94 (lv_at hl 1 rfl) ?_
              refine lv_aload_n (pc := 96) hexec hb dX9_weighs_96 rfl (lv_at hl 0 rfl) ?_
              refine kg_get (pc := 97) hexec hb (own := RX9) hWX9 hown hG hP 0 rfl rfl 11 (nle rfl) (hts _ (List.mem_cons_of_mem _ (List.mem_append_left _ (List.mem_of_getElem? (i := 5) rfl)))) rfl rfl dX9_weighs_97 ?_
              refine lv_iload (pc := 100) hexec hb dX9_weighs_100 (lv_at hl 1 rfl) ?_
              refine kr_iald (pc := 102) hexec hb hG hP 3 rfl hf dX9_weighs_102 (fun hf => ?_)
              refine kw_iast (pc := 103) hexec hb hG hP hD hS 1 rfl hf dX9_weighs_103 (fun y1_best_3 H locs hf (hP : va_P g.1 vwCl (w_X9_weighs g a0 a1 a2 a3 u0_1 u0_2 u0_3 u0_4 u0_5 u0_6 u0_7 u0_8 u0_9 u0_10 u0_16 u0_17 u0_18 u0_19 u0_20 u0_21 u0_22 u0_23 u0_24 u0_25 u0_26 u0_27 u0_28 u0_29 u0_30 p2 p1 r32 y1_best_3 y2_s y3_ways) H) (hD : va_D A (w_X9_weighs g a0 a1 a2 a3 u0_1 u0_2 u0_3 u0_4 u0_5 u0_6 u0_7 u0_8 u0_9 u0_10 u0_16 u0_17 u0_18 u0_19 u0_20 u0_21 u0_22 u0_23 u0_24 u0_25 u0_26 u0_27 u0_28 u0_29 u0_30 p2 p1 r32 y1_best_3 y2_s y3_ways)) hS => ?_)
              obtain ⟨v4_1, ev4_1, hf⟩ := bv_e hf
              refine k_iinc (pc := 104) hexec hb dX9_weighs_104 kq_1 hl (k := 1) rfl ev4_1 (nle rfl) rfl (fun ls (hl : lv_has ls 5 [(4, .int v4_1), (0, .ref a0)]) => ?_)
              refine lv_goto (pc := 107) hexec hb dX9_weighs_107 (tgt := 79) rfl ?_
              exact ih79 _ _ _ _ _ (sl2 hf hk79) hP hD hS (lv_sub hl [1, 0] rfl)
        exact hL79 n _ _ _ _ _ hz hP hD hS (lv_sub hl [1, 0] rfl)
      refine ki_ne (pc := 41) hexec hb dX9_weighs_41 (tgt := 61) rfl hf (fun hc hf => ?_) (fun hc hf => ?_)
      · exact hj61 _ _ _ _ hf hP hD hS (lv_sub hl [1, 2, 3, 0] rfl)
      · refine lv_iload_n (pc := 44) hexec hb dX9_weighs_44 rfl (lv_at hl 2 rfl) ?_
        refine lv_aload_n (pc := 45) hexec hb dX9_weighs_45 rfl (lv_at hl 1 rfl) ?_
        refine kg_get (pc := 46) hexec hb (own := RX9) hWX9 hown hG hP 0 rfl rfl 14 (nle rfl) (hts _ (List.mem_cons_of_mem _ (List.mem_append_left _ (List.mem_of_getElem? (i := 1) rfl)))) rfl rfl dX9_weighs_46 ?_
        refine ki_ne (pc := 49) hexec hb dX9_weighs_49 (tgt := 61) rfl hf (fun hc hf => ?_) (fun hc hf => ?_)
        · exact hj61 _ _ _ _ hf hP hD hS (lv_sub hl [1, 2, 3, 0] rfl)
        · refine lv_iload_n (pc := 52) hexec hb dX9_weighs_52 rfl (lv_at hl 0 rfl) ?_
          refine lv_aload_n (pc := 53) hexec hb dX9_weighs_53 rfl (lv_at hl 1 rfl) ?_
          refine kg_get (pc := 54) hexec hb (own := RX9) hWX9 hown hG hP 0 rfl rfl 15 (nle rfl) (hts _ (List.mem_cons_of_mem _ (List.mem_append_left _ (List.mem_of_getElem? (i := 3) rfl)))) rfl rfl dX9_weighs_54 ?_
          refine ki_lt (pc := 57) hexec hb dX9_weighs_57 (tgt := 61) rfl hf (fun hc hf => ?_) (fun hc hf => ?_)
          · exact hj61 _ _ _ _ hf hP hD hS (lv_sub hl [1, 2, 3, 0] rfl)
          · cases hf
            exact ke_v hQ hexec hb hr hP hD hS dX9_weighs_60 hlocks
    refine ki_ne (pc := 13) hexec hb dX9_weighs_13 (tgt := 25) rfl hf (fun hc hf => ?_) (fun hc hf => ?_)
    · exact hj25 _ _ _ _ hf hP hD hS (lv_sub hl [0, 1, 2] rfl)
    · refine lv_iload_n (pc := 16) hexec hb dX9_weighs_16 rfl (lv_at hl 1 rfl) ?_
      refine lv_aload_n (pc := 17) hexec hb dX9_weighs_17 rfl (lv_at hl 0 rfl) ?_
      refine kg_get (pc := 18) hexec hb (own := RX9) hWX9 hown hG hP 0 rfl rfl 14 (nle rfl) (hts _ (List.mem_cons_of_mem _ (List.mem_append_left _ (List.mem_of_getElem? (i := 1) rfl)))) rfl rfl dX9_weighs_18 ?_
      refine ki_ge (pc := 21) hexec hb dX9_weighs_21 (tgt := 25) rfl hf (fun hc hf => ?_) (fun hc hf => ?_)
      · exact hj25 _ _ _ _ hf hP hD hS (lv_sub hl [0, 1, 2] rfl)
      · cases hf
        exact ke_v hQ hexec hb hr hP hD hS dX9_weighs_24 hlocks
