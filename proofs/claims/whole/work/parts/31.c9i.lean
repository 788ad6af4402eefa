abbrev w_X9_dropRiver (g : GE) (a0 a1 a2 : Nat) (u0_1 u0_2 u0_4 u0_5 u0_8 u0_9 u0_10 u0_11 u0_12 u0_13 u0_14 u0_15 u0_16 u0_17 u0_18 u0_19 u0_20 u0_21 u0_22 u0_23 u0_24 u0_25 u0_26 u0_27 u0_28 u0_29 u0_30 : Value) (x0_acts : Int32) (x0_thrown : Int32) (y1_past : Nat → Int32) (y2_s : Nat → Int32) : va_W := [(a0, .inr (9, [.ref a2, u0_1, u0_2, .ref a1, u0_4, u0_5, .int x0_acts, .int x0_thrown, u0_8, u0_9, u0_10, u0_11, u0_12, u0_13, u0_14, u0_15, u0_16, u0_17, u0_18, u0_19, u0_20, u0_21, u0_22, u0_23, u0_24, u0_25, u0_26, u0_27, u0_28, u0_29, u0_30])), (a1, .inl (g.2.1 0, 4416, .inl y1_past)), (a2, .inl (g.2.1 0, 552, .inl y2_s))]
set_option maxRecDepth 20000 in
theorem c_X9_dropRiver (l : Launch) (g : GE) (a0 a1 a2 : Nat) (sz : Nat) (u0_1 u0_2 u0_4 u0_5 u0_8 u0_9 u0_10 u0_11 u0_12 u0_13 u0_14 u0_15 u0_16 u0_17 u0_18 u0_19 u0_20 u0_21 u0_22 u0_23 u0_24 u0_25 u0_26 u0_27 u0_28 u0_29 u0_30 : Value) (x0_acts : Int32) (x0_thrown : Int32) (y1_past : Nat → Int32) (y2_s : Nat → Int32) (p1 : Int32)  (r : Int32) (o_x0_acts : Int32) (o_x0_thrown : Int32) (o_y1_past : Nat → Int32) (o_y2_s : Nat → Int32) (hf : f_X9_dropRiver x0_acts x0_thrown y1_past y2_s p1 = some (r, o_x0_acts, o_x0_thrown, o_y1_past, o_y2_s)) : MI l g yX9_dropRiver wsX9_dropRiver 3 70 [.ref a0, .int p1] (w_X9_dropRiver g a0 a1 a2 u0_1 u0_2 u0_4 u0_5 u0_8 u0_9 u0_10 u0_11 u0_12 u0_13 u0_14 u0_15 u0_16 u0_17 u0_18 u0_19 u0_20 u0_21 u0_22 u0_23 u0_24 u0_25 u0_26 u0_27 u0_28 u0_29 u0_30 x0_acts x0_thrown y1_past y2_s) sz (some (.int r)) (w_X9_dropRiver g a0 a1 a2 u0_1 u0_2 u0_4 u0_5 u0_8 u0_9 u0_10 u0_11 u0_12 u0_13 u0_14 u0_15 u0_16 u0_17 u0_18 u0_19 u0_20 u0_21 u0_22 u0_23 u0_24 u0_25 u0_26 u0_27 u0_28 u0_29 u0_30 o_x0_acts o_x0_thrown o_y1_past o_y2_s) := by
  refine MI.start (cc := cX9_dropRiver) (maxL := 5) (ret := (some .int)) rfl rfl (nle rfl) ?_
  intro p e s m args below meth c A ls Q hQ hexec hb hr hts hown hlocks hml hA hP hD hG hS hl
  unfold f_X9_dropRiver at hf
  have hWX9 : ∀ w ∈ wsX90, w.before args s = true := fun w h => hts w (List.mem_cons_of_mem _ (List.mem_append_right _ h))
  have hS : va_S A s.heap s.heap [] := hS
  refine lv_aload_n (pc := 0) hexec hb dX9_dropRiver_0 rfl (lv_at hl 0 rfl) ?_
  refine lv_iload_n (pc := 1) hexec hb dX9_dropRiver_1 rfl (lv_at hl 1 rfl) ?_
  obtain ⟨r2, x0_thrown_1, hc, hf⟩ := bd2_e hf
  refine kVp (pc := 2) (S := ⟨hexec, hb, hml, hown, hts⟩) hP hD hG hA hS [0, 2] [1] [1, 0, 2] (w2 := (w_X9_dropRiver g a0 a1 a2 u0_1 u0_2 u0_4 u0_5 u0_8 u0_9 u0_10 u0_11 u0_12 u0_13 u0_14 u0_15 u0_16 u0_17 u0_18 u0_19 u0_20 u0_21 u0_22 u0_23 u0_24 u0_25 u0_26 u0_27 u0_28 u0_29 u0_30 x0_acts x0_thrown_1 y1_past y2_s)) rfl rfl rfl rfl rfl rfl (by decide) (c_X9_mayRiver l g a0 a2 _ u0_1 u0_2 (.ref a1) u0_4 u0_5 (.int x0_acts) u0_8 u0_9 u0_10 u0_11 u0_12 u0_13 u0_14 u0_15 u0_16 u0_17 u0_18 u0_19 u0_20 u0_21 u0_22 u0_23 u0_24 u0_25 u0_26 u0_27 u0_28 u0_29 u0_30 x0_thrown y2_s p1 r2 x0_thrown_1 hc) gX9_dropRiver_X9_mayRiver rfl hv_X9_mayRiver ⟨nle rfl, nle rfl⟩ 9 0 rfl rfl rfl (rest := []) rfl rfl hl.1 (nle rfl) dX9_dropRiver_2 (fun H locs hP hD hS => ?_)
  refine kb_ne (pc := 5) hexec hb dX9_dropRiver_5 (tgt := 10) rfl hf (fun hc hf => ?_) (fun hc hf => ?_)
  · refine lv_aload_n (pc := 10) hexec hb dX9_dropRiver_10 rfl (lv_at hl 0 rfl) ?_
    obtain ⟨x0_acts_1, y1_past_1, hc, hf⟩ := bd2_e hf
    refine kVp (pc := 11) (S := ⟨hexec, hb, hml, hown, hts⟩) hP hD hG hA hS [0, 1, 2] [] [0, 1, 2] (w2 := (w_X9_dropRiver g a0 a1 a2 u0_1 u0_2 u0_4 u0_5 u0_8 u0_9 u0_10 u0_11 u0_12 u0_13 u0_14 u0_15 u0_16 u0_17 u0_18 u0_19 u0_20 u0_21 u0_22 u0_23 u0_24 u0_25 u0_26 u0_27 u0_28 u0_29 u0_30 x0_acts_1 x0_thrown_1 y1_past_1 y2_s)) rfl rfl rfl rfl rfl rfl (by decide) (c_X9_keeps l g a0 a1 a2 _ u0_1 u0_2 u0_4 u0_5 (.int x0_thrown_1) u0_8 u0_9 u0_10 u0_11 u0_12 u0_13 u0_14 u0_15 u0_16 u0_17 u0_18 u0_19 u0_20 u0_21 u0_22 u0_23 u0_24 u0_25 u0_26 u0_27 u0_28 u0_29 u0_30 x0_acts y1_past y2_s x0_acts_1 y1_past_1 hc) gX9_dropRiver_X9_keeps rfl hv_X9_keeps ⟨nle rfl, nle rfl⟩ 9 0 rfl rfl rfl (rest := []) rfl rfl hl.1 (nle rfl) dX9_dropRiver_11 (fun H locs hP hD hS => ?_)
    refine lv_iconst (pc := 14) hexec hb dX9_dropRiver_14 ki_0 ?_
    refine lv_istore_n (pc := 15) hexec hb dX9_dropRiver_15 rfl hl (nle rfl) rfl (fun ls (hl : lv_has ls 5 [(2, .int 0), (0, .ref a0), (1, .int p1)]) => ?_)
    refine lv_iconst (pc := 16) hexec hb dX9_dropRiver_16 ki_0 ?_
    refine lv_istore_n (pc := 17) hexec hb dX9_dropRiver_17 rfl hl (nle rfl) rfl (fun ls (hl : lv_has ls 5 [(3, .int 0), (2, .int 0), (0, .ref a0), (1, .int p1)]) => ?_)
    obtain ⟨l18, el18, hf⟩ := bvf3 hf
    obtain ⟨v2_1, y2_s_2, hz, hf⟩ := bd2_e hf
    have hE18 : ∀ (H : Heap) (locs : List Loc) (ls : Array Slot), va_P g.1 vwCl (w_X9_dropRiver g a0 a1 a2 u0_1 u0_2 u0_4 u0_5 u0_8 u0_9 u0_10 u0_11 u0_12 u0_13 u0_14 u0_15 u0_16 u0_17 u0_18 u0_19 u0_20 u0_21 u0_22 u0_23 u0_24 u0_25 u0_26 u0_27 u0_28 u0_29 u0_30 x0_acts_1 x0_thrown_1 y1_past_1 y2_s_2) H → va_D A (w_X9_dropRiver g a0 a1 a2 u0_1 u0_2 u0_4 u0_5 u0_8 u0_9 u0_10 u0_11 u0_12 u0_13 u0_14 u0_15 u0_16 u0_17 u0_18 u0_19 u0_20 u0_21 u0_22 u0_23 u0_24 u0_25 u0_26 u0_27 u0_28 u0_29 u0_30 x0_acts_1 x0_thrown_1 y1_past_1 y2_s_2) → va_S A s.heap H locs → lv_has ls 5 [(0, .ref a0), (2, .int v2_1)] → W p l e (RM 3 70) s m args below meth c H locs 0 0 Q (F0 m 118 ls []) := by
      intro H locs ls hP hD hS hl
      refine lv_aload_n (pc := 118) hexec hb dX9_dropRiver_118 rfl (lv_at hl 0 rfl) ?_
      refine kg_get (pc := 119) hexec hb (own := RX9) hWX9 hown hG hP 0 rfl rfl 0 (nle rfl) (hts _ (List.mem_cons_of_mem _ (List.mem_append_left _ (List.mem_append_left _ (List.mem_of_getElem? (i := 0) rfl))))) rfl rfl dX9_dropRiver_119 ?_
      refine lv_iconst (pc := 122) hexec hb dX9_dropRiver_122 ki_3 ?_
      refine lv_dup2_11 (pc := 123) hexec hb dX9_dropRiver_123 rfl rfl ?_
      refine kr_iald (pc := 124) hexec hb hG hP 2 rfl hf dX9_dropRiver_124 (fun hf => ?_)
      refine lv_iconst (pc := 125) hexec hb dX9_dropRiver_125 ki_1 ?_
      refine lv_isub (pc := 126) hexec hb dX9_dropRiver_126 ?_
      refine kw_iast (pc := 127) hexec hb hG hP hD hS 2 rfl hf dX9_dropRiver_127 (fun y2_s_5 H locs hf (hP : va_P g.1 vwCl (w_X9_dropRiver g a0 a1 a2 u0_1 u0_2 u0_4 u0_5 u0_8 u0_9 u0_10 u0_11 u0_12 u0_13 u0_14 u0_15 u0_16 u0_17 u0_18 u0_19 u0_20 u0_21 u0_22 u0_23 u0_24 u0_25 u0_26 u0_27 u0_28 u0_29 u0_30 x0_acts_1 x0_thrown_1 y1_past_1 y2_s_5) H) (hD : va_D A (w_X9_dropRiver g a0 a1 a2 u0_1 u0_2 u0_4 u0_5 u0_8 u0_9 u0_10 u0_11 u0_12 u0_13 u0_14 u0_15 u0_16 u0_17 u0_18 u0_19 u0_20 u0_21 u0_22 u0_23 u0_24 u0_25 u0_26 u0_27 u0_28 u0_29 u0_30 x0_acts_1 x0_thrown_1 y1_past_1 y2_s_5)) hS => ?_)
      refine lv_iload_n (pc := 128) hexec hb dX9_dropRiver_128 rfl (lv_at hl 1 rfl) ?_
      cases hf
      exact ke_i hQ hexec hb hr hP hD hS dX9_dropRiver_129 hlocks
    obtain ⟨n, hz⟩ := lq3_e hz
    have hL18 : ∀ (n : Nat) (v2 : Int32) (v3 : Int32) (y2_s_1 : Nat → Int32) (H : Heap) (locs : List Loc) (ls : Array Slot), it3 l18 n v2 v3 y2_s_1 = some (v2_1, y2_s_2) → va_P g.1 vwCl (w_X9_dropRiver g a0 a1 a2 u0_1 u0_2 u0_4 u0_5 u0_8 u0_9 u0_10 u0_11 u0_12 u0_13 u0_14 u0_15 u0_16 u0_17 u0_18 u0_19 u0_20 u0_21 u0_22 u0_23 u0_24 u0_25 u0_26 u0_27 u0_28 u0_29 u0_30 x0_acts_1 x0_thrown_1 y1_past_1 y2_s_1) H → va_D A (w_X9_dropRiver g a0 a1 a2 u0_1 u0_2 u0_4 u0_5 u0_8 u0_9 u0_10 u0_11 u0_12 u0_13 u0_14 u0_15 u0_16 u0_17 u0_18 u0_19 u0_20 u0_21 u0_22 u0_23 u0_24 u0_25 u0_26 u0_27 u0_28 u0_29 u0_30 x0_acts_1 x0_thrown_1 y1_past_1 y2_s_1) → va_S A s.heap H locs → lv_has ls 5 [(0, .ref a0), (1, .int p1), (2, .int v2), (3, .int v3)] → W p l e (RM 3 70) s m args below meth c H locs 0 0 Q (F0 m 18 ls []) := by
      intro n
      induction n with
      | zero =>
        intro v2 v3 y2_s_1 H locs ls hf hP hD hS hl
        exact it3_0 hf
      | succ n18 ih18 =>
        intro v2 v3 y2_s_1 H locs ls hf hP hD hS hl
        obtain ⟨q18, hf, hk18⟩ := it3_e hf
        have hf := (el18 v2 v3 y2_s_1).symm.trans hf
        refine lv_iload_n (pc := 18) hexec hb dX9_dropRiver_18 rfl (lv_at hl 3 rfl) ?_
        refine lv_aload_n (pc := 19) hexec hb dX9_dropRiver_19 rfl (lv_at hl 0 rfl) ?_
        obtain ⟨r20, hc, hf⟩ := bd1_e hf
        refine kVp (pc := 20) (S := ⟨hexec, hb, hml, hown, hts⟩) hP hD hG hA hS [0, 2] [1] [1, 0, 2] (w2 := (w_X9_dropRiver g a0 a1 a2 u0_1 u0_2 u0_4 u0_5 u0_8 u0_9 u0_10 u0_11 u0_12 u0_13 u0_14 u0_15 u0_16 u0_17 u0_18 u0_19 u0_20 u0_21 u0_22 u0_23 u0_24 u0_25 u0_26 u0_27 u0_28 u0_29 u0_30 x0_acts_1 x0_thrown_1 y1_past_1 y2_s_1)) rfl rfl rfl rfl rfl rfl (by decide) (c_X9_cells l g a0 a2 _ u0_1 u0_2 (.ref a1) u0_4 u0_5 (.int x0_acts_1) (.int x0_thrown_1) u0_8 u0_9 u0_10 u0_11 u0_12 u0_13 u0_14 u0_15 u0_16 u0_17 u0_18 u0_19 u0_20 u0_21 u0_22 u0_23 u0_24 u0_25 u0_26 u0_27 u0_28 u0_29 u0_30 y2_s_1 r20 hc) gX9_dropRiver_X9_cells rfl hv_X9_cells ⟨nle rfl, nle rfl⟩ 9 0 rfl rfl rfl (rest := [.int v3]) rfl rfl hl.1 (nle rfl) dX9_dropRiver_20 (fun H locs hP hD hS => ?_)
        refine ki_ge (pc := 23) hexec hb dX9_dropRiver_23 (tgt := 118) rfl hf (fun hc hf => ?_) (fun hc hf => ?_)
        · cases sr3 hf hk18
          exact hE18 _ _ _ hP hD hS (lv_sub hl [0, 2] rfl)
        · refine lv_aload_n (pc := 26) hexec hb dX9_dropRiver_26 rfl (lv_at hl 0 rfl) ?_
          refine lv_iload_n (pc := 27) hexec hb dX9_dropRiver_27 rfl (lv_at hl 3 rfl) ?_
          obtain ⟨r28, hc, hf⟩ := bd1_e hf
          refine kVp (pc := 28) (S := ⟨hexec, hb, hml, hown, hts⟩) hP hD hG hA hS [0, 2] [1] [1, 0, 2] (w2 := (w_X9_dropRiver g a0 a1 a2 u0_1 u0_2 u0_4 u0_5 u0_8 u0_9 u0_10 u0_11 u0_12 u0_13 u0_14 u0_15 u0_16 u0_17 u0_18 u0_19 u0_20 u0_21 u0_22 u0_23 u0_24 u0_25 u0_26 u0_27 u0_28 u0_29 u0_30 x0_acts_1 x0_thrown_1 y1_past_1 y2_s_1)) rfl rfl rfl rfl rfl rfl (by decide) (c_X9_riverAt l g a0 a2 _ u0_1 u0_2 (.ref a1) u0_4 u0_5 (.int x0_acts_1) (.int x0_thrown_1) u0_8 u0_9 u0_10 u0_11 u0_12 u0_13 u0_14 u0_15 u0_16 u0_17 u0_18 u0_19 u0_20 u0_21 u0_22 u0_23 u0_24 u0_25 u0_26 u0_27 u0_28 u0_29 u0_30 y2_s_1 v3 r28 hc) gX9_dropRiver_X9_riverAt rfl hv_X9_riverAt ⟨nle rfl, nle rfl⟩ 9 0 rfl rfl rfl (rest := []) rfl rfl hl.1 (nle rfl) dX9_dropRiver_28 (fun H locs hP hD hS => ?_)
          refine lv_istore (pc := 31) hexec hb dX9_dropRiver_31 hl (nle rfl) rfl (fun ls (hl : lv_has ls 5 [(4, .int r28), (0, .ref a0), (1, .int p1), (2, .int v2), (3, .int v3)]) => ?_)
          refine lv_iload_n (pc := 33) hexec hb dX9_dropRiver_33 rfl (lv_at hl 3 rfl) ?_
          refine lv_iload (pc := 34) hexec hb dX9_dropRiver_34 (lv_at hl 0 rfl) ?_
          refine lv_iload_n (pc := 36) hexec hb dX9_dropRiver_36 rfl (lv_at hl 2 rfl) ?_
          obtain ⟨j45, ej45, hf⟩ := bvf1 hf
          have hj45 : ∀ (t45 : Int32) (H : Heap) (locs : List Loc) (ls : Array Slot), j45 t45 = some q18 → va_P g.1 vwCl (w_X9_dropRiver g a0 a1 a2 u0_1 u0_2 u0_4 u0_5 u0_8 u0_9 u0_10 u0_11 u0_12 u0_13 u0_14 u0_15 u0_16 u0_17 u0_18 u0_19 u0_20 u0_21 u0_22 u0_23 u0_24 u0_25 u0_26 u0_27 u0_28 u0_29 u0_30 x0_acts_1 x0_thrown_1 y1_past_1 y2_s_1) H → va_D A (w_X9_dropRiver g a0 a1 a2 u0_1 u0_2 u0_4 u0_5 u0_8 u0_9 u0_10 u0_11 u0_12 u0_13 u0_14 u0_15 u0_16 u0_17 u0_18 u0_19 u0_20 u0_21 u0_22 u0_23 u0_24 u0_25 u0_26 u0_27 u0_28 u0_29 u0_30 x0_acts_1 x0_thrown_1 y1_past_1 y2_s_1) → va_S A s.heap H locs → lv_has ls 5 [(0, .ref a0), (1, .int p1), (3, .int v3), (4, .int r28)] → W p l e (RM 3 70) s m args below meth c H locs 0 0 Q (F0 m 45 ls [.int t45, .int v2]) := by
            intro t45 H locs ls hf hP hD hS hl
            have hf := (ej45 t45).symm.trans hf
            refine lv_iadd (pc := 45) hexec hb dX9_dropRiver_45 ?_
            obtain ⟨v2_2, ev2_2, hf⟩ := bv_e hf
            refine kn_i ev2_2 ?_
            refine lv_istore_n (pc := 46) hexec hb dX9_dropRiver_46 rfl hl (nle rfl) rfl (fun ls (hl : lv_has ls 5 [(2, .int v2_2), (0, .ref a0), (1, .int p1), (3, .int v3), (4, .int r28)]) => ?_)
            refine lv_aload_n (pc := 47) hexec hb dX9_dropRiver_47 rfl (lv_at hl 1 rfl) ?_
            refine kg_get (pc := 48) hexec hb (own := RX9) hWX9 hown hG hP 0 rfl rfl 0 (nle rfl) (hts _ (List.mem_cons_of_mem _ (List.mem_append_left _ (List.mem_append_left _ (List.mem_of_getElem? (i := 0) rfl))))) rfl rfl dX9_dropRiver_48 ?_
            refine lv_sipush (pc := 51) hexec hb dX9_dropRiver_51 ks_152 ?_
            refine lv_iload_n (pc := 54) hexec hb dX9_dropRiver_54 rfl (lv_at hl 3 rfl) ?_
            refine lv_iadd (pc := 55) hexec hb dX9_dropRiver_55 ?_
            refine lv_iload (pc := 56) hexec hb dX9_dropRiver_56 (lv_at hl 4 rfl) ?_
            refine lv_iload_n (pc := 58) hexec hb dX9_dropRiver_58 rfl (lv_at hl 2 rfl) ?_
            obtain ⟨j81, ej81, hf⟩ := bvf1 hf
            have hj81 : ∀ (t81 : Int32) (H : Heap) (locs : List Loc) (ls : Array Slot), j81 t81 = some q18 → va_P g.1 vwCl (w_X9_dropRiver g a0 a1 a2 u0_1 u0_2 u0_4 u0_5 u0_8 u0_9 u0_10 u0_11 u0_12 u0_13 u0_14 u0_15 u0_16 u0_17 u0_18 u0_19 u0_20 u0_21 u0_22 u0_23 u0_24 u0_25 u0_26 u0_27 u0_28 u0_29 u0_30 x0_acts_1 x0_thrown_1 y1_past_1 y2_s_1) H → va_D A (w_X9_dropRiver g a0 a1 a2 u0_1 u0_2 u0_4 u0_5 u0_8 u0_9 u0_10 u0_11 u0_12 u0_13 u0_14 u0_15 u0_16 u0_17 u0_18 u0_19 u0_20 u0_21 u0_22 u0_23 u0_24 u0_25 u0_26 u0_27 u0_28 u0_29 u0_30 x0_acts_1 x0_thrown_1 y1_past_1 y2_s_1) → va_S A s.heap H locs → lv_has ls 5 [(0, .ref a0), (1, .int p1), (2, .int v2_2), (3, .int v3), (4, .int r28)] → W p l e (RM 3 70) s m args below meth c H locs 0 0 Q (F0 m 81 ls [.int t81, .int (152 + v3), .ref a2]) := by
              intro t81 H locs ls hf hP hD hS hl
              have hf := (ej81 t81).symm.trans hf
              refine kw_iast (pc := 81) hexec hb hG hP hD hS 2 rfl hf dX9_dropRiver_81 (fun y2_s_3 H locs hf (hP : va_P g.1 vwCl (w_X9_dropRiver g a0 a1 a2 u0_1 u0_2 u0_4 u0_5 u0_8 u0_9 u0_10 u0_11 u0_12 u0_13 u0_14 u0_15 u0_16 u0_17 u0_18 u0_19 u0_20 u0_21 u0_22 u0_23 u0_24 u0_25 u0_26 u0_27 u0_28 u0_29 u0_30 x0_acts_1 x0_thrown_1 y1_past_1 y2_s_3) H) (hD : va_D A (w_X9_dropRiver g a0 a1 a2 u0_1 u0_2 u0_4 u0_5 u0_8 u0_9 u0_10 u0_11 u0_12 u0_13 u0_14 u0_15 u0_16 u0_17 u0_18 u0_19 u0_20 u0_21 u0_22 u0_23 u0_24 u0_25 u0_26 u0_27 u0_28 u0_29 u0_30 x0_acts_1 x0_thrown_1 y1_past_1 y2_s_3)) hS => ?_)
              refine lv_aload_n (pc := 82) hexec hb dX9_dropRiver_82 rfl (lv_at hl 0 rfl) ?_
              refine kg_get (pc := 83) hexec hb (own := RX9) hWX9 hown hG hP 0 rfl rfl 0 (nle rfl) (hts _ (List.mem_cons_of_mem _ (List.mem_append_left _ (List.mem_append_left _ (List.mem_of_getElem? (i := 0) rfl))))) rfl rfl dX9_dropRiver_83 ?_
              refine lv_sipush (pc := 86) hexec hb dX9_dropRiver_86 ks_296 ?_
              refine lv_iload_n (pc := 89) hexec hb dX9_dropRiver_89 rfl (lv_at hl 3 rfl) ?_
              refine lv_iadd (pc := 90) hexec hb dX9_dropRiver_90 ?_
              refine lv_iload (pc := 91) hexec hb dX9_dropRiver_91 (lv_at hl 4 rfl) ?_
              refine lv_iload_n (pc := 93) hexec hb dX9_dropRiver_93 rfl (lv_at hl 1 rfl) ?_
              obtain ⟨j111, ej111, hf⟩ := bvf1 hf
              have hj111 : ∀ (t111 : Int32) (H : Heap) (locs : List Loc) (ls : Array Slot), j111 t111 = some q18 → va_P g.1 vwCl (w_X9_dropRiver g a0 a1 a2 u0_1 u0_2 u0_4 u0_5 u0_8 u0_9 u0_10 u0_11 u0_12 u0_13 u0_14 u0_15 u0_16 u0_17 u0_18 u0_19 u0_20 u0_21 u0_22 u0_23 u0_24 u0_25 u0_26 u0_27 u0_28 u0_29 u0_30 x0_acts_1 x0_thrown_1 y1_past_1 y2_s_3) H → va_D A (w_X9_dropRiver g a0 a1 a2 u0_1 u0_2 u0_4 u0_5 u0_8 u0_9 u0_10 u0_11 u0_12 u0_13 u0_14 u0_15 u0_16 u0_17 u0_18 u0_19 u0_20 u0_21 u0_22 u0_23 u0_24 u0_25 u0_26 u0_27 u0_28 u0_29 u0_30 x0_acts_1 x0_thrown_1 y1_past_1 y2_s_3) → va_S A s.heap H locs → lv_has ls 5 [(0, .ref a0), (1, .int p1), (2, .int v2_2), (3, .int v3)] → W p l e (RM 3 70) s m args below meth c H locs 0 0 Q (F0 m 111 ls [.int t111, .int (296 + v3), .ref a2]) := by
                intro t111 H locs ls hf hP hD hS hl
                have hf := (ej111 t111).symm.trans hf
                refine kw_iast (pc := 111) hexec hb hG hP hD hS 2 rfl hf dX9_dropRiver_111 (fun y2_s_4 H locs hf (hP : va_P g.1 vwCl (w_X9_dropRiver g a0 a1 a2 u0_1 u0_2 u0_4 u0_5 u0_8 u0_9 u0_10 u0_11 u0_12 u0_13 u0_14 u0_15 u0_16 u0_17 u0_18 u0_19 u0_20 u0_21 u0_22 u0_23 u0_24 u0_25 u0_26 u0_27 u0_28 u0_29 u0_30 x0_acts_1 x0_thrown_1 y1_past_1 y2_s_4) H) (hD : va_D A (w_X9_dropRiver g a0 a1 a2 u0_1 u0_2 u0_4 u0_5 u0_8 u0_9 u0_10 u0_11 u0_12 u0_13 u0_14 u0_15 u0_16 u0_17 u0_18 u0_19 u0_20 u0_21 u0_22 u0_23 u0_24 u0_25 u0_26 u0_27 u0_28 u0_29 u0_30 x0_acts_1 x0_thrown_1 y1_past_1 y2_s_4)) hS => ?_)
                obtain ⟨v3_1, ev3_1, hf⟩ := bv_e hf
                refine k_iinc (pc := 112) hexec hb dX9_dropRiver_112 kq_1 hl (k := 3) rfl ev3_1 (nle rfl) rfl (fun ls (hl : lv_has ls 5 [(3, .int v3_1), (0, .ref a0), (1, .int p1), (2, .int v2_2)]) => ?_)
                refine lv_goto (pc := 115) hexec hb dX9_dropRiver_115 (tgt := 18) rfl ?_
                exact ih18 _ _ _ _ _ _ (sl3 hf hk18) hP hD hS (lv_sub hl [1, 2, 3, 0] rfl)
              refine ki_ne (pc := 94) hexec hb dX9_dropRiver_94 (tgt := 101) rfl hf (fun hc hf => ?_) (fun hc hf => ?_)
              · refine lv_aload_n (pc := 101) hexec hb dX9_dropRiver_101 rfl (lv_at hl 0 rfl) ?_
                refine kg_get (pc := 102) hexec hb (own := RX9) hWX9 hown hG hP 0 rfl rfl 0 (nle rfl) (hts _ (List.mem_cons_of_mem _ (List.mem_append_left _ (List.mem_append_left _ (List.mem_of_getElem? (i := 0) rfl))))) rfl rfl dX9_dropRiver_102 ?_
                refine lv_sipush (pc := 105) hexec hb dX9_dropRiver_105 ks_296 ?_
                refine lv_iload_n (pc := 108) hexec hb dX9_dropRiver_108 rfl (lv_at hl 3 rfl) ?_
                refine lv_iadd (pc := 109) hexec hb dX9_dropRiver_109 ?_
                refine kr_iald (pc := 110) hexec hb hG hP 2 rfl hf dX9_dropRiver_110 (fun hf => ?_)
                exact hj111 _ _ _ _ hf hP hD hS (lv_sub hl [0, 1, 2, 3] rfl)
              · refine lv_iconst (pc := 97) hexec hb dX9_dropRiver_97 ki_0 ?_
                refine lv_goto (pc := 98) hexec hb dX9_dropRiver_98 (tgt := 111) rfl ?_
                exact hj111 _ _ _ _ hf hP hD hS (lv_sub hl [0, 1, 2, 3] rfl)
            refine ki_ne (pc := 59) hexec hb dX9_dropRiver_59 (tgt := 66) rfl hf (fun hc hf => ?_) (fun hc hf => ?_)
            · refine lv_iload (pc := 66) hexec hb dX9_dropRiver_66 (lv_at hl 4 rfl) ?_
              refine lv_iload_n (pc := 68) hexec hb dX9_dropRiver_68 rfl (lv_at hl 2 rfl) ?_
              refine ki_le (pc := 69) hexec hb dX9_dropRiver_69 (tgt := 77) rfl hf (fun hc hf => ?_) (fun hc hf => ?_)
              · refine lv_iload (pc := 77) hexec hb dX9_dropRiver_77 (lv_at hl 4 rfl) ?_
                refine lv_iconst (pc := 79) hexec hb dX9_dropRiver_79 ki_1 ?_
                refine lv_iadd (pc := 80) hexec hb dX9_dropRiver_80 ?_
                exact hj81 _ _ _ _ hf hP hD hS (lv_sub hl [1, 2, 0, 3, 4] rfl)
              · refine lv_iload (pc := 72) hexec hb dX9_dropRiver_72 (lv_at hl 4 rfl) ?_
                refine lv_goto (pc := 74) hexec hb dX9_dropRiver_74 (tgt := 81) rfl ?_
                exact hj81 _ _ _ _ hf hP hD hS (lv_sub hl [1, 2, 0, 3, 4] rfl)
            · refine lv_iconst (pc := 62) hexec hb dX9_dropRiver_62 ki_0 ?_
              refine lv_goto (pc := 63) hexec hb dX9_dropRiver_63 (tgt := 81) rfl ?_
              exact hj81 _ _ _ _ hf hP hD hS (lv_sub hl [1, 2, 0, 3, 4] rfl)
          refine ki_ne (pc := 37) hexec hb dX9_dropRiver_37 (tgt := 44) rfl hf (fun hc hf => ?_) (fun hc hf => ?_)
          · refine lv_iconst (pc := 44) hexec hb dX9_dropRiver_44 ki_0 ?_
            exact hj45 _ _ _ _ hf hP hD hS (lv_sub hl [1, 2, 4, 0] rfl)
          · refine lv_iconst (pc := 40) hexec hb dX9_dropRiver_40 ki_1 ?_
            refine lv_goto (pc := 41) hexec hb dX9_dropRiver_41 (tgt := 45) rfl ?_
            exact hj45 _ _ _ _ hf hP hD hS (lv_sub hl [1, 2, 4, 0] rfl)
    exact hL18 n _ _ _ _ _ _ hz hP hD hS (lv_sub hl [2, 3, 1, 0] rfl)
  · refine lv_iconst (pc := 8) hexec hb dX9_dropRiver_8 ki_0 ?_
    cases hf
    exact ke_i hQ hexec hb hr hP hD hS dX9_dropRiver_9 hlocks
abbrev w_X9_erode (g : GE) (a0 a1 a2 : Nat) (u0_1 u0_2 u0_4 u0_5 u0_8 u0_9 u0_10 u0_11 u0_12 u0_13 u0_14 u0_15 u0_16 u0_17 u0_18 u0_19 u0_20 u0_21 u0_22 u0_23 u0_24 u0_25 u0_26 u0_27 u0_28 u0_29 u0_30 : Value) (x0_acts : Int32) (x0_thrown : Int32) (y1_past : Nat → Int32) (y2_s : Nat → Int32) : va_W := [(a0, .inr (9, [.ref a2, u0_1, u0_2, .ref a1, u0_4, u0_5, .int x0_acts, .int x0_thrown, u0_8, u0_9, u0_10, u0_11, u0_12, u0_13, u0_14, u0_15, u0_16, u0_17, u0_18, u0_19, u0_20, u0_21, u0_22, u0_23, u0_24, u0_25, u0_26, u0_27, u0_28, u0_29, u0_30])), (a1, .inl (g.2.1 0, 4416, .inl y1_past)), (a2, .inl (g.2.1 0, 552, .inl y2_s))]
set_option maxRecDepth 20000 in
theorem c_X9_erode (l : Launch) (g : GE) (a0 a1 a2 : Nat) (sz : Nat) (u0_1 u0_2 u0_4 u0_5 u0_8 u0_9 u0_10 u0_11 u0_12 u0_13 u0_14 u0_15 u0_16 u0_17 u0_18 u0_19 u0_20 u0_21 u0_22 u0_23 u0_24 u0_25 u0_26 u0_27 u0_28 u0_29 u0_30 : Value) (x0_acts : Int32) (x0_thrown : Int32) (y1_past : Nat → Int32) (y2_s : Nat → Int32) (p1 : Int32)  (r : Int32) (o_x0_acts : Int32) (o_x0_thrown : Int32) (o_y1_past : Nat → Int32) (o_y2_s : Nat → Int32) (hf : f_X9_erode x0_acts x0_thrown y1_past y2_s p1 = some (r, o_x0_acts, o_x0_thrown, o_y1_past, o_y2_s)) : MI l g yX9_erode wsX9_erode 6 143 [.ref a0, .int p1] (w_X9_erode g a0 a1 a2 u0_1 u0_2 u0_4 u0_5 u0_8 u0_9 u0_10 u0_11 u0_12 u0_13 u0_14 u0_15 u0_16 u0_17 u0_18 u0_19 u0_20 u0_21 u0_22 u0_23 u0_24 u0_25 u0_26 u0_27 u0_28 u0_29 u0_30 x0_acts x0_thrown y1_past y2_s) sz (some (.int r)) (w_X9_erode g a0 a1 a2 u0_1 u0_2 u0_4 u0_5 u0_8 u0_9 u0_10 u0_11 u0_12 u0_13 u0_14 u0_15 u0_16 u0_17 u0_18 u0_19 u0_20 u0_21 u0_22 u0_23 u0_24 u0_25 u0_26 u0_27 u0_28 u0_29 u0_30 o_x0_acts o_x0_thrown o_y1_past o_y2_s) := by
  refine MI.start (cc := cX9_erode) (maxL := 3) (ret := (some .int)) rfl rfl (nle rfl) ?_
  intro p e s m args below meth c A ls Q hQ hexec hb hr hts hown hlocks hml hA hP hD hG hS hl
  unfold f_X9_erode at hf
  have hWX9 : ∀ w ∈ wsX90, w.before args s = true := fun w h => hts w (List.mem_cons_of_mem _ (List.mem_append_right _ h))
  have hS : va_S A s.heap s.heap [] := hS
  refine lv_aload_n (pc := 0) hexec hb dX9_erode_0 rfl (lv_at hl 0 rfl) ?_
  refine lv_iload_n (pc := 1) hexec hb dX9_erode_1 rfl (lv_at hl 1 rfl) ?_
  obtain ⟨r2, x0_thrown_1, hc, hf⟩ := bd2_e hf
  refine kVp (pc := 2) (S := ⟨hexec, hb, hml, hown, hts⟩) hP hD hG hA hS [0, 2] [1] [1, 0, 2] (w2 := (w_X9_erode g a0 a1 a2 u0_1 u0_2 u0_4 u0_5 u0_8 u0_9 u0_10 u0_11 u0_12 u0_13 u0_14 u0_15 u0_16 u0_17 u0_18 u0_19 u0_20 u0_21 u0_22 u0_23 u0_24 u0_25 u0_26 u0_27 u0_28 u0_29 u0_30 x0_acts x0_thrown_1 y1_past y2_s)) rfl rfl rfl rfl rfl rfl (by decide) (c_X9_mayCell l g a0 a2 _ u0_1 u0_2 (.ref a1) u0_4 u0_5 (.int x0_acts) u0_8 u0_9 u0_10 u0_11 u0_12 u0_13 u0_14 u0_15 u0_16 u0_17 u0_18 u0_19 u0_20 u0_21 u0_22 u0_23 u0_24 u0_25 u0_26 u0_27 u0_28 u0_29 u0_30 x0_thrown y2_s p1 r2 x0_thrown_1 hc) gX9_erode_X9_mayCell rfl hv_X9_mayCell ⟨nle rfl, nle rfl⟩ 9 0 rfl rfl rfl (rest := []) rfl rfl hl.1 (nle rfl) dX9_erode_2 (fun H locs hP hD hS => ?_)
  refine kb_ne (pc := 5) hexec hb dX9_erode_5 (tgt := 10) rfl hf (fun hc hf => ?_) (fun hc hf => ?_)
  · refine lv_aload_n (pc := 10) hexec hb dX9_erode_10 rfl (lv_at hl 0 rfl) ?_
    refine lv_iload_n (pc := 11) hexec hb dX9_erode_11 rfl (lv_at hl 1 rfl) ?_
    obtain ⟨r12, hc, hf⟩ := bd1_e hf
    refine kVp (pc := 12) (S := ⟨hexec, hb, hml, hown, hts⟩) hP hD hG hA hS [0, 2] [1] [1, 0, 2] (w2 := (w_X9_erode g a0 a1 a2 u0_1 u0_2 u0_4 u0_5 u0_8 u0_9 u0_10 u0_11 u0_12 u0_13 u0_14 u0_15 u0_16 u0_17 u0_18 u0_19 u0_20 u0_21 u0_22 u0_23 u0_24 u0_25 u0_26 u0_27 u0_28 u0_29 u0_30 x0_acts x0_thrown_1 y1_past y2_s)) rfl rfl rfl rfl rfl rfl (by decide) (c_X9_canBegin l g a0 a2 _ u0_1 u0_2 (.ref a1) u0_4 u0_5 (.int x0_acts) (.int x0_thrown_1) u0_8 u0_9 u0_10 u0_11 u0_12 u0_13 u0_14 u0_15 u0_16 u0_17 u0_18 u0_19 u0_20 u0_21 u0_22 u0_23 u0_24 u0_25 u0_26 u0_27 u0_28 u0_29 u0_30 y2_s p1 r12 hc) gX9_erode_X9_canBegin rfl hv_X9_canBegin ⟨nle rfl, nle rfl⟩ 9 0 rfl rfl rfl (rest := []) rfl rfl hl.1 (nle rfl) dX9_erode_12 (fun H locs hP hD hS => ?_)
    refine kb_ne (pc := 15) hexec hb dX9_erode_15 (tgt := 21) rfl hf (fun hc hf => ?_) (fun hc hf => ?_)
    · refine lv_aload_n (pc := 21) hexec hb dX9_erode_21 rfl (lv_at hl 0 rfl) ?_
      obtain ⟨x0_acts_1, y1_past_1, hc, hf⟩ := bd2_e hf
      refine kVp (pc := 22) (S := ⟨hexec, hb, hml, hown, hts⟩) hP hD hG hA hS [0, 1, 2] [] [0, 1, 2] (w2 := (w_X9_erode g a0 a1 a2 u0_1 u0_2 u0_4 u0_5 u0_8 u0_9 u0_10 u0_11 u0_12 u0_13 u0_14 u0_15 u0_16 u0_17 u0_18 u0_19 u0_20 u0_21 u0_22 u0_23 u0_24 u0_25 u0_26 u0_27 u0_28 u0_29 u0_30 x0_acts_1 x0_thrown_1 y1_past_1 y2_s)) rfl rfl rfl rfl rfl rfl (by decide) (c_X9_keeps l g a0 a1 a2 _ u0_1 u0_2 u0_4 u0_5 (.int x0_thrown_1) u0_8 u0_9 u0_10 u0_11 u0_12 u0_13 u0_14 u0_15 u0_16 u0_17 u0_18 u0_19 u0_20 u0_21 u0_22 u0_23 u0_24 u0_25 u0_26 u0_27 u0_28 u0_29 u0_30 x0_acts y1_past y2_s x0_acts_1 y1_past_1 hc) gX9_erode_X9_keeps rfl hv_X9_keeps ⟨nle rfl, nle rfl⟩ 9 0 rfl rfl rfl (rest := []) rfl rfl hl.1 (nle rfl) dX9_erode_22 (fun H locs hP hD hS => ?_)
      refine lv_aload_n (pc := 25) hexec hb dX9_erode_25 rfl (lv_at hl 0 rfl) ?_
      refine lv_aload_n (pc := 26) hexec hb dX9_erode_26 rfl (lv_at hl 0 rfl) ?_
      refine lv_iload_n (pc := 27) hexec hb dX9_erode_27 rfl (lv_at hl 1 rfl) ?_
      obtain ⟨r28, hc, hf⟩ := bd1_e hf
      refine kVp (pc := 28) (S := ⟨hexec, hb, hml, hown, hts⟩) hP hD hG hA hS [0, 2] [1] [1, 0, 2] (w2 := (w_X9_erode g a0 a1 a2 u0_1 u0_2 u0_4 u0_5 u0_8 u0_9 u0_10 u0_11 u0_12 u0_13 u0_14 u0_15 u0_16 u0_17 u0_18 u0_19 u0_20 u0_21 u0_22 u0_23 u0_24 u0_25 u0_26 u0_27 u0_28 u0_29 u0_30 x0_acts_1 x0_thrown_1 y1_past_1 y2_s)) rfl rfl rfl rfl rfl rfl (by decide) (c_X9_namesIn l g a0 a2 _ u0_1 u0_2 (.ref a1) u0_4 u0_5 (.int x0_acts_1) (.int x0_thrown_1) u0_8 u0_9 u0_10 u0_11 u0_12 u0_13 u0_14 u0_15 u0_16 u0_17 u0_18 u0_19 u0_20 u0_21 u0_22 u0_23 u0_24 u0_25 u0_26 u0_27 u0_28 u0_29 u0_30 y2_s p1 r28 hc) gX9_erode_X9_namesIn rfl hv_X9_namesIn ⟨nle rfl, nle rfl⟩ 9 0 rfl rfl rfl (rest := [.ref a0]) rfl rfl hl.1 (nle rfl) dX9_erode_28 (fun H locs hP hD hS => ?_)
      obtain ⟨r31, y2_s_1, hc, hf⟩ := bd2_e hf
      refine kVp (pc := 31) (S := ⟨hexec, hb, hml, hown, hts⟩) hP hD hG hA hS [0, 2] [1] [1, 0, 2] (w2 := (w_X9_erode g a0 a1 a2 u0_1 u0_2 u0_4 u0_5 u0_8 u0_9 u0_10 u0_11 u0_12 u0_13 u0_14 u0_15 u0_16 u0_17 u0_18 u0_19 u0_20 u0_21 u0_22 u0_23 u0_24 u0_25 u0_26 u0_27 u0_28 u0_29 u0_30 x0_acts_1 x0_thrown_1 y1_past_1 y2_s_1)) rfl rfl rfl rfl rfl rfl (by decide) (c_X9_lifts l g a0 a2 _ u0_1 u0_2 (.ref a1) u0_4 u0_5 (.int x0_acts_1) (.int x0_thrown_1) u0_8 u0_9 u0_10 u0_11 u0_12 u0_13 u0_14 u0_15 u0_16 u0_17 u0_18 u0_19 u0_20 u0_21 u0_22 u0_23 u0_24 u0_25 u0_26 u0_27 u0_28 u0_29 u0_30 y2_s r28 r31 y2_s_1 hc) gX9_erode_X9_lifts rfl hv_X9_lifts ⟨nle rfl, nle rfl⟩ 9 0 rfl rfl rfl (rest := []) rfl rfl hl.1 (nle rfl) dX9_erode_31 (fun H locs hP hD hS => ?_)
      refine lv_istore_n (pc := 34) hexec hb dX9_erode_34 rfl hl (nle rfl) rfl (fun ls (hl : lv_has ls 3 [(2, .int r31), (0, .ref a0), (1, .int p1)]) => ?_)
      refine lv_aload_n (pc := 35) hexec hb dX9_erode_35 rfl (lv_at hl 1 rfl) ?_
      refine kg_get (pc := 36) hexec hb (own := RX9) hWX9 hown hG hP 0 rfl rfl 0 (nle rfl) (hts _ (List.mem_cons_of_mem _ (List.mem_append_left _ (List.mem_append_left _ (List.mem_of_getElem? (i := 0) rfl))))) rfl rfl dX9_erode_36 ?_
      refine lv_bipush (pc := 39) hexec hb dX9_erode_39 kb_8 ?_
      refine lv_iload_n (pc := 41) hexec hb dX9_erode_41 rfl (lv_at hl 2 rfl) ?_
      refine lv_iadd (pc := 42) hexec hb dX9_erode_42 ?_
      refine lv_iconst (pc := 43) hexec hb dX9_erode_43 ki_0 ?_
      refine kw_iast (pc := 44) hexec hb hG hP hD hS 2 rfl hf dX9_erode_44 (fun y2_s_2 H locs hf (hP : va_P g.1 vwCl (w_X9_erode g a0 a1 a2 u0_1 u0_2 u0_4 u0_5 u0_8 u0_9 u0_10 u0_11 u0_12 u0_13 u0_14 u0_15 u0_16 u0_17 u0_18 u0_19 u0_20 u0_21 u0_22 u0_23 u0_24 u0_25 u0_26 u0_27 u0_28 u0_29 u0_30 x0_acts_1 x0_thrown_1 y1_past_1 y2_s_2) H) (hD : va_D A (w_X9_erode g a0 a1 a2 u0_1 u0_2 u0_4 u0_5 u0_8 u0_9 u0_10 u0_11 u0_12 u0_13 u0_14 u0_15 u0_16 u0_17 u0_18 u0_19 u0_20 u0_21 u0_22 u0_23 u0_24 u0_25 u0_26 u0_27 u0_28 u0_29 u0_30 x0_acts_1 x0_thrown_1 y1_past_1 y2_s_2)) hS => ?_)
      refine lv_iload_n (pc := 45) hexec hb dX9_erode_45 rfl (lv_at hl 0 rfl) ?_
      cases hf
      exact ke_i hQ hexec hb hr hP hD hS dX9_erode_46 hlocks
    · refine lv_bipush (pc := 18) hexec hb dX9_erode_18 kb_m3 ?_
      cases hf
      exact ke_i hQ hexec hb hr hP hD hS dX9_erode_20 hlocks
  · refine lv_iconst (pc := 8) hexec hb dX9_erode_8 ki_0 ?_
    cases hf
    exact ke_i hQ hexec hb hr hP hD hS dX9_erode_9 hlocks
abbrev w_X9_raise (g : GE) (a0 a1 a2 : Nat) (u0_1 u0_2 u0_4 u0_5 u0_8 u0_9 u0_10 u0_11 u0_12 u0_13 u0_14 u0_15 u0_16 u0_17 u0_18 u0_19 u0_20 u0_21 u0_22 u0_23 u0_24 u0_25 u0_26 u0_27 u0_28 u0_29 u0_30 : Value) (x0_acts : Int32) (x0_thrown : Int32) (y1_past : Nat → Int32) (y2_s : Nat → Int32) : va_W := [(a0, .inr (9, [.ref a2, u0_1, u0_2, .ref a1, u0_4, u0_5, .int x0_acts, .int x0_thrown, u0_8, u0_9, u0_10, u0_11, u0_12, u0_13, u0_14, u0_15, u0_16, u0_17, u0_18, u0_19, u0_20, u0_21, u0_22, u0_23, u0_24, u0_25, u0_26, u0_27, u0_28, u0_29, u0_30])), (a1, .inl (g.2.1 0, 4416, .inl y1_past)), (a2, .inl (g.2.1 0, 552, .inl y2_s))]
set_option maxRecDepth 20000 in
theorem c_X9_raise (l : Launch) (g : GE) (a0 a1 a2 : Nat) (sz : Nat) (u0_1 u0_2 u0_4 u0_5 u0_8 u0_9 u0_10 u0_11 u0_12 u0_13 u0_14 u0_15 u0_16 u0_17 u0_18 u0_19 u0_20 u0_21 u0_22 u0_23 u0_24 u0_25 u0_26 u0_27 u0_28 u0_29 u0_30 : Value) (x0_acts : Int32) (x0_thrown : Int32) (y1_past : Nat → Int32) (y2_s : Nat → Int32) (p1 : Int32)  (r : Int32) (o_x0_acts : Int32) (o_x0_thrown : Int32) (o_y1_past : Nat → Int32) (o_y2_s : Nat → Int32) (hf : f_X9_raise x0_acts x0_thrown y1_past y2_s p1 = some (r, o_x0_acts, o_x0_thrown, o_y1_past, o_y2_s)) : MI l g yX9_raise wsX9_raise 4 97 [.ref a0, .int p1] (w_X9_raise g a0 a1 a2 u0_1 u0_2 u0_4 u0_5 u0_8 u0_9 u0_10 u0_11 u0_12 u0_13 u0_14 u0_15 u0_16 u0_17 u0_18 u0_19 u0_20 u0_21 u0_22 u0_23 u0_24 u0_25 u0_26 u0_27 u0_28 u0_29 u0_30 x0_acts x0_thrown y1_past y2_s) sz (some (.int r)) (w_X9_raise g a0 a1 a2 u0_1 u0_2 u0_4 u0_5 u0_8 u0_9 u0_10 u0_11 u0_12 u0_13 u0_14 u0_15 u0_16 u0_17 u0_18 u0_19 u0_20 u0_21 u0_22 u0_23 u0_24 u0_25 u0_26 u0_27 u0_28 u0_29 u0_30 o_x0_acts o_x0_thrown o_y1_past o_y2_s) := by
  refine MI.start (cc := cX9_raise) (maxL := 5) (ret := (some .int)) rfl rfl (nle rfl) ?_
  intro p e s m args below meth c A ls Q hQ hexec hb hr hts hown hlocks hml hA hP hD hG hS hl
  unfold f_X9_raise at hf
  have hWX9 : ∀ w ∈ wsX90, w.before args s = true := fun w h => hts w (List.mem_cons_of_mem _ (List.mem_append_right _ h))
  have hS : va_S A s.heap s.heap [] := hS
  refine lv_aload_n (pc := 0) hexec hb dX9_raise_0 rfl (lv_at hl 0 rfl) ?_
  refine lv_iload_n (pc := 1) hexec hb dX9_raise_1 rfl (lv_at hl 1 rfl) ?_
  obtain ⟨r2, x0_thrown_1, hc, hf⟩ := bd2_e hf
  refine kVp (pc := 2) (S := ⟨hexec, hb, hml, hown, hts⟩) hP hD hG hA hS [0, 2] [1] [1, 0, 2] (w2 := (w_X9_raise g a0 a1 a2 u0_1 u0_2 u0_4 u0_5 u0_8 u0_9 u0_10 u0_11 u0_12 u0_13 u0_14 u0_15 u0_16 u0_17 u0_18 u0_19 u0_20 u0_21 u0_22 u0_23 u0_24 u0_25 u0_26 u0_27 u0_28 u0_29 u0_30 x0_acts x0_thrown_1 y1_past y2_s)) rfl rfl rfl rfl rfl rfl (by decide) (c_X9_mayCell l g a0 a2 _ u0_1 u0_2 (.ref a1) u0_4 u0_5 (.int x0_acts) u0_8 u0_9 u0_10 u0_11 u0_12 u0_13 u0_14 u0_15 u0_16 u0_17 u0_18 u0_19 u0_20 u0_21 u0_22 u0_23 u0_24 u0_25 u0_26 u0_27 u0_28 u0_29 u0_30 x0_thrown y2_s p1 r2 x0_thrown_1 hc) gX9_raise_X9_mayCell rfl hv_X9_mayCell ⟨nle rfl, nle rfl⟩ 9 0 rfl rfl rfl (rest := []) rfl rfl hl.1 (nle rfl) dX9_raise_2 (fun H locs hP hD hS => ?_)
  refine kb_ne (pc := 5) hexec hb dX9_raise_5 (tgt := 10) rfl hf (fun hc hf => ?_) (fun hc hf => ?_)
  · refine lv_aload_n (pc := 10) hexec hb dX9_raise_10 rfl (lv_at hl 0 rfl) ?_
    refine lv_iload_n (pc := 11) hexec hb dX9_raise_11 rfl (lv_at hl 1 rfl) ?_
    obtain ⟨r12, hc, hf⟩ := bd1_e hf
    refine kVp (pc := 12) (S := ⟨hexec, hb, hml, hown, hts⟩) hP hD hG hA hS [0, 2] [1] [1, 0, 2] (w2 := (w_X9_raise g a0 a1 a2 u0_1 u0_2 u0_4 u0_5 u0_8 u0_9 u0_10 u0_11 u0_12 u0_13 u0_14 u0_15 u0_16 u0_17 u0_18 u0_19 u0_20 u0_21 u0_22 u0_23 u0_24 u0_25 u0_26 u0_27 u0_28 u0_29 u0_30 x0_acts x0_thrown_1 y1_past y2_s)) rfl rfl rfl rfl rfl rfl (by decide) (c_X9_isLand l g a0 a2 _ u0_1 u0_2 (.ref a1) u0_4 u0_5 (.int x0_acts) (.int x0_thrown_1) u0_8 u0_9 u0_10 u0_11 u0_12 u0_13 u0_14 u0_15 u0_16 u0_17 u0_18 u0_19 u0_20 u0_21 u0_22 u0_23 u0_24 u0_25 u0_26 u0_27 u0_28 u0_29 u0_30 y2_s p1 r12 hc) gX9_raise_X9_isLand rfl hv_X9_isLand ⟨nle rfl, nle rfl⟩ 9 0 rfl rfl rfl (rest := []) rfl rfl hl.1 (nle rfl) dX9_raise_12 (fun H locs hP hD hS => ?_)
    refine kb_eq (pc := 15) hexec hb dX9_raise_15 (tgt := 21) rfl hf (fun hc hf => ?_) (fun hc hf => ?_)
    · refine lv_aload_n (pc := 21) hexec hb dX9_raise_21 rfl (lv_at hl 0 rfl) ?_
      refine kg_get (pc := 22) hexec hb (own := RX9) hWX9 hown hG hP 0 rfl rfl 0 (nle rfl) (hts _ (List.mem_cons_of_mem _ (List.mem_append_left _ (List.mem_append_left _ (List.mem_of_getElem? (i := 0) rfl))))) rfl rfl dX9_raise_22 ?_
      refine lv_bipush (pc := 25) hexec hb dX9_raise_25 kb_8 ?_
      refine lv_iload_n (pc := 27) hexec hb dX9_raise_27 rfl (lv_at hl 1 rfl) ?_
      refine lv_iadd (pc := 28) hexec hb dX9_raise_28 ?_
      refine lv_iconst (pc := 29) hexec hb dX9_raise_29 ki_1 ?_
      refine kw_iast (pc := 30) hexec hb hG hP hD hS 2 rfl hf dX9_raise_30 (fun y2_s_1 H locs hf (hP : va_P g.1 vwCl (w_X9_raise g a0 a1 a2 u0_1 u0_2 u0_4 u0_5 u0_8 u0_9 u0_10 u0_11 u0_12 u0_13 u0_14 u0_15 u0_16 u0_17 u0_18 u0_19 u0_20 u0_21 u0_22 u0_23 u0_24 u0_25 u0_26 u0_27 u0_28 u0_29 u0_30 x0_acts x0_thrown_1 y1_past y2_s_1) H) (hD : va_D A (w_X9_raise g a0 a1 a2 u0_1 u0_2 u0_4 u0_5 u0_8 u0_9 u0_10 u0_11 u0_12 u0_13 u0_14 u0_15 u0_16 u0_17 u0_18 u0_19 u0_20 u0_21 u0_22 u0_23 u0_24 u0_25 u0_26 u0_27 u0_28 u0_29 u0_30 x0_acts x0_thrown_1 y1_past y2_s_1)) hS => ?_)
      refine lv_iconst (pc := 31) hexec hb dX9_raise_31 ki_1 ?_
      refine lv_istore_n (pc := 32) hexec hb dX9_raise_32 rfl hl (nle rfl) rfl (fun ls (hl : lv_has ls 5 [(2, .int 1), (0, .ref a0), (1, .int p1)]) => ?_)
      refine lv_iconst (pc := 33) hexec hb dX9_raise_33 ki_0 ?_
      refine lv_istore_n (pc := 34) hexec hb dX9_raise_34 rfl hl (nle rfl) rfl (fun ls (hl : lv_has ls 5 [(3, .int 0), (2, .int 1), (0, .ref a0), (1, .int p1)]) => ?_)
      refine lv_iconst (pc := 35) hexec hb dX9_raise_35 ki_0 ?_
      refine lv_istore (pc := 36) hexec hb dX9_raise_36 hl (nle rfl) rfl (fun ls (hl : lv_has ls 5 [(4, .int 0), (3, .int 0), (2, .int 1), (0, .ref a0), (1, .int p1)]) => ?_)
      obtain ⟨l38, el38, hf⟩ := bvf3 hf
      obtain ⟨v2_1, v3_1, hz, hf⟩ := bd2_e hf
      have hE38 : ∀ (H : Heap) (locs : List Loc) (ls : Array Slot), va_P g.1 vwCl (w_X9_raise g a0 a1 a2 u0_1 u0_2 u0_4 u0_5 u0_8 u0_9 u0_10 u0_11 u0_12 u0_13 u0_14 u0_15 u0_16 u0_17 u0_18 u0_19 u0_20 u0_21 u0_22 u0_23 u0_24 u0_25 u0_26 u0_27 u0_28 u0_29 u0_30 x0_acts x0_thrown_1 y1_past y2_s_1) H → va_D A (w_X9_raise g a0 a1 a2 u0_1 u0_2 u0_4 u0_5 u0_8 u0_9 u0_10 u0_11 u0_12 u0_13 u0_14 u0_15 u0_16 u0_17 u0_18 u0_19 u0_20 u0_21 u0_22 u0_23 u0_24 u0_25 u0_26 u0_27 u0_28 u0_29 u0_30 x0_acts x0_thrown_1 y1_past y2_s_1) → va_S A s.heap H locs → lv_has ls 5 [(0, .ref a0), (1, .int p1), (2, .int v2_1), (3, .int v3_1)] → W p l e (RM 4 97) s m args below meth c H locs 0 0 Q (F0 m 129 ls []) := by
        intro H locs ls hP hD hS hl
        refine lv_aload_n (pc := 129) hexec hb dX9_raise_129 rfl (lv_at hl 0 rfl) ?_
        refine kg_get (pc := 130) hexec hb (own := RX9) hWX9 hown hG hP 0 rfl rfl 0 (nle rfl) (hts _ (List.mem_cons_of_mem _ (List.mem_append_left _ (List.mem_append_left _ (List.mem_of_getElem? (i := 0) rfl))))) rfl rfl dX9_raise_130 ?_
        refine lv_bipush (pc := 133) hexec hb dX9_raise_133 kb_8 ?_
        refine lv_iload_n (pc := 135) hexec hb dX9_raise_135 rfl (lv_at hl 1 rfl) ?_
        refine lv_iadd (pc := 136) hexec hb dX9_raise_136 ?_
        refine lv_iconst (pc := 137) hexec hb dX9_raise_137 ki_0 ?_
        refine kw_iast (pc := 138) hexec hb hG hP hD hS 2 rfl hf dX9_raise_138 (fun y2_s_2 H locs hf (hP : va_P g.1 vwCl (w_X9_raise g a0 a1 a2 u0_1 u0_2 u0_4 u0_5 u0_8 u0_9 u0_10 u0_11 u0_12 u0_13 u0_14 u0_15 u0_16 u0_17 u0_18 u0_19 u0_20 u0_21 u0_22 u0_23 u0_24 u0_25 u0_26 u0_27 u0_28 u0_29 u0_30 x0_acts x0_thrown_1 y1_past y2_s_2) H) (hD : va_D A (w_X9_raise g a0 a1 a2 u0_1 u0_2 u0_4 u0_5 u0_8 u0_9 u0_10 u0_11 u0_12 u0_13 u0_14 u0_15 u0_16 u0_17 u0_18 u0_19 u0_20 u0_21 u0_22 u0_23 u0_24 u0_25 u0_26 u0_27 u0_28 u0_29 u0_30 x0_acts x0_thrown_1 y1_past y2_s_2)) hS => ?_)
        refine lv_iload_n (pc := 139) hexec hb dX9_raise_139 rfl (lv_at hl 2 rfl) ?_
        refine kb_ne (pc := 140) hexec hb dX9_raise_140 (tgt := 146) rfl hf (fun hc hf => ?_) (fun hc hf => ?_)
        · refine lv_aload_n (pc := 146) hexec hb dX9_raise_146 rfl (lv_at hl 0 rfl) ?_
          obtain ⟨x0_acts_1, y1_past_1, hc, hf⟩ := bd2_e hf
          refine kVp (pc := 147) (S := ⟨hexec, hb, hml, hown, hts⟩) hP hD hG hA hS [0, 1, 2] [] [0, 1, 2] (w2 := (w_X9_raise g a0 a1 a2 u0_1 u0_2 u0_4 u0_5 u0_8 u0_9 u0_10 u0_11 u0_12 u0_13 u0_14 u0_15 u0_16 u0_17 u0_18 u0_19 u0_20 u0_21 u0_22 u0_23 u0_24 u0_25 u0_26 u0_27 u0_28 u0_29 u0_30 x0_acts_1 x0_thrown_1 y1_past_1 y2_s_2)) rfl rfl rfl rfl rfl rfl (by decide) (c_X9_keeps l g a0 a1 a2 _ u0_1 u0_2 u0_4 u0_5 (.int x0_thrown_1) u0_8 u0_9 u0_10 u0_11 u0_12 u0_13 u0_14 u0_15 u0_16 u0_17 u0_18 u0_19 u0_20 u0_21 u0_22 u0_23 u0_24 u0_25 u0_26 u0_27 u0_28 u0_29 u0_30 x0_acts y1_past y2_s_2 x0_acts_1 y1_past_1 hc) gX9_raise_X9_keeps rfl hv_X9_keeps ⟨nle rfl, nle rfl⟩ 9 0 rfl rfl rfl (rest := []) rfl rfl hl.1 (nle rfl) dX9_raise_147 (fun H locs hP hD hS => ?_)
          refine lv_aload_n (pc := 150) hexec hb dX9_raise_150 rfl (lv_at hl 0 rfl) ?_
          refine kg_get (pc := 151) hexec hb (own := RX9) hWX9 hown hG hP 0 rfl rfl 0 (nle rfl) (hts _ (List.mem_cons_of_mem _ (List.mem_append_left _ (List.mem_append_left _ (List.mem_of_getElem? (i := 0) rfl))))) rfl rfl dX9_raise_151 ?_
          refine lv_bipush (pc := 154) hexec hb dX9_raise_154 kb_8 ?_
          refine lv_iload_n (pc := 156) hexec hb dX9_raise_156 rfl (lv_at hl 1 rfl) ?_
          refine lv_iadd (pc := 157) hexec hb dX9_raise_157 ?_
          refine lv_iconst (pc := 158) hexec hb dX9_raise_158 ki_1 ?_
          refine kw_iast (pc := 159) hexec hb hG hP hD hS 2 rfl hf dX9_raise_159 (fun y2_s_3 H locs hf (hP : va_P g.1 vwCl (w_X9_raise g a0 a1 a2 u0_1 u0_2 u0_4 u0_5 u0_8 u0_9 u0_10 u0_11 u0_12 u0_13 u0_14 u0_15 u0_16 u0_17 u0_18 u0_19 u0_20 u0_21 u0_22 u0_23 u0_24 u0_25 u0_26 u0_27 u0_28 u0_29 u0_30 x0_acts_1 x0_thrown_1 y1_past_1 y2_s_3) H) (hD : va_D A (w_X9_raise g a0 a1 a2 u0_1 u0_2 u0_4 u0_5 u0_8 u0_9 u0_10 u0_11 u0_12 u0_13 u0_14 u0_15 u0_16 u0_17 u0_18 u0_19 u0_20 u0_21 u0_22 u0_23 u0_24 u0_25 u0_26 u0_27 u0_28 u0_29 u0_30 x0_acts_1 x0_thrown_1 y1_past_1 y2_s_3)) hS => ?_)
          refine lv_aload_n (pc := 160) hexec hb dX9_raise_160 rfl (lv_at hl 0 rfl) ?_
          refine lv_iload_n (pc := 161) hexec hb dX9_raise_161 rfl (lv_at hl 3 rfl) ?_
          obtain ⟨r162, y2_s_4, hc, hf⟩ := bd2_e hf
          refine kVp (pc := 162) (S := ⟨hexec, hb, hml, hown, hts⟩) hP hD hG hA hS [0, 2] [1] [1, 0, 2] (w2 := (w_X9_raise g a0 a1 a2 u0_1 u0_2 u0_4 u0_5 u0_8 u0_9 u0_10 u0_11 u0_12 u0_13 u0_14 u0_15 u0_16 u0_17 u0_18 u0_19 u0_20 u0_21 u0_22 u0_23 u0_24 u0_25 u0_26 u0_27 u0_28 u0_29 u0_30 x0_acts_1 x0_thrown_1 y1_past_1 y2_s_4)) rfl rfl rfl rfl rfl rfl (by decide) (c_X9_lifts l g a0 a2 _ u0_1 u0_2 (.ref a1) u0_4 u0_5 (.int x0_acts_1) (.int x0_thrown_1) u0_8 u0_9 u0_10 u0_11 u0_12 u0_13 u0_14 u0_15 u0_16 u0_17 u0_18 u0_19 u0_20 u0_21 u0_22 u0_23 u0_24 u0_25 u0_26 u0_27 u0_28 u0_29 u0_30 y2_s_3 v3_1 r162 y2_s_4 hc) gX9_raise_X9_lifts rfl hv_X9_lifts ⟨nle rfl, nle rfl⟩ 9 0 rfl rfl rfl (rest := []) rfl rfl hl.1 (nle rfl) dX9_raise_162 (fun H locs hP hD hS => ?_)
          cases hf
          exact ke_i hQ hexec hb hr hP hD hS dX9_raise_165 hlocks
        · refine lv_bipush (pc := 143) hexec hb dX9_raise_143 kb_m3 ?_
          cases hf
          exact ke_i hQ hexec hb hr hP hD hS dX9_raise_145 hlocks
      obtain ⟨n, hz⟩ := lq3_e hz
      have hL38 : ∀ (n : Nat) (v2 : Int32) (v3 : Int32) (v4 : Int32) (H : Heap) (locs : List Loc) (ls : Array Slot), it3 l38 n v2 v3 v4 = some (v2_1, v3_1) → va_P g.1 vwCl (w_X9_raise g a0 a1 a2 u0_1 u0_2 u0_4 u0_5 u0_8 u0_9 u0_10 u0_11 u0_12 u0_13 u0_14 u0_15 u0_16 u0_17 u0_18 u0_19 u0_20 u0_21 u0_22 u0_23 u0_24 u0_25 u0_26 u0_27 u0_28 u0_29 u0_30 x0_acts x0_thrown_1 y1_past y2_s_1) H → va_D A (w_X9_raise g a0 a1 a2 u0_1 u0_2 u0_4 u0_5 u0_8 u0_9 u0_10 u0_11 u0_12 u0_13 u0_14 u0_15 u0_16 u0_17 u0_18 u0_19 u0_20 u0_21 u0_22 u0_23 u0_24 u0_25 u0_26 u0_27 u0_28 u0_29 u0_30 x0_acts x0_thrown_1 y1_past y2_s_1) → va_S A s.heap H locs → lv_has ls 5 [(0, .ref a0), (1, .int p1), (2, .int v2), (3, .int v3), (4, .int v4)] → W p l e (RM 4 97) s m args below meth c H locs 0 0 Q (F0 m 38 ls []) := by
        intro n
        induction n with
        | zero =>
          intro v2 v3 v4 H locs ls hf hP hD hS hl
          exact it3_0 hf
        | succ n38 ih38 =>
          intro v2 v3 v4 H locs ls hf hP hD hS hl
          obtain ⟨q38, hf, hk38⟩ := it3_e hf
          have hf := (el38 v2 v3 v4).symm.trans hf
          refine lv_iload (pc := 38) hexec hb dX9_raise_38 (lv_at hl 4 rfl) ?_
          refine lv_aload_n (pc := 40) hexec hb dX9_raise_40 rfl (lv_at hl 0 rfl) ?_
          refine kg_get (pc := 41) hexec hb (own := RX9) hWX9 hown hG hP 0 rfl rfl 0 (nle rfl) (hts _ (List.mem_cons_of_mem _ (List.mem_append_left _ (List.mem_append_left _ (List.mem_of_getElem? (i := 0) rfl))))) rfl rfl dX9_raise_41 ?_
          refine lv_iconst (pc := 44) hexec hb dX9_raise_44 ki_2 ?_
          refine kr_iald (pc := 45) hexec hb hG hP 2 rfl hf dX9_raise_45 (fun hf => ?_)
          refine ki_ge (pc := 46) hexec hb dX9_raise_46 (tgt := 129) rfl hf (fun hc hf => ?_) (fun hc hf => ?_)
          · cases sr3 hf hk38
            exact hE38 _ _ _ hP hD hS (lv_sub hl [0, 1, 2, 3] rfl)
          · refine lv_iload_n (pc := 49) hexec hb dX9_raise_49 rfl (lv_at hl 2 rfl) ?_
            obtain ⟨j72, ej72, hf⟩ := bvf1 hf
            have hj72 : ∀ (t72 : Int32) (H : Heap) (locs : List Loc) (ls : Array Slot), j72 t72 = some q38 → va_P g.1 vwCl (w_X9_raise g a0 a1 a2 u0_1 u0_2 u0_4 u0_5 u0_8 u0_9 u0_10 u0_11 u0_12 u0_13 u0_14 u0_15 u0_16 u0_17 u0_18 u0_19 u0_20 u0_21 u0_22 u0_23 u0_24 u0_25 u0_26 u0_27 u0_28 u0_29 u0_30 x0_acts x0_thrown_1 y1_past y2_s_1) H → va_D A (w_X9_raise g a0 a1 a2 u0_1 u0_2 u0_4 u0_5 u0_8 u0_9 u0_10 u0_11 u0_12 u0_13 u0_14 u0_15 u0_16 u0_17 u0_18 u0_19 u0_20 u0_21 u0_22 u0_23 u0_24 u0_25 u0_26 u0_27 u0_28 u0_29 u0_30 x0_acts x0_thrown_1 y1_past y2_s_1) → va_S A s.heap H locs → lv_has ls 5 [(0, .ref a0), (1, .int p1), (3, .int v3), (4, .int v4)] → W p l e (RM 4 97) s m args below meth c H locs 0 0 Q (F0 m 72 ls [.int t72]) := by
              intro t72 H locs ls hf hP hD hS hl
              have hf := (ej72 t72).symm.trans hf
              refine lv_istore_n (pc := 72) hexec hb dX9_raise_72 rfl hl (nle rfl) rfl (fun ls (hl : lv_has ls 5 [(2, .int t72), (0, .ref a0), (1, .int p1), (3, .int v3), (4, .int v4)]) => ?_)
              refine lv_iload_n (pc := 73) hexec hb dX9_raise_73 rfl (lv_at hl 3 rfl) ?_
              refine lv_aload_n (pc := 74) hexec hb dX9_raise_74 rfl (lv_at hl 1 rfl) ?_
              refine lv_iload (pc := 75) hexec hb dX9_raise_75 (lv_at hl 4 rfl) ?_
              obtain ⟨r77, hc, hf⟩ := bd1_e hf
              refine kVp (pc := 77) (S := ⟨hexec, hb, hml, hown, hts⟩) hP hD hG hA hS [0, 2] [1] [1, 0, 2] (w2 := (w_X9_raise g a0 a1 a2 u0_1 u0_2 u0_4 u0_5 u0_8 u0_9 u0_10 u0_11 u0_12 u0_13 u0_14 u0_15 u0_16 u0_17 u0_18 u0_19 u0_20 u0_21 u0_22 u0_23 u0_24 u0_25 u0_26 u0_27 u0_28 u0_29 u0_30 x0_acts x0_thrown_1 y1_past y2_s_1)) rfl rfl rfl rfl rfl rfl (by decide) (c_X9_isPlaced l g a0 a2 _ u0_1 u0_2 (.ref a1) u0_4 u0_5 (.int x0_acts) (.int x0_thrown_1) u0_8 u0_9 u0_10 u0_11 u0_12 u0_13 u0_14 u0_15 u0_16 u0_17 u0_18 u0_19 u0_20 u0_21 u0_22 u0_23 u0_24 u0_25 u0_26 u0_27 u0_28 u0_29 u0_30 y2_s_1 v4 r77 hc) gX9_raise_X9_isPlaced rfl hv_X9_isPlaced ⟨nle rfl, nle rfl⟩ 9 0 rfl rfl rfl (rest := [.int v3]) rfl rfl hl.1 (nle rfl) dX9_raise_77 (fun H locs hP hD hS => ?_)
              obtain ⟨j121, ej121, hf⟩ := bvf1 hf
              have hj121 : ∀ (t121 : Int32) (H : Heap) (locs : List Loc) (ls : Array Slot), j121 t121 = some q38 → va_P g.1 vwCl (w_X9_raise g a0 a1 a2 u0_1 u0_2 u0_4 u0_5 u0_8 u0_9 u0_10 u0_11 u0_12 u0_13 u0_14 u0_15 u0_16 u0_17 u0_18 u0_19 u0_20 u0_21 u0_22 u0_23 u0_24 u0_25 u0_26 u0_27 u0_28 u0_29 u0_30 x0_acts x0_thrown_1 y1_past y2_s_1) H → va_D A (w_X9_raise g a0 a1 a2 u0_1 u0_2 u0_4 u0_5 u0_8 u0_9 u0_10 u0_11 u0_12 u0_13 u0_14 u0_15 u0_16 u0_17 u0_18 u0_19 u0_20 u0_21 u0_22 u0_23 u0_24 u0_25 u0_26 u0_27 u0_28 u0_29 u0_30 x0_acts x0_thrown_1 y1_past y2_s_1) → va_S A s.heap H locs → lv_has ls 5 [(0, .ref a0), (1, .int p1), (2, .int t72), (4, .int v4)] → W p l e (RM 4 97) s m args below meth c H locs 0 0 Q (F0 m 121 ls [.int t121, .int v3]) := by
                intro t121 H locs ls hf hP hD hS hl
                have hf := (ej121 t121).symm.trans hf
                refine lv_ior (pc := 121) hexec hb dX9_raise_121 ?_
                obtain ⟨v3_2, ev3_2, hf⟩ := bv_e hf
                refine kn_i ev3_2 ?_
                refine lv_istore_n (pc := 122) hexec hb dX9_raise_122 rfl hl (nle rfl) rfl (fun ls (hl : lv_has ls 5 [(3, .int v3_2), (0, .ref a0), (1, .int p1), (2, .int t72), (4, .int v4)]) => ?_)
                obtain ⟨v4_1, ev4_1, hf⟩ := bv_e hf
                refine k_iinc (pc := 123) hexec hb dX9_raise_123 kq_1 hl (k := 4) rfl ev4_1 (nle rfl) rfl (fun ls (hl : lv_has ls 5 [(4, .int v4_1), (3, .int v3_2), (0, .ref a0), (1, .int p1), (2, .int t72)]) => ?_)
                refine lv_goto (pc := 126) hexec hb dX9_raise_126 (tgt := 38) rfl ?_
                exact ih38 _ _ _ _ _ _ (sl3 hf hk38) hP hD hS (lv_sub hl [2, 3, 4, 1, 0] rfl)
              obtain ⟨j120, ej120, hf⟩ := bvf1 hf
              have hj120 : ∀ (u : Unit) (H : Heap) (locs : List Loc) (ls : Array Slot), j120 u = some q38 → va_P g.1 vwCl (w_X9_raise g a0 a1 a2 u0_1 u0_2 u0_4 u0_5 u0_8 u0_9 u0_10 u0_11 u0_12 u0_13 u0_14 u0_15 u0_16 u0_17 u0_18 u0_19 u0_20 u0_21 u0_22 u0_23 u0_24 u0_25 u0_26 u0_27 u0_28 u0_29 u0_30 x0_acts x0_thrown_1 y1_past y2_s_1) H → va_D A (w_X9_raise g a0 a1 a2 u0_1 u0_2 u0_4 u0_5 u0_8 u0_9 u0_10 u0_11 u0_12 u0_13 u0_14 u0_15 u0_16 u0_17 u0_18 u0_19 u0_20 u0_21 u0_22 u0_23 u0_24 u0_25 u0_26 u0_27 u0_28 u0_29 u0_30 x0_acts x0_thrown_1 y1_past y2_s_1) → va_S A s.heap H locs → lv_has ls 5 [(0, .ref a0), (1, .int p1), (2, .int t72), (4, .int v4)] → W p l e (RM 4 97) s m args below meth c H locs 0 0 Q (F0 m 120 ls [.int v3]) := by
                intro u H locs ls hf hP hD hS hl
                have hf := (ej120 u).symm.trans hf
                refine lv_iconst (pc := 120) hexec hb dX9_raise_120 ki_0 ?_
                exact hj121 _ _ _ _ hf hP hD hS (lv_sub hl [0, 1, 2, 3] rfl)
              refine kb_eq (pc := 80) hexec hb dX9_raise_80 (tgt := 120) rfl hf (fun hc hf => ?_) (fun hc hf => ?_)
              · exact hj120 _ _ _ _ hf hP hD hS (lv_sub hl [1, 2, 0, 4] rfl)
              · refine lv_aload_n (pc := 83) hexec hb dX9_raise_83 rfl (lv_at hl 1 rfl) ?_
                refine lv_aload_n (pc := 84) hexec hb dX9_raise_84 rfl (lv_at hl 1 rfl) ?_
                refine lv_aload_n (pc := 85) hexec hb dX9_raise_85 rfl (lv_at hl 1 rfl) ?_
                refine lv_iload (pc := 86) hexec hb dX9_raise_86 (lv_at hl 4 rfl) ?_
                refine lv_iconst (pc := 88) hexec hb dX9_raise_88 ki_0 ?_
                obtain ⟨r89, hc, hf⟩ := bd1_e hf
                refine kVp (pc := 89) (S := ⟨hexec, hb, hml, hown, hts⟩) hP hD hG hA hS [0, 2] [1] [1, 0, 2] (w2 := (w_X9_raise g a0 a1 a2 u0_1 u0_2 u0_4 u0_5 u0_8 u0_9 u0_10 u0_11 u0_12 u0_13 u0_14 u0_15 u0_16 u0_17 u0_18 u0_19 u0_20 u0_21 u0_22 u0_23 u0_24 u0_25 u0_26 u0_27 u0_28 u0_29 u0_30 x0_acts x0_thrown_1 y1_past y2_s_1)) rfl rfl rfl rfl rfl rfl (by decide) (c_X9_of l g a0 a2 _ u0_1 u0_2 (.ref a1) u0_4 u0_5 (.int x0_acts) (.int x0_thrown_1) u0_8 u0_9 u0_10 u0_11 u0_12 u0_13 u0_14 u0_15 u0_16 u0_17 u0_18 u0_19 u0_20 u0_21 u0_22 u0_23 u0_24 u0_25 u0_26 u0_27 u0_28 u0_29 u0_30 y2_s_1 v4 0 r89 hc) gX9_raise_X9_of rfl hv_X9_of ⟨nle rfl, nle rfl⟩ 9 0 rfl rfl rfl (rest := [.ref a0, .ref a0, .int v3]) rfl rfl hl.1 (nle rfl) dX9_raise_89 (fun H locs hP hD hS => ?_)
                refine lv_aload_n (pc := 92) hexec hb dX9_raise_92 rfl (lv_at hl 1 rfl) ?_
                refine lv_iload (pc := 93) hexec hb dX9_raise_93 (lv_at hl 4 rfl) ?_
                refine lv_iconst (pc := 95) hexec hb dX9_raise_95 ki_2 ?_
                obtain ⟨r96, hc, hf⟩ := bd1_e hf
                refine kVp (pc := 96) (S := ⟨hexec, hb, hml, hown, hts⟩) hP hD hG hA hS [0, 2] [1] [1, 0, 2] (w2 := (w_X9_raise g a0 a1 a2 u0_1 u0_2 u0_4 u0_5 u0_8 u0_9 u0_10 u0_11 u0_12 u0_13 u0_14 u0_15 u0_16 u0_17 u0_18 u0_19 u0_20 u0_21 u0_22 u0_23 u0_24 u0_25 u0_26 u0_27 u0_28 u0_29 u0_30 x0_acts x0_thrown_1 y1_past y2_s_1)) rfl rfl rfl rfl rfl rfl (by decide) (c_X9_of l g a0 a2 _ u0_1 u0_2 (.ref a1) u0_4 u0_5 (.int x0_acts) (.int x0_thrown_1) u0_8 u0_9 u0_10 u0_11 u0_12 u0_13 u0_14 u0_15 u0_16 u0_17 u0_18 u0_19 u0_20 u0_21 u0_22 u0_23 u0_24 u0_25 u0_26 u0_27 u0_28 u0_29 u0_30 y2_s_1 v4 2 r96 hc) gX9_raise_X9_of rfl hv_X9_of ⟨nle rfl, nle rfl⟩ 9 0 rfl rfl rfl (rest := [.int r89, .ref a0, .ref a0, .int v3]) rfl rfl hl.1 (nle rfl) dX9_raise_96 (fun H locs hP hD hS => ?_)
                refine lv_iconst (pc := 99) hexec hb dX9_raise_99 ki_2 ?_
                refine lv_iadd (pc := 100) hexec hb dX9_raise_100 ?_
                refine lv_iconst (pc := 101) hexec hb dX9_raise_101 ki_4 ?_
                refine lv_irem (pc := 102) hexec hb dX9_raise_102 (by decide) ?_
                refine lv_iconst (pc := 103) hexec hb dX9_raise_103 ki_1 ?_
                obtain ⟨r104, hc, hf⟩ := bd1_e hf
                refine kVp (pc := 104) (S := ⟨hexec, hb, hml, hown, hts⟩) hP hD hG hA hS [0, 2] [1] [1, 0, 2] (w2 := (w_X9_raise g a0 a1 a2 u0_1 u0_2 u0_4 u0_5 u0_8 u0_9 u0_10 u0_11 u0_12 u0_13 u0_14 u0_15 u0_16 u0_17 u0_18 u0_19 u0_20 u0_21 u0_22 u0_23 u0_24 u0_25 u0_26 u0_27 u0_28 u0_29 u0_30 x0_acts x0_thrown_1 y1_past y2_s_1)) rfl rfl rfl rfl rfl rfl (by decide) (c_X9_away l g a0 a2 _ u0_1 u0_2 (.ref a1) u0_4 u0_5 (.int x0_acts) (.int x0_thrown_1) u0_8 u0_9 u0_10 u0_11 u0_12 u0_13 u0_14 u0_15 u0_16 u0_17 u0_18 u0_19 u0_20 u0_21 u0_22 u0_23 u0_24 u0_25 u0_26 u0_27 u0_28 u0_29 u0_30 y2_s_1 r89 ((r96 + 2) - (r96 + 2) / 4 * 4) 1 r104 hc) gX9_raise_X9_away rfl hv_X9_away ⟨nle rfl, nle rfl⟩ 9 0 rfl rfl rfl (rest := [.ref a0, .int v3]) rfl rfl hl.1 (nle rfl) dX9_raise_104 (fun H locs hP hD hS => ?_)
                obtain ⟨r107, hc, hf⟩ := bd1_e hf
                refine kVp (pc := 107) (S := ⟨hexec, hb, hml, hown, hts⟩) hP hD hG hA hS [0, 2] [1] [1, 0, 2] (w2 := (w_X9_raise g a0 a1 a2 u0_1 u0_2 u0_4 u0_5 u0_8 u0_9 u0_10 u0_11 u0_12 u0_13 u0_14 u0_15 u0_16 u0_17 u0_18 u0_19 u0_20 u0_21 u0_22 u0_23 u0_24 u0_25 u0_26 u0_27 u0_28 u0_29 u0_30 x0_acts x0_thrown_1 y1_past y2_s_1)) rfl rfl rfl rfl rfl rfl (by decide) (c_X9_isLand l g a0 a2 _ u0_1 u0_2 (.ref a1) u0_4 u0_5 (.int x0_acts) (.int x0_thrown_1) u0_8 u0_9 u0_10 u0_11 u0_12 u0_13 u0_14 u0_15 u0_16 u0_17 u0_18 u0_19 u0_20 u0_21 u0_22 u0_23 u0_24 u0_25 u0_26 u0_27 u0_28 u0_29 u0_30 y2_s_1 r104 r107 hc) gX9_raise_X9_isLand rfl hv_X9_isLand ⟨nle rfl, nle rfl⟩ 9 0 rfl rfl rfl (rest := [.int v3]) rfl rfl hl.1 (nle rfl) dX9_raise_107 (fun H locs hP hD hS => ?_)
                refine kb_eq (pc := 110) hexec hb dX9_raise_110 (tgt := 120) rfl hf (fun hc hf => ?_) (fun hc hf => ?_)
                · exact hj120 _ _ _ _ hf hP hD hS (lv_sub hl [1, 2, 0, 4] rfl)
                · refine lv_iconst (pc := 113) hexec hb dX9_raise_113 ki_1 ?_
                  refine lv_iload (pc := 114) hexec hb dX9_raise_114 (lv_at hl 4 rfl) ?_
                  refine lv_ishl (pc := 116) hexec hb dX9_raise_116 ?_
                  refine lv_goto (pc := 117) hexec hb dX9_raise_117 (tgt := 121) rfl ?_
                  exact hj121 _ _ _ _ hf hP hD hS (lv_sub hl [1, 2, 0, 4] rfl)
            obtain ⟨j71, ej71, hf⟩ := bvf1 hf
            have hj71 : ∀ (u : Unit) (H : Heap) (locs : List Loc) (ls : Array Slot), j71 u = some q38 → va_P g.1 vwCl (w_X9_raise g a0 a1 a2 u0_1 u0_2 u0_4 u0_5 u0_8 u0_9 u0_10 u0_11 u0_12 u0_13 u0_14 u0_15 u0_16 u0_17 u0_18 u0_19 u0_20 u0_21 u0_22 u0_23 u0_24 u0_25 u0_26 u0_27 u0_28 u0_29 u0_30 x0_acts x0_thrown_1 y1_past y2_s_1) H → va_D A (w_X9_raise g a0 a1 a2 u0_1 u0_2 u0_4 u0_5 u0_8 u0_9 u0_10 u0_11 u0_12 u0_13 u0_14 u0_15 u0_16 u0_17 u0_18 u0_19 u0_20 u0_21 u0_22 u0_23 u0_24 u0_25 u0_26 u0_27 u0_28 u0_29 u0_30 x0_acts x0_thrown_1 y1_past y2_s_1) → va_S A s.heap H locs → lv_has ls 5 [(0, .ref a0), (1, .int p1), (3, .int v3), (4, .int v4)] → W p l e (RM 4 97) s m args below meth c H locs 0 0 Q (F0 m 71 ls []) := by
              intro u H locs ls hf hP hD hS hl
              have hf := (ej71 u).symm.trans hf
              refine lv_iconst (pc := 71) hexec hb dX9_raise_71 ki_0 ?_
              exact hj72 _ _ _ _ hf hP hD hS (lv_sub hl [0, 1, 2, 3] rfl)
            refine kb_eq (pc := 50) hexec hb dX9_raise_50 (tgt := 71) rfl hf (fun hc hf => ?_) (fun hc hf => ?_)
            · exact hj71 _ _ _ _ hf hP hD hS (lv_sub hl [0, 1, 3, 4] rfl)
            · refine lv_aload_n (pc := 53) hexec hb dX9_raise_53 rfl (lv_at hl 0 rfl) ?_
              refine lv_aload_n (pc := 54) hexec hb dX9_raise_54 rfl (lv_at hl 0 rfl) ?_
              refine lv_iload (pc := 55) hexec hb dX9_raise_55 (lv_at hl 4 rfl) ?_
              refine lv_iconst (pc := 57) hexec hb dX9_raise_57 ki_0 ?_
              obtain ⟨r58, hc, hf⟩ := bd1_e hf
              refine kVp (pc := 58) (S := ⟨hexec, hb, hml, hown, hts⟩) hP hD hG hA hS [0, 2] [1] [1, 0, 2] (w2 := (w_X9_raise g a0 a1 a2 u0_1 u0_2 u0_4 u0_5 u0_8 u0_9 u0_10 u0_11 u0_12 u0_13 u0_14 u0_15 u0_16 u0_17 u0_18 u0_19 u0_20 u0_21 u0_22 u0_23 u0_24 u0_25 u0_26 u0_27 u0_28 u0_29 u0_30 x0_acts x0_thrown_1 y1_past y2_s_1)) rfl rfl rfl rfl rfl rfl (by decide) (c_X9_of l g a0 a2 _ u0_1 u0_2 (.ref a1) u0_4 u0_5 (.int x0_acts) (.int x0_thrown_1) u0_8 u0_9 u0_10 u0_11 u0_12 u0_13 u0_14 u0_15 u0_16 u0_17 u0_18 u0_19 u0_20 u0_21 u0_22 u0_23 u0_24 u0_25 u0_26 u0_27 u0_28 u0_29 u0_30 y2_s_1 v4 0 r58 hc) gX9_raise_X9_of rfl hv_X9_of ⟨nle rfl, nle rfl⟩ 9 0 rfl rfl rfl (rest := [.ref a0]) rfl rfl hl.1 (nle rfl) dX9_raise_58 (fun H locs hP hD hS => ?_)
              obtain ⟨r61, hc, hf⟩ := bd1_e hf
              refine kVp (pc := 61) (S := ⟨hexec, hb, hml, hown, hts⟩) hP hD hG hA hS [0, 2] [1] [1, 0, 2] (w2 := (w_X9_raise g a0 a1 a2 u0_1 u0_2 u0_4 u0_5 u0_8 u0_9 u0_10 u0_11 u0_12 u0_13 u0_14 u0_15 u0_16 u0_17 u0_18 u0_19 u0_20 u0_21 u0_22 u0_23 u0_24 u0_25 u0_26 u0_27 u0_28 u0_29 u0_30 x0_acts x0_thrown_1 y1_past y2_s_1)) rfl rfl rfl rfl rfl rfl (by decide) (c_X9_isCoast l g a0 a2 _ u0_1 u0_2 (.ref a1) u0_4 u0_5 (.int x0_acts) (.int x0_thrown_1) u0_8 u0_9 u0_10 u0_11 u0_12 u0_13 u0_14 u0_15 u0_16 u0_17 u0_18 u0_19 u0_20 u0_21 u0_22 u0_23 u0_24 u0_25 u0_26 u0_27 u0_28 u0_29 u0_30 y2_s_1 r58 r61 hc) gX9_raise_X9_isCoast rfl hv_X9_isCoast ⟨nle rfl, nle rfl⟩ 9 0 rfl rfl rfl (rest := []) rfl rfl hl.1 (nle rfl) dX9_raise_61 (fun H locs hP hD hS => ?_)
              refine kb_eq (pc := 64) hexec hb dX9_raise_64 (tgt := 71) rfl hf (fun hc hf => ?_) (fun hc hf => ?_)
              · exact hj71 _ _ _ _ hf hP hD hS (lv_sub hl [0, 1, 3, 4] rfl)
              · refine lv_iconst (pc := 67) hexec hb dX9_raise_67 ki_1 ?_
                refine lv_goto (pc := 68) hexec hb dX9_raise_68 (tgt := 72) rfl ?_
                exact hj72 _ _ _ _ hf hP hD hS (lv_sub hl [0, 1, 3, 4] rfl)
      exact hL38 n _ _ _ _ _ _ hz hP hD hS (lv_sub hl [3, 4, 2, 1, 0] rfl)
    · refine lv_bipush (pc := 18) hexec hb dX9_raise_18 kb_m3 ?_
      cases hf
      exact ke_i hQ hexec hb hr hP hD hS dX9_raise_20 hlocks
  · refine lv_iconst (pc := 8) hexec hb dX9_raise_8 ki_0 ?_
    cases hf
    exact ke_i hQ hexec hb hr hP hD hS dX9_raise_9 hlocks
abbrev w_X9_sail (g : GE) (a0 a1 a2 : Nat) (u0_1 u0_2 u0_4 u0_5 u0_8 u0_9 u0_10 u0_11 u0_12 u0_13 u0_14 u0_15 u0_16 u0_17 u0_18 u0_19 u0_20 u0_21 u0_22 u0_23 u0_24 u0_25 u0_26 u0_27 u0_28 u0_29 u0_30 : Value) (x0_acts : Int32) (x0_thrown : Int32) (y1_past : Nat → Int32) (y2_s : Nat → Int32) : va_W := [(a0, .inr (9, [.ref a2, u0_1, u0_2, .ref a1, u0_4, u0_5, .int x0_acts, .int x0_thrown, u0_8, u0_9, u0_10, u0_11, u0_12, u0_13, u0_14, u0_15, u0_16, u0_17, u0_18, u0_19, u0_20, u0_21, u0_22, u0_23, u0_24, u0_25, u0_26, u0_27, u0_28, u0_29, u0_30])), (a1, .inl (g.2.1 0, 4416, .inl y1_past)), (a2, .inl (g.2.1 0, 552, .inl y2_s))]
set_option maxRecDepth 20000 in
theorem c_X9_sail (l : Launch) (g : GE) (a0 a1 a2 : Nat) (sz : Nat) (u0_1 u0_2 u0_4 u0_5 u0_8 u0_9 u0_10 u0_11 u0_12 u0_13 u0_14 u0_15 u0_16 u0_17 u0_18 u0_19 u0_20 u0_21 u0_22 u0_23 u0_24 u0_25 u0_26 u0_27 u0_28 u0_29 u0_30 : Value) (x0_acts : Int32) (x0_thrown : Int32) (y1_past : Nat → Int32) (y2_s : Nat → Int32) (p1 : Int32)  (r : Int32) (o_x0_acts : Int32) (o_x0_thrown : Int32) (o_y1_past : Nat → Int32) (o_y2_s : Nat → Int32) (hf : f_X9_sail x0_acts x0_thrown y1_past y2_s p1 = some (r, o_x0_acts, o_x0_thrown, o_y1_past, o_y2_s)) : MI l g yX9_sail wsX9_sail 4 91 [.ref a0, .int p1] (w_X9_sail g a0 a1 a2 u0_1 u0_2 u0_4 u0_5 u0_8 u0_9 u0_10 u0_11 u0_12 u0_13 u0_14 u0_15 u0_16 u0_17 u0_18 u0_19 u0_20 u0_21 u0_22 u0_23 u0_24 u0_25 u0_26 u0_27 u0_28 u0_29 u0_30 x0_acts x0_thrown y1_past y2_s) sz (some (.int r)) (w_X9_sail g a0 a1 a2 u0_1 u0_2 u0_4 u0_5 u0_8 u0_9 u0_10 u0_11 u0_12 u0_13 u0_14 u0_15 u0_16 u0_17 u0_18 u0_19 u0_20 u0_21 u0_22 u0_23 u0_24 u0_25 u0_26 u0_27 u0_28 u0_29 u0_30 o_x0_acts o_x0_thrown o_y1_past o_y2_s) := by
  refine MI.start (cc := cX9_sail) (maxL := 2) (ret := (some .int)) rfl rfl (nle rfl) ?_
  intro p e s m args below meth c A ls Q hQ hexec hb hr hts hown hlocks hml hA hP hD hG hS hl
  unfold f_X9_sail at hf
  have hWX9 : ∀ w ∈ wsX90, w.before args s = true := fun w h => hts w (List.mem_cons_of_mem _ (List.mem_append_right _ h))
  have hS : va_S A s.heap s.heap [] := hS
  refine lv_aload_n (pc := 0) hexec hb dX9_sail_0 rfl (lv_at hl 0 rfl) ?_
  refine lv_iload_n (pc := 1) hexec hb dX9_sail_1 rfl (lv_at hl 1 rfl) ?_
  obtain ⟨r2, x0_thrown_1, hc, hf⟩ := bd2_e hf
  refine kVp (pc := 2) (S := ⟨hexec, hb, hml, hown, hts⟩) hP hD hG hA hS [0, 2] [1] [1, 0, 2] (w2 := (w_X9_sail g a0 a1 a2 u0_1 u0_2 u0_4 u0_5 u0_8 u0_9 u0_10 u0_11 u0_12 u0_13 u0_14 u0_15 u0_16 u0_17 u0_18 u0_19 u0_20 u0_21 u0_22 u0_23 u0_24 u0_25 u0_26 u0_27 u0_28 u0_29 u0_30 x0_acts x0_thrown_1 y1_past y2_s)) rfl rfl rfl rfl rfl rfl (by decide) (c_X9_mayHarbour l g a0 a2 _ u0_1 u0_2 (.ref a1) u0_4 u0_5 (.int x0_acts) u0_8 u0_9 u0_10 u0_11 u0_12 u0_13 u0_14 u0_15 u0_16 u0_17 u0_18 u0_19 u0_20 u0_21 u0_22 u0_23 u0_24 u0_25 u0_26 u0_27 u0_28 u0_29 u0_30 x0_thrown y2_s p1 r2 x0_thrown_1 hc) gX9_sail_X9_mayHarbour rfl hv_X9_mayHarbour ⟨nle rfl, nle rfl⟩ 9 0 rfl rfl rfl (rest := []) rfl rfl hl.1 (nle rfl) dX9_sail_2 (fun H locs hP hD hS => ?_)
  refine kb_ne (pc := 5) hexec hb dX9_sail_5 (tgt := 10) rfl hf (fun hc hf => ?_) (fun hc hf => ?_)
  · refine lv_aload_n (pc := 10) hexec hb dX9_sail_10 rfl (lv_at hl 0 rfl) ?_
    refine kg_get (pc := 11) hexec hb (own := RX9) hWX9 hown hG hP 0 rfl rfl 0 (nle rfl) (hts _ (List.mem_cons_of_mem _ (List.mem_append_left _ (List.mem_append_left _ (List.mem_of_getElem? (i := 0) rfl))))) rfl rfl dX9_sail_11 ?_
    refine lv_iconst (pc := 14) hexec hb dX9_sail_14 ki_4 ?_
    refine kr_iald (pc := 15) hexec hb hG hP 2 rfl hf dX9_sail_15 (fun hf => ?_)
    refine lv_bipush (pc := 16) hexec hb dX9_sail_16 kb_16 ?_
    refine ki_ne (pc := 18) hexec hb dX9_sail_18 (tgt := 24) rfl hf (fun hc hf => ?_) (fun hc hf => ?_)
    · refine lv_aload_n (pc := 24) hexec hb dX9_sail_24 rfl (lv_at hl 0 rfl) ?_
      obtain ⟨x0_acts_1, y1_past_1, hc, hf⟩ := bd2_e hf
      refine kVp (pc := 25) (S := ⟨hexec, hb, hml, hown, hts⟩) hP hD hG hA hS [0, 1, 2] [] [0, 1, 2] (w2 := (w_X9_sail g a0 a1 a2 u0_1 u0_2 u0_4 u0_5 u0_8 u0_9 u0_10 u0_11 u0_12 u0_13 u0_14 u0_15 u0_16 u0_17 u0_18 u0_19 u0_20 u0_21 u0_22 u0_23 u0_24 u0_25 u0_26 u0_27 u0_28 u0_29 u0_30 x0_acts_1 x0_thrown_1 y1_past_1 y2_s)) rfl rfl rfl rfl rfl rfl (by decide) (c_X9_keeps l g a0 a1 a2 _ u0_1 u0_2 u0_4 u0_5 (.int x0_thrown_1) u0_8 u0_9 u0_10 u0_11 u0_12 u0_13 u0_14 u0_15 u0_16 u0_17 u0_18 u0_19 u0_20 u0_21 u0_22 u0_23 u0_24 u0_25 u0_26 u0_27 u0_28 u0_29 u0_30 x0_acts y1_past y2_s x0_acts_1 y1_past_1 hc) gX9_sail_X9_keeps rfl hv_X9_keeps ⟨nle rfl, nle rfl⟩ 9 0 rfl rfl rfl (rest := []) rfl rfl hl.1 (nle rfl) dX9_sail_25 (fun H locs hP hD hS => ?_)
      refine lv_aload_n (pc := 28) hexec hb dX9_sail_28 rfl (lv_at hl 0 rfl) ?_
      refine kg_get (pc := 29) hexec hb (own := RX9) hWX9 hown hG hP 0 rfl rfl 0 (nle rfl) (hts _ (List.mem_cons_of_mem _ (List.mem_append_left _ (List.mem_append_left _ (List.mem_of_getElem? (i := 0) rfl))))) rfl rfl dX9_sail_29 ?_
      refine lv_sipush (pc := 32) hexec hb dX9_sail_32 ks_536 ?_
      refine lv_aload_n (pc := 35) hexec hb dX9_sail_35 rfl (lv_at hl 0 rfl) ?_
      refine kg_get (pc := 36) hexec hb (own := RX9) hWX9 hown hG hP 0 rfl rfl 0 (nle rfl) (hts _ (List.mem_cons_of_mem _ (List.mem_append_left _ (List.mem_append_left _ (List.mem_of_getElem? (i := 0) rfl))))) rfl rfl dX9_sail_36 ?_
      refine lv_iconst (pc := 39) hexec hb dX9_sail_39 ki_4 ?_
      refine kr_iald (pc := 40) hexec hb hG hP 2 rfl hf dX9_sail_40 (fun hf => ?_)
      refine lv_iadd (pc := 41) hexec hb dX9_sail_41 ?_
      refine lv_iload_n (pc := 42) hexec hb dX9_sail_42 rfl (lv_at hl 1 rfl) ?_
      refine kw_iast (pc := 43) hexec hb hG hP hD hS 2 rfl hf dX9_sail_43 (fun y2_s_1 H locs hf (hP : va_P g.1 vwCl (w_X9_sail g a0 a1 a2 u0_1 u0_2 u0_4 u0_5 u0_8 u0_9 u0_10 u0_11 u0_12 u0_13 u0_14 u0_15 u0_16 u0_17 u0_18 u0_19 u0_20 u0_21 u0_22 u0_23 u0_24 u0_25 u0_26 u0_27 u0_28 u0_29 u0_30 x0_acts_1 x0_thrown_1 y1_past_1 y2_s_1) H) (hD : va_D A (w_X9_sail g a0 a1 a2 u0_1 u0_2 u0_4 u0_5 u0_8 u0_9 u0_10 u0_11 u0_12 u0_13 u0_14 u0_15 u0_16 u0_17 u0_18 u0_19 u0_20 u0_21 u0_22 u0_23 u0_24 u0_25 u0_26 u0_27 u0_28 u0_29 u0_30 x0_acts_1 x0_thrown_1 y1_past_1 y2_s_1)) hS => ?_)
      refine lv_aload_n (pc := 44) hexec hb dX9_sail_44 rfl (lv_at hl 0 rfl) ?_
      refine kg_get (pc := 45) hexec hb (own := RX9) hWX9 hown hG hP 0 rfl rfl 0 (nle rfl) (hts _ (List.mem_cons_of_mem _ (List.mem_append_left _ (List.mem_append_left _ (List.mem_of_getElem? (i := 0) rfl))))) rfl rfl dX9_sail_45 ?_
      refine lv_iconst (pc := 48) hexec hb dX9_sail_48 ki_4 ?_
      refine lv_dup2_11 (pc := 49) hexec hb dX9_sail_49 rfl rfl ?_
      refine kr_iald (pc := 50) hexec hb hG hP 2 rfl hf dX9_sail_50 (fun hf => ?_)
      refine lv_iconst (pc := 51) hexec hb dX9_sail_51 ki_1 ?_
      refine lv_iadd (pc := 52) hexec hb dX9_sail_52 ?_
      refine kw_iast (pc := 53) hexec hb hG hP hD hS 2 rfl hf dX9_sail_53 (fun y2_s_2 H locs hf (hP : va_P g.1 vwCl (w_X9_sail g a0 a1 a2 u0_1 u0_2 u0_4 u0_5 u0_8 u0_9 u0_10 u0_11 u0_12 u0_13 u0_14 u0_15 u0_16 u0_17 u0_18 u0_19 u0_20 u0_21 u0_22 u0_23 u0_24 u0_25 u0_26 u0_27 u0_28 u0_29 u0_30 x0_acts_1 x0_thrown_1 y1_past_1 y2_s_2) H) (hD : va_D A (w_X9_sail g a0 a1 a2 u0_1 u0_2 u0_4 u0_5 u0_8 u0_9 u0_10 u0_11 u0_12 u0_13 u0_14 u0_15 u0_16 u0_17 u0_18 u0_19 u0_20 u0_21 u0_22 u0_23 u0_24 u0_25 u0_26 u0_27 u0_28 u0_29 u0_30 x0_acts_1 x0_thrown_1 y1_past_1 y2_s_2)) hS => ?_)
      refine lv_aload_n (pc := 54) hexec hb dX9_sail_54 rfl (lv_at hl 0 rfl) ?_
      refine kg_get (pc := 55) hexec hb (own := RX9) hWX9 hown hG hP 0 rfl rfl 0 (nle rfl) (hts _ (List.mem_cons_of_mem _ (List.mem_append_left _ (List.mem_append_left _ (List.mem_of_getElem? (i := 0) rfl))))) rfl rfl dX9_sail_55 ?_
      refine lv_iconst (pc := 58) hexec hb dX9_sail_58 ki_4 ?_
      refine kr_iald (pc := 59) hexec hb hG hP 2 rfl hf dX9_sail_59 (fun hf => ?_)
      cases hf
      exact ke_i hQ hexec hb hr hP hD hS dX9_sail_60 hlocks
    · refine lv_bipush (pc := 21) hexec hb dX9_sail_21 kb_m2 ?_
      cases hf
      exact ke_i hQ hexec hb hr hP hD hS dX9_sail_23 hlocks
  · refine lv_iconst (pc := 8) hexec hb dX9_sail_8 ki_0 ?_
    cases hf
    exact ke_i hQ hexec hb hr hP hD hS dX9_sail_9 hlocks
abbrev w_X9_cut (g : GE) (a0 a1 a2 : Nat) (u0_1 u0_2 u0_4 u0_5 u0_8 u0_9 u0_10 u0_11 u0_12 u0_13 u0_14 u0_15 u0_16 u0_17 u0_18 u0_19 u0_20 u0_21 u0_22 u0_23 u0_24 u0_25 u0_26 u0_27 u0_28 u0_29 u0_30 : Value) (x0_acts : Int32) (x0_thrown : Int32) (y1_past : Nat → Int32) (y2_s : Nat → Int32) : va_W := [(a0, .inr (9, [.ref a2, u0_1, u0_2, .ref a1, u0_4, u0_5, .int x0_acts, .int x0_thrown, u0_8, u0_9, u0_10, u0_11, u0_12, u0_13, u0_14, u0_15, u0_16, u0_17, u0_18, u0_19, u0_20, u0_21, u0_22, u0_23, u0_24, u0_25, u0_26, u0_27, u0_28, u0_29, u0_30])), (a1, .inl (g.2.1 0, 4416, .inl y1_past)), (a2, .inl (g.2.1 0, 552, .inl y2_s))]
set_option maxRecDepth 20000 in
theorem c_X9_cut (l : Launch) (g : GE) (a0 a1 a2 : Nat) (sz : Nat) (u0_1 u0_2 u0_4 u0_5 u0_8 u0_9 u0_10 u0_11 u0_12 u0_13 u0_14 u0_15 u0_16 u0_17 u0_18 u0_19 u0_20 u0_21 u0_22 u0_23 u0_24 u0_25 u0_26 u0_27 u0_28 u0_29 u0_30 : Value) (x0_acts : Int32) (x0_thrown : Int32) (y1_past : Nat → Int32) (y2_s : Nat → Int32) (p1 : Int32)  (r : Int32) (o_x0_acts : Int32) (o_x0_thrown : Int32) (o_y1_past : Nat → Int32) (o_y2_s : Nat → Int32) (hf : f_X9_cut x0_acts x0_thrown y1_past y2_s p1 = some (r, o_x0_acts, o_x0_thrown, o_y1_past, o_y2_s)) : MI l g yX9_cut wsX9_cut 3 69 [.ref a0, .int p1] (w_X9_cut g a0 a1 a2 u0_1 u0_2 u0_4 u0_5 u0_8 u0_9 u0_10 u0_11 u0_12 u0_13 u0_14 u0_15 u0_16 u0_17 u0_18 u0_19 u0_20 u0_21 u0_22 u0_23 u0_24 u0_25 u0_26 u0_27 u0_28 u0_29 u0_30 x0_acts x0_thrown y1_past y2_s) sz (some (.int r)) (w_X9_cut g a0 a1 a2 u0_1 u0_2 u0_4 u0_5 u0_8 u0_9 u0_10 u0_11 u0_12 u0_13 u0_14 u0_15 u0_16 u0_17 u0_18 u0_19 u0_20 u0_21 u0_22 u0_23 u0_24 u0_25 u0_26 u0_27 u0_28 u0_29 u0_30 o_x0_acts o_x0_thrown o_y1_past o_y2_s) := by
  refine MI.start (cc := cX9_cut) (maxL := 4) (ret := (some .int)) rfl rfl (nle rfl) ?_
  intro p e s m args below meth c A ls Q hQ hexec hb hr hts hown hlocks hml hA hP hD hG hS hl
  unfold f_X9_cut at hf
  have hWX9 : ∀ w ∈ wsX90, w.before args s = true := fun w h => hts w (List.mem_cons_of_mem _ (List.mem_append_right _ h))
  have hS : va_S A s.heap s.heap [] := hS
  refine lv_aload_n (pc := 0) hexec hb dX9_cut_0 rfl (lv_at hl 0 rfl) ?_
  refine lv_iload_n (pc := 1) hexec hb dX9_cut_1 rfl (lv_at hl 1 rfl) ?_
  refine lv_i2l (pc := 2) hexec hb dX9_cut_2 rfl ?_
  refine lv_lconst (pc := 3) hexec hb dX9_cut_3 kl_0 ?_
  refine lv_aload_n (pc := 4) hexec hb dX9_cut_4 rfl (lv_at hl 0 rfl) ?_
  refine kg_get (pc := 5) hexec hb (own := RX9) hWX9 hown hG hP 0 rfl rfl 0 (nle rfl) (hts _ (List.mem_cons_of_mem _ (List.mem_append_left _ (List.mem_of_getElem? (i := 0) rfl)))) rfl rfl dX9_cut_5 ?_
  refine lv_iconst (pc := 8) hexec hb dX9_cut_8 ki_4 ?_
  refine kr_iald (pc := 9) hexec hb hG hP 2 rfl hf dX9_cut_9 (fun hf => ?_)
  refine lv_iconst (pc := 10) hexec hb dX9_cut_10 ki_1 ?_
  refine lv_isub (pc := 11) hexec hb dX9_cut_11 ?_
  refine lv_i2l (pc := 12) hexec hb dX9_cut_12 rfl ?_
  obtain ⟨r13, hc, hf⟩ := bd1_e hf
  refine kSp (pc := 13) (S := ⟨hexec, hb, hml, hown, hts⟩) hP hD hG hA hS [] [0, 1, 2] [0, 1, 2] (w2 := (w_X9_cut g a0 a1 a2 u0_1 u0_2 u0_4 u0_5 u0_8 u0_9 u0_10 u0_11 u0_12 u0_13 u0_14 u0_15 u0_16 u0_17 u0_18 u0_19 u0_20 u0_21 u0_22 u0_23 u0_24 u0_25 u0_26 u0_27 u0_28 u0_29 u0_30 x0_acts x0_thrown y1_past y2_s)) rfl rfl rfl rfl rfl rfl (by decide) (c_X9_isIn l g _ (p1.toInt64) 0 ((((y2_s (4 : Int32).toNatClampNeg) - 1)).toInt64) r13 hc) gX9_cut_X9_isIn rfl hs_X9_isIn ⟨nle rfl, nle rfl⟩ (rest := [.ref a0]) rfl rfl hl.1 (nle rfl) dX9_cut_13 (fun H locs hP hD hS => ?_)
  refine lv_iconst (pc := 16) hexec hb dX9_cut_16 ki_1 ?_
  obtain ⟨r17, x0_thrown_1, hc, hf⟩ := bd2_e hf
  refine kVp (pc := 17) (S := ⟨hexec, hb, hml, hown, hts⟩) hP hD hG hA hS [0] [1, 2] [2, 0, 1] (w2 := (w_X9_cut g a0 a1 a2 u0_1 u0_2 u0_4 u0_5 u0_8 u0_9 u0_10 u0_11 u0_12 u0_13 u0_14 u0_15 u0_16 u0_17 u0_18 u0_19 u0_20 u0_21 u0_22 u0_23 u0_24 u0_25 u0_26 u0_27 u0_28 u0_29 u0_30 x0_acts x0_thrown_1 y1_past y2_s)) rfl rfl rfl rfl rfl rfl (by decide) (c_X9_passes l g a0 _ (.ref a2) u0_1 u0_2 (.ref a1) u0_4 u0_5 (.int x0_acts) u0_8 u0_9 u0_10 u0_11 u0_12 u0_13 u0_14 u0_15 u0_16 u0_17 u0_18 u0_19 u0_20 u0_21 u0_22 u0_23 u0_24 u0_25 u0_26 u0_27 u0_28 u0_29 u0_30 x0_thrown r13 1 r17 x0_thrown_1 hc) gX9_cut_X9_passes rfl hv_X9_passes ⟨nle rfl, nle rfl⟩ 9 0 rfl rfl rfl (rest := []) rfl rfl hl.1 (nle rfl) dX9_cut_17 (fun H locs hP hD hS => ?_)
  refine kb_ne (pc := 20) hexec hb dX9_cut_20 (tgt := 25) rfl hf (fun hc hf => ?_) (fun hc hf => ?_)
  · refine lv_aload_n (pc := 25) hexec hb dX9_cut_25 rfl (lv_at hl 0 rfl) ?_
    obtain ⟨x0_acts_1, y1_past_1, hc, hf⟩ := bd2_e hf
    refine kVp (pc := 26) (S := ⟨hexec, hb, hml, hown, hts⟩) hP hD hG hA hS [0, 1, 2] [] [0, 1, 2] (w2 := (w_X9_cut g a0 a1 a2 u0_1 u0_2 u0_4 u0_5 u0_8 u0_9 u0_10 u0_11 u0_12 u0_13 u0_14 u0_15 u0_16 u0_17 u0_18 u0_19 u0_20 u0_21 u0_22 u0_23 u0_24 u0_25 u0_26 u0_27 u0_28 u0_29 u0_30 x0_acts_1 x0_thrown_1 y1_past_1 y2_s)) rfl rfl rfl rfl rfl rfl (by decide) (c_X9_keeps l g a0 a1 a2 _ u0_1 u0_2 u0_4 u0_5 (.int x0_thrown_1) u0_8 u0_9 u0_10 u0_11 u0_12 u0_13 u0_14 u0_15 u0_16 u0_17 u0_18 u0_19 u0_20 u0_21 u0_22 u0_23 u0_24 u0_25 u0_26 u0_27 u0_28 u0_29 u0_30 x0_acts y1_past y2_s x0_acts_1 y1_past_1 hc) gX9_cut_X9_keeps rfl hv_X9_keeps ⟨nle rfl, nle rfl⟩ 9 0 rfl rfl rfl (rest := []) rfl rfl hl.1 (nle rfl) dX9_cut_26 (fun H locs hP hD hS => ?_)
    refine lv_aload_n (pc := 29) hexec hb dX9_cut_29 rfl (lv_at hl 0 rfl) ?_
    refine kg_get (pc := 30) hexec hb (own := RX9) hWX9 hown hG hP 0 rfl rfl 0 (nle rfl) (hts _ (List.mem_cons_of_mem _ (List.mem_append_left _ (List.mem_of_getElem? (i := 0) rfl)))) rfl rfl dX9_cut_30 ?_
    refine lv_sipush (pc := 33) hexec hb dX9_cut_33 ks_536 ?_
    refine lv_iload_n (pc := 36) hexec hb dX9_cut_36 rfl (lv_at hl 1 rfl) ?_
    refine lv_iadd (pc := 37) hexec hb dX9_cut_37 ?_
    refine kr_iald (pc := 38) hexec hb hG hP 2 rfl hf dX9_cut_38 (fun hf => ?_)
    obtain ⟨v2, ev2, hf⟩ := bv_e hf
    refine kn_i ev2 ?_
    refine lv_istore_n (pc := 39) hexec hb dX9_cut_39 rfl hl (nle rfl) rfl (fun ls (hl : lv_has ls 4 [(2, .int v2), (0, .ref a0), (1, .int p1)]) => ?_)
    refine lv_aload_n (pc := 40) hexec hb dX9_cut_40 rfl (lv_at hl 1 rfl) ?_
    refine kg_get (pc := 41) hexec hb (own := RX9) hWX9 hown hG hP 0 rfl rfl 0 (nle rfl) (hts _ (List.mem_cons_of_mem _ (List.mem_append_left _ (List.mem_of_getElem? (i := 0) rfl)))) rfl rfl dX9_cut_41 ?_
    refine lv_iconst (pc := 44) hexec hb dX9_cut_44 ki_4 ?_
    refine lv_dup2_11 (pc := 45) hexec hb dX9_cut_45 rfl rfl ?_
    refine kr_iald (pc := 46) hexec hb hG hP 2 rfl hf dX9_cut_46 (fun hf => ?_)
    refine lv_iconst (pc := 47) hexec hb dX9_cut_47 ki_1 ?_
    refine lv_isub (pc := 48) hexec hb dX9_cut_48 ?_
    refine kw_iast (pc := 49) hexec hb hG hP hD hS 2 rfl hf dX9_cut_49 (fun y2_s_1 H locs hf (hP : va_P g.1 vwCl (w_X9_cut g a0 a1 a2 u0_1 u0_2 u0_4 u0_5 u0_8 u0_9 u0_10 u0_11 u0_12 u0_13 u0_14 u0_15 u0_16 u0_17 u0_18 u0_19 u0_20 u0_21 u0_22 u0_23 u0_24 u0_25 u0_26 u0_27 u0_28 u0_29 u0_30 x0_acts_1 x0_thrown_1 y1_past_1 y2_s_1) H) (hD : va_D A (w_X9_cut g a0 a1 a2 u0_1 u0_2 u0_4 u0_5 u0_8 u0_9 u0_10 u0_11 u0_12 u0_13 u0_14 u0_15 u0_16 u0_17 u0_18 u0_19 u0_20 u0_21 u0_22 u0_23 u0_24 u0_25 u0_26 u0_27 u0_28 u0_29 u0_30 x0_acts_1 x0_thrown_1 y1_past_1 y2_s_1)) hS => ?_)
    refine lv_iload_n (pc := 50) hexec hb dX9_cut_50 rfl (lv_at hl 2 rfl) ?_
    refine lv_istore_n (pc := 51) hexec hb dX9_cut_51 rfl hl (nle rfl) rfl (fun ls (hl : lv_has ls 4 [(3, .int p1), (2, .int v2), (0, .ref a0), (1, .int p1)]) => ?_)
    obtain ⟨l52, el52, hf⟩ := bvf2 hf
    obtain ⟨y2_s_3, hz, hf⟩ := bd1_e hf
    have hE52 : ∀ (H : Heap) (locs : List Loc) (ls : Array Slot), va_P g.1 vwCl (w_X9_cut g a0 a1 a2 u0_1 u0_2 u0_4 u0_5 u0_8 u0_9 u0_10 u0_11 u0_12 u0_13 u0_14 u0_15 u0_16 u0_17 u0_18 u0_19 u0_20 u0_21 u0_22 u0_23 u0_24 u0_25 u0_26 u0_27 u0_28 u0_29 u0_30 x0_acts_1 x0_thrown_1 y1_past_1 y2_s_3) H → va_D A (w_X9_cut g a0 a1 a2 u0_1 u0_2 u0_4 u0_5 u0_8 u0_9 u0_10 u0_11 u0_12 u0_13 u0_14 u0_15 u0_16 u0_17 u0_18 u0_19 u0_20 u0_21 u0_22 u0_23 u0_24 u0_25 u0_26 u0_27 u0_28 u0_29 u0_30 x0_acts_1 x0_thrown_1 y1_past_1 y2_s_3) → va_S A s.heap H locs → lv_has ls 4 [(0, .ref a0), (1, .int p1), (2, .int v2)] → W p l e (RM 3 69) s m args below meth c H locs 0 0 Q (F0 m 90 ls []) := by
      intro H locs ls hP hD hS hl
      refine lv_aload_n (pc := 90) hexec hb dX9_cut_90 rfl (lv_at hl 0 rfl) ?_
      refine kg_get (pc := 91) hexec hb (own := RX9) hWX9 hown hG hP 0 rfl rfl 0 (nle rfl) (hts _ (List.mem_cons_of_mem _ (List.mem_append_left _ (List.mem_of_getElem? (i := 0) rfl)))) rfl rfl dX9_cut_91 ?_
      refine lv_sipush (pc := 94) hexec hb dX9_cut_94 ks_536 ?_
      refine lv_aload_n (pc := 97) hexec hb dX9_cut_97 rfl (lv_at hl 0 rfl) ?_
      refine kg_get (pc := 98) hexec hb (own := RX9) hWX9 hown hG hP 0 rfl rfl 0 (nle rfl) (hts _ (List.mem_cons_of_mem _ (List.mem_append_left _ (List.mem_of_getElem? (i := 0) rfl)))) rfl rfl dX9_cut_98 ?_
      refine lv_iconst (pc := 101) hexec hb dX9_cut_101 ki_4 ?_
      refine kr_iald (pc := 102) hexec hb hG hP 2 rfl hf dX9_cut_102 (fun hf => ?_)
      refine lv_iadd (pc := 103) hexec hb dX9_cut_103 ?_
      refine lv_iconst (pc := 104) hexec hb dX9_cut_104 ki_0 ?_
      refine kw_iast (pc := 105) hexec hb hG hP hD hS 2 rfl hf dX9_cut_105 (fun y2_s_5 H locs hf (hP : va_P g.1 vwCl (w_X9_cut g a0 a1 a2 u0_1 u0_2 u0_4 u0_5 u0_8 u0_9 u0_10 u0_11 u0_12 u0_13 u0_14 u0_15 u0_16 u0_17 u0_18 u0_19 u0_20 u0_21 u0_22 u0_23 u0_24 u0_25 u0_26 u0_27 u0_28 u0_29 u0_30 x0_acts_1 x0_thrown_1 y1_past_1 y2_s_5) H) (hD : va_D A (w_X9_cut g a0 a1 a2 u0_1 u0_2 u0_4 u0_5 u0_8 u0_9 u0_10 u0_11 u0_12 u0_13 u0_14 u0_15 u0_16 u0_17 u0_18 u0_19 u0_20 u0_21 u0_22 u0_23 u0_24 u0_25 u0_26 u0_27 u0_28 u0_29 u0_30 x0_acts_1 x0_thrown_1 y1_past_1 y2_s_5)) hS => ?_)
      refine lv_aload_n (pc := 106) hexec hb dX9_cut_106 rfl (lv_at hl 0 rfl) ?_
      refine kg_get (pc := 107) hexec hb (own := RX9) hWX9 hown hG hP 0 rfl rfl 0 (nle rfl) (hts _ (List.mem_cons_of_mem _ (List.mem_append_left _ (List.mem_of_getElem? (i := 0) rfl)))) rfl rfl dX9_cut_107 ?_
      refine lv_bipush (pc := 110) hexec hb dX9_cut_110 kb_6 ?_
      refine lv_dup2_11 (pc := 112) hexec hb dX9_cut_112 rfl rfl ?_
      refine kr_iald (pc := 113) hexec hb hG hP 2 rfl hf dX9_cut_113 (fun hf => ?_)
      refine lv_aload_n (pc := 114) hexec hb dX9_cut_114 rfl (lv_at hl 0 rfl) ?_
      refine kg_get (pc := 115) hexec hb (own := RX9) hWX9 hown hG hP 0 rfl rfl 0 (nle rfl) (hts _ (List.mem_cons_of_mem _ (List.mem_append_left _ (List.mem_of_getElem? (i := 0) rfl)))) rfl rfl dX9_cut_115 ?_
      refine lv_bipush (pc := 118) hexec hb dX9_cut_118 kb_6 ?_
      refine kr_iald (pc := 120) hexec hb hG hP 2 rfl hf dX9_cut_120 (fun hf => ?_)
      refine lv_iload_n (pc := 121) hexec hb dX9_cut_121 rfl (lv_at hl 1 rfl) ?_
      obtain ⟨j130, ej130, hf⟩ := bvf1 hf
      have hj130 : ∀ (t130 : Int32) (H : Heap) (locs : List Loc) (ls : Array Slot), j130 t130 = some (r, o_x0_acts, o_x0_thrown, o_y1_past, o_y2_s) → va_P g.1 vwCl (w_X9_cut g a0 a1 a2 u0_1 u0_2 u0_4 u0_5 u0_8 u0_9 u0_10 u0_11 u0_12 u0_13 u0_14 u0_15 u0_16 u0_17 u0_18 u0_19 u0_20 u0_21 u0_22 u0_23 u0_24 u0_25 u0_26 u0_27 u0_28 u0_29 u0_30 x0_acts_1 x0_thrown_1 y1_past_1 y2_s_5) H → va_D A (w_X9_cut g a0 a1 a2 u0_1 u0_2 u0_4 u0_5 u0_8 u0_9 u0_10 u0_11 u0_12 u0_13 u0_14 u0_15 u0_16 u0_17 u0_18 u0_19 u0_20 u0_21 u0_22 u0_23 u0_24 u0_25 u0_26 u0_27 u0_28 u0_29 u0_30 x0_acts_1 x0_thrown_1 y1_past_1 y2_s_5) → va_S A s.heap H locs → lv_has ls 4 [(0, .ref a0), (2, .int v2)] → W p l e (RM 3 69) s m args below meth c H locs 0 0 Q (F0 m 130 ls [.int t130, .int (y2_s_5 (6 : Int32).toNatClampNeg), .int 6, .ref a2]) := by
        intro t130 H locs ls hf hP hD hS hl
        have hf := (ej130 t130).symm.trans hf
        refine lv_isub (pc := 130) hexec hb dX9_cut_130 ?_
        refine kw_iast (pc := 131) hexec hb hG hP hD hS 2 rfl hf dX9_cut_131 (fun y2_s_6 H locs hf (hP : va_P g.1 vwCl (w_X9_cut g a0 a1 a2 u0_1 u0_2 u0_4 u0_5 u0_8 u0_9 u0_10 u0_11 u0_12 u0_13 u0_14 u0_15 u0_16 u0_17 u0_18 u0_19 u0_20 u0_21 u0_22 u0_23 u0_24 u0_25 u0_26 u0_27 u0_28 u0_29 u0_30 x0_acts_1 x0_thrown_1 y1_past_1 y2_s_6) H) (hD : va_D A (w_X9_cut g a0 a1 a2 u0_1 u0_2 u0_4 u0_5 u0_8 u0_9 u0_10 u0_11 u0_12 u0_13 u0_14 u0_15 u0_16 u0_17 u0_18 u0_19 u0_20 u0_21 u0_22 u0_23 u0_24 u0_25 u0_26 u0_27 u0_28 u0_29 u0_30 x0_acts_1 x0_thrown_1 y1_past_1 y2_s_6)) hS => ?_)
        refine lv_aload_n (pc := 132) hexec hb dX9_cut_132 rfl (lv_at hl 0 rfl) ?_
        refine kg_get (pc := 133) hexec hb (own := RX9) hWX9 hown hG hP 0 rfl rfl 0 (nle rfl) (hts _ (List.mem_cons_of_mem _ (List.mem_append_left _ (List.mem_of_getElem? (i := 0) rfl)))) rfl rfl dX9_cut_133 ?_
        refine lv_bipush (pc := 136) hexec hb dX9_cut_136 kb_6 ?_
        refine lv_aload_n (pc := 138) hexec hb dX9_cut_138 rfl (lv_at hl 0 rfl) ?_
        refine kg_get (pc := 139) hexec hb (own := RX9) hWX9 hown hG hP 0 rfl rfl 0 (nle rfl) (hts _ (List.mem_cons_of_mem _ (List.mem_append_left _ (List.mem_of_getElem? (i := 0) rfl)))) rfl rfl dX9_cut_139 ?_
        refine lv_bipush (pc := 142) hexec hb dX9_cut_142 kb_6 ?_
        refine kr_iald (pc := 144) hexec hb hG hP 2 rfl hf dX9_cut_144 (fun hf => ?_)
        refine lv_aload_n (pc := 145) hexec hb dX9_cut_145 rfl (lv_at hl 0 rfl) ?_
        refine kg_get (pc := 146) hexec hb (own := RX9) hWX9 hown hG hP 0 rfl rfl 0 (nle rfl) (hts _ (List.mem_cons_of_mem _ (List.mem_append_left _ (List.mem_of_getElem? (i := 0) rfl)))) rfl rfl dX9_cut_146 ?_
        refine lv_iconst (pc := 149) hexec hb dX9_cut_149 ki_4 ?_
        refine kr_iald (pc := 150) hexec hb hG hP 2 rfl hf dX9_cut_150 (fun hf => ?_)
        obtain ⟨j165, ej165, hf⟩ := bvf1 hf
        have hj165 : ∀ (t165 : Int32) (H : Heap) (locs : List Loc) (ls : Array Slot), j165 t165 = some (r, o_x0_acts, o_x0_thrown, o_y1_past, o_y2_s) → va_P g.1 vwCl (w_X9_cut g a0 a1 a2 u0_1 u0_2 u0_4 u0_5 u0_8 u0_9 u0_10 u0_11 u0_12 u0_13 u0_14 u0_15 u0_16 u0_17 u0_18 u0_19 u0_20 u0_21 u0_22 u0_23 u0_24 u0_25 u0_26 u0_27 u0_28 u0_29 u0_30 x0_acts_1 x0_thrown_1 y1_past_1 y2_s_6) H → va_D A (w_X9_cut g a0 a1 a2 u0_1 u0_2 u0_4 u0_5 u0_8 u0_9 u0_10 u0_11 u0_12 u0_13 u0_14 u0_15 u0_16 u0_17 u0_18 u0_19 u0_20 u0_21 u0_22 u0_23 u0_24 u0_25 u0_26 u0_27 u0_28 u0_29 u0_30 x0_acts_1 x0_thrown_1 y1_past_1 y2_s_6) → va_S A s.heap H locs → lv_has ls 4 [(2, .int v2)] → W p l e (RM 3 69) s m args below meth c H locs 0 0 Q (F0 m 165 ls [.int t165, .int 6, .ref a2]) := by
          intro t165 H locs ls hf hP hD hS hl
          have hf := (ej165 t165).symm.trans hf
          refine kw_iast (pc := 165) hexec hb hG hP hD hS 2 rfl hf dX9_cut_165 (fun y2_s_7 H locs hf (hP : va_P g.1 vwCl (w_X9_cut g a0 a1 a2 u0_1 u0_2 u0_4 u0_5 u0_8 u0_9 u0_10 u0_11 u0_12 u0_13 u0_14 u0_15 u0_16 u0_17 u0_18 u0_19 u0_20 u0_21 u0_22 u0_23 u0_24 u0_25 u0_26 u0_27 u0_28 u0_29 u0_30 x0_acts_1 x0_thrown_1 y1_past_1 y2_s_7) H) (hD : va_D A (w_X9_cut g a0 a1 a2 u0_1 u0_2 u0_4 u0_5 u0_8 u0_9 u0_10 u0_11 u0_12 u0_13 u0_14 u0_15 u0_16 u0_17 u0_18 u0_19 u0_20 u0_21 u0_22 u0_23 u0_24 u0_25 u0_26 u0_27 u0_28 u0_29 u0_30 x0_acts_1 x0_thrown_1 y1_past_1 y2_s_7)) hS => ?_)
          refine lv_iload_n (pc := 166) hexec hb dX9_cut_166 rfl (lv_at hl 0 rfl) ?_
          cases hf
          exact ke_i hQ hexec hb hr hP hD hS dX9_cut_167 hlocks
        refine ki_ge (pc := 151) hexec hb dX9_cut_151 (tgt := 164) rfl hf (fun hc hf => ?_) (fun hc hf => ?_)
        · refine lv_iconst (pc := 164) hexec hb dX9_cut_164 ki_0 ?_
          exact hj165 _ _ _ _ hf hP hD hS (lv_sub hl [1] rfl)
        · refine lv_aload_n (pc := 154) hexec hb dX9_cut_154 rfl (lv_at hl 0 rfl) ?_
          refine kg_get (pc := 155) hexec hb (own := RX9) hWX9 hown hG hP 0 rfl rfl 0 (nle rfl) (hts _ (List.mem_cons_of_mem _ (List.mem_append_left _ (List.mem_of_getElem? (i := 0) rfl)))) rfl rfl dX9_cut_155 ?_
          refine lv_bipush (pc := 158) hexec hb dX9_cut_158 kb_6 ?_
          refine kr_iald (pc := 160) hexec hb hG hP 2 rfl hf dX9_cut_160 (fun hf => ?_)
          refine lv_goto (pc := 161) hexec hb dX9_cut_161 (tgt := 165) rfl ?_
          exact hj165 _ _ _ _ hf hP hD hS (lv_sub hl [1] rfl)
      refine ki_le (pc := 122) hexec hb dX9_cut_122 (tgt := 129) rfl hf (fun hc hf => ?_) (fun hc hf => ?_)
      · refine lv_iconst (pc := 129) hexec hb dX9_cut_129 ki_0 ?_
        exact hj130 _ _ _ _ hf hP hD hS (lv_sub hl [0, 2] rfl)
      · refine lv_iconst (pc := 125) hexec hb dX9_cut_125 ki_1 ?_
        refine lv_goto (pc := 126) hexec hb dX9_cut_126 (tgt := 130) rfl ?_
        exact hj130 _ _ _ _ hf hP hD hS (lv_sub hl [0, 2] rfl)
    obtain ⟨n, hz⟩ := lq2_e hz
    have hL52 : ∀ (n : Nat) (v3 : Int32) (y2_s_2 : Nat → Int32) (H : Heap) (locs : List Loc) (ls : Array Slot), it2 l52 n v3 y2_s_2 = some y2_s_3 → va_P g.1 vwCl (w_X9_cut g a0 a1 a2 u0_1 u0_2 u0_4 u0_5 u0_8 u0_9 u0_10 u0_11 u0_12 u0_13 u0_14 u0_15 u0_16 u0_17 u0_18 u0_19 u0_20 u0_21 u0_22 u0_23 u0_24 u0_25 u0_26 u0_27 u0_28 u0_29 u0_30 x0_acts_1 x0_thrown_1 y1_past_1 y2_s_2) H → va_D A (w_X9_cut g a0 a1 a2 u0_1 u0_2 u0_4 u0_5 u0_8 u0_9 u0_10 u0_11 u0_12 u0_13 u0_14 u0_15 u0_16 u0_17 u0_18 u0_19 u0_20 u0_21 u0_22 u0_23 u0_24 u0_25 u0_26 u0_27 u0_28 u0_29 u0_30 x0_acts_1 x0_thrown_1 y1_past_1 y2_s_2) → va_S A s.heap H locs → lv_has ls 4 [(0, .ref a0), (1, .int p1), (2, .int v2), (3, .int v3)] → W p l e (RM 3 69) s m args below meth c H locs 0 0 Q (F0 m 52 ls []) := by
      intro n
      induction n with
      | zero =>
        intro v3 y2_s_2 H locs ls hf hP hD hS hl
        exact it2_0 hf
      | succ n52 ih52 =>
        intro v3 y2_s_2 H locs ls hf hP hD hS hl
        obtain ⟨q52, hf, hk52⟩ := it2_e hf
        have hf := (el52 v3 y2_s_2).symm.trans hf
        refine lv_iload_n (pc := 52) hexec hb dX9_cut_52 rfl (lv_at hl 3 rfl) ?_
        refine lv_aload_n (pc := 53) hexec hb dX9_cut_53 rfl (lv_at hl 0 rfl) ?_
        refine kg_get (pc := 54) hexec hb (own := RX9) hWX9 hown hG hP 0 rfl rfl 0 (nle rfl) (hts _ (List.mem_cons_of_mem _ (List.mem_append_left _ (List.mem_of_getElem? (i := 0) rfl)))) rfl rfl dX9_cut_54 ?_
        refine lv_iconst (pc := 57) hexec hb dX9_cut_57 ki_4 ?_
        refine kr_iald (pc := 58) hexec hb hG hP 2 rfl hf dX9_cut_58 (fun hf => ?_)
        refine ki_ge (pc := 59) hexec hb dX9_cut_59 (tgt := 90) rfl hf (fun hc hf => ?_) (fun hc hf => ?_)
        · cases sr2 hf hk52
          exact hE52 _ _ _ hP hD hS (lv_sub hl [0, 1, 2] rfl)
        · refine lv_aload_n (pc := 62) hexec hb dX9_cut_62 rfl (lv_at hl 0 rfl) ?_
          refine kg_get (pc := 63) hexec hb (own := RX9) hWX9 hown hG hP 0 rfl rfl 0 (nle rfl) (hts _ (List.mem_cons_of_mem _ (List.mem_append_left _ (List.mem_of_getElem? (i := 0) rfl)))) rfl rfl dX9_cut_63 ?_
          refine lv_sipush (pc := 66) hexec hb dX9_cut_66 ks_536 ?_
          refine lv_iload_n (pc := 69) hexec hb dX9_cut_69 rfl (lv_at hl 3 rfl) ?_
          refine lv_iadd (pc := 70) hexec hb dX9_cut_70 ?_
          refine lv_aload_n (pc := 71) hexec hb dX9_cut_71 rfl (lv_at hl 0 rfl) ?_
          refine kg_get (pc := 72) hexec hb (own := RX9) hWX9 hown hG hP 0 rfl rfl 0 (nle rfl) (hts _ (List.mem_cons_of_mem _ (List.mem_append_left _ (List.mem_of_getElem? (i := 0) rfl)))) rfl rfl dX9_cut_72 ?_
          refine lv_sipush (pc := 75) hexec hb dX9_cut_75 ks_536 ?_
          refine lv_iload_n (pc := 78) hexec hb dX9_cut_78 rfl (lv_at hl 3 rfl) ?_
          refine lv_iadd (pc := 79) hexec hb dX9_cut_79 ?_
          refine lv_iconst (pc := 80) hexec hb dX9_cut_80 ki_1 ?_
          refine lv_iadd (pc := 81) hexec hb dX9_cut_81 ?_
          refine kr_iald (pc := 82) hexec hb hG hP 2 rfl hf dX9_cut_82 (fun hf => ?_)
          refine kw_iast (pc := 83) hexec hb hG hP hD hS 2 rfl hf dX9_cut_83 (fun y2_s_4 H locs hf (hP : va_P g.1 vwCl (w_X9_cut g a0 a1 a2 u0_1 u0_2 u0_4 u0_5 u0_8 u0_9 u0_10 u0_11 u0_12 u0_13 u0_14 u0_15 u0_16 u0_17 u0_18 u0_19 u0_20 u0_21 u0_22 u0_23 u0_24 u0_25 u0_26 u0_27 u0_28 u0_29 u0_30 x0_acts_1 x0_thrown_1 y1_past_1 y2_s_4) H) (hD : va_D A (w_X9_cut g a0 a1 a2 u0_1 u0_2 u0_4 u0_5 u0_8 u0_9 u0_10 u0_11 u0_12 u0_13 u0_14 u0_15 u0_16 u0_17 u0_18 u0_19 u0_20 u0_21 u0_22 u0_23 u0_24 u0_25 u0_26 u0_27 u0_28 u0_29 u0_30 x0_acts_1 x0_thrown_1 y1_past_1 y2_s_4)) hS => ?_)
          obtain ⟨v3_1, ev3_1, hf⟩ := bv_e hf
          refine k_iinc (pc := 84) hexec hb dX9_cut_84 kq_1 hl (k := 3) rfl ev3_1 (nle rfl) rfl (fun ls (hl : lv_has ls 4 [(3, .int v3_1), (0, .ref a0), (1, .int p1), (2, .int v2)]) => ?_)
          refine lv_goto (pc := 87) hexec hb dX9_cut_87 (tgt := 52) rfl ?_
          exact ih52 _ _ _ _ _ (sl2 hf hk52) hP hD hS (lv_sub hl [1, 2, 3, 0] rfl)
    exact hL52 n _ _ _ _ _ hz hP hD hS (lv_sub hl [2, 3, 1, 0] rfl)
  · refine lv_iconst (pc := 23) hexec hb dX9_cut_23 ki_0 ?_
    cases hf
    exact ke_i hQ hexec hb hr hP hD hS dX9_cut_24 hlocks
abbrev w_X9_turns (g : GE) (a0 a1 : Nat) (u0_1 u0_2 u0_3 u0_4 u0_5 u0_6 u0_7 u0_8 u0_9 u0_10 u0_11 u0_12 u0_13 u0_14 u0_15 u0_16 u0_17 u0_18 u0_19 u0_20 u0_21 u0_22 u0_23 u0_24 u0_25 u0_26 u0_27 u0_28 u0_29 u0_30 : Value) (y1_s : Nat → Int32) : va_W := [(a0, .inr (9, [.ref a1, u0_1, u0_2, u0_3, u0_4, u0_5, u0_6, u0_7, u0_8, u0_9, u0_10, u0_11, u0_12, u0_13, u0_14, u0_15, u0_16, u0_17, u0_18, u0_19, u0_20, u0_21, u0_22, u0_23, u0_24, u0_25, u0_26, u0_27, u0_28, u0_29, u0_30])), (a1, .inl (g.2.1 0, 552, .inl y1_s))]
set_option maxRecDepth 20000 in
theorem c_X9_turns (l : Launch) (g : GE) (a0 a1 : Nat) (sz : Nat) (u0_1 u0_2 u0_3 u0_4 u0_5 u0_6 u0_7 u0_8 u0_9 u0_10 u0_11 u0_12 u0_13 u0_14 u0_15 u0_16 u0_17 u0_18 u0_19 u0_20 u0_21 u0_22 u0_23 u0_24 u0_25 u0_26 u0_27 u0_28 u0_29 u0_30 : Value) (y1_s : Nat → Int32) (p1 : Int32)  (r : Int32) (o_y1_s : Nat → Int32) (hf : f_X9_turns y1_s p1 = some (r, o_y1_s)) : MI l g yX9_turns wsX9_turns 2 46 [.ref a0, .int p1] (w_X9_turns g a0 a1 u0_1 u0_2 u0_3 u0_4 u0_5 u0_6 u0_7 u0_8 u0_9 u0_10 u0_11 u0_12 u0_13 u0_14 u0_15 u0_16 u0_17 u0_18 u0_19 u0_20 u0_21 u0_22 u0_23 u0_24 u0_25 u0_26 u0_27 u0_28 u0_29 u0_30 y1_s) sz (some (.int r)) (w_X9_turns g a0 a1 u0_1 u0_2 u0_3 u0_4 u0_5 u0_6 u0_7 u0_8 u0_9 u0_10 u0_11 u0_12 u0_13 u0_14 u0_15 u0_16 u0_17 u0_18 u0_19 u0_20 u0_21 u0_22 u0_23 u0_24 u0_25 u0_26 u0_27 u0_28 u0_29 u0_30 o_y1_s) := by
  refine MI.start (cc := cX9_turns) (maxL := 3) (ret := (some .int)) rfl rfl (nle rfl) ?_
  intro p e s m args below meth c A ls Q hQ hexec hb hr hts hown hlocks hml hA hP hD hG hS hl
  unfold f_X9_turns at hf
  have hWX9 : ∀ w ∈ wsX90, w.before args s = true := fun w h => hts w (List.mem_cons_of_mem _ (List.mem_append_right _ h))
  have hS : va_S A s.heap s.heap [] := hS
  refine lv_aload_n (pc := 0) hexec hb dX9_turns_0 rfl (lv_at hl 0 rfl) ?_
  refine kg_get (pc := 1) hexec hb (own := RX9) hWX9 hown hG hP 0 rfl rfl 0 (nle rfl) (hts _ (List.mem_cons_of_mem _ (List.mem_append_left _ (List.mem_of_getElem? (i := 0) rfl)))) rfl rfl dX9_turns_1 ?_
  refine lv_iconst (pc := 4) hexec hb dX9_turns_4 ki_5 ?_
  refine kr_iald (pc := 5) hexec hb hG hP 1 rfl hf dX9_turns_5 (fun hf => ?_)
  refine lv_iload_n (pc := 6) hexec hb dX9_turns_6 rfl (lv_at hl 1 rfl) ?_
  obtain ⟨r7, hc, hf⟩ := bd1_e hf
  refine kSp (pc := 7) (S := ⟨hexec, hb, hml, hown, hts⟩) hP hD hG hA hS [] [0, 1] [0, 1] (w2 := (w_X9_turns g a0 a1 u0_1 u0_2 u0_3 u0_4 u0_5 u0_6 u0_7 u0_8 u0_9 u0_10 u0_11 u0_12 u0_13 u0_14 u0_15 u0_16 u0_17 u0_18 u0_19 u0_20 u0_21 u0_22 u0_23 u0_24 u0_25 u0_26 u0_27 u0_28 u0_29 u0_30 y1_s)) rfl rfl rfl rfl rfl rfl (by decide) (c_X9_quarters l g _ (y1_s (5 : Int32).toNatClampNeg) p1 r7 hc) gX9_turns_X9_quarters rfl hs_X9_quarters ⟨nle rfl, nle rfl⟩ (rest := []) rfl rfl hl.1 (nle rfl) dX9_turns_7 (fun H locs hP hD hS => ?_)
  refine lv_istore_n (pc := 10) hexec hb dX9_turns_10 rfl hl (nle rfl) rfl (fun ls (hl : lv_has ls 3 [(2, .int r7), (0, .ref a0), (1, .int p1)]) => ?_)
  refine lv_aload_n (pc := 11) hexec hb dX9_turns_11 rfl (lv_at hl 1 rfl) ?_
  refine kg_get (pc := 12) hexec hb (own := RX9) hWX9 hown hG hP 0 rfl rfl 0 (nle rfl) (hts _ (List.mem_cons_of_mem _ (List.mem_append_left _ (List.mem_of_getElem? (i := 0) rfl)))) rfl rfl dX9_turns_12 ?_
  refine lv_iconst (pc := 15) hexec hb dX9_turns_15 ki_5 ?_
  refine lv_iload_n (pc := 16) hexec hb dX9_turns_16 rfl (lv_at hl 2 rfl) ?_
  refine kw_iast (pc := 17) hexec hb hG hP hD hS 1 rfl hf dX9_turns_17 (fun y1_s_1 H locs hf (hP : va_P g.1 vwCl (w_X9_turns g a0 a1 u0_1 u0_2 u0_3 u0_4 u0_5 u0_6 u0_7 u0_8 u0_9 u0_10 u0_11 u0_12 u0_13 u0_14 u0_15 u0_16 u0_17 u0_18 u0_19 u0_20 u0_21 u0_22 u0_23 u0_24 u0_25 u0_26 u0_27 u0_28 u0_29 u0_30 y1_s_1) H) (hD : va_D A (w_X9_turns g a0 a1 u0_1 u0_2 u0_3 u0_4 u0_5 u0_6 u0_7 u0_8 u0_9 u0_10 u0_11 u0_12 u0_13 u0_14 u0_15 u0_16 u0_17 u0_18 u0_19 u0_20 u0_21 u0_22 u0_23 u0_24 u0_25 u0_26 u0_27 u0_28 u0_29 u0_30 y1_s_1)) hS => ?_)
  refine lv_aload_n (pc := 18) hexec hb dX9_turns_18 rfl (lv_at hl 1 rfl) ?_
  refine kg_get (pc := 19) hexec hb (own := RX9) hWX9 hown hG hP 0 rfl rfl 0 (nle rfl) (hts _ (List.mem_cons_of_mem _ (List.mem_append_left _ (List.mem_of_getElem? (i := 0) rfl)))) rfl rfl dX9_turns_19 ?_
  refine lv_bipush (pc := 22) hexec hb dX9_turns_22 kb_7 ?_
  refine lv_dup2_11 (pc := 24) hexec hb dX9_turns_24 rfl rfl ?_
  refine kr_iald (pc := 25) hexec hb hG hP 1 rfl hf dX9_turns_25 (fun hf => ?_)
  refine lv_iload_n (pc := 26) hexec hb dX9_turns_26 rfl (lv_at hl 0 rfl) ?_
  refine lv_iadd (pc := 27) hexec hb dX9_turns_27 ?_
  refine kw_iast (pc := 28) hexec hb hG hP hD hS 1 rfl hf dX9_turns_28 (fun y1_s_2 H locs hf (hP : va_P g.1 vwCl (w_X9_turns g a0 a1 u0_1 u0_2 u0_3 u0_4 u0_5 u0_6 u0_7 u0_8 u0_9 u0_10 u0_11 u0_12 u0_13 u0_14 u0_15 u0_16 u0_17 u0_18 u0_19 u0_20 u0_21 u0_22 u0_23 u0_24 u0_25 u0_26 u0_27 u0_28 u0_29 u0_30 y1_s_2) H) (hD : va_D A (w_X9_turns g a0 a1 u0_1 u0_2 u0_3 u0_4 u0_5 u0_6 u0_7 u0_8 u0_9 u0_10 u0_11 u0_12 u0_13 u0_14 u0_15 u0_16 u0_17 u0_18 u0_19 u0_20 u0_21 u0_22 u0_23 u0_24 u0_25 u0_26 u0_27 u0_28 u0_29 u0_30 y1_s_2)) hS => ?_)
  refine lv_iload_n (pc := 29) hexec hb dX9_turns_29 rfl (lv_at hl 0 rfl) ?_
  cases hf
  exact ke_i hQ hexec hb hr hP hD hS dX9_turns_30 hlocks
abbrev w_X9_turnPage (g : GE) (a0 a1 a2 : Nat) (u0_1 u0_2 u0_4 u0_5 u0_8 u0_9 u0_10 u0_11 u0_12 u0_13 u0_14 u0_15 u0_16 u0_17 u0_18 u0_19 u0_20 u0_21 u0_22 u0_23 u0_24 u0_25 u0_26 u0_27 u0_28 u0_29 u0_30 : Value) (x0_acts : Int32) (x0_thrown : Int32) (y1_past : Nat → Int32) (y2_s : Nat → Int32) : va_W := [(a0, .inr (9, [.ref a2, u0_1, u0_2, .ref a1, u0_4, u0_5, .int x0_acts, .int x0_thrown, u0_8, u0_9, u0_10, u0_11, u0_12, u0_13, u0_14, u0_15, u0_16, u0_17, u0_18, u0_19, u0_20, u0_21, u0_22, u0_23, u0_24, u0_25, u0_26, u0_27, u0_28, u0_29, u0_30])), (a1, .inl (g.2.1 0, 4416, .inl y1_past)), (a2, .inl (g.2.1 0, 552, .inl y2_s))]
set_option maxRecDepth 20000 in
theorem c_X9_turnPage (l : Launch) (g : GE) (a0 a1 a2 : Nat) (sz : Nat) (u0_1 u0_2 u0_4 u0_5 u0_8 u0_9 u0_10 u0_11 u0_12 u0_13 u0_14 u0_15 u0_16 u0_17 u0_18 u0_19 u0_20 u0_21 u0_22 u0_23 u0_24 u0_25 u0_26 u0_27 u0_28 u0_29 u0_30 : Value) (x0_acts : Int32) (x0_thrown : Int32) (y1_past : Nat → Int32) (y2_s : Nat → Int32) (p1 : Int32)  (r : Int32) (o_x0_acts : Int32) (o_x0_thrown : Int32) (o_y1_past : Nat → Int32) (o_y2_s : Nat → Int32) (hf : f_X9_turnPage x0_acts x0_thrown y1_past y2_s p1 = some (r, o_x0_acts, o_x0_thrown, o_y1_past, o_y2_s)) : MI l g yX9_turnPage wsX9_turnPage 3 70 [.ref a0, .int p1] (w_X9_turnPage g a0 a1 a2 u0_1 u0_2 u0_4 u0_5 u0_8 u0_9 u0_10 u0_11 u0_12 u0_13 u0_14 u0_15 u0_16 u0_17 u0_18 u0_19 u0_20 u0_21 u0_22 u0_23 u0_24 u0_25 u0_26 u0_27 u0_28 u0_29 u0_30 x0_acts x0_thrown y1_past y2_s) sz (some (.int r)) (w_X9_turnPage g a0 a1 a2 u0_1 u0_2 u0_4 u0_5 u0_8 u0_9 u0_10 u0_11 u0_12 u0_13 u0_14 u0_15 u0_16 u0_17 u0_18 u0_19 u0_20 u0_21 u0_22 u0_23 u0_24 u0_25 u0_26 u0_27 u0_28 u0_29 u0_30 o_x0_acts o_x0_thrown o_y1_past o_y2_s) := by
  refine MI.start (cc := cX9_turnPage) (maxL := 2) (ret := (some .int)) rfl rfl (nle rfl) ?_
  intro p e s m args below meth c A ls Q hQ hexec hb hr hts hown hlocks hml hA hP hD hG hS hl
  unfold f_X9_turnPage at hf
  have hWX9 : ∀ w ∈ wsX90, w.before args s = true := fun w h => hts w (List.mem_cons_of_mem _ (List.mem_append_right _ h))
  have hS : va_S A s.heap s.heap [] := hS
  refine lv_aload_n (pc := 0) hexec hb dX9_turnPage_0 rfl (lv_at hl 0 rfl) ?_
  refine lv_iload_n (pc := 1) hexec hb dX9_turnPage_1 rfl (lv_at hl 1 rfl) ?_
  obtain ⟨r2, x0_thrown_1, hc, hf⟩ := bd2_e hf
  refine kVp (pc := 2) (S := ⟨hexec, hb, hml, hown, hts⟩) hP hD hG hA hS [0] [1, 2] [2, 0, 1] (w2 := (w_X9_turnPage g a0 a1 a2 u0_1 u0_2 u0_4 u0_5 u0_8 u0_9 u0_10 u0_11 u0_12 u0_13 u0_14 u0_15 u0_16 u0_17 u0_18 u0_19 u0_20 u0_21 u0_22 u0_23 u0_24 u0_25 u0_26 u0_27 u0_28 u0_29 u0_30 x0_acts x0_thrown_1 y1_past y2_s)) rfl rfl rfl rfl rfl rfl (by decide) (c_X9_mayTurn l g a0 _ (.ref a2) u0_1 u0_2 (.ref a1) u0_4 u0_5 (.int x0_acts) u0_8 u0_9 u0_10 u0_11 u0_12 u0_13 u0_14 u0_15 u0_16 u0_17 u0_18 u0_19 u0_20 u0_21 u0_22 u0_23 u0_24 u0_25 u0_26 u0_27 u0_28 u0_29 u0_30 x0_thrown p1 r2 x0_thrown_1 hc) gX9_turnPage_X9_mayTurn rfl hv_X9_mayTurn ⟨nle rfl, nle rfl⟩ 9 0 rfl rfl rfl (rest := []) rfl rfl hl.1 (nle rfl) dX9_turnPage_2 (fun H locs hP hD hS => ?_)
  refine kb_ne (pc := 5) hexec hb dX9_turnPage_5 (tgt := 10) rfl hf (fun hc hf => ?_) (fun hc hf => ?_)
  · refine lv_aload_n (pc := 10) hexec hb dX9_turnPage_10 rfl (lv_at hl 0 rfl) ?_
    obtain ⟨x0_acts_1, y1_past_1, hc, hf⟩ := bd2_e hf
    refine kVp (pc := 11) (S := ⟨hexec, hb, hml, hown, hts⟩) hP hD hG hA hS [0, 1, 2] [] [0, 1, 2] (w2 := (w_X9_turnPage g a0 a1 a2 u0_1 u0_2 u0_4 u0_5 u0_8 u0_9 u0_10 u0_11 u0_12 u0_13 u0_14 u0_15 u0_16 u0_17 u0_18 u0_19 u0_20 u0_21 u0_22 u0_23 u0_24 u0_25 u0_26 u0_27 u0_28 u0_29 u0_30 x0_acts_1 x0_thrown_1 y1_past_1 y2_s)) rfl rfl rfl rfl rfl rfl (by decide) (c_X9_keeps l g a0 a1 a2 _ u0_1 u0_2 u0_4 u0_5 (.int x0_thrown_1) u0_8 u0_9 u0_10 u0_11 u0_12 u0_13 u0_14 u0_15 u0_16 u0_17 u0_18 u0_19 u0_20 u0_21 u0_22 u0_23 u0_24 u0_25 u0_26 u0_27 u0_28 u0_29 u0_30 x0_acts y1_past y2_s x0_acts_1 y1_past_1 hc) gX9_turnPage_X9_keeps rfl hv_X9_keeps ⟨nle rfl, nle rfl⟩ 9 0 rfl rfl rfl (rest := []) rfl rfl hl.1 (nle rfl) dX9_turnPage_11 (fun H locs hP hD hS => ?_)
    refine lv_aload_n (pc := 14) hexec hb dX9_turnPage_14 rfl (lv_at hl 0 rfl) ?_
    refine lv_iload_n (pc := 15) hexec hb dX9_turnPage_15 rfl (lv_at hl 1 rfl) ?_
    obtain ⟨r16, y2_s_1, hc, hf⟩ := bd2_e hf
    refine kVp (pc := 16) (S := ⟨hexec, hb, hml, hown, hts⟩) hP hD hG hA hS [0, 2] [1] [1, 0, 2] (w2 := (w_X9_turnPage g a0 a1 a2 u0_1 u0_2 u0_4 u0_5 u0_8 u0_9 u0_10 u0_11 u0_12 u0_13 u0_14 u0_15 u0_16 u0_17 u0_18 u0_19 u0_20 u0_21 u0_22 u0_23 u0_24 u0_25 u0_26 u0_27 u0_28 u0_29 u0_30 x0_acts_1 x0_thrown_1 y1_past_1 y2_s_1)) rfl rfl rfl rfl rfl rfl (by decide) (c_X9_turns l g a0 a2 _ u0_1 u0_2 (.ref a1) u0_4 u0_5 (.int x0_acts_1) (.int x0_thrown_1) u0_8 u0_9 u0_10 u0_11 u0_12 u0_13 u0_14 u0_15 u0_16 u0_17 u0_18 u0_19 u0_20 u0_21 u0_22 u0_23 u0_24 u0_25 u0_26 u0_27 u0_28 u0_29 u0_30 y2_s p1 r16 y2_s_1 hc) gX9_turnPage_X9_turns rfl hv_X9_turns ⟨nle rfl, nle rfl⟩ 9 0 rfl rfl rfl (rest := []) rfl rfl hl.1 (nle rfl) dX9_turnPage_16 (fun H locs hP hD hS => ?_)
    cases hf
    exact ke_i hQ hexec hb hr hP hD hS dX9_turnPage_19 hlocks
  · refine lv_iconst (pc := 8) hexec hb dX9_turnPage_8 ki_0 ?_
    cases hf
    exact ke_i hQ hexec hb hr hP hD hS dX9_turnPage_9 hlocks
abbrev w_X9_read (g : GE) (a0 a1 a2 : Nat) (u0_1 u0_2 u0_4 u0_5 u0_8 u0_9 u0_10 u0_11 u0_12 u0_13 u0_14 u0_15 u0_16 u0_17 u0_18 u0_19 u0_20 u0_21 u0_22 u0_23 u0_24 u0_25 u0_26 u0_27 u0_28 u0_29 u0_30 : Value) (x0_acts : Int32) (x0_thrown : Int32) (y1_past : Nat → Int32) (y2_s : Nat → Int32) : va_W := [(a0, .inr (9, [.ref a2, u0_1, u0_2, .ref a1, u0_4, u0_5, .int x0_acts, .int x0_thrown, u0_8, u0_9, u0_10, u0_11, u0_12, u0_13, u0_14, u0_15, u0_16, u0_17, u0_18, u0_19, u0_20, u0_21, u0_22, u0_23, u0_24, u0_25, u0_26, u0_27, u0_28, u0_29, u0_30])), (a1, .inl (g.2.1 0, 4416, .inl y1_past)), (a2, .inl (g.2.1 0, 552, .inl y2_s))]
set_option maxRecDepth 20000 in
theorem c_X9_read (l : Launch) (g : GE) (a0 a1 a2 : Nat) (sz : Nat) (u0_1 u0_2 u0_4 u0_5 u0_8 u0_9 u0_10 u0_11 u0_12 u0_13 u0_14 u0_15 u0_16 u0_17 u0_18 u0_19 u0_20 u0_21 u0_22 u0_23 u0_24 u0_25 u0_26 u0_27 u0_28 u0_29 u0_30 : Value) (x0_acts : Int32) (x0_thrown : Int32) (y1_past : Nat → Int32) (y2_s : Nat → Int32)   (r : Int32) (o_x0_acts : Int32) (o_x0_thrown : Int32) (o_y1_past : Nat → Int32) (o_y2_s : Nat → Int32) (hf : f_X9_read x0_acts x0_thrown y1_past y2_s = some (r, o_x0_acts, o_x0_thrown, o_y1_past, o_y2_s)) : MI l g yX9_read wsX9_read 3 69 [.ref a0] (w_X9_read g a0 a1 a2 u0_1 u0_2 u0_4 u0_5 u0_8 u0_9 u0_10 u0_11 u0_12 u0_13 u0_14 u0_15 u0_16 u0_17 u0_18 u0_19 u0_20 u0_21 u0_22 u0_23 u0_24 u0_25 u0_26 u0_27 u0_28 u0_29 u0_30 x0_acts x0_thrown y1_past y2_s) sz (some (.int r)) (w_X9_read g a0 a1 a2 u0_1 u0_2 u0_4 u0_5 u0_8 u0_9 u0_10 u0_11 u0_12 u0_13 u0_14 u0_15 u0_16 u0_17 u0_18 u0_19 u0_20 u0_21 u0_22 u0_23 u0_24 u0_25 u0_26 u0_27 u0_28 u0_29 u0_30 o_x0_acts o_x0_thrown o_y1_past o_y2_s) := by
  refine MI.start (cc := cX9_read) (maxL := 3) (ret := (some .int)) rfl rfl (nle rfl) ?_
  intro p e s m args below meth c A ls Q hQ hexec hb hr hts hown hlocks hml hA hP hD hG hS hl
  unfold f_X9_read at hf
  have hWX9 : ∀ w ∈ wsX90, w.before args s = true := fun w h => hts w (List.mem_cons_of_mem _ (List.mem_append_right _ h))
  have hS : va_S A s.heap s.heap [] := hS
  refine lv_aload_n (pc := 0) hexec hb dX9_read_0 rfl (lv_at hl 0 rfl) ?_
  refine lv_iconst (pc := 1) hexec hb dX9_read_1 ki_0 ?_
  refine kp_put (pc := 2) hexec hb (own := RX9) hWX9 tyX9 tyX9_ok nmX9 hown hG hP hD hS 0 rfl rfl 7 (nle rfl) (hts _ (List.mem_cons_of_mem _ (List.mem_append_left _ (List.mem_append_left _ (List.mem_of_getElem? (i := 0) rfl))))) rfl rfl rfl rfl (nle rfl) dX9_read_2 (fun H locs (hP : va_P g.1 vwCl (w_X9_read g a0 a1 a2 u0_1 u0_2 u0_4 u0_5 u0_8 u0_9 u0_10 u0_11 u0_12 u0_13 u0_14 u0_15 u0_16 u0_17 u0_18 u0_19 u0_20 u0_21 u0_22 u0_23 u0_24 u0_25 u0_26 u0_27 u0_28 u0_29 u0_30 x0_acts 0 y1_past y2_s) H) (hD : va_D A (w_X9_read g a0 a1 a2 u0_1 u0_2 u0_4 u0_5 u0_8 u0_9 u0_10 u0_11 u0_12 u0_13 u0_14 u0_15 u0_16 u0_17 u0_18 u0_19 u0_20 u0_21 u0_22 u0_23 u0_24 u0_25 u0_26 u0_27 u0_28 u0_29 u0_30 x0_acts 0 y1_past y2_s)) hS => ?_)
  refine lv_aload_n (pc := 5) hexec hb dX9_read_5 rfl (lv_at hl 0 rfl) ?_
  refine kg_get (pc := 6) hexec hb (own := RX9) hWX9 hown hG hP 0 rfl rfl 0 (nle rfl) (hts _ (List.mem_cons_of_mem _ (List.mem_append_left _ (List.mem_append_left _ (List.mem_of_getElem? (i := 1) rfl))))) rfl rfl dX9_read_6 ?_
  refine lv_iconst (pc := 9) hexec hb dX9_read_9 ki_4 ?_
  refine kr_iald (pc := 10) hexec hb hG hP 2 rfl hf dX9_read_10 (fun hf => ?_)
  refine kb_ne (pc := 11) hexec hb dX9_read_11 (tgt := 17) rfl hf (fun hc hf => ?_) (fun hc hf => ?_)
  · refine lv_aload_n (pc := 17) hexec hb dX9_read_17 rfl (lv_at hl 0 rfl) ?_
    obtain ⟨x0_acts_1, y1_past_1, hc, hf⟩ := bd2_e hf
    refine kVp (pc := 18) (S := ⟨hexec, hb, hml, hown, hts⟩) hP hD hG hA hS [0, 1, 2] [] [0, 1, 2] (w2 := (w_X9_read g a0 a1 a2 u0_1 u0_2 u0_4 u0_5 u0_8 u0_9 u0_10 u0_11 u0_12 u0_13 u0_14 u0_15 u0_16 u0_17 u0_18 u0_19 u0_20 u0_21 u0_22 u0_23 u0_24 u0_25 u0_26 u0_27 u0_28 u0_29 u0_30 x0_acts_1 0 y1_past_1 y2_s)) rfl rfl rfl rfl rfl rfl (by decide) (c_X9_keeps l g a0 a1 a2 _ u0_1 u0_2 u0_4 u0_5 (.int 0) u0_8 u0_9 u0_10 u0_11 u0_12 u0_13 u0_14 u0_15 u0_16 u0_17 u0_18 u0_19 u0_20 u0_21 u0_22 u0_23 u0_24 u0_25 u0_26 u0_27 u0_28 u0_29 u0_30 x0_acts y1_past y2_s x0_acts_1 y1_past_1 hc) gX9_read_X9_keeps rfl hv_X9_keeps ⟨nle rfl, nle rfl⟩ 9 0 rfl rfl rfl (rest := []) rfl rfl hl.1 (nle rfl) dX9_read_18 (fun H locs hP hD hS => ?_)
    refine lv_aload_n (pc := 21) hexec hb dX9_read_21 rfl (lv_at hl 0 rfl) ?_
    refine kg_get (pc := 22) hexec hb (own := RX9) hWX9 hown hG hP 0 rfl rfl 0 (nle rfl) (hts _ (List.mem_cons_of_mem _ (List.mem_append_left _ (List.mem_append_left _ (List.mem_of_getElem? (i := 1) rfl))))) rfl rfl dX9_read_22 ?_
    refine lv_sipush (pc := 25) hexec hb dX9_read_25 ks_536 ?_
    refine lv_aload_n (pc := 28) hexec hb dX9_read_28 rfl (lv_at hl 0 rfl) ?_
    refine kg_get (pc := 29) hexec hb (own := RX9) hWX9 hown hG hP 0 rfl rfl 0 (nle rfl) (hts _ (List.mem_cons_of_mem _ (List.mem_append_left _ (List.mem_append_left _ (List.mem_of_getElem? (i := 1) rfl))))) rfl rfl dX9_read_29 ?_
    refine lv_bipush (pc := 32) hexec hb dX9_read_32 kb_6 ?_
    refine kr_iald (pc := 34) hexec hb hG hP 2 rfl hf dX9_read_34 (fun hf => ?_)
    refine lv_iadd (pc := 35) hexec hb dX9_read_35 ?_
    refine kr_iald (pc := 36) hexec hb hG hP 2 rfl hf dX9_read_36 (fun hf => ?_)
    obtain ⟨v1, ev1, hf⟩ := bv_e hf
    refine kn_i ev1 ?_
    refine lv_istore_n (pc := 37) hexec hb dX9_read_37 rfl hl (nle rfl) rfl (fun ls (hl : lv_has ls 3 [(1, .int v1), (0, .ref a0)]) => ?_)
    refine lv_aload_n (pc := 38) hexec hb dX9_read_38 rfl (lv_at hl 1 rfl) ?_
    refine lv_iload_n (pc := 39) hexec hb dX9_read_39 rfl (lv_at hl 0 rfl) ?_
    obtain ⟨r40, hc, hf⟩ := bd1_e hf
    refine kVp (pc := 40) (S := ⟨hexec, hb, hml, hown, hts⟩) hP hD hG hA hS [0, 2] [1] [1, 0, 2] (w2 := (w_X9_read g a0 a1 a2 u0_1 u0_2 u0_4 u0_5 u0_8 u0_9 u0_10 u0_11 u0_12 u0_13 u0_14 u0_15 u0_16 u0_17 u0_18 u0_19 u0_20 u0_21 u0_22 u0_23 u0_24 u0_25 u0_26 u0_27 u0_28 u0_29 u0_30 x0_acts_1 0 y1_past_1 y2_s)) rfl rfl rfl rfl rfl rfl (by decide) (c_X9_isPlaced l g a0 a2 _ u0_1 u0_2 (.ref a1) u0_4 u0_5 (.int x0_acts_1) (.int 0) u0_8 u0_9 u0_10 u0_11 u0_12 u0_13 u0_14 u0_15 u0_16 u0_17 u0_18 u0_19 u0_20 u0_21 u0_22 u0_23 u0_24 u0_25 u0_26 u0_27 u0_28 u0_29 u0_30 y2_s v1 r40 hc) gX9_read_X9_isPlaced rfl hv_X9_isPlaced ⟨nle rfl, nle rfl⟩ 9 0 rfl rfl rfl (rest := []) rfl rfl hl.1 (nle rfl) dX9_read_40 (fun H locs hP hD hS => ?_)
    obtain ⟨j60, ej60, hf⟩ := bvf1 hf
    have hj60 : ∀ (y2_s_1 : Nat → Int32) (H : Heap) (locs : List Loc) (ls : Array Slot), j60 y2_s_1 = some (r, o_x0_acts, o_x0_thrown, o_y1_past, o_y2_s) → va_P g.1 vwCl (w_X9_read g a0 a1 a2 u0_1 u0_2 u0_4 u0_5 u0_8 u0_9 u0_10 u0_11 u0_12 u0_13 u0_14 u0_15 u0_16 u0_17 u0_18 u0_19 u0_20 u0_21 u0_22 u0_23 u0_24 u0_25 u0_26 u0_27 u0_28 u0_29 u0_30 x0_acts_1 0 y1_past_1 y2_s_1) H → va_D A (w_X9_read g a0 a1 a2 u0_1 u0_2 u0_4 u0_5 u0_8 u0_9 u0_10 u0_11 u0_12 u0_13 u0_14 u0_15 u0_16 u0_17 u0_18 u0_19 u0_20 u0_21 u0_22 u0_23 u0_24 u0_25 u0_26 u0_27 u0_28 u0_29 u0_30 x0_acts_1 0 y1_past_1 y2_s_1) → va_S A s.heap H locs → lv_has ls 3 [(0, .ref a0), (1, .int v1)] → W p l e (RM 3 69) s m args below meth c H locs 0 0 Q (F0 m 60 ls []) := by
      intro y2_s_1 H locs ls hf hP hD hS hl
      have hf := (ej60 y2_s_1).symm.trans hf
      refine lv_aload_n (pc := 60) hexec hb dX9_read_60 rfl (lv_at hl 0 rfl) ?_
      refine kg_get (pc := 61) hexec hb (own := RX9) hWX9 hown hG hP 0 rfl rfl 0 (nle rfl) (hts _ (List.mem_cons_of_mem _ (List.mem_append_left _ (List.mem_append_left _ (List.mem_of_getElem? (i := 1) rfl))))) rfl rfl dX9_read_61 ?_
      refine lv_bipush (pc := 64) hexec hb dX9_read_64 kb_6 ?_
      refine lv_aload_n (pc := 66) hexec hb dX9_read_66 rfl (lv_at hl 0 rfl) ?_
      refine kg_get (pc := 67) hexec hb (own := RX9) hWX9 hown hG hP 0 rfl rfl 0 (nle rfl) (hts _ (List.mem_cons_of_mem _ (List.mem_append_left _ (List.mem_append_left _ (List.mem_of_getElem? (i := 1) rfl))))) rfl rfl dX9_read_67 ?_
      refine lv_bipush (pc := 70) hexec hb dX9_read_70 kb_6 ?_
      refine kr_iald (pc := 72) hexec hb hG hP 2 rfl hf dX9_read_72 (fun hf => ?_)
      refine lv_iconst (pc := 73) hexec hb dX9_read_73 ki_1 ?_
      refine lv_iadd (pc := 74) hexec hb dX9_read_74 ?_
      refine lv_aload_n (pc := 75) hexec hb dX9_read_75 rfl (lv_at hl 0 rfl) ?_
      refine kg_get (pc := 76) hexec hb (own := RX9) hWX9 hown hG hP 0 rfl rfl 0 (nle rfl) (hts _ (List.mem_cons_of_mem _ (List.mem_append_left _ (List.mem_append_left _ (List.mem_of_getElem? (i := 1) rfl))))) rfl rfl dX9_read_76 ?_
      refine lv_iconst (pc := 79) hexec hb dX9_read_79 ki_4 ?_
      refine kr_iald (pc := 80) hexec hb hG hP 2 rfl hf dX9_read_80 (fun hf => ?_)
      refine kd_irem (pc := 81) hexec hb dX9_read_81 hf (fun hf => ?_)
      refine kw_iast (pc := 82) hexec hb hG hP hD hS 2 rfl hf dX9_read_82 (fun y2_s_2 H locs hf (hP : va_P g.1 vwCl (w_X9_read g a0 a1 a2 u0_1 u0_2 u0_4 u0_5 u0_8 u0_9 u0_10 u0_11 u0_12 u0_13 u0_14 u0_15 u0_16 u0_17 u0_18 u0_19 u0_20 u0_21 u0_22 u0_23 u0_24 u0_25 u0_26 u0_27 u0_28 u0_29 u0_30 x0_acts_1 0 y1_past_1 y2_s_2) H) (hD : va_D A (w_X9_read g a0 a1 a2 u0_1 u0_2 u0_4 u0_5 u0_8 u0_9 u0_10 u0_11 u0_12 u0_13 u0_14 u0_15 u0_16 u0_17 u0_18 u0_19 u0_20 u0_21 u0_22 u0_23 u0_24 u0_25 u0_26 u0_27 u0_28 u0_29 u0_30 x0_acts_1 0 y1_past_1 y2_s_2)) hS => ?_)
      refine lv_iload_n (pc := 83) hexec hb dX9_read_83 rfl (lv_at hl 1 rfl) ?_
      cases hf
      exact ke_i hQ hexec hb hr hP hD hS dX9_read_84 hlocks
    refine kb_eq (pc := 43) hexec hb dX9_read_43 (tgt := 60) rfl hf (fun hc hf => ?_) (fun hc hf => ?_)
    · exact hj60 _ _ _ _ hf hP hD hS (lv_sub hl [1, 0] rfl)
    · refine lv_aload_n (pc := 46) hexec hb dX9_read_46 rfl (lv_at hl 1 rfl) ?_
      refine lv_aload_n (pc := 47) hexec hb dX9_read_47 rfl (lv_at hl 1 rfl) ?_
      refine lv_iload_n (pc := 48) hexec hb dX9_read_48 rfl (lv_at hl 0 rfl) ?_
      refine lv_iconst (pc := 49) hexec hb dX9_read_49 ki_2 ?_
      obtain ⟨r50, hc, hf⟩ := bd1_e hf
      refine kVp (pc := 50) (S := ⟨hexec, hb, hml, hown, hts⟩) hP hD hG hA hS [0, 2] [1] [1, 0, 2] (w2 := (w_X9_read g a0 a1 a2 u0_1 u0_2 u0_4 u0_5 u0_8 u0_9 u0_10 u0_11 u0_12 u0_13 u0_14 u0_15 u0_16 u0_17 u0_18 u0_19 u0_20 u0_21 u0_22 u0_23 u0_24 u0_25 u0_26 u0_27 u0_28 u0_29 u0_30 x0_acts_1 0 y1_past_1 y2_s)) rfl rfl rfl rfl rfl rfl (by decide) (c_X9_of l g a0 a2 _ u0_1 u0_2 (.ref a1) u0_4 u0_5 (.int x0_acts_1) (.int 0) u0_8 u0_9 u0_10 u0_11 u0_12 u0_13 u0_14 u0_15 u0_16 u0_17 u0_18 u0_19 u0_20 u0_21 u0_22 u0_23 u0_24 u0_25 u0_26 u0_27 u0_28 u0_29 u0_30 y2_s v1 2 r50 hc) gX9_read_X9_of rfl hv_X9_of ⟨nle rfl, nle rfl⟩ 9 0 rfl rfl rfl (rest := [.ref a0]) rfl rfl hl.1 (nle rfl) dX9_read_50 (fun H locs hP hD hS => ?_)
      obtain ⟨r53, hc, hf⟩ := bd1_e hf
      refine kSp (pc := 53) (S := ⟨hexec, hb, hml, hown, hts⟩) hP hD hG hA hS [] [0, 1, 2] [0, 1, 2] (w2 := (w_X9_read g a0 a1 a2 u0_1 u0_2 u0_4 u0_5 u0_8 u0_9 u0_10 u0_11 u0_12 u0_13 u0_14 u0_15 u0_16 u0_17 u0_18 u0_19 u0_20 u0_21 u0_22 u0_23 u0_24 u0_25 u0_26 u0_27 u0_28 u0_29 u0_30 x0_acts_1 0 y1_past_1 y2_s)) rfl rfl rfl rfl rfl rfl (by decide) (c_X9_uprightBy l g _ r50 r53 hc) gX9_read_X9_uprightBy rfl hs_X9_uprightBy ⟨nle rfl, nle rfl⟩ (rest := [.ref a0]) rfl rfl hl.1 (nle rfl) dX9_read_53 (fun H locs hP hD hS => ?_)
      obtain ⟨r56, y2_s_3, hc, hf⟩ := bd2_e hf
      refine kVp (pc := 56) (S := ⟨hexec, hb, hml, hown, hts⟩) hP hD hG hA hS [0, 2] [1] [1, 0, 2] (w2 := (w_X9_read g a0 a1 a2 u0_1 u0_2 u0_4 u0_5 u0_8 u0_9 u0_10 u0_11 u0_12 u0_13 u0_14 u0_15 u0_16 u0_17 u0_18 u0_19 u0_20 u0_21 u0_22 u0_23 u0_24 u0_25 u0_26 u0_27 u0_28 u0_29 u0_30 x0_acts_1 0 y1_past_1 y2_s_3)) rfl rfl rfl rfl rfl rfl (by decide) (c_X9_turns l g a0 a2 _ u0_1 u0_2 (.ref a1) u0_4 u0_5 (.int x0_acts_1) (.int 0) u0_8 u0_9 u0_10 u0_11 u0_12 u0_13 u0_14 u0_15 u0_16 u0_17 u0_18 u0_19 u0_20 u0_21 u0_22 u0_23 u0_24 u0_25 u0_26 u0_27 u0_28 u0_29 u0_30 y2_s r53 r56 y2_s_3 hc) gX9_read_X9_turns rfl hv_X9_turns ⟨nle rfl, nle rfl⟩ 9 0 rfl rfl rfl (rest := []) rfl rfl hl.1 (nle rfl) dX9_read_56 (fun H locs hP hD hS => ?_)
      refine lv_istore_n (pc := 59) hexec hb dX9_read_59 rfl hl (nle rfl) rfl (fun ls (hl : lv_has ls 3 [(2, .int r56), (1, .int v1), (0, .ref a0)]) => ?_)
      exact hj60 _ _ _ _ hf hP hD hS (lv_sub hl [2, 1] rfl)
  · refine lv_bipush (pc := 14) hexec hb dX9_read_14 kb_m3 ?_
    cases hf
    exact ke_i hQ hexec hb hr hP hD hS dX9_read_16 hlocks
abbrev w_X9_meanTurn (g : GE) (a0 a1 a2 : Nat) (u0_1 u0_2 u0_3 u0_4 u0_5 u0_6 u0_8 u0_9 u0_10 u0_12 u0_13 u0_14 u0_15 u0_16 u0_17 u0_18 u0_19 u0_20 u0_21 u0_22 u0_23 u0_24 u0_25 u0_26 u0_27 u0_28 u0_29 u0_30 : Value) (x0_thrown : Int32) (y1_s : Nat → Int32) (y2_ways : Nat → Int32) : va_W := [(a0, .inr (9, [.ref a1, u0_1, u0_2, u0_3, u0_4, u0_5, u0_6, .int x0_thrown, u0_8, u0_9, u0_10, .ref a2, u0_12, u0_13, u0_14, u0_15, u0_16, u0_17, u0_18, u0_19, u0_20, u0_21, u0_22, u0_23, u0_24, u0_25, u0_26, u0_27, u0_28, u0_29, u0_30])), (a1, .inl (g.2.1 0, 552, .inl y1_s)), (a2, .inl (g.2.1 0, 8, .inl y2_ways))]
set_option maxRecDepth 20000 in
theorem c_X9_meanTurn (l : Launch) (g : GE) (a0 a1 a2 : Nat) (sz : Nat) (u0_1 u0_2 u0_3 u0_4 u0_5 u0_6 u0_8 u0_9 u0_10 u0_12 u0_13 u0_14 u0_15 u0_16 u0_17 u0_18 u0_19 u0_20 u0_21 u0_22 u0_23 u0_24 u0_25 u0_26 u0_27 u0_28 u0_29 u0_30 : Value) (x0_thrown : Int32) (y1_s : Nat → Int32) (y2_ways : Nat → Int32)   (r : UInt64) (o_x0_thrown : Int32) (o_y2_ways : Nat → Int32) (hf : f_X9_meanTurn x0_thrown y1_s y2_ways = some (r, o_x0_thrown, o_y2_ways)) : MI l g yX9_meanTurn wsX9_meanTurn 4 93 [.ref a0] (w_X9_meanTurn g a0 a1 a2 u0_1 u0_2 u0_3 u0_4 u0_5 u0_6 u0_8 u0_9 u0_10 u0_12 u0_13 u0_14 u0_15 u0_16 u0_17 u0_18 u0_19 u0_20 u0_21 u0_22 u0_23 u0_24 u0_25 u0_26 u0_27 u0_28 u0_29 u0_30 x0_thrown y1_s y2_ways) sz (some (.double r)) (w_X9_meanTurn g a0 a1 a2 u0_1 u0_2 u0_3 u0_4 u0_5 u0_6 u0_8 u0_9 u0_10 u0_12 u0_13 u0_14 u0_15 u0_16 u0_17 u0_18 u0_19 u0_20 u0_21 u0_22 u0_23 u0_24 u0_25 u0_26 u0_27 u0_28 u0_29 u0_30 o_x0_thrown y1_s o_y2_ways) := by
  refine MI.start (cc := cX9_meanTurn) (maxL := 3) (ret := (some .double)) rfl rfl (nle rfl) ?_
  intro p e s m args below meth c A ls Q hQ hexec hb hr hts hown hlocks hml hA hP hD hG hS hl
  unfold f_X9_meanTurn at hf
  have hWX9 : ∀ w ∈ wsX90, w.before args s = true := fun w h => hts w (List.mem_cons_of_mem _ (List.mem_append_right _ h))
  have hS : va_S A s.heap s.heap [] := hS
  refine lv_aload_n (pc := 0) hexec hb dX9_meanTurn_0 rfl (lv_at hl 0 rfl) ?_
  refine lv_iconst (pc := 1) hexec hb dX9_meanTurn_1 ki_0 ?_
  refine kp_put (pc := 2) hexec hb (own := RX9) hWX9 tyX9 tyX9_ok nmX9 hown hG hP hD hS 0 rfl rfl 7 (nle rfl) (hts _ (List.mem_cons_of_mem _ (List.mem_append_left _ (List.mem_append_left _ (List.mem_of_getElem? (i := 0) rfl))))) rfl rfl rfl rfl (nle rfl) dX9_meanTurn_2 (fun H locs (hP : va_P g.1 vwCl (w_X9_meanTurn g a0 a1 a2 u0_1 u0_2 u0_3 u0_4 u0_5 u0_6 u0_8 u0_9 u0_10 u0_12 u0_13 u0_14 u0_15 u0_16 u0_17 u0_18 u0_19 u0_20 u0_21 u0_22 u0_23 u0_24 u0_25 u0_26 u0_27 u0_28 u0_29 u0_30 0 y1_s y2_ways) H) (hD : va_D A (w_X9_meanTurn g a0 a1 a2 u0_1 u0_2 u0_3 u0_4 u0_5 u0_6 u0_8 u0_9 u0_10 u0_12 u0_13 u0_14 u0_15 u0_16 u0_17 u0_18 u0_19 u0_20 u0_21 u0_22 u0_23 u0_24 u0_25 u0_26 u0_27 u0_28 u0_29 u0_30 0 y1_s y2_ways)) hS => ?_)
  refine lv_iconst (pc := 5) hexec hb dX9_meanTurn_5 ki_0 ?_
  refine lv_istore_n (pc := 6) hexec hb dX9_meanTurn_6 rfl hl (nle rfl) rfl (fun ls (hl : lv_has ls 3 [(1, .int 0), (0, .ref a0)]) => ?_)
  refine lv_iconst (pc := 7) hexec hb dX9_meanTurn_7 ki_0 ?_
  refine lv_istore_n (pc := 8) hexec hb dX9_meanTurn_8 rfl hl (nle rfl) rfl (fun ls (hl : lv_has ls 3 [(2, .int 0), (1, .int 0), (0, .ref a0)]) => ?_)
  obtain ⟨l9, el9, hf⟩ := bvf2 hf
  obtain ⟨v1_1, hz, hf⟩ := bd1_e hf
  have hE9 : ∀ (H : Heap) (locs : List Loc) (ls : Array Slot), va_P g.1 vwCl (w_X9_meanTurn g a0 a1 a2 u0_1 u0_2 u0_3 u0_4 u0_5 u0_6 u0_8 u0_9 u0_10 u0_12 u0_13 u0_14 u0_15 u0_16 u0_17 u0_18 u0_19 u0_20 u0_21 u0_22 u0_23 u0_24 u0_25 u0_26 u0_27 u0_28 u0_29 u0_30 0 y1_s y2_ways) H → va_D A (w_X9_meanTurn g a0 a1 a2 u0_1 u0_2 u0_3 u0_4 u0_5 u0_6 u0_8 u0_9 u0_10 u0_12 u0_13 u0_14 u0_15 u0_16 u0_17 u0_18 u0_19 u0_20 u0_21 u0_22 u0_23 u0_24 u0_25 u0_26 u0_27 u0_28 u0_29 u0_30 0 y1_s y2_ways) → va_S A s.heap H locs → lv_has ls 3 [(0, .ref a0), (1, .int v1_1)] → W p l e (RM 4 93) s m args below meth c H locs 0 0 Q (F0 m 50 ls []) := by
    intro H locs ls hP hD hS hl
    refine lv_iload_n (pc := 50) hexec hb dX9_meanTurn_50 rfl (lv_at hl 1 rfl) ?_
    obtain ⟨j72, ej72, hf⟩ := bvf2 hf
    have hj72 : ∀ (y2_ways_1 : Nat → Int32) (t72 : UInt64) (H : Heap) (locs : List Loc) (ls : Array Slot), j72 y2_ways_1 t72 = some (r, o_x0_thrown, o_y2_ways) → va_P g.1 vwCl (w_X9_meanTurn g a0 a1 a2 u0_1 u0_2 u0_3 u0_4 u0_5 u0_6 u0_8 u0_9 u0_10 u0_12 u0_13 u0_14 u0_15 u0_16 u0_17 u0_18 u0_19 u0_20 u0_21 u0_22 u0_23 u0_24 u0_25 u0_26 u0_27 u0_28 u0_29 u0_30 0 y1_s y2_ways_1) H → va_D A (w_X9_meanTurn g a0 a1 a2 u0_1 u0_2 u0_3 u0_4 u0_5 u0_6 u0_8 u0_9 u0_10 u0_12 u0_13 u0_14 u0_15 u0_16 u0_17 u0_18 u0_19 u0_20 u0_21 u0_22 u0_23 u0_24 u0_25 u0_26 u0_27 u0_28 u0_29 u0_30 0 y1_s y2_ways_1) → va_S A s.heap H locs → lv_has ls 3 [] → W p l e (RM 4 93) s m args below meth c H locs 0 0 Q (F0 m 72 ls [.double t72]) := by
      intro y2_ways_1 t72 H locs ls hf hP hD hS hl
      have hf := (ej72 y2_ways_1 t72).symm.trans hf
      cases hf
      exact ke_d hQ hexec hb hr hP hD hS dX9_meanTurn_72 hlocks
    refine kb_ne (pc := 51) hexec hb dX9_meanTurn_51 (tgt := 58) rfl hf (fun hc hf => ?_) (fun hc hf => ?_)
    · refine lv_aload_n (pc := 58) hexec hb dX9_meanTurn_58 rfl (lv_at hl 0 rfl) ?_
      refine lv_aload_n (pc := 59) hexec hb dX9_meanTurn_59 rfl (lv_at hl 0 rfl) ?_
      refine kg_get (pc := 60) hexec hb (own := RX9) hWX9 hown hG hP 0 rfl rfl 0 (nle rfl) (hts _ (List.mem_cons_of_mem _ (List.mem_append_left _ (List.mem_append_left _ (List.mem_of_getElem? (i := 1) rfl))))) rfl rfl dX9_meanTurn_60 ?_
      refine lv_iconst (pc := 63) hexec hb dX9_meanTurn_63 ki_5 ?_
      refine kr_iald (pc := 64) hexec hb hG hP 1 rfl hf dX9_meanTurn_64 (fun hf => ?_)
      obtain ⟨r65, y2_ways_2, hc, hf⟩ := bd2_e hf
      refine kVp (pc := 65) (S := ⟨hexec, hb, hml, hown, hts⟩) hP hD hG hA hS [0, 1, 2] [] [0, 1, 2] (w2 := (w_X9_meanTurn g a0 a1 a2 u0_1 u0_2 u0_3 u0_4 u0_5 u0_6 u0_8 u0_9 u0_10 u0_12 u0_13 u0_14 u0_15 u0_16 u0_17 u0_18 u0_19 u0_20 u0_21 u0_22 u0_23 u0_24 u0_25 u0_26 u0_27 u0_28 u0_29 u0_30 0 y1_s y2_ways_2)) rfl rfl rfl rfl rfl rfl (by decide) (c_X9_turningNow l g a0 a1 a2 _ u0_1 u0_2 u0_3 u0_4 u0_5 u0_6 (.int 0) u0_8 u0_9 u0_10 u0_12 u0_13 u0_14 u0_15 u0_16 u0_17 u0_18 u0_19 u0_20 u0_21 u0_22 u0_23 u0_24 u0_25 u0_26 u0_27 u0_28 u0_29 u0_30 y1_s y2_ways (y1_s (5 : Int32).toNatClampNeg) r65 y2_ways_2 hc) gX9_meanTurn_X9_turningNow rfl hv_X9_turningNow ⟨nle rfl, nle rfl⟩ 9 0 rfl rfl rfl (rest := []) rfl rfl hl.1 (nle rfl) dX9_meanTurn_65 (fun H locs hP hD hS => ?_)
      refine lv_i2d (pc := 68) hexec hb dX9_meanTurn_68 ?_
      refine lv_iload_n (pc := 69) hexec hb dX9_meanTurn_69 rfl (lv_at hl 1 rfl) ?_
      refine lv_i2d (pc := 70) hexec hb dX9_meanTurn_70 ?_
      refine lv_ddiv (pc := 71) hexec hb dX9_meanTurn_71 (nn64_e hf).1 ?_
      have hf := (nn64_e hf).2
      exact hj72 _ _ _ _ _ hf hP hD hS (lv_sub hl [] rfl)
    · refine lv_dconst0 (pc := 54) hexec hb dX9_meanTurn_54 ?_
      refine lv_goto (pc := 55) hexec hb dX9_meanTurn_55 (tgt := 72) rfl ?_
      exact hj72 _ _ _ _ _ hf hP hD hS (lv_sub hl [] rfl)
  obtain ⟨n, hz⟩ := lq2_e hz
  have hL9 : ∀ (n : Nat) (v1 : Int32) (v2 : Int32) (H : Heap) (locs : List Loc) (ls : Array Slot), it2 l9 n v1 v2 = some v1_1 → va_P g.1 vwCl (w_X9_meanTurn g a0 a1 a2 u0_1 u0_2 u0_3 u0_4 u0_5 u0_6 u0_8 u0_9 u0_10 u0_12 u0_13 u0_14 u0_15 u0_16 u0_17 u0_18 u0_19 u0_20 u0_21 u0_22 u0_23 u0_24 u0_25 u0_26 u0_27 u0_28 u0_29 u0_30 0 y1_s y2_ways) H → va_D A (w_X9_meanTurn g a0 a1 a2 u0_1 u0_2 u0_3 u0_4 u0_5 u0_6 u0_8 u0_9 u0_10 u0_12 u0_13 u0_14 u0_15 u0_16 u0_17 u0_18 u0_19 u0_20 u0_21 u0_22 u0_23 u0_24 u0_25 u0_26 u0_27 u0_28 u0_29 u0_30 0 y1_s y2_ways) → va_S A s.heap H locs → lv_has ls 3 [(0, .ref a0), (1, .int v1), (2, .int v2)] → W p l e (RM 4 93) s m args below meth c H locs 0 0 Q (F0 m 9 ls []) := by
    intro n
    induction n with
    | zero =>
      intro v1 v2 H locs ls hf hP hD hS hl
      exact it2_0 hf
    | succ n9 ih9 =>
      intro v1 v2 H locs ls hf hP hD hS hl
      obtain ⟨q9, hf, hk9⟩ := it2_e hf
      have hf := (el9 v1 v2).symm.trans hf
      refine lv_iload_n (pc := 9) hexec hb dX9_meanTurn_9 rfl (lv_at hl 2 rfl) ?_
      refine lv_aload_n (pc := 10) hexec hb dX9_meanTurn_10 rfl (lv_at hl 0 rfl) ?_
      refine kg_get (pc := 11) hexec hb (own := RX9) hWX9 hown hG hP 0 rfl rfl 0 (nle rfl) (hts _ (List.mem_cons_of_mem _ (List.mem_append_left _ (List.mem_append_left _ (List.mem_of_getElem? (i := 1) rfl))))) rfl rfl dX9_meanTurn_11 ?_
      refine lv_iconst (pc := 14) hexec hb dX9_meanTurn_14 ki_4 ?_
      refine kr_iald (pc := 15) hexec hb hG hP 1 rfl hf dX9_meanTurn_15 (fun hf => ?_)
      refine ki_ge (pc := 16) hexec hb dX9_meanTurn_16 (tgt := 50) rfl hf (fun hc hf => ?_) (fun hc hf => ?_)
      · cases sr2 hf hk9
        exact hE9 _ _ _ hP hD hS (lv_sub hl [0, 1] rfl)
      · refine lv_iload_n (pc := 19) hexec hb dX9_meanTurn_19 rfl (lv_at hl 1 rfl) ?_
        refine lv_aload_n (pc := 20) hexec hb dX9_meanTurn_20 rfl (lv_at hl 0 rfl) ?_
        refine lv_aload_n (pc := 21) hexec hb dX9_meanTurn_21 rfl (lv_at hl 0 rfl) ?_
        refine kg_get (pc := 22) hexec hb (own := RX9) hWX9 hown hG hP 0 rfl rfl 0 (nle rfl) (hts _ (List.mem_cons_of_mem _ (List.mem_append_left _ (List.mem_append_left _ (List.mem_of_getElem? (i := 1) rfl))))) rfl rfl dX9_meanTurn_22 ?_
        refine lv_sipush (pc := 25) hexec hb dX9_meanTurn_25 ks_536 ?_
        refine lv_iload_n (pc := 28) hexec hb dX9_meanTurn_28 rfl (lv_at hl 2 rfl) ?_
        refine lv_iadd (pc := 29) hexec hb dX9_meanTurn_29 ?_
        refine kr_iald (pc := 30) hexec hb hG hP 1 rfl hf dX9_meanTurn_30 (fun hf => ?_)
        obtain ⟨r31, hc, hf⟩ := bd1_e hf
        refine kVp (pc := 31) (S := ⟨hexec, hb, hml, hown, hts⟩) hP hD hG hA hS [0, 1] [2] [1, 2, 0] (w2 := (w_X9_meanTurn g a0 a1 a2 u0_1 u0_2 u0_3 u0_4 u0_5 u0_6 u0_8 u0_9 u0_10 u0_12 u0_13 u0_14 u0_15 u0_16 u0_17 u0_18 u0_19 u0_20 u0_21 u0_22 u0_23 u0_24 u0_25 u0_26 u0_27 u0_28 u0_29 u0_30 0 y1_s y2_ways)) rfl rfl rfl rfl rfl rfl (by decide) (c_X9_isPlaced l g a0 a1 _ u0_1 u0_2 u0_3 u0_4 u0_5 u0_6 (.int 0) u0_8 u0_9 u0_10 (.ref a2) u0_12 u0_13 u0_14 u0_15 u0_16 u0_17 u0_18 u0_19 u0_20 u0_21 u0_22 u0_23 u0_24 u0_25 u0_26 u0_27 u0_28 u0_29 u0_30 y1_s (y1_s (536 + v2).toNatClampNeg) r31 hc) gX9_meanTurn_X9_isPlaced rfl hv_X9_isPlaced ⟨nle rfl, nle rfl⟩ 9 0 rfl rfl rfl (rest := [.int v1]) rfl rfl hl.1 (nle rfl) dX9_meanTurn_31 (fun H locs hP hD hS => ?_)
        obtain ⟨j42, ej42, hf⟩ := bvf1 hf
        have hj42 : ∀ (t42 : Int32) (H : Heap) (locs : List Loc) (ls : Array Slot), j42 t42 = some q9 → va_P g.1 vwCl (w_X9_meanTurn g a0 a1 a2 u0_1 u0_2 u0_3 u0_4 u0_5 u0_6 u0_8 u0_9 u0_10 u0_12 u0_13 u0_14 u0_15 u0_16 u0_17 u0_18 u0_19 u0_20 u0_21 u0_22 u0_23 u0_24 u0_25 u0_26 u0_27 u0_28 u0_29 u0_30 0 y1_s y2_ways) H → va_D A (w_X9_meanTurn g a0 a1 a2 u0_1 u0_2 u0_3 u0_4 u0_5 u0_6 u0_8 u0_9 u0_10 u0_12 u0_13 u0_14 u0_15 u0_16 u0_17 u0_18 u0_19 u0_20 u0_21 u0_22 u0_23 u0_24 u0_25 u0_26 u0_27 u0_28 u0_29 u0_30 0 y1_s y2_ways) → va_S A s.heap H locs → lv_has ls 3 [(0, .ref a0), (2, .int v2)] → W p l e (RM 4 93) s m args below meth c H locs 0 0 Q (F0 m 42 ls [.int t42, .int v1]) := by
          intro t42 H locs ls hf hP hD hS hl
          have hf := (ej42 t42).symm.trans hf
          refine lv_iadd (pc := 42) hexec hb dX9_meanTurn_42 ?_
          obtain ⟨v1_2, ev1_2, hf⟩ := bv_e hf
          refine kn_i ev1_2 ?_
          refine lv_istore_n (pc := 43) hexec hb dX9_meanTurn_43 rfl hl (nle rfl) rfl (fun ls (hl : lv_has ls 3 [(1, .int v1_2), (0, .ref a0), (2, .int v2)]) => ?_)
          obtain ⟨v2_1, ev2_1, hf⟩ := bv_e hf
          refine k_iinc (pc := 44) hexec hb dX9_meanTurn_44 kq_1 hl (k := 2) rfl ev2_1 (nle rfl) rfl (fun ls (hl : lv_has ls 3 [(2, .int v2_1), (1, .int v1_2), (0, .ref a0)]) => ?_)
          refine lv_goto (pc := 47) hexec hb dX9_meanTurn_47 (tgt := 9) rfl ?_
          exact ih9 _ _ _ _ _ (sl2 hf hk9) hP hD hS (lv_sub hl [2, 1, 0] rfl)
        refine kb_eq (pc := 34) hexec hb dX9_meanTurn_34 (tgt := 41) rfl hf (fun hc hf => ?_) (fun hc hf => ?_)
        · refine lv_iconst (pc := 41) hexec hb dX9_meanTurn_41 ki_0 ?_
          exact hj42 _ _ _ _ hf hP hD hS (lv_sub hl [0, 2] rfl)
        · refine lv_iconst (pc := 37) hexec hb dX9_meanTurn_37 ki_1 ?_
          refine lv_goto (pc := 38) hexec hb dX9_meanTurn_38 (tgt := 42) rfl ?_
          exact hj42 _ _ _ _ hf hP hD hS (lv_sub hl [0, 2] rfl)
  exact hL9 n _ _ _ _ _ hz hP hD hS (lv_sub hl [2, 1, 0] rfl)
abbrev w_X9_cover (g : GE) (a0 a1 : Nat) (u0_1 u0_2 u0_3 u0_4 u0_5 u0_6 u0_8 u0_9 u0_10 u0_11 u0_12 u0_13 u0_14 u0_15 u0_16 u0_17 u0_18 u0_19 u0_20 u0_21 u0_22 u0_23 u0_24 u0_25 u0_26 u0_27 u0_28 u0_29 u0_30 : Value) (x0_thrown : Int32) (y1_s : Nat → Int32) : va_W := [(a0, .inr (9, [.ref a1, u0_1, u0_2, u0_3, u0_4, u0_5, u0_6, .int x0_thrown, u0_8, u0_9, u0_10, u0_11, u0_12, u0_13, u0_14, u0_15, u0_16, u0_17, u0_18, u0_19, u0_20, u0_21, u0_22, u0_23, u0_24, u0_25, u0_26, u0_27, u0_28, u0_29, u0_30])), (a1, .inl (g.2.1 0, 552, .inl y1_s))]
set_option maxRecDepth 20000 in
theorem c_X9_cover (l : Launch) (g : GE) (a0 a1 : Nat) (sz : Nat) (u0_1 u0_2 u0_3 u0_4 u0_5 u0_6 u0_8 u0_9 u0_10 u0_11 u0_12 u0_13 u0_14 u0_15 u0_16 u0_17 u0_18 u0_19 u0_20 u0_21 u0_22 u0_23 u0_24 u0_25 u0_26 u0_27 u0_28 u0_29 u0_30 : Value) (x0_thrown : Int32) (y1_s : Nat → Int32)   (r : UInt32) (o_x0_thrown : Int32) (hf : f_X9_cover x0_thrown y1_s = some (r, o_x0_thrown)) : MI l g yX9_cover wsX9_cover 6 143 [.ref a0] (w_X9_cover g a0 a1 u0_1 u0_2 u0_3 u0_4 u0_5 u0_6 u0_8 u0_9 u0_10 u0_11 u0_12 u0_13 u0_14 u0_15 u0_16 u0_17 u0_18 u0_19 u0_20 u0_21 u0_22 u0_23 u0_24 u0_25 u0_26 u0_27 u0_28 u0_29 u0_30 x0_thrown y1_s) sz (some (.float r)) (w_X9_cover g a0 a1 u0_1 u0_2 u0_3 u0_4 u0_5 u0_6 u0_8 u0_9 u0_10 u0_11 u0_12 u0_13 u0_14 u0_15 u0_16 u0_17 u0_18 u0_19 u0_20 u0_21 u0_22 u0_23 u0_24 u0_25 u0_26 u0_27 u0_28 u0_29 u0_30 o_x0_thrown y1_s) := by
  refine MI.start (cc := cX9_cover) (maxL := 3) (ret := (some .float)) rfl rfl (nle rfl) ?_
  intro p e s m args below meth c A ls Q hQ hexec hb hr hts hown hlocks hml hA hP hD hG hS hl
  unfold f_X9_cover at hf
  have hWX9 : ∀ w ∈ wsX90, w.before args s = true := fun w h => hts w (List.mem_cons_of_mem _ (List.mem_append_right _ h))
  have hS : va_S A s.heap s.heap [] := hS
  refine lv_aload_n (pc := 0) hexec hb dX9_cover_0 rfl (lv_at hl 0 rfl) ?_
  refine lv_iconst (pc := 1) hexec hb dX9_cover_1 ki_0 ?_
  refine kp_put (pc := 2) hexec hb (own := RX9) hWX9 tyX9 tyX9_ok nmX9 hown hG hP hD hS 0 rfl rfl 7 (nle rfl) (hts _ (List.mem_cons_of_mem _ (List.mem_append_left _ (List.mem_append_left _ (List.mem_of_getElem? (i := 0) rfl))))) rfl rfl rfl rfl (nle rfl) dX9_cover_2 (fun H locs (hP : va_P g.1 vwCl (w_X9_cover g a0 a1 u0_1 u0_2 u0_3 u0_4 u0_5 u0_6 u0_8 u0_9 u0_10 u0_11 u0_12 u0_13 u0_14 u0_15 u0_16 u0_17 u0_18 u0_19 u0_20 u0_21 u0_22 u0_23 u0_24 u0_25 u0_26 u0_27 u0_28 u0_29 u0_30 0 y1_s) H) (hD : va_D A (w_X9_cover g a0 a1 u0_1 u0_2 u0_3 u0_4 u0_5 u0_6 u0_8 u0_9 u0_10 u0_11 u0_12 u0_13 u0_14 u0_15 u0_16 u0_17 u0_18 u0_19 u0_20 u0_21 u0_22 u0_23 u0_24 u0_25 u0_26 u0_27 u0_28 u0_29 u0_30 0 y1_s)) hS => ?_)
  refine lv_iconst (pc := 5) hexec hb dX9_cover_5 ki_0 ?_
  refine lv_istore_n (pc := 6) hexec hb dX9_cover_6 rfl hl (nle rfl) rfl (fun ls (hl : lv_has ls 3 [(1, .int 0), (0, .ref a0)]) => ?_)
  refine lv_iconst (pc := 7) hexec hb dX9_cover_7 ki_0 ?_
  refine lv_istore_n (pc := 8) hexec hb dX9_cover_8 rfl hl (nle rfl) rfl (fun ls (hl : lv_has ls 3 [(2, .int 0), (1, .int 0), (0, .ref a0)]) => ?_)
  obtain ⟨l9, el9, hf⟩ := bvf2 hf
  obtain ⟨v1_1, hz, hf⟩ := bd1_e hf
  have hE9 : ∀ (H : Heap) (locs : List Loc) (ls : Array Slot), va_P g.1 vwCl (w_X9_cover g a0 a1 u0_1 u0_2 u0_3 u0_4 u0_5 u0_6 u0_8 u0_9 u0_10 u0_11 u0_12 u0_13 u0_14 u0_15 u0_16 u0_17 u0_18 u0_19 u0_20 u0_21 u0_22 u0_23 u0_24 u0_25 u0_26 u0_27 u0_28 u0_29 u0_30 0 y1_s) H → va_D A (w_X9_cover g a0 a1 u0_1 u0_2 u0_3 u0_4 u0_5 u0_6 u0_8 u0_9 u0_10 u0_11 u0_12 u0_13 u0_14 u0_15 u0_16 u0_17 u0_18 u0_19 u0_20 u0_21 u0_22 u0_23 u0_24 u0_25 u0_26 u0_27 u0_28 u0_29 u0_30 0 y1_s) → va_S A s.heap H locs → lv_has ls 3 [(0, .ref a0), (1, .int v1_1)] → W p l e (RM 6 143) s m args below meth c H locs 0 0 Q (F0 m 39 ls []) := by
    intro H locs ls hP hD hS hl
    refine lv_aload_n (pc := 39) hexec hb dX9_cover_39 rfl (lv_at hl 0 rfl) ?_
    obtain ⟨r40, hc, hf⟩ := bd1_e hf
    refine kVp (pc := 40) (S := ⟨hexec, hb, hml, hown, hts⟩) hP hD hG hA hS [0, 1] [] [0, 1] (w2 := (w_X9_cover g a0 a1 u0_1 u0_2 u0_3 u0_4 u0_5 u0_6 u0_8 u0_9 u0_10 u0_11 u0_12 u0_13 u0_14 u0_15 u0_16 u0_17 u0_18 u0_19 u0_20 u0_21 u0_22 u0_23 u0_24 u0_25 u0_26 u0_27 u0_28 u0_29 u0_30 0 y1_s)) rfl rfl rfl rfl rfl rfl (by decide) (c_X9_landCells l g a0 a1 _ u0_1 u0_2 u0_3 u0_4 u0_5 u0_6 (.int 0) u0_8 u0_9 u0_10 u0_11 u0_12 u0_13 u0_14 u0_15 u0_16 u0_17 u0_18 u0_19 u0_20 u0_21 u0_22 u0_23 u0_24 u0_25 u0_26 u0_27 u0_28 u0_29 u0_30 y1_s r40 hc) gX9_cover_X9_landCells rfl hv_X9_landCells ⟨nle rfl, nle rfl⟩ 9 0 rfl rfl rfl (rest := []) rfl rfl hl.1 (nle rfl) dX9_cover_40 (fun H locs hP hD hS => ?_)
    refine lv_istore_n (pc := 43) hexec hb dX9_cover_43 rfl hl (nle rfl) rfl (fun ls (hl : lv_has ls 3 [(2, .int r40), (0, .ref a0), (1, .int v1_1)]) => ?_)
    refine lv_iload_n (pc := 44) hexec hb dX9_cover_44 rfl (lv_at hl 0 rfl) ?_
    obtain ⟨j57, ej57, hf⟩ := bvf1 hf
    have hj57 : ∀ (t57 : UInt32) (H : Heap) (locs : List Loc) (ls : Array Slot), j57 t57 = some (r, o_x0_thrown) → va_P g.1 vwCl (w_X9_cover g a0 a1 u0_1 u0_2 u0_3 u0_4 u0_5 u0_6 u0_8 u0_9 u0_10 u0_11 u0_12 u0_13 u0_14 u0_15 u0_16 u0_17 u0_18 u0_19 u0_20 u0_21 u0_22 u0_23 u0_24 u0_25 u0_26 u0_27 u0_28 u0_29 u0_30 0 y1_s) H → va_D A (w_X9_cover g a0 a1 u0_1 u0_2 u0_3 u0_4 u0_5 u0_6 u0_8 u0_9 u0_10 u0_11 u0_12 u0_13 u0_14 u0_15 u0_16 u0_17 u0_18 u0_19 u0_20 u0_21 u0_22 u0_23 u0_24 u0_25 u0_26 u0_27 u0_28 u0_29 u0_30 0 y1_s) → va_S A s.heap H locs → lv_has ls 3 [] → W p l e (RM 6 143) s m args below meth c H locs 0 0 Q (F0 m 57 ls [.float t57]) := by
      intro t57 H locs ls hf hP hD hS hl
      have hf := (ej57 t57).symm.trans hf
      cases hf
      exact ke_f hQ hexec hb hr hP hD hS dX9_cover_57 hlocks
    refine kb_ne (pc := 45) hexec hb dX9_cover_45 (tgt := 52) rfl hf (fun hc hf => ?_) (fun hc hf => ?_)
    · refine lv_iload_n (pc := 52) hexec hb dX9_cover_52 rfl (lv_at hl 2 rfl) ?_
      refine lv_i2f (pc := 53) hexec hb dX9_cover_53 ?_
      refine lv_iload_n (pc := 54) hexec hb dX9_cover_54 rfl (lv_at hl 0 rfl) ?_
      refine lv_i2f (pc := 55) hexec hb dX9_cover_55 ?_
      refine lv_fdiv (pc := 56) hexec hb dX9_cover_56 (nn32_e hf).1 ?_
      have hf := (nn32_e hf).2
      exact hj57 _ _ _ _ hf hP hD hS (lv_sub hl [] rfl)
    · refine lv_fconst0 (pc := 48) hexec hb dX9_cover_48 ?_
      refine lv_goto (pc := 49) hexec hb dX9_cover_49 (tgt := 57) rfl ?_
      exact hj57 _ _ _ _ hf hP hD hS (lv_sub hl [] rfl)
  obtain ⟨n, hz⟩ := lq2_e hz
  have hL9 : ∀ (n : Nat) (v1 : Int32) (v2 : Int32) (H : Heap) (locs : List Loc) (ls : Array Slot), it2 l9 n v1 v2 = some v1_1 → va_P g.1 vwCl (w_X9_cover g a0 a1 u0_1 u0_2 u0_3 u0_4 u0_5 u0_6 u0_8 u0_9 u0_10 u0_11 u0_12 u0_13 u0_14 u0_15 u0_16 u0_17 u0_18 u0_19 u0_20 u0_21 u0_22 u0_23 u0_24 u0_25 u0_26 u0_27 u0_28 u0_29 u0_30 0 y1_s) H → va_D A (w_X9_cover g a0 a1 u0_1 u0_2 u0_3 u0_4 u0_5 u0_6 u0_8 u0_9 u0_10 u0_11 u0_12 u0_13 u0_14 u0_15 u0_16 u0_17 u0_18 u0_19 u0_20 u0_21 u0_22 u0_23 u0_24 u0_25 u0_26 u0_27 u0_28 u0_29 u0_30 0 y1_s) → va_S A s.heap H locs → lv_has ls 3 [(0, .ref a0), (1, .int v1), (2, .int v2)] → W p l e (RM 6 143) s m args below meth c H locs 0 0 Q (F0 m 9 ls []) := by
    intro n
    induction n with
    | zero =>
      intro v1 v2 H locs ls hf hP hD hS hl
      exact it2_0 hf
    | succ n9 ih9 =>
      intro v1 v2 H locs ls hf hP hD hS hl
      obtain ⟨q9, hf, hk9⟩ := it2_e hf
      have hf := (el9 v1 v2).symm.trans hf
      refine lv_iload_n (pc := 9) hexec hb dX9_cover_9 rfl (lv_at hl 2 rfl) ?_
      refine lv_aload_n (pc := 10) hexec hb dX9_cover_10 rfl (lv_at hl 0 rfl) ?_
      obtain ⟨r11, hc, hf⟩ := bd1_e hf
      refine kVp (pc := 11) (S := ⟨hexec, hb, hml, hown, hts⟩) hP hD hG hA hS [0, 1] [] [0, 1] (w2 := (w_X9_cover g a0 a1 u0_1 u0_2 u0_3 u0_4 u0_5 u0_6 u0_8 u0_9 u0_10 u0_11 u0_12 u0_13 u0_14 u0_15 u0_16 u0_17 u0_18 u0_19 u0_20 u0_21 u0_22 u0_23 u0_24 u0_25 u0_26 u0_27 u0_28 u0_29 u0_30 0 y1_s)) rfl rfl rfl rfl rfl rfl (by decide) (c_X9_cells l g a0 a1 _ u0_1 u0_2 u0_3 u0_4 u0_5 u0_6 (.int 0) u0_8 u0_9 u0_10 u0_11 u0_12 u0_13 u0_14 u0_15 u0_16 u0_17 u0_18 u0_19 u0_20 u0_21 u0_22 u0_23 u0_24 u0_25 u0_26 u0_27 u0_28 u0_29 u0_30 y1_s r11 hc) gX9_cover_X9_cells rfl hv_X9_cells ⟨nle rfl, nle rfl⟩ 9 0 rfl rfl rfl (rest := [.int v2]) rfl rfl hl.1 (nle rfl) dX9_cover_11 (fun H locs hP hD hS => ?_)
      refine ki_ge (pc := 14) hexec hb dX9_cover_14 (tgt := 39) rfl hf (fun hc hf => ?_) (fun hc hf => ?_)
      · cases sr2 hf hk9
        exact hE9 _ _ _ hP hD hS (lv_sub hl [0, 1] rfl)
      · refine lv_iload_n (pc := 17) hexec hb dX9_cover_17 rfl (lv_at hl 1 rfl) ?_
        refine lv_aload_n (pc := 18) hexec hb dX9_cover_18 rfl (lv_at hl 0 rfl) ?_
        refine lv_iload_n (pc := 19) hexec hb dX9_cover_19 rfl (lv_at hl 2 rfl) ?_
        obtain ⟨r20, hc, hf⟩ := bd1_e hf
        refine kVp (pc := 20) (S := ⟨hexec, hb, hml, hown, hts⟩) hP hD hG hA hS [0, 1] [] [0, 1] (w2 := (w_X9_cover g a0 a1 u0_1 u0_2 u0_3 u0_4 u0_5 u0_6 u0_8 u0_9 u0_10 u0_11 u0_12 u0_13 u0_14 u0_15 u0_16 u0_17 u0_18 u0_19 u0_20 u0_21 u0_22 u0_23 u0_24 u0_25 u0_26 u0_27 u0_28 u0_29 u0_30 0 y1_s)) rfl rfl rfl rfl rfl rfl (by decide) (c_X9_namesIn l g a0 a1 _ u0_1 u0_2 u0_3 u0_4 u0_5 u0_6 (.int 0) u0_8 u0_9 u0_10 u0_11 u0_12 u0_13 u0_14 u0_15 u0_16 u0_17 u0_18 u0_19 u0_20 u0_21 u0_22 u0_23 u0_24 u0_25 u0_26 u0_27 u0_28 u0_29 u0_30 y1_s v2 r20 hc) gX9_cover_X9_namesIn rfl hv_X9_namesIn ⟨nle rfl, nle rfl⟩ 9 0 rfl rfl rfl (rest := [.int v1]) rfl rfl hl.1 (nle rfl) dX9_cover_20 (fun H locs hP hD hS => ?_)
        obtain ⟨j31, ej31, hf⟩ := bvf1 hf
        have hj31 : ∀ (t31 : Int32) (H : Heap) (locs : List Loc) (ls : Array Slot), j31 t31 = some q9 → va_P g.1 vwCl (w_X9_cover g a0 a1 u0_1 u0_2 u0_3 u0_4 u0_5 u0_6 u0_8 u0_9 u0_10 u0_11 u0_12 u0_13 u0_14 u0_15 u0_16 u0_17 u0_18 u0_19 u0_20 u0_21 u0_22 u0_23 u0_24 u0_25 u0_26 u0_27 u0_28 u0_29 u0_30 0 y1_s) H → va_D A (w_X9_cover g a0 a1 u0_1 u0_2 u0_3 u0_4 u0_5 u0_6 u0_8 u0_9 u0_10 u0_11 u0_12 u0_13 u0_14 u0_15 u0_16 u0_17 u0_18 u0_19 u0_20 u0_21 u0_22 u0_23 u0_24 u0_25 u0_26 u0_27 u0_28 u0_29 u0_30 0 y1_s) → va_S A s.heap H locs → lv_has ls 3 [(0, .ref a0), (2, .int v2)] → W p l e (RM 6 143) s m args below meth c H locs 0 0 Q (F0 m 31 ls [.int t31, .int v1]) := by
          intro t31 H locs ls hf hP hD hS hl
          have hf := (ej31 t31).symm.trans hf
          refine lv_iadd (pc := 31) hexec hb dX9_cover_31 ?_
          obtain ⟨v1_2, ev1_2, hf⟩ := bv_e hf
          refine kn_i ev1_2 ?_
          refine lv_istore_n (pc := 32) hexec hb dX9_cover_32 rfl hl (nle rfl) rfl (fun ls (hl : lv_has ls 3 [(1, .int v1_2), (0, .ref a0), (2, .int v2)]) => ?_)
          obtain ⟨v2_1, ev2_1, hf⟩ := bv_e hf
          refine k_iinc (pc := 33) hexec hb dX9_cover_33 kq_1 hl (k := 2) rfl ev2_1 (nle rfl) rfl (fun ls (hl : lv_has ls 3 [(2, .int v2_1), (1, .int v1_2), (0, .ref a0)]) => ?_)
          refine lv_goto (pc := 36) hexec hb dX9_cover_36 (tgt := 9) rfl ?_
          exact ih9 _ _ _ _ _ (sl2 hf hk9) hP hD hS (lv_sub hl [2, 1, 0] rfl)
        refine kb_ne (pc := 23) hexec hb dX9_cover_23 (tgt := 30) rfl hf (fun hc hf => ?_) (fun hc hf => ?_)
        · refine lv_iconst (pc := 30) hexec hb dX9_cover_30 ki_1 ?_
          exact hj31 _ _ _ _ hf hP hD hS (lv_sub hl [0, 2] rfl)
        · refine lv_iconst (pc := 26) hexec hb dX9_cover_26 ki_0 ?_
          refine lv_goto (pc := 27) hexec hb dX9_cover_27 (tgt := 31) rfl ?_
          exact hj31 _ _ _ _ hf hP hD hS (lv_sub hl [0, 2] rfl)
  exact hL9 n _ _ _ _ _ hz hP hD hS (lv_sub hl [2, 1, 0] rfl)
abbrev w_X9_isRedIn (g : GE) (a0 a1 : Nat) (u0_1 u0_2 u0_3 u0_4 u0_5 u0_6 u0_7 u0_8 u0_9 u0_10 u0_11 u0_12 u0_13 u0_14 u0_15 u0_16 u0_17 u0_18 u0_19 u0_20 u0_21 u0_22 u0_23 u0_24 u0_25 u0_26 u0_27 u0_28 u0_29 u0_30 : Value) (y1_s : Nat → Int32) : va_W := [(a0, .inr (9, [.ref a1, u0_1, u0_2, u0_3, u0_4, u0_5, u0_6, u0_7, u0_8, u0_9, u0_10, u0_11, u0_12, u0_13, u0_14, u0_15, u0_16, u0_17, u0_18, u0_19, u0_20, u0_21, u0_22, u0_23, u0_24, u0_25, u0_26, u0_27, u0_28, u0_29, u0_30])), (a1, .inl (g.2.1 0, 552, .inl y1_s))]
set_option maxRecDepth 20000 in
theorem c_X9_isRedIn (l : Launch) (g : GE) (a0 a1 : Nat) (sz : Nat) (u0_1 u0_2 u0_3 u0_4 u0_5 u0_6 u0_7 u0_8 u0_9 u0_10 u0_11 u0_12 u0_13 u0_14 u0_15 u0_16 u0_17 u0_18 u0_19 u0_20 u0_21 u0_22 u0_23 u0_24 u0_25 u0_26 u0_27 u0_28 u0_29 u0_30 : Value) (y1_s : Nat → Int32) (p1 : Int32)  (r : Int32) (hf : f_X9_isRedIn y1_s p1 = some r) : MI l g yX9_isRedIn wsX9_isRedIn 5 120 [.ref a0, .int p1] (w_X9_isRedIn g a0 a1 u0_1 u0_2 u0_3 u0_4 u0_5 u0_6 u0_7 u0_8 u0_9 u0_10 u0_11 u0_12 u0_13 u0_14 u0_15 u0_16 u0_17 u0_18 u0_19 u0_20 u0_21 u0_22 u0_23 u0_24 u0_25 u0_26 u0_27 u0_28 u0_29 u0_30 y1_s) sz (some (.int r)) (w_X9_isRedIn g a0 a1 u0_1 u0_2 u0_3 u0_4 u0_5 u0_6 u0_7 u0_8 u0_9 u0_10 u0_11 u0_12 u0_13 u0_14 u0_15 u0_16 u0_17 u0_18 u0_19 u0_20 u0_21 u0_22 u0_23 u0_24 u0_25 u0_26 u0_27 u0_28 u0_29 u0_30 y1_s) := by
  refine MI.start (cc := cX9_isRedIn) (maxL := 4) (ret := (some .boolean)) rfl rfl (nle rfl) ?_
  intro p e s m args below meth c A ls Q hQ hexec hb hr hts hown hlocks hml hA hP hD hG hS hl
  unfold f_X9_isRedIn at hf
  have hWX9 : ∀ w ∈ wsX90, w.before args s = true := fun w h => hts w (List.mem_cons_of_mem _ (List.mem_append_right _ h))
  have hS : va_S A s.heap s.heap [] := hS
  refine lv_iconst (pc := 0) hexec hb dX9_isRedIn_0 ki_0 ?_
  refine lv_istore_n (pc := 1) hexec hb dX9_isRedIn_1 rfl hl (nle rfl) rfl (fun ls (hl : lv_has ls 4 [(2, .int 0), (0, .ref a0), (1, .int p1)]) => ?_)
  refine lv_iconst (pc := 2) hexec hb dX9_isRedIn_2 ki_0 ?_
  refine lv_istore_n (pc := 3) hexec hb dX9_isRedIn_3 rfl hl (nle rfl) rfl (fun ls (hl : lv_has ls 4 [(3, .int 0), (2, .int 0), (0, .ref a0), (1, .int p1)]) => ?_)
  obtain ⟨l4, el4, hf⟩ := bvf2 hf
  obtain ⟨v2_1, hz, hf⟩ := bd1_e hf
  have hE4 : ∀ (H : Heap) (locs : List Loc) (ls : Array Slot), va_P g.1 vwCl (w_X9_isRedIn g a0 a1 u0_1 u0_2 u0_3 u0_4 u0_5 u0_6 u0_7 u0_8 u0_9 u0_10 u0_11 u0_12 u0_13 u0_14 u0_15 u0_16 u0_17 u0_18 u0_19 u0_20 u0_21 u0_22 u0_23 u0_24 u0_25 u0_26 u0_27 u0_28 u0_29 u0_30 y1_s) H → va_D A (w_X9_isRedIn g a0 a1 u0_1 u0_2 u0_3 u0_4 u0_5 u0_6 u0_7 u0_8 u0_9 u0_10 u0_11 u0_12 u0_13 u0_14 u0_15 u0_16 u0_17 u0_18 u0_19 u0_20 u0_21 u0_22 u0_23 u0_24 u0_25 u0_26 u0_27 u0_28 u0_29 u0_30 y1_s) → va_S A s.heap H locs → lv_has ls 4 [(2, .int v2_1)] → W p l e (RM 5 120) s m args below meth c H locs 0 0 Q (F0 m 48 ls []) := by
    intro H locs ls hP hD hS hl
    refine lv_iload_n (pc := 48) hexec hb dX9_isRedIn_48 rfl (lv_at hl 0 rfl) ?_
    obtain ⟨hx, hf⟩ := zb_e hf
    cases hf
    exact ke_z hQ hexec hb hr hx hP hD hS dX9_isRedIn_49 hlocks
  obtain ⟨n, hz⟩ := lq2_e hz
  have hL4 : ∀ (n : Nat) (v2 : Int32) (v3 : Int32) (H : Heap) (locs : List Loc) (ls : Array Slot), it2 l4 n v2 v3 = some v2_1 → va_P g.1 vwCl (w_X9_isRedIn g a0 a1 u0_1 u0_2 u0_3 u0_4 u0_5 u0_6 u0_7 u0_8 u0_9 u0_10 u0_11 u0_12 u0_13 u0_14 u0_15 u0_16 u0_17 u0_18 u0_19 u0_20 u0_21 u0_22 u0_23 u0_24 u0_25 u0_26 u0_27 u0_28 u0_29 u0_30 y1_s) H → va_D A (w_X9_isRedIn g a0 a1 u0_1 u0_2 u0_3 u0_4 u0_5 u0_6 u0_7 u0_8 u0_9 u0_10 u0_11 u0_12 u0_13 u0_14 u0_15 u0_16 u0_17 u0_18 u0_19 u0_20 u0_21 u0_22 u0_23 u0_24 u0_25 u0_26 u0_27 u0_28 u0_29 u0_30 y1_s) → va_S A s.heap H locs → lv_has ls 4 [(0, .ref a0), (1, .int p1), (2, .int v2), (3, .int v3)] → W p l e (RM 5 120) s m args below meth c H locs 0 0 Q (F0 m 4 ls []) := by
    intro n
    induction n with
    | zero =>
      intro v2 v3 H locs ls hf hP hD hS hl
      exact it2_0 hf
    | succ n4 ih4 =>
      intro v2 v3 H locs ls hf hP hD hS hl
      obtain ⟨q4, hf, hk4⟩ := it2_e hf
      have hf := (el4 v2 v3).symm.trans hf
      refine lv_iload_n (pc := 4) hexec hb dX9_isRedIn_4 rfl (lv_at hl 3 rfl) ?_
      refine lv_aload_n (pc := 5) hexec hb dX9_isRedIn_5 rfl (lv_at hl 0 rfl) ?_
      refine kg_get (pc := 6) hexec hb (own := RX9) hWX9 hown hG hP 0 rfl rfl 0 (nle rfl) (hts _ (List.mem_cons_of_mem _ (List.mem_append_left _ (List.mem_append_left _ (List.mem_of_getElem? (i := 0) rfl))))) rfl rfl dX9_isRedIn_6 ?_
      refine lv_iconst (pc := 9) hexec hb dX9_isRedIn_9 ki_2 ?_
      refine kr_iald (pc := 10) hexec hb hG hP 1 rfl hf dX9_isRedIn_10 (fun hf => ?_)
      refine ki_ge (pc := 11) hexec hb dX9_isRedIn_11 (tgt := 48) rfl hf (fun hc hf => ?_) (fun hc hf => ?_)
      · cases sr2 hf hk4
        exact hE4 _ _ _ hP hD hS (lv_sub hl [2] rfl)
      · refine lv_iload_n (pc := 14) hexec hb dX9_isRedIn_14 rfl (lv_at hl 2 rfl) ?_
        obtain ⟨j41, ej41, hf⟩ := bvf1 hf
        have hj41 : ∀ (t41 : Int32) (H : Heap) (locs : List Loc) (ls : Array Slot), j41 t41 = some q4 → va_P g.1 vwCl (w_X9_isRedIn g a0 a1 u0_1 u0_2 u0_3 u0_4 u0_5 u0_6 u0_7 u0_8 u0_9 u0_10 u0_11 u0_12 u0_13 u0_14 u0_15 u0_16 u0_17 u0_18 u0_19 u0_20 u0_21 u0_22 u0_23 u0_24 u0_25 u0_26 u0_27 u0_28 u0_29 u0_30 y1_s) H → va_D A (w_X9_isRedIn g a0 a1 u0_1 u0_2 u0_3 u0_4 u0_5 u0_6 u0_7 u0_8 u0_9 u0_10 u0_11 u0_12 u0_13 u0_14 u0_15 u0_16 u0_17 u0_18 u0_19 u0_20 u0_21 u0_22 u0_23 u0_24 u0_25 u0_26 u0_27 u0_28 u0_29 u0_30 y1_s) → va_S A s.heap H locs → lv_has ls 4 [(0, .ref a0), (1, .int p1), (3, .int v3)] → W p l e (RM 5 120) s m args below meth c H locs 0 0 Q (F0 m 41 ls [.int t41]) := by
          intro t41 H locs ls hf hP hD hS hl
          have hf := (ej41 t41).symm.trans hf
          refine lv_istore_n (pc := 41) hexec hb dX9_isRedIn_41 rfl hl (nle rfl) rfl (fun ls (hl : lv_has ls 4 [(2, .int t41), (0, .ref a0), (1, .int p1), (3, .int v3)]) => ?_)
          obtain ⟨v3_1, ev3_1, hf⟩ := bv_e hf
          refine k_iinc (pc := 42) hexec hb dX9_isRedIn_42 kq_1 hl (k := 3) rfl ev3_1 (nle rfl) rfl (fun ls (hl : lv_has ls 4 [(3, .int v3_1), (2, .int t41), (0, .ref a0), (1, .int p1)]) => ?_)
          refine lv_goto (pc := 45) hexec hb dX9_isRedIn_45 (tgt := 4) rfl ?_
          exact ih4 _ _ _ _ _ (sl2 hf hk4) hP hD hS (lv_sub hl [2, 3, 1, 0] rfl)
        obtain ⟨j36, ej36, hf⟩ := bvf1 hf
        have hj36 : ∀ (u : Unit) (H : Heap) (locs : List Loc) (ls : Array Slot), j36 u = some q4 → va_P g.1 vwCl (w_X9_isRedIn g a0 a1 u0_1 u0_2 u0_3 u0_4 u0_5 u0_6 u0_7 u0_8 u0_9 u0_10 u0_11 u0_12 u0_13 u0_14 u0_15 u0_16 u0_17 u0_18 u0_19 u0_20 u0_21 u0_22 u0_23 u0_24 u0_25 u0_26 u0_27 u0_28 u0_29 u0_30 y1_s) H → va_D A (w_X9_isRedIn g a0 a1 u0_1 u0_2 u0_3 u0_4 u0_5 u0_6 u0_7 u0_8 u0_9 u0_10 u0_11 u0_12 u0_13 u0_14 u0_15 u0_16 u0_17 u0_18 u0_19 u0_20 u0_21 u0_22 u0_23 u0_24 u0_25 u0_26 u0_27 u0_28 u0_29 u0_30 y1_s) → va_S A s.heap H locs → lv_has ls 4 [(0, .ref a0), (1, .int p1), (3, .int v3)] → W p l e (RM 5 120) s m args below meth c H locs 0 0 Q (F0 m 36 ls []) := by
          intro u H locs ls hf hP hD hS hl
          have hf := (ej36 u).symm.trans hf
          refine lv_iconst (pc := 36) hexec hb dX9_isRedIn_36 ki_1 ?_
          refine lv_goto (pc := 37) hexec hb dX9_isRedIn_37 (tgt := 41) rfl ?_
          exact hj41 _ _ _ _ hf hP hD hS (lv_sub hl [0, 1, 2] rfl)
        refine kb_ne (pc := 15) hexec hb dX9_isRedIn_15 (tgt := 36) rfl hf (fun hc hf => ?_) (fun hc hf => ?_)
        · exact hj36 _ _ _ _ hf hP hD hS (lv_sub hl [0, 1, 3] rfl)
        · refine lv_aload_n (pc := 18) hexec hb dX9_isRedIn_18 rfl (lv_at hl 0 rfl) ?_
          refine lv_iload_n (pc := 19) hexec hb dX9_isRedIn_19 rfl (lv_at hl 3 rfl) ?_
          obtain ⟨r20, hc, hf⟩ := bd1_e hf
          refine kVp (pc := 20) (S := ⟨hexec, hb, hml, hown, hts⟩) hP hD hG hA hS [0, 1] [] [0, 1] (w2 := (w_X9_isRedIn g a0 a1 u0_1 u0_2 u0_3 u0_4 u0_5 u0_6 u0_7 u0_8 u0_9 u0_10 u0_11 u0_12 u0_13 u0_14 u0_15 u0_16 u0_17 u0_18 u0_19 u0_20 u0_21 u0_22 u0_23 u0_24 u0_25 u0_26 u0_27 u0_28 u0_29 u0_30 y1_s)) rfl rfl rfl rfl rfl rfl (by decide) (c_X9_isRed l g a0 a1 _ u0_1 u0_2 u0_3 u0_4 u0_5 u0_6 u0_7 u0_8 u0_9 u0_10 u0_11 u0_12 u0_13 u0_14 u0_15 u0_16 u0_17 u0_18 u0_19 u0_20 u0_21 u0_22 u0_23 u0_24 u0_25 u0_26 u0_27 u0_28 u0_29 u0_30 y1_s v3 r20 hc) gX9_isRedIn_X9_isRed rfl hv_X9_isRed ⟨nle rfl, nle rfl⟩ 9 0 rfl rfl rfl (rest := []) rfl rfl hl.1 (nle rfl) dX9_isRedIn_20 (fun H locs hP hD hS => ?_)
          obtain ⟨j40, ej40, hf⟩ := bvf1 hf
          have hj40 : ∀ (u : Unit) (H : Heap) (locs : List Loc) (ls : Array Slot), j40 u = some q4 → va_P g.1 vwCl (w_X9_isRedIn g a0 a1 u0_1 u0_2 u0_3 u0_4 u0_5 u0_6 u0_7 u0_8 u0_9 u0_10 u0_11 u0_12 u0_13 u0_14 u0_15 u0_16 u0_17 u0_18 u0_19 u0_20 u0_21 u0_22 u0_23 u0_24 u0_25 u0_26 u0_27 u0_28 u0_29 u0_30 y1_s) H → va_D A (w_X9_isRedIn g a0 a1 u0_1 u0_2 u0_3 u0_4 u0_5 u0_6 u0_7 u0_8 u0_9 u0_10 u0_11 u0_12 u0_13 u0_14 u0_15 u0_16 u0_17 u0_18 u0_19 u0_20 u0_21 u0_22 u0_23 u0_24 u0_25 u0_26 u0_27 u0_28 u0_29 u0_30 y1_s) → va_S A s.heap H locs → lv_has ls 4 [(0, .ref a0), (1, .int p1), (3, .int v3)] → W p l e (RM 5 120) s m args below meth c H locs 0 0 Q (F0 m 40 ls []) := by
            intro u H locs ls hf hP hD hS hl
            have hf := (ej40 u).symm.trans hf
            refine lv_iconst (pc := 40) hexec hb dX9_isRedIn_40 ki_0 ?_
            exact hj41 _ _ _ _ hf hP hD hS (lv_sub hl [0, 1, 2] rfl)
          refine kb_eq (pc := 23) hexec hb dX9_isRedIn_23 (tgt := 40) rfl hf (fun hc hf => ?_) (fun hc hf => ?_)
          · exact hj40 _ _ _ _ hf hP hD hS (lv_sub hl [0, 1, 3] rfl)
          · refine lv_aload_n (pc := 26) hexec hb dX9_isRedIn_26 rfl (lv_at hl 0 rfl) ?_
            refine lv_iload_n (pc := 27) hexec hb dX9_isRedIn_27 rfl (lv_at hl 3 rfl) ?_
            refine lv_iload_n (pc := 28) hexec hb dX9_isRedIn_28 rfl (lv_at hl 1 rfl) ?_
            obtain ⟨r29, hc, hf⟩ := bd1_e hf
            refine kVp (pc := 29) (S := ⟨hexec, hb, hml, hown, hts⟩) hP hD hG hA hS [0, 1] [] [0, 1] (w2 := (w_X9_isRedIn g a0 a1 u0_1 u0_2 u0_3 u0_4 u0_5 u0_6 u0_7 u0_8 u0_9 u0_10 u0_11 u0_12 u0_13 u0_14 u0_15 u0_16 u0_17 u0_18 u0_19 u0_20 u0_21 u0_22 u0_23 u0_24 u0_25 u0_26 u0_27 u0_28 u0_29 u0_30 y1_s)) rfl rfl rfl rfl rfl rfl (by decide) (c_X9_letterOf l g a0 a1 _ u0_1 u0_2 u0_3 u0_4 u0_5 u0_6 u0_7 u0_8 u0_9 u0_10 u0_11 u0_12 u0_13 u0_14 u0_15 u0_16 u0_17 u0_18 u0_19 u0_20 u0_21 u0_22 u0_23 u0_24 u0_25 u0_26 u0_27 u0_28 u0_29 u0_30 y1_s v3 p1 r29 hc) gX9_isRedIn_X9_letterOf rfl hv_X9_letterOf ⟨nle rfl, nle rfl⟩ 9 0 rfl rfl rfl (rest := []) rfl rfl hl.1 (nle rfl) dX9_isRedIn_29 (fun H locs hP hD hS => ?_)
            refine lv_iconst (pc := 32) hexec hb dX9_isRedIn_32 ki_m1 ?_
            refine ki_eq (pc := 33) hexec hb dX9_isRedIn_33 (tgt := 40) rfl hf (fun hc hf => ?_) (fun hc hf => ?_)
            · exact hj40 _ _ _ _ hf hP hD hS (lv_sub hl [0, 1, 3] rfl)
            · exact hj36 _ _ _ _ hf hP hD hS (lv_sub hl [0, 1, 3] rfl)
  exact hL4 n _ _ _ _ _ hz hP hD hS (lv_sub hl [2, 3, 1, 0] rfl)
