abbrev w_X9_signOf (g : GE) (a0 a1 : Nat) (u0_1 u0_2 u0_3 u0_4 u0_5 u0_6 u0_7 u0_8 u0_9 u0_10 u0_11 u0_12 u0_13 u0_14 u0_15 u0_16 u0_17 u0_18 u0_19 u0_20 u0_21 u0_22 u0_23 u0_24 u0_25 u0_26 u0_27 u0_28 u0_29 u0_30 : Value) (y1_s : Nat → Int32) : va_W := [(a0, .inr (9, [.ref a1, u0_1, u0_2, u0_3, u0_4, u0_5, u0_6, u0_7, u0_8, u0_9, u0_10, u0_11, u0_12, u0_13, u0_14, u0_15, u0_16, u0_17, u0_18, u0_19, u0_20, u0_21, u0_22, u0_23, u0_24, u0_25, u0_26, u0_27, u0_28, u0_29, u0_30])), (a1, .inl (g.2.1 0, 552, .inl y1_s))]
set_option maxRecDepth 20000 in
theorem c_X9_signOf (l : Launch) (g : GE) (a0 a1 : Nat) (sz : Nat) (u0_1 u0_2 u0_3 u0_4 u0_5 u0_6 u0_7 u0_8 u0_9 u0_10 u0_11 u0_12 u0_13 u0_14 u0_15 u0_16 u0_17 u0_18 u0_19 u0_20 u0_21 u0_22 u0_23 u0_24 u0_25 u0_26 u0_27 u0_28 u0_29 u0_30 : Value) (y1_s : Nat → Int32) (p1 : Int32)  (r : Int32) (hf : f_X9_signOf y1_s p1 = some r) : MI l g yX9_signOf wsX9_signOf 6 143 [.ref a0, .int p1] (w_X9_signOf g a0 a1 u0_1 u0_2 u0_3 u0_4 u0_5 u0_6 u0_7 u0_8 u0_9 u0_10 u0_11 u0_12 u0_13 u0_14 u0_15 u0_16 u0_17 u0_18 u0_19 u0_20 u0_21 u0_22 u0_23 u0_24 u0_25 u0_26 u0_27 u0_28 u0_29 u0_30 y1_s) sz (some (.int r)) (w_X9_signOf g a0 a1 u0_1 u0_2 u0_3 u0_4 u0_5 u0_6 u0_7 u0_8 u0_9 u0_10 u0_11 u0_12 u0_13 u0_14 u0_15 u0_16 u0_17 u0_18 u0_19 u0_20 u0_21 u0_22 u0_23 u0_24 u0_25 u0_26 u0_27 u0_28 u0_29 u0_30 y1_s) := by
  refine MI.start (cc := cX9_signOf) (maxL := 3) (ret := (some .int)) rfl rfl (nle rfl) ?_
  intro p e s m args below meth c A ls Q hQ hexec hb hr hts hown hlocks hml hA hP hD hG hS hl
  unfold f_X9_signOf at hf
  have hWX9 : ∀ w ∈ wsX90, w.before args s = true := fun w h => hts w (List.mem_cons_of_mem _ (List.mem_append_right _ h))
  have hS : va_S A s.heap s.heap [] := hS
  refine lv_aload_n (pc := 0) hexec hb dX9_signOf_0 rfl (lv_at hl 0 rfl) ?_
  refine lv_iload_n (pc := 1) hexec hb dX9_signOf_1 rfl (lv_at hl 1 rfl) ?_
  obtain ⟨r2, hc, hf⟩ := bd1_e hf
  refine kVp (pc := 2) (S := ⟨hexec, hb, hml, hown, hts⟩) hP hD hG hA hS [0, 1] [] [0, 1] (w2 := (w_X9_signOf g a0 a1 u0_1 u0_2 u0_3 u0_4 u0_5 u0_6 u0_7 u0_8 u0_9 u0_10 u0_11 u0_12 u0_13 u0_14 u0_15 u0_16 u0_17 u0_18 u0_19 u0_20 u0_21 u0_22 u0_23 u0_24 u0_25 u0_26 u0_27 u0_28 u0_29 u0_30 y1_s)) rfl rfl rfl rfl rfl rfl (by decide) (c_X9_isLand l g a0 a1 _ u0_1 u0_2 u0_3 u0_4 u0_5 u0_6 u0_7 u0_8 u0_9 u0_10 u0_11 u0_12 u0_13 u0_14 u0_15 u0_16 u0_17 u0_18 u0_19 u0_20 u0_21 u0_22 u0_23 u0_24 u0_25 u0_26 u0_27 u0_28 u0_29 u0_30 y1_s p1 r2 hc) gX9_signOf_X9_isLand rfl hv_X9_isLand ⟨nle rfl, nle rfl⟩ 9 0 rfl rfl rfl (rest := []) rfl rfl hl.1 (nle rfl) dX9_signOf_2 (fun H locs hP hD hS => ?_)
  refine kb_ne (pc := 5) hexec hb dX9_signOf_5 (tgt := 11) rfl hf (fun hc hf => ?_) (fun hc hf => ?_)
  · refine lv_aload_n (pc := 11) hexec hb dX9_signOf_11 rfl (lv_at hl 0 rfl) ?_
    refine lv_iload_n (pc := 12) hexec hb dX9_signOf_12 rfl (lv_at hl 1 rfl) ?_
    refine lv_iconst (pc := 13) hexec hb dX9_signOf_13 ki_m1 ?_
    obtain ⟨r14, hc, hf⟩ := bd1_e hf
    refine kVp (pc := 14) (S := ⟨hexec, hb, hml, hown, hts⟩) hP hD hG hA hS [0, 1] [] [0, 1] (w2 := (w_X9_signOf g a0 a1 u0_1 u0_2 u0_3 u0_4 u0_5 u0_6 u0_7 u0_8 u0_9 u0_10 u0_11 u0_12 u0_13 u0_14 u0_15 u0_16 u0_17 u0_18 u0_19 u0_20 u0_21 u0_22 u0_23 u0_24 u0_25 u0_26 u0_27 u0_28 u0_29 u0_30 y1_s)) rfl rfl rfl rfl rfl rfl (by decide) (c_X9_harbourAt l g a0 a1 _ u0_1 u0_2 u0_3 u0_4 u0_5 u0_6 u0_7 u0_8 u0_9 u0_10 u0_11 u0_12 u0_13 u0_14 u0_15 u0_16 u0_17 u0_18 u0_19 u0_20 u0_21 u0_22 u0_23 u0_24 u0_25 u0_26 u0_27 u0_28 u0_29 u0_30 y1_s p1 (-1) r14 hc) gX9_signOf_X9_harbourAt rfl hv_X9_harbourAt ⟨nle rfl, nle rfl⟩ 9 0 rfl rfl rfl (rest := []) rfl rfl hl.1 (nle rfl) dX9_signOf_14 (fun H locs hP hD hS => ?_)
    refine lv_iconst (pc := 17) hexec hb dX9_signOf_17 ki_m1 ?_
    refine ki_eq (pc := 18) hexec hb dX9_signOf_18 (tgt := 24) rfl hf (fun hc hf => ?_) (fun hc hf => ?_)
    · refine lv_aload_n (pc := 24) hexec hb dX9_signOf_24 rfl (lv_at hl 0 rfl) ?_
      refine lv_iload_n (pc := 25) hexec hb dX9_signOf_25 rfl (lv_at hl 1 rfl) ?_
      obtain ⟨r26, hc, hf⟩ := bd1_e hf
      refine kVp (pc := 26) (S := ⟨hexec, hb, hml, hown, hts⟩) hP hD hG hA hS [0, 1] [] [0, 1] (w2 := (w_X9_signOf g a0 a1 u0_1 u0_2 u0_3 u0_4 u0_5 u0_6 u0_7 u0_8 u0_9 u0_10 u0_11 u0_12 u0_13 u0_14 u0_15 u0_16 u0_17 u0_18 u0_19 u0_20 u0_21 u0_22 u0_23 u0_24 u0_25 u0_26 u0_27 u0_28 u0_29 u0_30 y1_s)) rfl rfl rfl rfl rfl rfl (by decide) (c_X9_letterAt l g a0 a1 _ u0_1 u0_2 u0_3 u0_4 u0_5 u0_6 u0_7 u0_8 u0_9 u0_10 u0_11 u0_12 u0_13 u0_14 u0_15 u0_16 u0_17 u0_18 u0_19 u0_20 u0_21 u0_22 u0_23 u0_24 u0_25 u0_26 u0_27 u0_28 u0_29 u0_30 y1_s p1 r26 hc) gX9_signOf_X9_letterAt rfl hv_X9_letterAt ⟨nle rfl, nle rfl⟩ 9 0 rfl rfl rfl (rest := []) rfl rfl hl.1 (nle rfl) dX9_signOf_26 (fun H locs hP hD hS => ?_)
      refine lv_istore_n (pc := 29) hexec hb dX9_signOf_29 rfl hl (nle rfl) rfl (fun ls (hl : lv_has ls 3 [(2, .int r26), (0, .ref a0), (1, .int p1)]) => ?_)
      refine lv_iload_n (pc := 30) hexec hb dX9_signOf_30 rfl (lv_at hl 0 rfl) ?_
      refine lv_iconst (pc := 31) hexec hb dX9_signOf_31 ki_m1 ?_
      refine ki_eq (pc := 32) hexec hb dX9_signOf_32 (tgt := 52) rfl hf (fun hc hf => ?_) (fun hc hf => ?_)
      · refine lv_aload_n (pc := 52) hexec hb dX9_signOf_52 rfl (lv_at hl 1 rfl) ?_
        refine lv_iload_n (pc := 53) hexec hb dX9_signOf_53 rfl (lv_at hl 2 rfl) ?_
        obtain ⟨r54, hc, hf⟩ := bd1_e hf
        refine kVp (pc := 54) (S := ⟨hexec, hb, hml, hown, hts⟩) hP hD hG hA hS [0, 1] [] [0, 1] (w2 := (w_X9_signOf g a0 a1 u0_1 u0_2 u0_3 u0_4 u0_5 u0_6 u0_7 u0_8 u0_9 u0_10 u0_11 u0_12 u0_13 u0_14 u0_15 u0_16 u0_17 u0_18 u0_19 u0_20 u0_21 u0_22 u0_23 u0_24 u0_25 u0_26 u0_27 u0_28 u0_29 u0_30 y1_s)) rfl rfl rfl rfl rfl rfl (by decide) (c_X9_isRiver l g a0 a1 _ u0_1 u0_2 u0_3 u0_4 u0_5 u0_6 u0_7 u0_8 u0_9 u0_10 u0_11 u0_12 u0_13 u0_14 u0_15 u0_16 u0_17 u0_18 u0_19 u0_20 u0_21 u0_22 u0_23 u0_24 u0_25 u0_26 u0_27 u0_28 u0_29 u0_30 y1_s p1 r54 hc) gX9_signOf_X9_isRiver rfl hv_X9_isRiver ⟨nle rfl, nle rfl⟩ 9 0 rfl rfl rfl (rest := []) rfl rfl hl.1 (nle rfl) dX9_signOf_54 (fun H locs hP hD hS => ?_)
        refine kb_eq (pc := 57) hexec hb dX9_signOf_57 (tgt := 65) rfl hf (fun hc hf => ?_) (fun hc hf => ?_)
        · refine lv_bipush (pc := 65) hexec hb dX9_signOf_65 kb_46 ?_
          cases hf
          exact ke_i hQ hexec hb hr hP hD hS dX9_signOf_67 hlocks
        · refine lv_bipush (pc := 60) hexec hb dX9_signOf_60 kb_61 ?_
          refine lv_goto (pc := 62) hexec hb dX9_signOf_62 (tgt := 67) rfl ?_
          cases hf
          exact ke_i hQ hexec hb hr hP hD hS dX9_signOf_67 hlocks
      · refine lv_aload_n (pc := 35) hexec hb dX9_signOf_35 rfl (lv_at hl 1 rfl) ?_
        refine lv_iload_n (pc := 36) hexec hb dX9_signOf_36 rfl (lv_at hl 2 rfl) ?_
        obtain ⟨r37, hc, hf⟩ := bd1_e hf
        refine kVp (pc := 37) (S := ⟨hexec, hb, hml, hown, hts⟩) hP hD hG hA hS [0, 1] [] [0, 1] (w2 := (w_X9_signOf g a0 a1 u0_1 u0_2 u0_3 u0_4 u0_5 u0_6 u0_7 u0_8 u0_9 u0_10 u0_11 u0_12 u0_13 u0_14 u0_15 u0_16 u0_17 u0_18 u0_19 u0_20 u0_21 u0_22 u0_23 u0_24 u0_25 u0_26 u0_27 u0_28 u0_29 u0_30 y1_s)) rfl rfl rfl rfl rfl rfl (by decide) (c_X9_isRedIn l g a0 a1 _ u0_1 u0_2 u0_3 u0_4 u0_5 u0_6 u0_7 u0_8 u0_9 u0_10 u0_11 u0_12 u0_13 u0_14 u0_15 u0_16 u0_17 u0_18 u0_19 u0_20 u0_21 u0_22 u0_23 u0_24 u0_25 u0_26 u0_27 u0_28 u0_29 u0_30 y1_s p1 r37 hc) gX9_signOf_X9_isRedIn rfl hv_X9_isRedIn ⟨nle rfl, nle rfl⟩ 9 0 rfl rfl rfl (rest := []) rfl rfl hl.1 (nle rfl) dX9_signOf_37 (fun H locs hP hD hS => ?_)
        refine kb_eq (pc := 40) hexec hb dX9_signOf_40 (tgt := 50) rfl hf (fun hc hf => ?_) (fun hc hf => ?_)
        · refine lv_iload_n (pc := 50) hexec hb dX9_signOf_50 rfl (lv_at hl 0 rfl) ?_
          cases hf
          exact ke_i hQ hexec hb hr hP hD hS dX9_signOf_51 hlocks
        · refine lv_iload_n (pc := 43) hexec hb dX9_signOf_43 rfl (lv_at hl 0 rfl) ?_
          refine lv_bipush (pc := 44) hexec hb dX9_signOf_44 kb_32 ?_
          refine lv_isub (pc := 46) hexec hb dX9_signOf_46 ?_
          refine lv_goto (pc := 47) hexec hb dX9_signOf_47 (tgt := 51) rfl ?_
          cases hf
          exact ke_i hQ hexec hb hr hP hD hS dX9_signOf_51 hlocks
    · refine lv_bipush (pc := 21) hexec hb dX9_signOf_21 kb_64 ?_
      cases hf
      exact ke_i hQ hexec hb hr hP hD hS dX9_signOf_23 hlocks
  · refine lv_bipush (pc := 8) hexec hb dX9_signOf_8 kb_126 ?_
    cases hf
    exact ke_i hQ hexec hb hr hP hD hS dX9_signOf_10 hlocks
abbrev w_X9_writeRow (g : GE) (a0 a1 a2 : Nat) (u0_1 u0_2 u0_3 u0_4 u0_5 u0_6 u0_8 u0_9 u0_10 u0_11 u0_12 u0_13 u0_14 u0_15 u0_16 u0_17 u0_18 u0_19 u0_20 u0_21 u0_22 u0_23 u0_24 u0_25 u0_26 u0_27 u0_28 : Value) (x0_thrown : Int32) (x0_written : Int32) (y1_output : Nat → Int32) (y2_s : Nat → Int32) : va_W := [(a0, .inr (9, [.ref a2, u0_1, u0_2, u0_3, u0_4, u0_5, u0_6, .int x0_thrown, u0_8, u0_9, u0_10, u0_11, u0_12, u0_13, u0_14, u0_15, u0_16, u0_17, u0_18, u0_19, u0_20, u0_21, u0_22, u0_23, u0_24, u0_25, u0_26, u0_27, u0_28, .ref a1, .int x0_written])), (a1, .inl (g.2.1 0, 12, .inl y1_output)), (a2, .inl (g.2.1 0, 552, .inl y2_s))]
set_option maxRecDepth 20000 in
theorem c_X9_writeRow (l : Launch) (g : GE) (a0 a1 a2 : Nat) (sz : Nat) (u0_1 u0_2 u0_3 u0_4 u0_5 u0_6 u0_8 u0_9 u0_10 u0_11 u0_12 u0_13 u0_14 u0_15 u0_16 u0_17 u0_18 u0_19 u0_20 u0_21 u0_22 u0_23 u0_24 u0_25 u0_26 u0_27 u0_28 : Value) (x0_thrown : Int32) (x0_written : Int32) (y1_output : Nat → Int32) (y2_s : Nat → Int32) (p1 : Int32)  (r : Int32) (o_x0_thrown : Int32) (o_x0_written : Int32) (o_y1_output : Nat → Int32) (hf : f_X9_writeRow x0_thrown x0_written y1_output y2_s p1 = some (r, o_x0_thrown, o_x0_written, o_y1_output)) : MI l g yX9_writeRow wsX9_writeRow 7 165 [.ref a0, .int p1] (w_X9_writeRow g a0 a1 a2 u0_1 u0_2 u0_3 u0_4 u0_5 u0_6 u0_8 u0_9 u0_10 u0_11 u0_12 u0_13 u0_14 u0_15 u0_16 u0_17 u0_18 u0_19 u0_20 u0_21 u0_22 u0_23 u0_24 u0_25 u0_26 u0_27 u0_28 x0_thrown x0_written y1_output y2_s) sz (some (.int r)) (w_X9_writeRow g a0 a1 a2 u0_1 u0_2 u0_3 u0_4 u0_5 u0_6 u0_8 u0_9 u0_10 u0_11 u0_12 u0_13 u0_14 u0_15 u0_16 u0_17 u0_18 u0_19 u0_20 u0_21 u0_22 u0_23 u0_24 u0_25 u0_26 u0_27 u0_28 o_x0_thrown o_x0_written o_y1_output y2_s) := by
  refine MI.start (cc := cX9_writeRow) (maxL := 3) (ret := (some .int)) rfl rfl (nle rfl) ?_
  intro p e s m args below meth c A ls Q hQ hexec hb hr hts hown hlocks hml hA hP hD hG hS hl
  unfold f_X9_writeRow at hf
  have hWX9 : ∀ w ∈ wsX90, w.before args s = true := fun w h => hts w (List.mem_cons_of_mem _ (List.mem_append_right _ h))
  have hS : va_S A s.heap s.heap [] := hS
  refine lv_aload_n (pc := 0) hexec hb dX9_writeRow_0 rfl (lv_at hl 0 rfl) ?_
  refine lv_iload_n (pc := 1) hexec hb dX9_writeRow_1 rfl (lv_at hl 1 rfl) ?_
  refine lv_i2l (pc := 2) hexec hb dX9_writeRow_2 rfl ?_
  refine lv_lconst (pc := 3) hexec hb dX9_writeRow_3 kl_0 ?_
  refine lv_aload_n (pc := 4) hexec hb dX9_writeRow_4 rfl (lv_at hl 0 rfl) ?_
  refine kg_get (pc := 5) hexec hb (own := RX9) hWX9 hown hG hP 0 rfl rfl 0 (nle rfl) (hts _ (List.mem_cons_of_mem _ (List.mem_append_left _ (List.mem_append_left _ (List.mem_of_getElem? (i := 0) rfl))))) rfl rfl dX9_writeRow_5 ?_
  refine lv_iconst (pc := 8) hexec hb dX9_writeRow_8 ki_0 ?_
  refine kr_iald (pc := 9) hexec hb hG hP 2 rfl hf dX9_writeRow_9 (fun hf => ?_)
  refine lv_iconst (pc := 10) hexec hb dX9_writeRow_10 ki_1 ?_
  refine lv_isub (pc := 11) hexec hb dX9_writeRow_11 ?_
  refine lv_i2l (pc := 12) hexec hb dX9_writeRow_12 rfl ?_
  obtain ⟨r13, hc, hf⟩ := bd1_e hf
  refine kSp (pc := 13) (S := ⟨hexec, hb, hml, hown, hts⟩) hP hD hG hA hS [] [0, 1, 2] [0, 1, 2] (w2 := (w_X9_writeRow g a0 a1 a2 u0_1 u0_2 u0_3 u0_4 u0_5 u0_6 u0_8 u0_9 u0_10 u0_11 u0_12 u0_13 u0_14 u0_15 u0_16 u0_17 u0_18 u0_19 u0_20 u0_21 u0_22 u0_23 u0_24 u0_25 u0_26 u0_27 u0_28 x0_thrown x0_written y1_output y2_s)) rfl rfl rfl rfl rfl rfl (by decide) (c_X9_isIn l g _ (p1.toInt64) 0 ((((y2_s (0 : Int32).toNatClampNeg) - 1)).toInt64) r13 hc) gX9_writeRow_X9_isIn rfl hs_X9_isIn ⟨nle rfl, nle rfl⟩ (rest := [.ref a0]) rfl rfl hl.1 (nle rfl) dX9_writeRow_13 (fun H locs hP hD hS => ?_)
  refine lv_iconst (pc := 16) hexec hb dX9_writeRow_16 ki_1 ?_
  obtain ⟨r17, x0_thrown_1, hc, hf⟩ := bd2_e hf
  refine kVp (pc := 17) (S := ⟨hexec, hb, hml, hown, hts⟩) hP hD hG hA hS [0] [1, 2] [2, 0, 1] (w2 := (w_X9_writeRow g a0 a1 a2 u0_1 u0_2 u0_3 u0_4 u0_5 u0_6 u0_8 u0_9 u0_10 u0_11 u0_12 u0_13 u0_14 u0_15 u0_16 u0_17 u0_18 u0_19 u0_20 u0_21 u0_22 u0_23 u0_24 u0_25 u0_26 u0_27 u0_28 x0_thrown_1 x0_written y1_output y2_s)) rfl rfl rfl rfl rfl rfl (by decide) (c_X9_passes l g a0 _ (.ref a2) u0_1 u0_2 u0_3 u0_4 u0_5 u0_6 u0_8 u0_9 u0_10 u0_11 u0_12 u0_13 u0_14 u0_15 u0_16 u0_17 u0_18 u0_19 u0_20 u0_21 u0_22 u0_23 u0_24 u0_25 u0_26 u0_27 u0_28 (.ref a1) (.int x0_written) x0_thrown r13 1 r17 x0_thrown_1 hc) gX9_writeRow_X9_passes rfl hv_X9_passes ⟨nle rfl, nle rfl⟩ 9 0 rfl rfl rfl (rest := []) rfl rfl hl.1 (nle rfl) dX9_writeRow_17 (fun H locs hP hD hS => ?_)
  refine kb_ne (pc := 20) hexec hb dX9_writeRow_20 (tgt := 25) rfl hf (fun hc hf => ?_) (fun hc hf => ?_)
  · refine lv_aload_n (pc := 25) hexec hb dX9_writeRow_25 rfl (lv_at hl 0 rfl) ?_
    refine lv_iconst (pc := 26) hexec hb dX9_writeRow_26 ki_0 ?_
    refine kp_put (pc := 27) hexec hb (own := RX9) hWX9 tyX9 tyX9_ok nmX9 hown hG hP hD hS 0 rfl rfl 30 (nle rfl) (hts _ (List.mem_cons_of_mem _ (List.mem_append_left _ (List.mem_append_left _ (List.mem_of_getElem? (i := 1) rfl))))) rfl rfl rfl rfl (nle rfl) dX9_writeRow_27 (fun H locs (hP : va_P g.1 vwCl (w_X9_writeRow g a0 a1 a2 u0_1 u0_2 u0_3 u0_4 u0_5 u0_6 u0_8 u0_9 u0_10 u0_11 u0_12 u0_13 u0_14 u0_15 u0_16 u0_17 u0_18 u0_19 u0_20 u0_21 u0_22 u0_23 u0_24 u0_25 u0_26 u0_27 u0_28 x0_thrown_1 0 y1_output y2_s) H) (hD : va_D A (w_X9_writeRow g a0 a1 a2 u0_1 u0_2 u0_3 u0_4 u0_5 u0_6 u0_8 u0_9 u0_10 u0_11 u0_12 u0_13 u0_14 u0_15 u0_16 u0_17 u0_18 u0_19 u0_20 u0_21 u0_22 u0_23 u0_24 u0_25 u0_26 u0_27 u0_28 x0_thrown_1 0 y1_output y2_s)) hS => ?_)
    refine lv_iconst (pc := 30) hexec hb dX9_writeRow_30 ki_0 ?_
    refine lv_istore_n (pc := 31) hexec hb dX9_writeRow_31 rfl hl (nle rfl) rfl (fun ls (hl : lv_has ls 3 [(2, .int 0), (0, .ref a0), (1, .int p1)]) => ?_)
    obtain ⟨l32, el32, hf⟩ := bvf3 hf
    obtain ⟨x0_written_2, y1_output_2, hz, hf⟩ := bd2_e hf
    have hE32 : ∀ (H : Heap) (locs : List Loc) (ls : Array Slot), va_P g.1 vwCl (w_X9_writeRow g a0 a1 a2 u0_1 u0_2 u0_3 u0_4 u0_5 u0_6 u0_8 u0_9 u0_10 u0_11 u0_12 u0_13 u0_14 u0_15 u0_16 u0_17 u0_18 u0_19 u0_20 u0_21 u0_22 u0_23 u0_24 u0_25 u0_26 u0_27 u0_28 x0_thrown_1 x0_written_2 y1_output_2 y2_s) H → va_D A (w_X9_writeRow g a0 a1 a2 u0_1 u0_2 u0_3 u0_4 u0_5 u0_6 u0_8 u0_9 u0_10 u0_11 u0_12 u0_13 u0_14 u0_15 u0_16 u0_17 u0_18 u0_19 u0_20 u0_21 u0_22 u0_23 u0_24 u0_25 u0_26 u0_27 u0_28 x0_thrown_1 x0_written_2 y1_output_2 y2_s) → va_S A s.heap H locs → lv_has ls 3 [(0, .ref a0)] → W p l e (RM 7 165) s m args below meth c H locs 0 0 Q (F0 m 81 ls []) := by
      intro H locs ls hP hD hS hl
      refine lv_aload_n (pc := 81) hexec hb dX9_writeRow_81 rfl (lv_at hl 0 rfl) ?_
      refine kg_get (pc := 82) hexec hb (own := RX9) hWX9 hown hG hP 0 rfl rfl 30 (nle rfl) (hts _ (List.mem_cons_of_mem _ (List.mem_append_left _ (List.mem_append_left _ (List.mem_of_getElem? (i := 1) rfl))))) rfl rfl dX9_writeRow_82 ?_
      cases hf
      exact ke_i hQ hexec hb hr hP hD hS dX9_writeRow_85 hlocks
    obtain ⟨n, hz⟩ := lq3_e hz
    have hL32 : ∀ (n : Nat) (v2 : Int32) (x0_written_1 : Int32) (y1_output_1 : Nat → Int32) (H : Heap) (locs : List Loc) (ls : Array Slot), it3 l32 n v2 x0_written_1 y1_output_1 = some (x0_written_2, y1_output_2) → va_P g.1 vwCl (w_X9_writeRow g a0 a1 a2 u0_1 u0_2 u0_3 u0_4 u0_5 u0_6 u0_8 u0_9 u0_10 u0_11 u0_12 u0_13 u0_14 u0_15 u0_16 u0_17 u0_18 u0_19 u0_20 u0_21 u0_22 u0_23 u0_24 u0_25 u0_26 u0_27 u0_28 x0_thrown_1 x0_written_1 y1_output_1 y2_s) H → va_D A (w_X9_writeRow g a0 a1 a2 u0_1 u0_2 u0_3 u0_4 u0_5 u0_6 u0_8 u0_9 u0_10 u0_11 u0_12 u0_13 u0_14 u0_15 u0_16 u0_17 u0_18 u0_19 u0_20 u0_21 u0_22 u0_23 u0_24 u0_25 u0_26 u0_27 u0_28 x0_thrown_1 x0_written_1 y1_output_1 y2_s) → va_S A s.heap H locs → lv_has ls 3 [(0, .ref a0), (1, .int p1), (2, .int v2)] → W p l e (RM 7 165) s m args below meth c H locs 0 0 Q (F0 m 32 ls []) := by
      intro n
      induction n with
      | zero =>
        intro v2 x0_written_1 y1_output_1 H locs ls hf hP hD hS hl
        exact it3_0 hf
      | succ n32 ih32 =>
        intro v2 x0_written_1 y1_output_1 H locs ls hf hP hD hS hl
        obtain ⟨q32, hf, hk32⟩ := it3_e hf
        have hf := (el32 v2 x0_written_1 y1_output_1).symm.trans hf
        refine lv_iload_n (pc := 32) hexec hb dX9_writeRow_32 rfl (lv_at hl 2 rfl) ?_
        refine lv_aload_n (pc := 33) hexec hb dX9_writeRow_33 rfl (lv_at hl 0 rfl) ?_
        refine kg_get (pc := 34) hexec hb (own := RX9) hWX9 hown hG hP 0 rfl rfl 0 (nle rfl) (hts _ (List.mem_cons_of_mem _ (List.mem_append_left _ (List.mem_append_left _ (List.mem_of_getElem? (i := 0) rfl))))) rfl rfl dX9_writeRow_34 ?_
        refine lv_iconst (pc := 37) hexec hb dX9_writeRow_37 ki_1 ?_
        refine kr_iald (pc := 38) hexec hb hG hP 2 rfl hf dX9_writeRow_38 (fun hf => ?_)
        refine ki_ge (pc := 39) hexec hb dX9_writeRow_39 (tgt := 81) rfl hf (fun hc hf => ?_) (fun hc hf => ?_)
        · cases sr3 hf hk32
          exact hE32 _ _ _ hP hD hS (lv_sub hl [0] rfl)
        · refine lv_aload_n (pc := 42) hexec hb dX9_writeRow_42 rfl (lv_at hl 0 rfl) ?_
          refine kg_get (pc := 43) hexec hb (own := RX9) hWX9 hown hG hP 0 rfl rfl 29 (nle rfl) (hts _ (List.mem_cons_of_mem _ (List.mem_append_left _ (List.mem_append_left _ (List.mem_of_getElem? (i := 2) rfl))))) rfl rfl dX9_writeRow_43 ?_
          refine lv_aload_n (pc := 46) hexec hb dX9_writeRow_46 rfl (lv_at hl 0 rfl) ?_
          refine kg_get (pc := 47) hexec hb (own := RX9) hWX9 hown hG hP 0 rfl rfl 30 (nle rfl) (hts _ (List.mem_cons_of_mem _ (List.mem_append_left _ (List.mem_append_left _ (List.mem_of_getElem? (i := 1) rfl))))) rfl rfl dX9_writeRow_47 ?_
          refine lv_aload_n (pc := 50) hexec hb dX9_writeRow_50 rfl (lv_at hl 0 rfl) ?_
          refine lv_aload_n (pc := 51) hexec hb dX9_writeRow_51 rfl (lv_at hl 0 rfl) ?_
          refine kg_get (pc := 52) hexec hb (own := RX9) hWX9 hown hG hP 0 rfl rfl 0 (nle rfl) (hts _ (List.mem_cons_of_mem _ (List.mem_append_left _ (List.mem_append_left _ (List.mem_of_getElem? (i := 0) rfl))))) rfl rfl dX9_writeRow_52 ?_
          refine lv_iconst (pc := 55) hexec hb dX9_writeRow_55 ki_1 ?_
          refine kr_iald (pc := 56) hexec hb hG hP 2 rfl hf dX9_writeRow_56 (fun hf => ?_)
          refine lv_iload_n (pc := 57) hexec hb dX9_writeRow_57 rfl (lv_at hl 1 rfl) ?_
          refine lv_imul (pc := 58) hexec hb dX9_writeRow_58 ?_
          refine lv_iload_n (pc := 59) hexec hb dX9_writeRow_59 rfl (lv_at hl 2 rfl) ?_
          refine lv_iadd (pc := 60) hexec hb dX9_writeRow_60 ?_
          obtain ⟨r61, hc, hf⟩ := bd1_e hf
          refine kVp (pc := 61) (S := ⟨hexec, hb, hml, hown, hts⟩) hP hD hG hA hS [0, 2] [1] [1, 0, 2] (w2 := (w_X9_writeRow g a0 a1 a2 u0_1 u0_2 u0_3 u0_4 u0_5 u0_6 u0_8 u0_9 u0_10 u0_11 u0_12 u0_13 u0_14 u0_15 u0_16 u0_17 u0_18 u0_19 u0_20 u0_21 u0_22 u0_23 u0_24 u0_25 u0_26 u0_27 u0_28 x0_thrown_1 x0_written_1 y1_output_1 y2_s)) rfl rfl rfl rfl rfl rfl (by decide) (c_X9_signOf l g a0 a2 _ u0_1 u0_2 u0_3 u0_4 u0_5 u0_6 (.int x0_thrown_1) u0_8 u0_9 u0_10 u0_11 u0_12 u0_13 u0_14 u0_15 u0_16 u0_17 u0_18 u0_19 u0_20 u0_21 u0_22 u0_23 u0_24 u0_25 u0_26 u0_27 u0_28 (.ref a1) (.int x0_written_1) y2_s (((y2_s (1 : Int32).toNatClampNeg) * p1) + v2) r61 hc) gX9_writeRow_X9_signOf rfl hv_X9_signOf ⟨nle rfl, nle rfl⟩ 9 0 rfl rfl rfl (rest := [.int x0_written_1, .ref a1]) rfl rfl hl.1 (nle rfl) dX9_writeRow_61 (fun H locs hP hD hS => ?_)
          refine kw_iast (pc := 64) hexec hb hG hP hD hS 1 rfl hf dX9_writeRow_64 (fun y1_output_3 H locs hf (hP : va_P g.1 vwCl (w_X9_writeRow g a0 a1 a2 u0_1 u0_2 u0_3 u0_4 u0_5 u0_6 u0_8 u0_9 u0_10 u0_11 u0_12 u0_13 u0_14 u0_15 u0_16 u0_17 u0_18 u0_19 u0_20 u0_21 u0_22 u0_23 u0_24 u0_25 u0_26 u0_27 u0_28 x0_thrown_1 x0_written_1 y1_output_3 y2_s) H) (hD : va_D A (w_X9_writeRow g a0 a1 a2 u0_1 u0_2 u0_3 u0_4 u0_5 u0_6 u0_8 u0_9 u0_10 u0_11 u0_12 u0_13 u0_14 u0_15 u0_16 u0_17 u0_18 u0_19 u0_20 u0_21 u0_22 u0_23 u0_24 u0_25 u0_26 u0_27 u0_28 x0_thrown_1 x0_written_1 y1_output_3 y2_s)) hS => ?_)
          refine lv_aload_n (pc := 65) hexec hb dX9_writeRow_65 rfl (lv_at hl 0 rfl) ?_
          refine lv_dup (pc := 66) hexec hb dX9_writeRow_66 rfl ?_
          refine kg_get (pc := 67) hexec hb (own := RX9) hWX9 hown hG hP 0 rfl rfl 30 (nle rfl) (hts _ (List.mem_cons_of_mem _ (List.mem_append_left _ (List.mem_append_left _ (List.mem_of_getElem? (i := 1) rfl))))) rfl rfl dX9_writeRow_67 ?_
          refine lv_iconst (pc := 70) hexec hb dX9_writeRow_70 ki_1 ?_
          refine lv_iadd (pc := 71) hexec hb dX9_writeRow_71 ?_
          obtain ⟨x0_written_3, ex0_written_3, hf⟩ := bv_e hf
          refine kn_i ex0_written_3 ?_
          refine kp_put (pc := 72) hexec hb (own := RX9) hWX9 tyX9 tyX9_ok nmX9 hown hG hP hD hS 0 rfl rfl 30 (nle rfl) (hts _ (List.mem_cons_of_mem _ (List.mem_append_left _ (List.mem_append_left _ (List.mem_of_getElem? (i := 1) rfl))))) rfl rfl rfl rfl (nle rfl) dX9_writeRow_72 (fun H locs (hP : va_P g.1 vwCl (w_X9_writeRow g a0 a1 a2 u0_1 u0_2 u0_3 u0_4 u0_5 u0_6 u0_8 u0_9 u0_10 u0_11 u0_12 u0_13 u0_14 u0_15 u0_16 u0_17 u0_18 u0_19 u0_20 u0_21 u0_22 u0_23 u0_24 u0_25 u0_26 u0_27 u0_28 x0_thrown_1 x0_written_3 y1_output_3 y2_s) H) (hD : va_D A (w_X9_writeRow g a0 a1 a2 u0_1 u0_2 u0_3 u0_4 u0_5 u0_6 u0_8 u0_9 u0_10 u0_11 u0_12 u0_13 u0_14 u0_15 u0_16 u0_17 u0_18 u0_19 u0_20 u0_21 u0_22 u0_23 u0_24 u0_25 u0_26 u0_27 u0_28 x0_thrown_1 x0_written_3 y1_output_3 y2_s)) hS => ?_)
          obtain ⟨v2_1, ev2_1, hf⟩ := bv_e hf
          refine k_iinc (pc := 75) hexec hb dX9_writeRow_75 kq_1 hl (k := 2) rfl ev2_1 (nle rfl) rfl (fun ls (hl : lv_has ls 3 [(2, .int v2_1), (0, .ref a0), (1, .int p1)]) => ?_)
          refine lv_goto (pc := 78) hexec hb dX9_writeRow_78 (tgt := 32) rfl ?_
          exact ih32 _ _ _ _ _ _ (sl3 hf hk32) hP hD hS (lv_sub hl [1, 2, 0] rfl)
    exact hL32 n _ _ _ _ _ _ hz hP hD hS (lv_sub hl [1, 2, 0] rfl)
  · refine lv_iconst (pc := 23) hexec hb dX9_writeRow_23 ki_0 ?_
    cases hf
    exact ke_i hQ hexec hb hr hP hD hS dX9_writeRow_24 hlocks
abbrev w_X9_outputByte (g : GE) (a0 a1 : Nat) (u0_0 u0_1 u0_2 u0_3 u0_4 u0_5 u0_6 u0_8 u0_9 u0_10 u0_11 u0_12 u0_13 u0_14 u0_15 u0_16 u0_17 u0_18 u0_19 u0_20 u0_21 u0_22 u0_23 u0_24 u0_25 u0_26 u0_27 u0_28 : Value) (x0_thrown : Int32) (x0_written : Int32) (y1_output : Nat → Int32) : va_W := [(a0, .inr (9, [u0_0, u0_1, u0_2, u0_3, u0_4, u0_5, u0_6, .int x0_thrown, u0_8, u0_9, u0_10, u0_11, u0_12, u0_13, u0_14, u0_15, u0_16, u0_17, u0_18, u0_19, u0_20, u0_21, u0_22, u0_23, u0_24, u0_25, u0_26, u0_27, u0_28, .ref a1, .int x0_written])), (a1, .inl (g.2.1 0, 12, .inl y1_output))]
set_option maxRecDepth 20000 in
theorem c_X9_outputByte (l : Launch) (g : GE) (a0 a1 : Nat) (sz : Nat) (u0_0 u0_1 u0_2 u0_3 u0_4 u0_5 u0_6 u0_8 u0_9 u0_10 u0_11 u0_12 u0_13 u0_14 u0_15 u0_16 u0_17 u0_18 u0_19 u0_20 u0_21 u0_22 u0_23 u0_24 u0_25 u0_26 u0_27 u0_28 : Value) (x0_thrown : Int32) (x0_written : Int32) (y1_output : Nat → Int32) (p1 : Int32)  (r : Int32) (o_x0_thrown : Int32) (hf : f_X9_outputByte x0_thrown x0_written y1_output p1 = some (r, o_x0_thrown)) : MI l g yX9_outputByte wsX9_outputByte 2 49 [.ref a0, .int p1] (w_X9_outputByte g a0 a1 u0_0 u0_1 u0_2 u0_3 u0_4 u0_5 u0_6 u0_8 u0_9 u0_10 u0_11 u0_12 u0_13 u0_14 u0_15 u0_16 u0_17 u0_18 u0_19 u0_20 u0_21 u0_22 u0_23 u0_24 u0_25 u0_26 u0_27 u0_28 x0_thrown x0_written y1_output) sz (some (.int r)) (w_X9_outputByte g a0 a1 u0_0 u0_1 u0_2 u0_3 u0_4 u0_5 u0_6 u0_8 u0_9 u0_10 u0_11 u0_12 u0_13 u0_14 u0_15 u0_16 u0_17 u0_18 u0_19 u0_20 u0_21 u0_22 u0_23 u0_24 u0_25 u0_26 u0_27 u0_28 o_x0_thrown x0_written y1_output) := by
  refine MI.start (cc := cX9_outputByte) (maxL := 2) (ret := (some .int)) rfl rfl (nle rfl) ?_
  intro p e s m args below meth c A ls Q hQ hexec hb hr hts hown hlocks hml hA hP hD hG hS hl
  unfold f_X9_outputByte at hf
  have hWX9 : ∀ w ∈ wsX90, w.before args s = true := fun w h => hts w (List.mem_cons_of_mem _ (List.mem_append_right _ h))
  have hS : va_S A s.heap s.heap [] := hS
  refine lv_aload_n (pc := 0) hexec hb dX9_outputByte_0 rfl (lv_at hl 0 rfl) ?_
  refine lv_iconst (pc := 1) hexec hb dX9_outputByte_1 ki_0 ?_
  refine kp_put (pc := 2) hexec hb (own := RX9) hWX9 tyX9 tyX9_ok nmX9 hown hG hP hD hS 0 rfl rfl 7 (nle rfl) (hts _ (List.mem_cons_of_mem _ (List.mem_append_left _ (List.mem_of_getElem? (i := 0) rfl)))) rfl rfl rfl rfl (nle rfl) dX9_outputByte_2 (fun H locs (hP : va_P g.1 vwCl (w_X9_outputByte g a0 a1 u0_0 u0_1 u0_2 u0_3 u0_4 u0_5 u0_6 u0_8 u0_9 u0_10 u0_11 u0_12 u0_13 u0_14 u0_15 u0_16 u0_17 u0_18 u0_19 u0_20 u0_21 u0_22 u0_23 u0_24 u0_25 u0_26 u0_27 u0_28 0 x0_written y1_output) H) (hD : va_D A (w_X9_outputByte g a0 a1 u0_0 u0_1 u0_2 u0_3 u0_4 u0_5 u0_6 u0_8 u0_9 u0_10 u0_11 u0_12 u0_13 u0_14 u0_15 u0_16 u0_17 u0_18 u0_19 u0_20 u0_21 u0_22 u0_23 u0_24 u0_25 u0_26 u0_27 u0_28 0 x0_written y1_output)) hS => ?_)
  refine lv_iload_n (pc := 5) hexec hb dX9_outputByte_5 rfl (lv_at hl 1 rfl) ?_
  refine lv_i2l (pc := 6) hexec hb dX9_outputByte_6 rfl ?_
  refine lv_lconst (pc := 7) hexec hb dX9_outputByte_7 kl_0 ?_
  refine lv_aload_n (pc := 8) hexec hb dX9_outputByte_8 rfl (lv_at hl 0 rfl) ?_
  refine kg_get (pc := 9) hexec hb (own := RX9) hWX9 hown hG hP 0 rfl rfl 30 (nle rfl) (hts _ (List.mem_cons_of_mem _ (List.mem_append_left _ (List.mem_of_getElem? (i := 1) rfl)))) rfl rfl dX9_outputByte_9 ?_
  refine lv_iconst (pc := 12) hexec hb dX9_outputByte_12 ki_1 ?_
  refine lv_isub (pc := 13) hexec hb dX9_outputByte_13 ?_
  refine lv_i2l (pc := 14) hexec hb dX9_outputByte_14 rfl ?_
  obtain ⟨r15, hc, hf⟩ := bd1_e hf
  refine kSp (pc := 15) (S := ⟨hexec, hb, hml, hown, hts⟩) hP hD hG hA hS [] [0, 1] [0, 1] (w2 := (w_X9_outputByte g a0 a1 u0_0 u0_1 u0_2 u0_3 u0_4 u0_5 u0_6 u0_8 u0_9 u0_10 u0_11 u0_12 u0_13 u0_14 u0_15 u0_16 u0_17 u0_18 u0_19 u0_20 u0_21 u0_22 u0_23 u0_24 u0_25 u0_26 u0_27 u0_28 0 x0_written y1_output)) rfl rfl rfl rfl rfl rfl (by decide) (c_X9_isIn l g _ (p1.toInt64) 0 (((x0_written - 1)).toInt64) r15 hc) gX9_outputByte_X9_isIn rfl hs_X9_isIn ⟨nle rfl, nle rfl⟩ (rest := []) rfl rfl hl.1 (nle rfl) dX9_outputByte_15 (fun H locs hP hD hS => ?_)
  refine kb_eq (pc := 18) hexec hb dX9_outputByte_18 (tgt := 30) rfl hf (fun hc hf => ?_) (fun hc hf => ?_)
  · refine lv_iconst (pc := 30) hexec hb dX9_outputByte_30 ki_m1 ?_
    cases hf
    exact ke_i hQ hexec hb hr hP hD hS dX9_outputByte_31 hlocks
  · refine lv_aload_n (pc := 21) hexec hb dX9_outputByte_21 rfl (lv_at hl 0 rfl) ?_
    refine kg_get (pc := 22) hexec hb (own := RX9) hWX9 hown hG hP 0 rfl rfl 29 (nle rfl) (hts _ (List.mem_cons_of_mem _ (List.mem_append_left _ (List.mem_of_getElem? (i := 2) rfl)))) rfl rfl dX9_outputByte_22 ?_
    refine lv_iload_n (pc := 25) hexec hb dX9_outputByte_25 rfl (lv_at hl 1 rfl) ?_
    refine kr_iald (pc := 26) hexec hb hG hP 1 rfl hf dX9_outputByte_26 (fun hf => ?_)
    refine lv_goto (pc := 27) hexec hb dX9_outputByte_27 (tgt := 31) rfl ?_
    cases hf
    exact ke_i hQ hexec hb hr hP hD hS dX9_outputByte_31 hlocks
abbrev w_X9_undo (g : GE) (a0 a1 a2 : Nat) (u0_1 u0_2 u0_4 u0_5 u0_8 u0_9 u0_10 u0_11 u0_12 u0_13 u0_14 u0_15 u0_16 u0_17 u0_18 u0_19 u0_20 u0_21 u0_22 u0_23 u0_24 u0_25 u0_26 u0_27 u0_28 u0_29 u0_30 : Value) (x0_acts : Int32) (x0_thrown : Int32) (y1_past : Nat → Int32) (y2_s : Nat → Int32) : va_W := [(a0, .inr (9, [.ref a2, u0_1, u0_2, .ref a1, u0_4, u0_5, .int x0_acts, .int x0_thrown, u0_8, u0_9, u0_10, u0_11, u0_12, u0_13, u0_14, u0_15, u0_16, u0_17, u0_18, u0_19, u0_20, u0_21, u0_22, u0_23, u0_24, u0_25, u0_26, u0_27, u0_28, u0_29, u0_30])), (a1, .inl (g.2.1 0, 4416, .inl y1_past)), (a2, .inl (g.2.1 0, 552, .inl y2_s))]
set_option maxRecDepth 20000 in
theorem c_X9_undo (l : Launch) (g : GE) (a0 a1 a2 : Nat) (sz : Nat) (u0_1 u0_2 u0_4 u0_5 u0_8 u0_9 u0_10 u0_11 u0_12 u0_13 u0_14 u0_15 u0_16 u0_17 u0_18 u0_19 u0_20 u0_21 u0_22 u0_23 u0_24 u0_25 u0_26 u0_27 u0_28 u0_29 u0_30 : Value) (x0_acts : Int32) (x0_thrown : Int32) (y1_past : Nat → Int32) (y2_s : Nat → Int32)   (r : Int32) (o_x0_acts : Int32) (o_x0_thrown : Int32) (o_y2_s : Nat → Int32) (hf : f_X9_undo x0_acts x0_thrown y1_past y2_s = some (r, o_x0_acts, o_x0_thrown, o_y2_s)) : MI l g yX9_undo wsX9_undo 2 48 [.ref a0] (w_X9_undo g a0 a1 a2 u0_1 u0_2 u0_4 u0_5 u0_8 u0_9 u0_10 u0_11 u0_12 u0_13 u0_14 u0_15 u0_16 u0_17 u0_18 u0_19 u0_20 u0_21 u0_22 u0_23 u0_24 u0_25 u0_26 u0_27 u0_28 u0_29 u0_30 x0_acts x0_thrown y1_past y2_s) sz (some (.int r)) (w_X9_undo g a0 a1 a2 u0_1 u0_2 u0_4 u0_5 u0_8 u0_9 u0_10 u0_11 u0_12 u0_13 u0_14 u0_15 u0_16 u0_17 u0_18 u0_19 u0_20 u0_21 u0_22 u0_23 u0_24 u0_25 u0_26 u0_27 u0_28 u0_29 u0_30 o_x0_acts o_x0_thrown y1_past o_y2_s) := by
  refine MI.start (cc := cX9_undo) (maxL := 1) (ret := (some .int)) rfl rfl (nle rfl) ?_
  intro p e s m args below meth c A ls Q hQ hexec hb hr hts hown hlocks hml hA hP hD hG hS hl
  unfold f_X9_undo at hf
  have hWX9 : ∀ w ∈ wsX90, w.before args s = true := fun w h => hts w (List.mem_cons_of_mem _ (List.mem_append_right _ h))
  have hS : va_S A s.heap s.heap [] := hS
  refine lv_aload_n (pc := 0) hexec hb dX9_undo_0 rfl (lv_at hl 0 rfl) ?_
  refine lv_iconst (pc := 1) hexec hb dX9_undo_1 ki_0 ?_
  refine kp_put (pc := 2) hexec hb (own := RX9) hWX9 tyX9 tyX9_ok nmX9 hown hG hP hD hS 0 rfl rfl 7 (nle rfl) (hts _ (List.mem_cons_of_mem _ (List.mem_append_left _ (List.mem_of_getElem? (i := 0) rfl)))) rfl rfl rfl rfl (nle rfl) dX9_undo_2 (fun H locs (hP : va_P g.1 vwCl (w_X9_undo g a0 a1 a2 u0_1 u0_2 u0_4 u0_5 u0_8 u0_9 u0_10 u0_11 u0_12 u0_13 u0_14 u0_15 u0_16 u0_17 u0_18 u0_19 u0_20 u0_21 u0_22 u0_23 u0_24 u0_25 u0_26 u0_27 u0_28 u0_29 u0_30 x0_acts 0 y1_past y2_s) H) (hD : va_D A (w_X9_undo g a0 a1 a2 u0_1 u0_2 u0_4 u0_5 u0_8 u0_9 u0_10 u0_11 u0_12 u0_13 u0_14 u0_15 u0_16 u0_17 u0_18 u0_19 u0_20 u0_21 u0_22 u0_23 u0_24 u0_25 u0_26 u0_27 u0_28 u0_29 u0_30 x0_acts 0 y1_past y2_s)) hS => ?_)
  refine lv_aload_n (pc := 5) hexec hb dX9_undo_5 rfl (lv_at hl 0 rfl) ?_
  refine kg_get (pc := 6) hexec hb (own := RX9) hWX9 hown hG hP 0 rfl rfl 6 (nle rfl) (hts _ (List.mem_cons_of_mem _ (List.mem_append_left _ (List.mem_of_getElem? (i := 1) rfl)))) rfl rfl dX9_undo_6 ?_
  refine kb_ne (pc := 9) hexec hb dX9_undo_9 (tgt := 14) rfl hf (fun hc hf => ?_) (fun hc hf => ?_)
  · refine lv_aload_n (pc := 14) hexec hb dX9_undo_14 rfl (lv_at hl 0 rfl) ?_
    refine lv_dup (pc := 15) hexec hb dX9_undo_15 rfl ?_
    refine kg_get (pc := 16) hexec hb (own := RX9) hWX9 hown hG hP 0 rfl rfl 6 (nle rfl) (hts _ (List.mem_cons_of_mem _ (List.mem_append_left _ (List.mem_of_getElem? (i := 1) rfl)))) rfl rfl dX9_undo_16 ?_
    refine lv_iconst (pc := 19) hexec hb dX9_undo_19 ki_1 ?_
    refine lv_isub (pc := 20) hexec hb dX9_undo_20 ?_
    obtain ⟨x0_acts_1, ex0_acts_1, hf⟩ := bv_e hf
    refine kn_i ex0_acts_1 ?_
    refine kp_put (pc := 21) hexec hb (own := RX9) hWX9 tyX9 tyX9_ok nmX9 hown hG hP hD hS 0 rfl rfl 6 (nle rfl) (hts _ (List.mem_cons_of_mem _ (List.mem_append_left _ (List.mem_of_getElem? (i := 1) rfl)))) rfl rfl rfl rfl (nle rfl) dX9_undo_21 (fun H locs (hP : va_P g.1 vwCl (w_X9_undo g a0 a1 a2 u0_1 u0_2 u0_4 u0_5 u0_8 u0_9 u0_10 u0_11 u0_12 u0_13 u0_14 u0_15 u0_16 u0_17 u0_18 u0_19 u0_20 u0_21 u0_22 u0_23 u0_24 u0_25 u0_26 u0_27 u0_28 u0_29 u0_30 x0_acts_1 0 y1_past y2_s) H) (hD : va_D A (w_X9_undo g a0 a1 a2 u0_1 u0_2 u0_4 u0_5 u0_8 u0_9 u0_10 u0_11 u0_12 u0_13 u0_14 u0_15 u0_16 u0_17 u0_18 u0_19 u0_20 u0_21 u0_22 u0_23 u0_24 u0_25 u0_26 u0_27 u0_28 u0_29 u0_30 x0_acts_1 0 y1_past y2_s)) hS => ?_)
    refine lv_aload_n (pc := 24) hexec hb dX9_undo_24 rfl (lv_at hl 0 rfl) ?_
    refine kg_get (pc := 25) hexec hb (own := RX9) hWX9 hown hG hP 0 rfl rfl 3 (nle rfl) (hts _ (List.mem_cons_of_mem _ (List.mem_append_left _ (List.mem_of_getElem? (i := 2) rfl)))) rfl rfl dX9_undo_25 ?_
    refine lv_sipush (pc := 28) hexec hb dX9_undo_28 ks_552 ?_
    refine lv_aload_n (pc := 31) hexec hb dX9_undo_31 rfl (lv_at hl 0 rfl) ?_
    refine kg_get (pc := 32) hexec hb (own := RX9) hWX9 hown hG hP 0 rfl rfl 6 (nle rfl) (hts _ (List.mem_cons_of_mem _ (List.mem_append_left _ (List.mem_of_getElem? (i := 1) rfl)))) rfl rfl dX9_undo_32 ?_
    refine lv_imul (pc := 35) hexec hb dX9_undo_35 ?_
    refine lv_aload_n (pc := 36) hexec hb dX9_undo_36 rfl (lv_at hl 0 rfl) ?_
    refine kg_get (pc := 37) hexec hb (own := RX9) hWX9 hown hG hP 0 rfl rfl 0 (nle rfl) (hts _ (List.mem_cons_of_mem _ (List.mem_append_left _ (List.mem_of_getElem? (i := 3) rfl)))) rfl rfl dX9_undo_37 ?_
    refine lv_iconst (pc := 40) hexec hb dX9_undo_40 ki_0 ?_
    obtain ⟨y2_s_1, hc, hf⟩ := bd1_e hf
    refine kSp (pc := 41) (S := ⟨hexec, hb, hml, hown, hts⟩) hP hD hG hA hS [1, 2] [0] [0, 1, 2] (w2 := (w_X9_undo g a0 a1 a2 u0_1 u0_2 u0_4 u0_5 u0_8 u0_9 u0_10 u0_11 u0_12 u0_13 u0_14 u0_15 u0_16 u0_17 u0_18 u0_19 u0_20 u0_21 u0_22 u0_23 u0_24 u0_25 u0_26 u0_27 u0_28 u0_29 u0_30 x0_acts_1 0 y1_past y2_s_1)) rfl rfl rfl rfl rfl rfl (by decide) (c_X9_copies l g a1 a2 _ 4416 552 y1_past y2_s (552 * x0_acts_1) 0 y2_s_1 hc) gX9_undo_X9_copies rfl hs_X9_copies ⟨nle rfl, nle rfl⟩ (rest := []) rfl rfl hl.1 (nle rfl) dX9_undo_41 (fun H locs hP hD hS => ?_)
    refine lv_aload_n (pc := 44) hexec hb dX9_undo_44 rfl (lv_at hl 0 rfl) ?_
    refine kg_get (pc := 45) hexec hb (own := RX9) hWX9 hown hG hP 0 rfl rfl 6 (nle rfl) (hts _ (List.mem_cons_of_mem _ (List.mem_append_left _ (List.mem_of_getElem? (i := 1) rfl)))) rfl rfl dX9_undo_45 ?_
    cases hf
    exact ke_i hQ hexec hb hr hP hD hS dX9_undo_48 hlocks
  · refine lv_iconst (pc := 12) hexec hb dX9_undo_12 ki_m1 ?_
    cases hf
    exact ke_i hQ hexec hb hr hP hD hS dX9_undo_13 hlocks
abbrev w_X9_saveSnapshot (g : GE) (a0 a1 a2 a3 : Nat) (u0_1 u0_2 u0_3 u0_6 u0_8 u0_9 u0_10 u0_11 u0_12 u0_13 u0_14 u0_15 u0_16 u0_17 u0_18 u0_19 u0_20 u0_21 u0_22 u0_23 u0_24 u0_25 u0_26 u0_27 u0_28 u0_29 u0_30 : Value) (x0_thrown : Int32) (y1_isKept : Nat → Int32) (y2_kept : Nat → Int32) (y3_s : Nat → Int32) : va_W := [(a0, .inr (9, [.ref a3, u0_1, u0_2, u0_3, .ref a2, .ref a1, u0_6, .int x0_thrown, u0_8, u0_9, u0_10, u0_11, u0_12, u0_13, u0_14, u0_15, u0_16, u0_17, u0_18, u0_19, u0_20, u0_21, u0_22, u0_23, u0_24, u0_25, u0_26, u0_27, u0_28, u0_29, u0_30])), (a1, .inl (g.2.1 1, 2, .inl y1_isKept)), (a2, .inl (g.2.1 0, 1104, .inl y2_kept)), (a3, .inl (g.2.1 0, 552, .inl y3_s))]
set_option maxRecDepth 20000 in
theorem c_X9_saveSnapshot (l : Launch) (g : GE) (a0 a1 a2 a3 : Nat) (sz : Nat) (u0_1 u0_2 u0_3 u0_6 u0_8 u0_9 u0_10 u0_11 u0_12 u0_13 u0_14 u0_15 u0_16 u0_17 u0_18 u0_19 u0_20 u0_21 u0_22 u0_23 u0_24 u0_25 u0_26 u0_27 u0_28 u0_29 u0_30 : Value) (x0_thrown : Int32) (y1_isKept : Nat → Int32) (y2_kept : Nat → Int32) (y3_s : Nat → Int32) (p1 : Int32)  (r : Int32) (o_x0_thrown : Int32) (o_y1_isKept : Nat → Int32) (o_y2_kept : Nat → Int32) (hf : f_X9_saveSnapshot x0_thrown y1_isKept y2_kept y3_s p1 = some (r, o_x0_thrown, o_y1_isKept, o_y2_kept)) : MI l g yX9_saveSnapshot wsX9_saveSnapshot 2 49 [.ref a0, .int p1] (w_X9_saveSnapshot g a0 a1 a2 a3 u0_1 u0_2 u0_3 u0_6 u0_8 u0_9 u0_10 u0_11 u0_12 u0_13 u0_14 u0_15 u0_16 u0_17 u0_18 u0_19 u0_20 u0_21 u0_22 u0_23 u0_24 u0_25 u0_26 u0_27 u0_28 u0_29 u0_30 x0_thrown y1_isKept y2_kept y3_s) sz (some (.int r)) (w_X9_saveSnapshot g a0 a1 a2 a3 u0_1 u0_2 u0_3 u0_6 u0_8 u0_9 u0_10 u0_11 u0_12 u0_13 u0_14 u0_15 u0_16 u0_17 u0_18 u0_19 u0_20 u0_21 u0_22 u0_23 u0_24 u0_25 u0_26 u0_27 u0_28 u0_29 u0_30 o_x0_thrown o_y1_isKept o_y2_kept y3_s) := by
  refine MI.start (cc := cX9_saveSnapshot) (maxL := 2) (ret := (some .int)) rfl rfl (nle rfl) ?_
  intro p e s m args below meth c A ls Q hQ hexec hb hr hts hown hlocks hml hA hP hD hG hS hl
  unfold f_X9_saveSnapshot at hf
  have hWX9 : ∀ w ∈ wsX90, w.before args s = true := fun w h => hts w (List.mem_cons_of_mem _ (List.mem_append_right _ h))
  have hS : va_S A s.heap s.heap [] := hS
  refine lv_aload_n (pc := 0) hexec hb dX9_saveSnapshot_0 rfl (lv_at hl 0 rfl) ?_
  refine lv_iload_n (pc := 1) hexec hb dX9_saveSnapshot_1 rfl (lv_at hl 1 rfl) ?_
  refine lv_i2l (pc := 2) hexec hb dX9_saveSnapshot_2 rfl ?_
  refine lv_lconst (pc := 3) hexec hb dX9_saveSnapshot_3 kl_0 ?_
  refine lv_lconst (pc := 4) hexec hb dX9_saveSnapshot_4 kl_1 ?_
  obtain ⟨r5, hc, hf⟩ := bd1_e hf
  refine kSp (pc := 5) (S := ⟨hexec, hb, hml, hown, hts⟩) hP hD hG hA hS [] [0, 1, 2, 3] [0, 1, 2, 3] (w2 := (w_X9_saveSnapshot g a0 a1 a2 a3 u0_1 u0_2 u0_3 u0_6 u0_8 u0_9 u0_10 u0_11 u0_12 u0_13 u0_14 u0_15 u0_16 u0_17 u0_18 u0_19 u0_20 u0_21 u0_22 u0_23 u0_24 u0_25 u0_26 u0_27 u0_28 u0_29 u0_30 x0_thrown y1_isKept y2_kept y3_s)) rfl rfl rfl rfl rfl rfl (by decide) (c_X9_isIn l g _ (p1.toInt64) 0 1 r5 hc) gX9_saveSnapshot_X9_isIn rfl hs_X9_isIn ⟨nle rfl, nle rfl⟩ (rest := [.ref a0]) rfl rfl hl.1 (nle rfl) dX9_saveSnapshot_5 (fun H locs hP hD hS => ?_)
  refine lv_iconst (pc := 8) hexec hb dX9_saveSnapshot_8 ki_1 ?_
  obtain ⟨r9, x0_thrown_1, hc, hf⟩ := bd2_e hf
  refine kVp (pc := 9) (S := ⟨hexec, hb, hml, hown, hts⟩) hP hD hG hA hS [0] [1, 2, 3] [3, 0, 1, 2] (w2 := (w_X9_saveSnapshot g a0 a1 a2 a3 u0_1 u0_2 u0_3 u0_6 u0_8 u0_9 u0_10 u0_11 u0_12 u0_13 u0_14 u0_15 u0_16 u0_17 u0_18 u0_19 u0_20 u0_21 u0_22 u0_23 u0_24 u0_25 u0_26 u0_27 u0_28 u0_29 u0_30 x0_thrown_1 y1_isKept y2_kept y3_s)) rfl rfl rfl rfl rfl rfl (by decide) (c_X9_passes l g a0 _ (.ref a3) u0_1 u0_2 u0_3 (.ref a2) (.ref a1) u0_6 u0_8 u0_9 u0_10 u0_11 u0_12 u0_13 u0_14 u0_15 u0_16 u0_17 u0_18 u0_19 u0_20 u0_21 u0_22 u0_23 u0_24 u0_25 u0_26 u0_27 u0_28 u0_29 u0_30 x0_thrown r5 1 r9 x0_thrown_1 hc) gX9_saveSnapshot_X9_passes rfl hv_X9_passes ⟨nle rfl, nle rfl⟩ 9 0 rfl rfl rfl (rest := []) rfl rfl hl.1 (nle rfl) dX9_saveSnapshot_9 (fun H locs hP hD hS => ?_)
  refine kb_ne (pc := 12) hexec hb dX9_saveSnapshot_12 (tgt := 17) rfl hf (fun hc hf => ?_) (fun hc hf => ?_)
  · refine lv_aload_n (pc := 17) hexec hb dX9_saveSnapshot_17 rfl (lv_at hl 0 rfl) ?_
    refine kg_get (pc := 18) hexec hb (own := RX9) hWX9 hown hG hP 0 rfl rfl 0 (nle rfl) (hts _ (List.mem_cons_of_mem _ (List.mem_append_left _ (List.mem_of_getElem? (i := 0) rfl)))) rfl rfl dX9_saveSnapshot_18 ?_
    refine lv_iconst (pc := 21) hexec hb dX9_saveSnapshot_21 ki_0 ?_
    refine lv_aload_n (pc := 22) hexec hb dX9_saveSnapshot_22 rfl (lv_at hl 0 rfl) ?_
    refine kg_get (pc := 23) hexec hb (own := RX9) hWX9 hown hG hP 0 rfl rfl 4 (nle rfl) (hts _ (List.mem_cons_of_mem _ (List.mem_append_left _ (List.mem_of_getElem? (i := 1) rfl)))) rfl rfl dX9_saveSnapshot_23 ?_
    refine lv_sipush (pc := 26) hexec hb dX9_saveSnapshot_26 ks_552 ?_
    refine lv_iload_n (pc := 29) hexec hb dX9_saveSnapshot_29 rfl (lv_at hl 1 rfl) ?_
    refine lv_imul (pc := 30) hexec hb dX9_saveSnapshot_30 ?_
    obtain ⟨y2_kept_1, hc, hf⟩ := bd1_e hf
    refine kSp (pc := 31) (S := ⟨hexec, hb, hml, hown, hts⟩) hP hD hG hA hS [3, 2] [0, 1] [0, 1, 3, 2] (w2 := (w_X9_saveSnapshot g a0 a1 a2 a3 u0_1 u0_2 u0_3 u0_6 u0_8 u0_9 u0_10 u0_11 u0_12 u0_13 u0_14 u0_15 u0_16 u0_17 u0_18 u0_19 u0_20 u0_21 u0_22 u0_23 u0_24 u0_25 u0_26 u0_27 u0_28 u0_29 u0_30 x0_thrown_1 y1_isKept y2_kept_1 y3_s)) rfl rfl rfl rfl rfl rfl (by decide) (c_X9_copies l g a3 a2 _ 552 1104 y3_s y2_kept 0 (552 * p1) y2_kept_1 hc) gX9_saveSnapshot_X9_copies rfl hs_X9_copies ⟨nle rfl, nle rfl⟩ (rest := []) rfl rfl hl.1 (nle rfl) dX9_saveSnapshot_31 (fun H locs hP hD hS => ?_)
    refine lv_aload_n (pc := 34) hexec hb dX9_saveSnapshot_34 rfl (lv_at hl 0 rfl) ?_
    refine kg_get (pc := 35) hexec hb (own := RX9) hWX9 hown hG hP 0 rfl rfl 5 (nle rfl) (hts _ (List.mem_cons_of_mem _ (List.mem_append_left _ (List.mem_of_getElem? (i := 2) rfl)))) rfl rfl dX9_saveSnapshot_35 ?_
    refine lv_iload_n (pc := 38) hexec hb dX9_saveSnapshot_38 rfl (lv_at hl 1 rfl) ?_
    refine lv_iconst (pc := 39) hexec hb dX9_saveSnapshot_39 ki_1 ?_
    refine kw_zast (pc := 40) hexec hb hG hP hD hS 1 rfl hf dX9_saveSnapshot_40 (fun y1_isKept_1 H locs hf (hP : va_P g.1 vwCl (w_X9_saveSnapshot g a0 a1 a2 a3 u0_1 u0_2 u0_3 u0_6 u0_8 u0_9 u0_10 u0_11 u0_12 u0_13 u0_14 u0_15 u0_16 u0_17 u0_18 u0_19 u0_20 u0_21 u0_22 u0_23 u0_24 u0_25 u0_26 u0_27 u0_28 u0_29 u0_30 x0_thrown_1 y1_isKept_1 y2_kept_1 y3_s) H) (hD : va_D A (w_X9_saveSnapshot g a0 a1 a2 a3 u0_1 u0_2 u0_3 u0_6 u0_8 u0_9 u0_10 u0_11 u0_12 u0_13 u0_14 u0_15 u0_16 u0_17 u0_18 u0_19 u0_20 u0_21 u0_22 u0_23 u0_24 u0_25 u0_26 u0_27 u0_28 u0_29 u0_30 x0_thrown_1 y1_isKept_1 y2_kept_1 y3_s)) hS => ?_)
    refine lv_aload_n (pc := 41) hexec hb dX9_saveSnapshot_41 rfl (lv_at hl 0 rfl) ?_
    refine kg_get (pc := 42) hexec hb (own := RX9) hWX9 hown hG hP 0 rfl rfl 0 (nle rfl) (hts _ (List.mem_cons_of_mem _ (List.mem_append_left _ (List.mem_of_getElem? (i := 0) rfl)))) rfl rfl dX9_saveSnapshot_42 ?_
    refine lv_iconst (pc := 45) hexec hb dX9_saveSnapshot_45 ki_2 ?_
    refine kr_iald (pc := 46) hexec hb hG hP 3 rfl hf dX9_saveSnapshot_46 (fun hf => ?_)
    cases hf
    exact ke_i hQ hexec hb hr hP hD hS dX9_saveSnapshot_47 hlocks
  · refine lv_iconst (pc := 15) hexec hb dX9_saveSnapshot_15 ki_0 ?_
    cases hf
    exact ke_i hQ hexec hb hr hP hD hS dX9_saveSnapshot_16 hlocks
abbrev w_X9_restoreSnapshot (g : GE) (a0 a1 a2 a3 : Nat) (u0_1 u0_2 u0_3 u0_8 u0_9 u0_10 u0_11 u0_12 u0_13 u0_14 u0_15 u0_16 u0_17 u0_18 u0_19 u0_20 u0_21 u0_22 u0_23 u0_24 u0_25 u0_26 u0_27 u0_28 u0_29 u0_30 : Value) (x0_acts : Int32) (x0_thrown : Int32) (y1_isKept : Nat → Int32) (y2_kept : Nat → Int32) (y3_s : Nat → Int32) : va_W := [(a0, .inr (9, [.ref a3, u0_1, u0_2, u0_3, .ref a2, .ref a1, .int x0_acts, .int x0_thrown, u0_8, u0_9, u0_10, u0_11, u0_12, u0_13, u0_14, u0_15, u0_16, u0_17, u0_18, u0_19, u0_20, u0_21, u0_22, u0_23, u0_24, u0_25, u0_26, u0_27, u0_28, u0_29, u0_30])), (a1, .inl (g.2.1 1, 2, .inl y1_isKept)), (a2, .inl (g.2.1 0, 1104, .inl y2_kept)), (a3, .inl (g.2.1 0, 552, .inl y3_s))]
set_option maxRecDepth 20000 in
theorem c_X9_restoreSnapshot (l : Launch) (g : GE) (a0 a1 a2 a3 : Nat) (sz : Nat) (u0_1 u0_2 u0_3 u0_8 u0_9 u0_10 u0_11 u0_12 u0_13 u0_14 u0_15 u0_16 u0_17 u0_18 u0_19 u0_20 u0_21 u0_22 u0_23 u0_24 u0_25 u0_26 u0_27 u0_28 u0_29 u0_30 : Value) (x0_acts : Int32) (x0_thrown : Int32) (y1_isKept : Nat → Int32) (y2_kept : Nat → Int32) (y3_s : Nat → Int32) (p1 : Int32)  (r : Int32) (o_x0_acts : Int32) (o_x0_thrown : Int32) (o_y3_s : Nat → Int32) (hf : f_X9_restoreSnapshot x0_acts x0_thrown y1_isKept y2_kept y3_s p1 = some (r, o_x0_acts, o_x0_thrown, o_y3_s)) : MI l g yX9_restoreSnapshot wsX9_restoreSnapshot 2 49 [.ref a0, .int p1] (w_X9_restoreSnapshot g a0 a1 a2 a3 u0_1 u0_2 u0_3 u0_8 u0_9 u0_10 u0_11 u0_12 u0_13 u0_14 u0_15 u0_16 u0_17 u0_18 u0_19 u0_20 u0_21 u0_22 u0_23 u0_24 u0_25 u0_26 u0_27 u0_28 u0_29 u0_30 x0_acts x0_thrown y1_isKept y2_kept y3_s) sz (some (.int r)) (w_X9_restoreSnapshot g a0 a1 a2 a3 u0_1 u0_2 u0_3 u0_8 u0_9 u0_10 u0_11 u0_12 u0_13 u0_14 u0_15 u0_16 u0_17 u0_18 u0_19 u0_20 u0_21 u0_22 u0_23 u0_24 u0_25 u0_26 u0_27 u0_28 u0_29 u0_30 o_x0_acts o_x0_thrown y1_isKept y2_kept o_y3_s) := by
  refine MI.start (cc := cX9_restoreSnapshot) (maxL := 2) (ret := (some .int)) rfl rfl (nle rfl) ?_
  intro p e s m args below meth c A ls Q hQ hexec hb hr hts hown hlocks hml hA hP hD hG hS hl
  unfold f_X9_restoreSnapshot at hf
  have hWX9 : ∀ w ∈ wsX90, w.before args s = true := fun w h => hts w (List.mem_cons_of_mem _ (List.mem_append_right _ h))
  have hS : va_S A s.heap s.heap [] := hS
  refine lv_aload_n (pc := 0) hexec hb dX9_restoreSnapshot_0 rfl (lv_at hl 0 rfl) ?_
  refine lv_iload_n (pc := 1) hexec hb dX9_restoreSnapshot_1 rfl (lv_at hl 1 rfl) ?_
  refine lv_i2l (pc := 2) hexec hb dX9_restoreSnapshot_2 rfl ?_
  refine lv_lconst (pc := 3) hexec hb dX9_restoreSnapshot_3 kl_0 ?_
  refine lv_lconst (pc := 4) hexec hb dX9_restoreSnapshot_4 kl_1 ?_
  obtain ⟨r5, hc, hf⟩ := bd1_e hf
  refine kSp (pc := 5) (S := ⟨hexec, hb, hml, hown, hts⟩) hP hD hG hA hS [] [0, 1, 2, 3] [0, 1, 2, 3] (w2 := (w_X9_restoreSnapshot g a0 a1 a2 a3 u0_1 u0_2 u0_3 u0_8 u0_9 u0_10 u0_11 u0_12 u0_13 u0_14 u0_15 u0_16 u0_17 u0_18 u0_19 u0_20 u0_21 u0_22 u0_23 u0_24 u0_25 u0_26 u0_27 u0_28 u0_29 u0_30 x0_acts x0_thrown y1_isKept y2_kept y3_s)) rfl rfl rfl rfl rfl rfl (by decide) (c_X9_isIn l g _ (p1.toInt64) 0 1 r5 hc) gX9_restoreSnapshot_X9_isIn rfl hs_X9_isIn ⟨nle rfl, nle rfl⟩ (rest := [.ref a0]) rfl rfl hl.1 (nle rfl) dX9_restoreSnapshot_5 (fun H locs hP hD hS => ?_)
  refine lv_iconst (pc := 8) hexec hb dX9_restoreSnapshot_8 ki_1 ?_
  obtain ⟨r9, x0_thrown_1, hc, hf⟩ := bd2_e hf
  refine kVp (pc := 9) (S := ⟨hexec, hb, hml, hown, hts⟩) hP hD hG hA hS [0] [1, 2, 3] [3, 0, 1, 2] (w2 := (w_X9_restoreSnapshot g a0 a1 a2 a3 u0_1 u0_2 u0_3 u0_8 u0_9 u0_10 u0_11 u0_12 u0_13 u0_14 u0_15 u0_16 u0_17 u0_18 u0_19 u0_20 u0_21 u0_22 u0_23 u0_24 u0_25 u0_26 u0_27 u0_28 u0_29 u0_30 x0_acts x0_thrown_1 y1_isKept y2_kept y3_s)) rfl rfl rfl rfl rfl rfl (by decide) (c_X9_passes l g a0 _ (.ref a3) u0_1 u0_2 u0_3 (.ref a2) (.ref a1) (.int x0_acts) u0_8 u0_9 u0_10 u0_11 u0_12 u0_13 u0_14 u0_15 u0_16 u0_17 u0_18 u0_19 u0_20 u0_21 u0_22 u0_23 u0_24 u0_25 u0_26 u0_27 u0_28 u0_29 u0_30 x0_thrown r5 1 r9 x0_thrown_1 hc) gX9_restoreSnapshot_X9_passes rfl hv_X9_passes ⟨nle rfl, nle rfl⟩ 9 0 rfl rfl rfl (rest := []) rfl rfl hl.1 (nle rfl) dX9_restoreSnapshot_9 (fun H locs hP hD hS => ?_)
  refine kb_ne (pc := 12) hexec hb dX9_restoreSnapshot_12 (tgt := 17) rfl hf (fun hc hf => ?_) (fun hc hf => ?_)
  · refine lv_aload_n (pc := 17) hexec hb dX9_restoreSnapshot_17 rfl (lv_at hl 0 rfl) ?_
    refine kg_get (pc := 18) hexec hb (own := RX9) hWX9 hown hG hP 0 rfl rfl 5 (nle rfl) (hts _ (List.mem_cons_of_mem _ (List.mem_append_left _ (List.mem_of_getElem? (i := 0) rfl)))) rfl rfl dX9_restoreSnapshot_18 ?_
    refine lv_iload_n (pc := 21) hexec hb dX9_restoreSnapshot_21 rfl (lv_at hl 1 rfl) ?_
    refine kr_zald (pc := 22) hexec hb hG hP 1 rfl hf dX9_restoreSnapshot_22 (fun hf => ?_)
    refine kb_ne (pc := 23) hexec hb dX9_restoreSnapshot_23 (tgt := 28) rfl hf (fun hc hf => ?_) (fun hc hf => ?_)
    · refine lv_aload_n (pc := 28) hexec hb dX9_restoreSnapshot_28 rfl (lv_at hl 0 rfl) ?_
      refine kg_get (pc := 29) hexec hb (own := RX9) hWX9 hown hG hP 0 rfl rfl 4 (nle rfl) (hts _ (List.mem_cons_of_mem _ (List.mem_append_left _ (List.mem_of_getElem? (i := 1) rfl)))) rfl rfl dX9_restoreSnapshot_29 ?_
      refine lv_sipush (pc := 32) hexec hb dX9_restoreSnapshot_32 ks_552 ?_
      refine lv_iload_n (pc := 35) hexec hb dX9_restoreSnapshot_35 rfl (lv_at hl 1 rfl) ?_
      refine lv_imul (pc := 36) hexec hb dX9_restoreSnapshot_36 ?_
      refine lv_aload_n (pc := 37) hexec hb dX9_restoreSnapshot_37 rfl (lv_at hl 0 rfl) ?_
      refine kg_get (pc := 38) hexec hb (own := RX9) hWX9 hown hG hP 0 rfl rfl 0 (nle rfl) (hts _ (List.mem_cons_of_mem _ (List.mem_append_left _ (List.mem_of_getElem? (i := 2) rfl)))) rfl rfl dX9_restoreSnapshot_38 ?_
      refine lv_iconst (pc := 41) hexec hb dX9_restoreSnapshot_41 ki_0 ?_
      obtain ⟨y3_s_1, hc, hf⟩ := bd1_e hf
      refine kSp (pc := 42) (S := ⟨hexec, hb, hml, hown, hts⟩) hP hD hG hA hS [2, 3] [0, 1] [0, 1, 2, 3] (w2 := (w_X9_restoreSnapshot g a0 a1 a2 a3 u0_1 u0_2 u0_3 u0_8 u0_9 u0_10 u0_11 u0_12 u0_13 u0_14 u0_15 u0_16 u0_17 u0_18 u0_19 u0_20 u0_21 u0_22 u0_23 u0_24 u0_25 u0_26 u0_27 u0_28 u0_29 u0_30 x0_acts x0_thrown_1 y1_isKept y2_kept y3_s_1)) rfl rfl rfl rfl rfl rfl (by decide) (c_X9_copies l g a2 a3 _ 1104 552 y2_kept y3_s (552 * p1) 0 y3_s_1 hc) gX9_restoreSnapshot_X9_copies rfl hs_X9_copies ⟨nle rfl, nle rfl⟩ (rest := []) rfl rfl hl.1 (nle rfl) dX9_restoreSnapshot_42 (fun H locs hP hD hS => ?_)
      refine lv_aload_n (pc := 45) hexec hb dX9_restoreSnapshot_45 rfl (lv_at hl 0 rfl) ?_
      refine lv_iconst (pc := 46) hexec hb dX9_restoreSnapshot_46 ki_0 ?_
      refine kp_put (pc := 47) hexec hb (own := RX9) hWX9 tyX9 tyX9_ok nmX9 hown hG hP hD hS 0 rfl rfl 6 (nle rfl) (hts _ (List.mem_cons_of_mem _ (List.mem_append_left _ (List.mem_of_getElem? (i := 3) rfl)))) rfl rfl rfl rfl (nle rfl) dX9_restoreSnapshot_47 (fun H locs (hP : va_P g.1 vwCl (w_X9_restoreSnapshot g a0 a1 a2 a3 u0_1 u0_2 u0_3 u0_8 u0_9 u0_10 u0_11 u0_12 u0_13 u0_14 u0_15 u0_16 u0_17 u0_18 u0_19 u0_20 u0_21 u0_22 u0_23 u0_24 u0_25 u0_26 u0_27 u0_28 u0_29 u0_30 0 x0_thrown_1 y1_isKept y2_kept y3_s_1) H) (hD : va_D A (w_X9_restoreSnapshot g a0 a1 a2 a3 u0_1 u0_2 u0_3 u0_8 u0_9 u0_10 u0_11 u0_12 u0_13 u0_14 u0_15 u0_16 u0_17 u0_18 u0_19 u0_20 u0_21 u0_22 u0_23 u0_24 u0_25 u0_26 u0_27 u0_28 u0_29 u0_30 0 x0_thrown_1 y1_isKept y2_kept y3_s_1)) hS => ?_)
      refine lv_aload_n (pc := 50) hexec hb dX9_restoreSnapshot_50 rfl (lv_at hl 0 rfl) ?_
      refine kg_get (pc := 51) hexec hb (own := RX9) hWX9 hown hG hP 0 rfl rfl 0 (nle rfl) (hts _ (List.mem_cons_of_mem _ (List.mem_append_left _ (List.mem_of_getElem? (i := 2) rfl)))) rfl rfl dX9_restoreSnapshot_51 ?_
      refine lv_iconst (pc := 54) hexec hb dX9_restoreSnapshot_54 ki_2 ?_
      refine kr_iald (pc := 55) hexec hb hG hP 3 rfl hf dX9_restoreSnapshot_55 (fun hf => ?_)
      cases hf
      exact ke_i hQ hexec hb hr hP hD hS dX9_restoreSnapshot_56 hlocks
    · refine lv_iconst (pc := 26) hexec hb dX9_restoreSnapshot_26 ki_m1 ?_
      cases hf
      exact ke_i hQ hexec hb hr hP hD hS dX9_restoreSnapshot_27 hlocks
  · refine lv_iconst (pc := 15) hexec hb dX9_restoreSnapshot_15 ki_0 ?_
    cases hf
    exact ke_i hQ hexec hb hr hP hD hS dX9_restoreSnapshot_16 hlocks
