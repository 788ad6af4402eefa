abbrev w_X9_readsOne (g : GE) (a0 a1 a2 a3 a4 : Nat) (u0_1 u0_2 u0_3 u0_4 u0_5 u0_6 u0_7 u0_11 u0_12 u0_13 u0_14 u0_15 u0_16 u0_17 u0_18 u0_25 u0_26 u0_27 u0_29 u0_30 : Value) (x0_flowLong : Int32) (x0_length : Int32) (x0_at : Int32) (x0_from : Int32) (x0_error : Int32) (x0_errorAt : Int32) (x0_hasVoyage : Int32) (y1_flow : Nat → Int32) (y2_s : Nat → Int32) (y3_sums : Nat → Int32) (y4_text : Nat → Int32) : va_W := [(a0, .inr (9, [.ref a2, u0_1, u0_2, u0_3, u0_4, u0_5, u0_6, u0_7, .ref a3, .ref a1, .int x0_flowLong, u0_11, u0_12, u0_13, u0_14, u0_15, u0_16, u0_17, u0_18, .ref a4, .int x0_length, .int x0_at, .int x0_from, .int x0_error, .int x0_errorAt, u0_25, u0_26, u0_27, .int x0_hasVoyage, u0_29, u0_30])), (a1, .inl (g.2.1 0, 144, .inl y1_flow)), (a2, .inl (g.2.1 0, 552, .inl y2_s)), (a3, .inl (g.2.1 0, 144, .inl y3_sums)), (a4, .inl (g.2.1 0, 500, .inl y4_text))]
set_option maxRecDepth 20000 in
theorem c_X9_readsOne (l : Launch) (g : GE) (a0 a1 a2 a3 a4 : Nat) (sz : Nat) (u0_1 u0_2 u0_3 u0_4 u0_5 u0_6 u0_7 u0_11 u0_12 u0_13 u0_14 u0_15 u0_16 u0_17 u0_18 u0_25 u0_26 u0_27 u0_29 u0_30 : Value) (x0_flowLong : Int32) (x0_length : Int32) (x0_at : Int32) (x0_from : Int32) (x0_error : Int32) (x0_errorAt : Int32) (x0_hasVoyage : Int32) (y1_flow : Nat → Int32) (y2_s : Nat → Int32) (y3_sums : Nat → Int32) (y4_text : Nat → Int32)   (o_x0_flowLong : Int32) (o_x0_at : Int32) (o_x0_from : Int32) (o_x0_error : Int32) (o_x0_errorAt : Int32) (o_x0_hasVoyage : Int32) (o_y1_flow : Nat → Int32) (o_y2_s : Nat → Int32) (o_y3_sums : Nat → Int32) (hf : f_X9_readsOne x0_flowLong x0_length x0_at x0_from x0_error x0_errorAt x0_hasVoyage y1_flow y2_s y3_sums y4_text = some (o_x0_flowLong, o_x0_at, o_x0_from, o_x0_error, o_x0_errorAt, o_x0_hasVoyage, o_y1_flow, o_y2_s, o_y3_sums)) : MI l g yX9_readsOne wsX9_readsOne 11 253 [.ref a0] (w_X9_readsOne g a0 a1 a2 a3 a4 u0_1 u0_2 u0_3 u0_4 u0_5 u0_6 u0_7 u0_11 u0_12 u0_13 u0_14 u0_15 u0_16 u0_17 u0_18 u0_25 u0_26 u0_27 u0_29 u0_30 x0_flowLong x0_length x0_at x0_from x0_error x0_errorAt x0_hasVoyage y1_flow y2_s y3_sums y4_text) sz none (w_X9_readsOne g a0 a1 a2 a3 a4 u0_1 u0_2 u0_3 u0_4 u0_5 u0_6 u0_7 u0_11 u0_12 u0_13 u0_14 u0_15 u0_16 u0_17 u0_18 u0_25 u0_26 u0_27 u0_29 u0_30 o_x0_flowLong x0_length o_x0_at o_x0_from o_x0_error o_x0_errorAt o_x0_hasVoyage o_y1_flow o_y2_s o_y3_sums y4_text) := by
  refine MI.start (cc := cX9_readsOne) (maxL := 2) (ret := none) rfl rfl (nle rfl) ?_
  intro p e s m args below meth c A ls Q hQ hexec hb hr hts hown hlocks hml hA hP hD hG hS hl
  unfold f_X9_readsOne at hf
  have hWX9 : ∀ w ∈ wsX90, w.before args s = true := fun w h => hts w (List.mem_cons_of_mem _ (List.mem_append_right _ h))
  have hS : va_S A s.heap s.heap [] := hS
  refine lv_aload_n (pc := 0) hexec hb dX9_readsOne_0 rfl (lv_at hl 0 rfl) ?_
  refine k_ldsw (pc := 1) hexec hb (own := RX9) hown hG 24 rfl dX9_readsOne_1 ?_
  obtain ⟨r4, hc, hf⟩ := bd1_e hf
  refine kVp (pc := 4) (S := ⟨hexec, hb, hml, hown, hts⟩) hP hD hG hA hS [0, 4] [1, 2, 3] [3, 0, 1, 2, 4] (w2 := (w_X9_readsOne g a0 a1 a2 a3 a4 u0_1 u0_2 u0_3 u0_4 u0_5 u0_6 u0_7 u0_11 u0_12 u0_13 u0_14 u0_15 u0_16 u0_17 u0_18 u0_25 u0_26 u0_27 u0_29 u0_30 x0_flowLong x0_length x0_at x0_from x0_error x0_errorAt x0_hasVoyage y1_flow y2_s y3_sums y4_text)) rfl rfl rfl rfl rfl rfl (by decide) (c_X9_was l g a0 a4 _ (.ref a2) u0_1 u0_2 u0_3 u0_4 u0_5 u0_6 u0_7 (.ref a3) (.ref a1) (.int x0_flowLong) u0_11 u0_12 u0_13 u0_14 u0_15 u0_16 u0_17 u0_18 (.int x0_length) (.int x0_errorAt) u0_25 u0_26 u0_27 (.int x0_hasVoyage) u0_29 u0_30 x0_at x0_from x0_error y4_text 1 (nle rfl) r4 hc) gX9_readsOne_X9_was rfl hv_X9_was ⟨nle rfl, nle rfl⟩ 9 0 rfl rfl rfl (rest := []) rfl rfl hl.1 (nle rfl) dX9_readsOne_4 (fun H locs hP hD hS => ?_)
  refine kb_eq (pc := 7) hexec hb dX9_readsOne_7 (tgt := 43) rfl hf (fun hc hf => ?_) (fun hc hf => ?_)
  · refine lv_aload_n (pc := 43) hexec hb dX9_readsOne_43 rfl (lv_at hl 0 rfl) ?_
    refine k_ldsw (pc := 44) hexec hb (own := RX9) hown hG 25 rfl dX9_readsOne_44 ?_
    obtain ⟨r47, hc, hf⟩ := bd1_e hf
    refine kVp (pc := 47) (S := ⟨hexec, hb, hml, hown, hts⟩) hP hD hG hA hS [0, 4] [1, 2, 3] [3, 0, 1, 2, 4] (w2 := (w_X9_readsOne g a0 a1 a2 a3 a4 u0_1 u0_2 u0_3 u0_4 u0_5 u0_6 u0_7 u0_11 u0_12 u0_13 u0_14 u0_15 u0_16 u0_17 u0_18 u0_25 u0_26 u0_27 u0_29 u0_30 x0_flowLong x0_length x0_at x0_from x0_error x0_errorAt x0_hasVoyage y1_flow y2_s y3_sums y4_text)) rfl rfl rfl rfl rfl rfl (by decide) (c_X9_was l g a0 a4 _ (.ref a2) u0_1 u0_2 u0_3 u0_4 u0_5 u0_6 u0_7 (.ref a3) (.ref a1) (.int x0_flowLong) u0_11 u0_12 u0_13 u0_14 u0_15 u0_16 u0_17 u0_18 (.int x0_length) (.int x0_errorAt) u0_25 u0_26 u0_27 (.int x0_hasVoyage) u0_29 u0_30 x0_at x0_from x0_error y4_text 2 (nle rfl) r47 hc) gX9_readsOne_X9_was rfl hv_X9_was ⟨nle rfl, nle rfl⟩ 9 0 rfl rfl rfl (rest := []) rfl rfl hl.1 (nle rfl) dX9_readsOne_47 (fun H locs hP hD hS => ?_)
    refine kb_eq (pc := 50) hexec hb dX9_readsOne_50 (tgt := 81) rfl hf (fun hc hf => ?_) (fun hc hf => ?_)
    · refine lv_aload_n (pc := 81) hexec hb dX9_readsOne_81 rfl (lv_at hl 0 rfl) ?_
      refine k_ldsw (pc := 82) hexec hb (own := RX9) hown hG 27 rfl dX9_readsOne_82 ?_
      obtain ⟨r85, hc, hf⟩ := bd1_e hf
      refine kVp (pc := 85) (S := ⟨hexec, hb, hml, hown, hts⟩) hP hD hG hA hS [0, 4] [1, 2, 3] [3, 0, 1, 2, 4] (w2 := (w_X9_readsOne g a0 a1 a2 a3 a4 u0_1 u0_2 u0_3 u0_4 u0_5 u0_6 u0_7 u0_11 u0_12 u0_13 u0_14 u0_15 u0_16 u0_17 u0_18 u0_25 u0_26 u0_27 u0_29 u0_30 x0_flowLong x0_length x0_at x0_from x0_error x0_errorAt x0_hasVoyage y1_flow y2_s y3_sums y4_text)) rfl rfl rfl rfl rfl rfl (by decide) (c_X9_was l g a0 a4 _ (.ref a2) u0_1 u0_2 u0_3 u0_4 u0_5 u0_6 u0_7 (.ref a3) (.ref a1) (.int x0_flowLong) u0_11 u0_12 u0_13 u0_14 u0_15 u0_16 u0_17 u0_18 (.int x0_length) (.int x0_errorAt) u0_25 u0_26 u0_27 (.int x0_hasVoyage) u0_29 u0_30 x0_at x0_from x0_error y4_text 3 (nle rfl) r85 hc) gX9_readsOne_X9_was rfl hv_X9_was ⟨nle rfl, nle rfl⟩ 9 0 rfl rfl rfl (rest := []) rfl rfl hl.1 (nle rfl) dX9_readsOne_85 (fun H locs hP hD hS => ?_)
      refine kb_eq (pc := 88) hexec hb dX9_readsOne_88 (tgt := 119) rfl hf (fun hc hf => ?_) (fun hc hf => ?_)
      · refine lv_aload_n (pc := 119) hexec hb dX9_readsOne_119 rfl (lv_at hl 0 rfl) ?_
        refine k_ldsw (pc := 120) hexec hb (own := RX9) hown hG 28 rfl dX9_readsOne_120 ?_
        obtain ⟨r123, hc, hf⟩ := bd1_e hf
        refine kVp (pc := 123) (S := ⟨hexec, hb, hml, hown, hts⟩) hP hD hG hA hS [0, 4] [1, 2, 3] [3, 0, 1, 2, 4] (w2 := (w_X9_readsOne g a0 a1 a2 a3 a4 u0_1 u0_2 u0_3 u0_4 u0_5 u0_6 u0_7 u0_11 u0_12 u0_13 u0_14 u0_15 u0_16 u0_17 u0_18 u0_25 u0_26 u0_27 u0_29 u0_30 x0_flowLong x0_length x0_at x0_from x0_error x0_errorAt x0_hasVoyage y1_flow y2_s y3_sums y4_text)) rfl rfl rfl rfl rfl rfl (by decide) (c_X9_was l g a0 a4 _ (.ref a2) u0_1 u0_2 u0_3 u0_4 u0_5 u0_6 u0_7 (.ref a3) (.ref a1) (.int x0_flowLong) u0_11 u0_12 u0_13 u0_14 u0_15 u0_16 u0_17 u0_18 (.int x0_length) (.int x0_errorAt) u0_25 u0_26 u0_27 (.int x0_hasVoyage) u0_29 u0_30 x0_at x0_from x0_error y4_text 4 (nle rfl) r123 hc) gX9_readsOne_X9_was rfl hv_X9_was ⟨nle rfl, nle rfl⟩ 9 0 rfl rfl rfl (rest := []) rfl rfl hl.1 (nle rfl) dX9_readsOne_123 (fun H locs hP hD hS => ?_)
        refine kb_eq (pc := 126) hexec hb dX9_readsOne_126 (tgt := 136) rfl hf (fun hc hf => ?_) (fun hc hf => ?_)
        · refine lv_aload_n (pc := 136) hexec hb dX9_readsOne_136 rfl (lv_at hl 0 rfl) ?_
          refine k_ldsw (pc := 137) hexec hb (own := RX9) hown hG 33 rfl dX9_readsOne_137 ?_
          obtain ⟨r140, hc, hf⟩ := bd1_e hf
          refine kVp (pc := 140) (S := ⟨hexec, hb, hml, hown, hts⟩) hP hD hG hA hS [0, 4] [1, 2, 3] [3, 0, 1, 2, 4] (w2 := (w_X9_readsOne g a0 a1 a2 a3 a4 u0_1 u0_2 u0_3 u0_4 u0_5 u0_6 u0_7 u0_11 u0_12 u0_13 u0_14 u0_15 u0_16 u0_17 u0_18 u0_25 u0_26 u0_27 u0_29 u0_30 x0_flowLong x0_length x0_at x0_from x0_error x0_errorAt x0_hasVoyage y1_flow y2_s y3_sums y4_text)) rfl rfl rfl rfl rfl rfl (by decide) (c_X9_was l g a0 a4 _ (.ref a2) u0_1 u0_2 u0_3 u0_4 u0_5 u0_6 u0_7 (.ref a3) (.ref a1) (.int x0_flowLong) u0_11 u0_12 u0_13 u0_14 u0_15 u0_16 u0_17 u0_18 (.int x0_length) (.int x0_errorAt) u0_25 u0_26 u0_27 (.int x0_hasVoyage) u0_29 u0_30 x0_at x0_from x0_error y4_text 5 (nle rfl) r140 hc) gX9_readsOne_X9_was rfl hv_X9_was ⟨nle rfl, nle rfl⟩ 9 0 rfl rfl rfl (rest := []) rfl rfl hl.1 (nle rfl) dX9_readsOne_140 (fun H locs hP hD hS => ?_)
          refine kb_eq (pc := 143) hexec hb dX9_readsOne_143 (tgt := 167) rfl hf (fun hc hf => ?_) (fun hc hf => ?_)
          · refine lv_aload_n (pc := 167) hexec hb dX9_readsOne_167 rfl (lv_at hl 0 rfl) ?_
            refine k_ldsw (pc := 168) hexec hb (own := RX9) hown hG 34 rfl dX9_readsOne_168 ?_
            obtain ⟨r171, hc, hf⟩ := bd1_e hf
            refine kVp (pc := 171) (S := ⟨hexec, hb, hml, hown, hts⟩) hP hD hG hA hS [0, 4] [1, 2, 3] [3, 0, 1, 2, 4] (w2 := (w_X9_readsOne g a0 a1 a2 a3 a4 u0_1 u0_2 u0_3 u0_4 u0_5 u0_6 u0_7 u0_11 u0_12 u0_13 u0_14 u0_15 u0_16 u0_17 u0_18 u0_25 u0_26 u0_27 u0_29 u0_30 x0_flowLong x0_length x0_at x0_from x0_error x0_errorAt x0_hasVoyage y1_flow y2_s y3_sums y4_text)) rfl rfl rfl rfl rfl rfl (by decide) (c_X9_was l g a0 a4 _ (.ref a2) u0_1 u0_2 u0_3 u0_4 u0_5 u0_6 u0_7 (.ref a3) (.ref a1) (.int x0_flowLong) u0_11 u0_12 u0_13 u0_14 u0_15 u0_16 u0_17 u0_18 (.int x0_length) (.int x0_errorAt) u0_25 u0_26 u0_27 (.int x0_hasVoyage) u0_29 u0_30 x0_at x0_from x0_error y4_text 6 (nle rfl) r171 hc) gX9_readsOne_X9_was rfl hv_X9_was ⟨nle rfl, nle rfl⟩ 9 0 rfl rfl rfl (rest := []) rfl rfl hl.1 (nle rfl) dX9_readsOne_171 (fun H locs hP hD hS => ?_)
            refine kb_eq (pc := 174) hexec hb dX9_readsOne_174 (tgt := 194) rfl hf (fun hc hf => ?_) (fun hc hf => ?_)
            · refine lv_aload_n (pc := 194) hexec hb dX9_readsOne_194 rfl (lv_at hl 0 rfl) ?_
              refine lv_iconst (pc := 195) hexec hb dX9_readsOne_195 ki_1 ?_
              refine lv_aload_n (pc := 196) hexec hb dX9_readsOne_196 rfl (lv_at hl 0 rfl) ?_
              refine kg_get (pc := 197) hexec hb (own := RX9) hWX9 hown hG hP 0 rfl rfl 22 (nle rfl) (hts _ (List.mem_cons_of_mem _ (List.mem_append_left _ (List.mem_append_left _ (List.mem_of_getElem? (i := 2) rfl))))) rfl rfl dX9_readsOne_197 ?_
              obtain ⟨x0_error_1, x0_errorAt_1, hc, hf⟩ := bd2_e hf
              refine kVp (pc := 200) (S := ⟨hexec, hb, hml, hown, hts⟩) hP hD hG hA hS [0] [1, 2, 3, 4] [4, 0, 1, 2, 3] (w2 := (w_X9_readsOne g a0 a1 a2 a3 a4 u0_1 u0_2 u0_3 u0_4 u0_5 u0_6 u0_7 u0_11 u0_12 u0_13 u0_14 u0_15 u0_16 u0_17 u0_18 u0_25 u0_26 u0_27 u0_29 u0_30 x0_flowLong x0_length x0_at x0_from x0_error_1 x0_errorAt_1 x0_hasVoyage y1_flow y2_s y3_sums y4_text)) rfl rfl rfl rfl rfl rfl (by decide) (c_X9_fails l g a0 _ (.ref a2) u0_1 u0_2 u0_3 u0_4 u0_5 u0_6 u0_7 (.ref a3) (.ref a1) (.int x0_flowLong) u0_11 u0_12 u0_13 u0_14 u0_15 u0_16 u0_17 u0_18 (.ref a4) (.int x0_length) (.int x0_at) (.int x0_from) u0_25 u0_26 u0_27 (.int x0_hasVoyage) u0_29 u0_30 x0_error x0_errorAt 1 x0_from x0_error_1 x0_errorAt_1 hc) gX9_readsOne_X9_fails rfl hv_X9_fails ⟨nle rfl, nle rfl⟩ 9 0 rfl rfl rfl (rest := []) rfl rfl hl.1 (nle rfl) dX9_readsOne_200 (fun H locs hP hD hS => ?_)
              cases hf
              exact ke_v hQ hexec hb hr hP hD hS dX9_readsOne_203 hlocks
            · refine lv_aload_n (pc := 177) hexec hb dX9_readsOne_177 rfl (lv_at hl 0 rfl) ?_
              refine lv_iconst (pc := 178) hexec hb dX9_readsOne_178 ki_0 ?_
              refine lv_iconst (pc := 179) hexec hb dX9_readsOne_179 ki_3 ?_
              obtain ⟨r180, x0_at_1, x0_from_1, x0_error_2, x0_errorAt_2, hc, hf⟩ := bd5_e hf
              refine kVp (pc := 180) (S := ⟨hexec, hb, hml, hown, hts⟩) hP hD hG hA hS [0, 4] [1, 2, 3] [3, 0, 1, 2, 4] (w2 := (w_X9_readsOne g a0 a1 a2 a3 a4 u0_1 u0_2 u0_3 u0_4 u0_5 u0_6 u0_7 u0_11 u0_12 u0_13 u0_14 u0_15 u0_16 u0_17 u0_18 u0_25 u0_26 u0_27 u0_29 u0_30 x0_flowLong x0_length x0_at_1 x0_from_1 x0_error_2 x0_errorAt_2 x0_hasVoyage y1_flow y2_s y3_sums y4_text)) rfl rfl rfl rfl rfl rfl (by decide) (c_X9_number l g a0 a4 _ (.ref a2) u0_1 u0_2 u0_3 u0_4 u0_5 u0_6 u0_7 (.ref a3) (.ref a1) (.int x0_flowLong) u0_11 u0_12 u0_13 u0_14 u0_15 u0_16 u0_17 u0_18 u0_25 u0_26 u0_27 (.int x0_hasVoyage) u0_29 u0_30 x0_length x0_at x0_from x0_error x0_errorAt y4_text 0 3 r180 x0_at_1 x0_from_1 x0_error_2 x0_errorAt_2 hc) gX9_readsOne_X9_number rfl hv_X9_number ⟨nle rfl, nle rfl⟩ 9 0 rfl rfl rfl (rest := []) rfl rfl hl.1 (nle rfl) dX9_readsOne_180 (fun H locs hP hD hS => ?_)
              refine lv_istore_n (pc := 183) hexec hb dX9_readsOne_183 rfl hl (nle rfl) rfl (fun ls (hl : lv_has ls 2 [(1, .int r180), (0, .ref a0)]) => ?_)
              refine lv_aload_n (pc := 184) hexec hb dX9_readsOne_184 rfl (lv_at hl 1 rfl) ?_
              refine kg_get (pc := 185) hexec hb (own := RX9) hWX9 hown hG hP 0 rfl rfl 0 (nle rfl) (hts _ (List.mem_cons_of_mem _ (List.mem_append_left _ (List.mem_append_left _ (List.mem_of_getElem? (i := 0) rfl))))) rfl rfl dX9_readsOne_185 ?_
              refine lv_iconst (pc := 188) hexec hb dX9_readsOne_188 ki_5 ?_
              refine lv_iload_n (pc := 189) hexec hb dX9_readsOne_189 rfl (lv_at hl 0 rfl) ?_
              refine kw_iast (pc := 190) hexec hb hG hP hD hS 2 rfl hf dX9_readsOne_190 (fun y2_s_1 H locs hf (hP : va_P g.1 vwCl (w_X9_readsOne g a0 a1 a2 a3 a4 u0_1 u0_2 u0_3 u0_4 u0_5 u0_6 u0_7 u0_11 u0_12 u0_13 u0_14 u0_15 u0_16 u0_17 u0_18 u0_25 u0_26 u0_27 u0_29 u0_30 x0_flowLong x0_length x0_at_1 x0_from_1 x0_error_2 x0_errorAt_2 x0_hasVoyage y1_flow y2_s_1 y3_sums y4_text) H) (hD : va_D A (w_X9_readsOne g a0 a1 a2 a3 a4 u0_1 u0_2 u0_3 u0_4 u0_5 u0_6 u0_7 u0_11 u0_12 u0_13 u0_14 u0_15 u0_16 u0_17 u0_18 u0_25 u0_26 u0_27 u0_29 u0_30 x0_flowLong x0_length x0_at_1 x0_from_1 x0_error_2 x0_errorAt_2 x0_hasVoyage y1_flow y2_s_1 y3_sums y4_text)) hS => ?_)
              refine lv_goto (pc := 191) hexec hb dX9_readsOne_191 (tgt := 203) rfl ?_
              cases hf
              exact ke_v hQ hexec hb hr hP hD hS dX9_readsOne_203 hlocks
          · refine lv_aload_n (pc := 146) hexec hb dX9_readsOne_146 rfl (lv_at hl 0 rfl) ?_
            refine lv_aload_n (pc := 147) hexec hb dX9_readsOne_147 rfl (lv_at hl 0 rfl) ?_
            refine kg_get (pc := 148) hexec hb (own := RX9) hWX9 hown hG hP 0 rfl rfl 28 (nle rfl) (hts _ (List.mem_cons_of_mem _ (List.mem_append_left _ (List.mem_append_left _ (List.mem_of_getElem? (i := 1) rfl))))) rfl rfl dX9_readsOne_148 ?_
            refine lv_iconst (pc := 151) hexec hb dX9_readsOne_151 ki_3 ?_
            obtain ⟨x0_error_3, x0_errorAt_3, hc, hf⟩ := bd2_e hf
            refine kVp (pc := 152) (S := ⟨hexec, hb, hml, hown, hts⟩) hP hD hG hA hS [0] [1, 2, 3, 4] [4, 0, 1, 2, 3] (w2 := (w_X9_readsOne g a0 a1 a2 a3 a4 u0_1 u0_2 u0_3 u0_4 u0_5 u0_6 u0_7 u0_11 u0_12 u0_13 u0_14 u0_15 u0_16 u0_17 u0_18 u0_25 u0_26 u0_27 u0_29 u0_30 x0_flowLong x0_length x0_at x0_from x0_error_3 x0_errorAt_3 x0_hasVoyage y1_flow y2_s y3_sums y4_text)) rfl rfl rfl rfl rfl rfl (by decide) (c_X9_failsIf l g a0 _ (.ref a2) u0_1 u0_2 u0_3 u0_4 u0_5 u0_6 u0_7 (.ref a3) (.ref a1) (.int x0_flowLong) u0_11 u0_12 u0_13 u0_14 u0_15 u0_16 u0_17 u0_18 (.ref a4) (.int x0_length) (.int x0_at) u0_25 u0_26 u0_27 (.int x0_hasVoyage) u0_29 u0_30 x0_from x0_error x0_errorAt x0_hasVoyage 3 x0_error_3 x0_errorAt_3 hc) gX9_readsOne_X9_failsIf rfl hv_X9_failsIf ⟨nle rfl, nle rfl⟩ 9 0 rfl rfl rfl (rest := []) rfl rfl hl.1 (nle rfl) dX9_readsOne_152 (fun H locs hP hD hS => ?_)
            refine lv_aload_n (pc := 155) hexec hb dX9_readsOne_155 rfl (lv_at hl 0 rfl) ?_
            refine lv_iconst (pc := 156) hexec hb dX9_readsOne_156 ki_1 ?_
            refine kp_put (pc := 157) hexec hb (own := RX9) hWX9 tyX9 tyX9_ok nmX9 hown hG hP hD hS 0 rfl rfl 28 (nle rfl) (hts _ (List.mem_cons_of_mem _ (List.mem_append_left _ (List.mem_append_left _ (List.mem_of_getElem? (i := 1) rfl))))) rfl rfl rfl rfl (nle rfl) dX9_readsOne_157 (fun H locs (hP : va_P g.1 vwCl (w_X9_readsOne g a0 a1 a2 a3 a4 u0_1 u0_2 u0_3 u0_4 u0_5 u0_6 u0_7 u0_11 u0_12 u0_13 u0_14 u0_15 u0_16 u0_17 u0_18 u0_25 u0_26 u0_27 u0_29 u0_30 x0_flowLong x0_length x0_at x0_from x0_error_3 x0_errorAt_3 1 y1_flow y2_s y3_sums y4_text) H) (hD : va_D A (w_X9_readsOne g a0 a1 a2 a3 a4 u0_1 u0_2 u0_3 u0_4 u0_5 u0_6 u0_7 u0_11 u0_12 u0_13 u0_14 u0_15 u0_16 u0_17 u0_18 u0_25 u0_26 u0_27 u0_29 u0_30 x0_flowLong x0_length x0_at x0_from x0_error_3 x0_errorAt_3 1 y1_flow y2_s y3_sums y4_text)) hS => ?_)
            refine lv_aload_n (pc := 160) hexec hb dX9_readsOne_160 rfl (lv_at hl 0 rfl) ?_
            obtain ⟨x0_at_2, x0_from_2, x0_error_4, x0_errorAt_4, y2_s_2, hc, hf⟩ := bd5_e hf
            refine kVp (pc := 161) (S := ⟨hexec, hb, hml, hown, hts⟩) hP hD hG hA hS [0, 2, 4] [1, 3] [2, 0, 3, 1, 4] (w2 := (w_X9_readsOne g a0 a1 a2 a3 a4 u0_1 u0_2 u0_3 u0_4 u0_5 u0_6 u0_7 u0_11 u0_12 u0_13 u0_14 u0_15 u0_16 u0_17 u0_18 u0_25 u0_26 u0_27 u0_29 u0_30 x0_flowLong x0_length x0_at_2 x0_from_2 x0_error_4 x0_errorAt_4 1 y1_flow y2_s_2 y3_sums y4_text)) rfl rfl rfl rfl rfl rfl (by decide) (c_X9_readsVoyage l g a0 a2 a4 _ u0_1 u0_2 u0_3 u0_4 u0_5 u0_6 u0_7 (.ref a3) (.ref a1) (.int x0_flowLong) u0_11 u0_12 u0_13 u0_14 u0_15 u0_16 u0_17 u0_18 u0_25 u0_26 u0_27 (.int 1) u0_29 u0_30 x0_length x0_at x0_from x0_error_3 x0_errorAt_3 y2_s y4_text x0_at_2 x0_from_2 x0_error_4 x0_errorAt_4 y2_s_2 hc) gX9_readsOne_X9_readsVoyage rfl hv_X9_readsVoyage ⟨nle rfl, nle rfl⟩ 9 0 rfl rfl rfl (rest := []) rfl rfl hl.1 (nle rfl) dX9_readsOne_161 (fun H locs hP hD hS => ?_)
            refine lv_goto (pc := 164) hexec hb dX9_readsOne_164 (tgt := 203) rfl ?_
            cases hf
            exact ke_v hQ hexec hb hr hP hD hS dX9_readsOne_203 hlocks
        · refine lv_aload_n (pc := 129) hexec hb dX9_readsOne_129 rfl (lv_at hl 0 rfl) ?_
          obtain ⟨x0_at_3, x0_from_3, x0_error_5, x0_errorAt_5, y2_s_3, hc, hf⟩ := bd5_e hf
          refine kVp (pc := 130) (S := ⟨hexec, hb, hml, hown, hts⟩) hP hD hG hA hS [0, 2, 4] [1, 3] [2, 0, 3, 1, 4] (w2 := (w_X9_readsOne g a0 a1 a2 a3 a4 u0_1 u0_2 u0_3 u0_4 u0_5 u0_6 u0_7 u0_11 u0_12 u0_13 u0_14 u0_15 u0_16 u0_17 u0_18 u0_25 u0_26 u0_27 u0_29 u0_30 x0_flowLong x0_length x0_at_3 x0_from_3 x0_error_5 x0_errorAt_5 x0_hasVoyage y1_flow y2_s_3 y3_sums y4_text)) rfl rfl rfl rfl rfl rfl (by decide) (c_X9_readsPlace l g a0 a2 a4 _ u0_1 u0_2 u0_3 u0_4 u0_5 u0_6 u0_7 (.ref a3) (.ref a1) (.int x0_flowLong) u0_11 u0_12 u0_13 u0_14 u0_15 u0_16 u0_17 u0_18 u0_25 u0_26 u0_27 (.int x0_hasVoyage) u0_29 u0_30 x0_length x0_at x0_from x0_error x0_errorAt y2_s y4_text x0_at_3 x0_from_3 x0_error_5 x0_errorAt_5 y2_s_3 hc) gX9_readsOne_X9_readsPlace rfl hv_X9_readsPlace ⟨nle rfl, nle rfl⟩ 9 0 rfl rfl rfl (rest := []) rfl rfl hl.1 (nle rfl) dX9_readsOne_130 (fun H locs hP hD hS => ?_)
          refine lv_goto (pc := 133) hexec hb dX9_readsOne_133 (tgt := 203) rfl ?_
          cases hf
          exact ke_v hQ hexec hb hr hP hD hS dX9_readsOne_203 hlocks
      · refine lv_aload_n (pc := 91) hexec hb dX9_readsOne_91 rfl (lv_at hl 0 rfl) ?_
        refine lv_aload_n (pc := 92) hexec hb dX9_readsOne_92 rfl (lv_at hl 0 rfl) ?_
        refine kg_get (pc := 93) hexec hb (own := RX9) hWX9 hown hG hP 0 rfl rfl 0 (nle rfl) (hts _ (List.mem_cons_of_mem _ (List.mem_append_left _ (List.mem_append_left _ (List.mem_of_getElem? (i := 0) rfl))))) rfl rfl dX9_readsOne_93 ?_
        refine lv_iconst (pc := 96) hexec hb dX9_readsOne_96 ki_3 ?_
        refine kr_iald (pc := 97) hexec hb hG hP 2 rfl hf dX9_readsOne_97 (fun hf => ?_)
        refine lv_bipush (pc := 98) hexec hb dX9_readsOne_98 kb_8 ?_
        obtain ⟨j108, ej108, hf⟩ := bvf1 hf
        have hj108 : ∀ (t108 : Int32) (H : Heap) (locs : List Loc) (ls : Array Slot), j108 t108 = some (o_x0_flowLong, o_x0_at, o_x0_from, o_x0_error, o_x0_errorAt, o_x0_hasVoyage, o_y1_flow, o_y2_s, o_y3_sums) → va_P g.1 vwCl (w_X9_readsOne g a0 a1 a2 a3 a4 u0_1 u0_2 u0_3 u0_4 u0_5 u0_6 u0_7 u0_11 u0_12 u0_13 u0_14 u0_15 u0_16 u0_17 u0_18 u0_25 u0_26 u0_27 u0_29 u0_30 x0_flowLong x0_length x0_at x0_from x0_error x0_errorAt x0_hasVoyage y1_flow y2_s y3_sums y4_text) H → va_D A (w_X9_readsOne g a0 a1 a2 a3 a4 u0_1 u0_2 u0_3 u0_4 u0_5 u0_6 u0_7 u0_11 u0_12 u0_13 u0_14 u0_15 u0_16 u0_17 u0_18 u0_25 u0_26 u0_27 u0_29 u0_30 x0_flowLong x0_length x0_at x0_from x0_error x0_errorAt x0_hasVoyage y1_flow y2_s y3_sums y4_text) → va_S A s.heap H locs → lv_has ls 2 [(0, .ref a0)] → W p l e (RM 11 253) s m args below meth c H locs 0 0 Q (F0 m 108 ls [.int t108, .ref a0]) := by
          intro t108 H locs ls hf hP hD hS hl
          have hf := (ej108 t108).symm.trans hf
          refine lv_iconst (pc := 108) hexec hb dX9_readsOne_108 ki_3 ?_
          obtain ⟨x0_error_6, x0_errorAt_6, hc, hf⟩ := bd2_e hf
          refine kVp (pc := 109) (S := ⟨hexec, hb, hml, hown, hts⟩) hP hD hG hA hS [0] [1, 2, 3, 4] [4, 0, 1, 2, 3] (w2 := (w_X9_readsOne g a0 a1 a2 a3 a4 u0_1 u0_2 u0_3 u0_4 u0_5 u0_6 u0_7 u0_11 u0_12 u0_13 u0_14 u0_15 u0_16 u0_17 u0_18 u0_25 u0_26 u0_27 u0_29 u0_30 x0_flowLong x0_length x0_at x0_from x0_error_6 x0_errorAt_6 x0_hasVoyage y1_flow y2_s y3_sums y4_text)) rfl rfl rfl rfl rfl rfl (by decide) (c_X9_failsIf l g a0 _ (.ref a2) u0_1 u0_2 u0_3 u0_4 u0_5 u0_6 u0_7 (.ref a3) (.ref a1) (.int x0_flowLong) u0_11 u0_12 u0_13 u0_14 u0_15 u0_16 u0_17 u0_18 (.ref a4) (.int x0_length) (.int x0_at) u0_25 u0_26 u0_27 (.int x0_hasVoyage) u0_29 u0_30 x0_from x0_error x0_errorAt t108 3 x0_error_6 x0_errorAt_6 hc) gX9_readsOne_X9_failsIf rfl hv_X9_failsIf ⟨nle rfl, nle rfl⟩ 9 0 rfl rfl rfl (rest := []) rfl rfl hl.1 (nle rfl) dX9_readsOne_109 (fun H locs hP hD hS => ?_)
          refine lv_aload_n (pc := 112) hexec hb dX9_readsOne_112 rfl (lv_at hl 0 rfl) ?_
          obtain ⟨x0_flowLong_1, x0_at_4, x0_from_4, x0_error_7, x0_errorAt_7, y1_flow_1, y2_s_4, y3_sums_1, hc, hf⟩ := bd8_e hf
          refine kVp (pc := 113) (S := ⟨hexec, hb, hml, hown, hts⟩) hP hD hG hA hS [0, 1, 2, 3, 4] [] [0, 1, 2, 3, 4] (w2 := (w_X9_readsOne g a0 a1 a2 a3 a4 u0_1 u0_2 u0_3 u0_4 u0_5 u0_6 u0_7 u0_11 u0_12 u0_13 u0_14 u0_15 u0_16 u0_17 u0_18 u0_25 u0_26 u0_27 u0_29 u0_30 x0_flowLong_1 x0_length x0_at_4 x0_from_4 x0_error_7 x0_errorAt_7 x0_hasVoyage y1_flow_1 y2_s_4 y3_sums_1 y4_text)) rfl rfl rfl rfl rfl rfl (by decide) (c_X9_readsRiver l g a0 a1 a2 a3 a4 _ u0_1 u0_2 u0_3 u0_4 u0_5 u0_6 u0_7 u0_11 u0_12 u0_13 u0_14 u0_15 u0_16 u0_17 u0_18 u0_25 u0_26 u0_27 (.int x0_hasVoyage) u0_29 u0_30 x0_flowLong x0_length x0_at x0_from x0_error_6 x0_errorAt_6 y1_flow y2_s y3_sums y4_text x0_flowLong_1 x0_at_4 x0_from_4 x0_error_7 x0_errorAt_7 y1_flow_1 y2_s_4 y3_sums_1 hc) gX9_readsOne_X9_readsRiver rfl hv_X9_readsRiver ⟨nle rfl, nle rfl⟩ 9 0 rfl rfl rfl (rest := []) rfl rfl hl.1 (nle rfl) dX9_readsOne_113 (fun H locs hP hD hS => ?_)
          refine lv_goto (pc := 116) hexec hb dX9_readsOne_116 (tgt := 203) rfl ?_
          cases hf
          exact ke_v hQ hexec hb hr hP hD hS dX9_readsOne_203 hlocks
        refine ki_ne (pc := 100) hexec hb dX9_readsOne_100 (tgt := 107) rfl hf (fun hc hf => ?_) (fun hc hf => ?_)
        · refine lv_iconst (pc := 107) hexec hb dX9_readsOne_107 ki_0 ?_
          exact hj108 _ _ _ _ hf hP hD hS (lv_sub hl [0] rfl)
        · refine lv_iconst (pc := 103) hexec hb dX9_readsOne_103 ki_1 ?_
          refine lv_goto (pc := 104) hexec hb dX9_readsOne_104 (tgt := 108) rfl ?_
          exact hj108 _ _ _ _ hf hP hD hS (lv_sub hl [0] rfl)
    · refine lv_aload_n (pc := 53) hexec hb dX9_readsOne_53 rfl (lv_at hl 0 rfl) ?_
      refine lv_aload_n (pc := 54) hexec hb dX9_readsOne_54 rfl (lv_at hl 0 rfl) ?_
      refine kg_get (pc := 55) hexec hb (own := RX9) hWX9 hown hG hP 0 rfl rfl 0 (nle rfl) (hts _ (List.mem_cons_of_mem _ (List.mem_append_left _ (List.mem_append_left _ (List.mem_of_getElem? (i := 0) rfl))))) rfl rfl dX9_readsOne_55 ?_
      refine lv_iconst (pc := 58) hexec hb dX9_readsOne_58 ki_2 ?_
      refine kr_iald (pc := 59) hexec hb hG hP 2 rfl hf dX9_readsOne_59 (fun hf => ?_)
      refine lv_bipush (pc := 60) hexec hb dX9_readsOne_60 kb_8 ?_
      obtain ⟨j70, ej70, hf⟩ := bvf1 hf
      have hj70 : ∀ (t70 : Int32) (H : Heap) (locs : List Loc) (ls : Array Slot), j70 t70 = some (o_x0_flowLong, o_x0_at, o_x0_from, o_x0_error, o_x0_errorAt, o_x0_hasVoyage, o_y1_flow, o_y2_s, o_y3_sums) → va_P g.1 vwCl (w_X9_readsOne g a0 a1 a2 a3 a4 u0_1 u0_2 u0_3 u0_4 u0_5 u0_6 u0_7 u0_11 u0_12 u0_13 u0_14 u0_15 u0_16 u0_17 u0_18 u0_25 u0_26 u0_27 u0_29 u0_30 x0_flowLong x0_length x0_at x0_from x0_error x0_errorAt x0_hasVoyage y1_flow y2_s y3_sums y4_text) H → va_D A (w_X9_readsOne g a0 a1 a2 a3 a4 u0_1 u0_2 u0_3 u0_4 u0_5 u0_6 u0_7 u0_11 u0_12 u0_13 u0_14 u0_15 u0_16 u0_17 u0_18 u0_25 u0_26 u0_27 u0_29 u0_30 x0_flowLong x0_length x0_at x0_from x0_error x0_errorAt x0_hasVoyage y1_flow y2_s y3_sums y4_text) → va_S A s.heap H locs → lv_has ls 2 [(0, .ref a0)] → W p l e (RM 11 253) s m args below meth c H locs 0 0 Q (F0 m 70 ls [.int t70, .ref a0]) := by
        intro t70 H locs ls hf hP hD hS hl
        have hf := (ej70 t70).symm.trans hf
        refine lv_iconst (pc := 70) hexec hb dX9_readsOne_70 ki_3 ?_
        obtain ⟨x0_error_8, x0_errorAt_8, hc, hf⟩ := bd2_e hf
        refine kVp (pc := 71) (S := ⟨hexec, hb, hml, hown, hts⟩) hP hD hG hA hS [0] [1, 2, 3, 4] [4, 0, 1, 2, 3] (w2 := (w_X9_readsOne g a0 a1 a2 a3 a4 u0_1 u0_2 u0_3 u0_4 u0_5 u0_6 u0_7 u0_11 u0_12 u0_13 u0_14 u0_15 u0_16 u0_17 u0_18 u0_25 u0_26 u0_27 u0_29 u0_30 x0_flowLong x0_length x0_at x0_from x0_error_8 x0_errorAt_8 x0_hasVoyage y1_flow y2_s y3_sums y4_text)) rfl rfl rfl rfl rfl rfl (by decide) (c_X9_failsIf l g a0 _ (.ref a2) u0_1 u0_2 u0_3 u0_4 u0_5 u0_6 u0_7 (.ref a3) (.ref a1) (.int x0_flowLong) u0_11 u0_12 u0_13 u0_14 u0_15 u0_16 u0_17 u0_18 (.ref a4) (.int x0_length) (.int x0_at) u0_25 u0_26 u0_27 (.int x0_hasVoyage) u0_29 u0_30 x0_from x0_error x0_errorAt t70 3 x0_error_8 x0_errorAt_8 hc) gX9_readsOne_X9_failsIf rfl hv_X9_failsIf ⟨nle rfl, nle rfl⟩ 9 0 rfl rfl rfl (rest := []) rfl rfl hl.1 (nle rfl) dX9_readsOne_71 (fun H locs hP hD hS => ?_)
        refine lv_aload_n (pc := 74) hexec hb dX9_readsOne_74 rfl (lv_at hl 0 rfl) ?_
        obtain ⟨x0_at_5, x0_from_5, x0_error_9, x0_errorAt_9, y2_s_5, hc, hf⟩ := bd5_e hf
        refine kVp (pc := 75) (S := ⟨hexec, hb, hml, hown, hts⟩) hP hD hG hA hS [0, 2, 4] [1, 3] [2, 0, 3, 1, 4] (w2 := (w_X9_readsOne g a0 a1 a2 a3 a4 u0_1 u0_2 u0_3 u0_4 u0_5 u0_6 u0_7 u0_11 u0_12 u0_13 u0_14 u0_15 u0_16 u0_17 u0_18 u0_25 u0_26 u0_27 u0_29 u0_30 x0_flowLong x0_length x0_at_5 x0_from_5 x0_error_9 x0_errorAt_9 x0_hasVoyage y1_flow y2_s_5 y3_sums y4_text)) rfl rfl rfl rfl rfl rfl (by decide) (c_X9_readsHarbour l g a0 a2 a4 _ u0_1 u0_2 u0_3 u0_4 u0_5 u0_6 u0_7 (.ref a3) (.ref a1) (.int x0_flowLong) u0_11 u0_12 u0_13 u0_14 u0_15 u0_16 u0_17 u0_18 u0_25 u0_26 u0_27 (.int x0_hasVoyage) u0_29 u0_30 x0_length x0_at x0_from x0_error_8 x0_errorAt_8 y2_s y4_text x0_at_5 x0_from_5 x0_error_9 x0_errorAt_9 y2_s_5 hc) gX9_readsOne_X9_readsHarbour rfl hv_X9_readsHarbour ⟨nle rfl, nle rfl⟩ 9 0 rfl rfl rfl (rest := []) rfl rfl hl.1 (nle rfl) dX9_readsOne_75 (fun H locs hP hD hS => ?_)
        refine lv_goto (pc := 78) hexec hb dX9_readsOne_78 (tgt := 203) rfl ?_
        cases hf
        exact ke_v hQ hexec hb hr hP hD hS dX9_readsOne_203 hlocks
      refine ki_ne (pc := 62) hexec hb dX9_readsOne_62 (tgt := 69) rfl hf (fun hc hf => ?_) (fun hc hf => ?_)
      · refine lv_iconst (pc := 69) hexec hb dX9_readsOne_69 ki_0 ?_
        exact hj70 _ _ _ _ hf hP hD hS (lv_sub hl [0] rfl)
      · refine lv_iconst (pc := 65) hexec hb dX9_readsOne_65 ki_1 ?_
        refine lv_goto (pc := 66) hexec hb dX9_readsOne_66 (tgt := 70) rfl ?_
        exact hj70 _ _ _ _ hf hP hD hS (lv_sub hl [0] rfl)
  · refine lv_aload_n (pc := 10) hexec hb dX9_readsOne_10 rfl (lv_at hl 0 rfl) ?_
    refine lv_aload_n (pc := 11) hexec hb dX9_readsOne_11 rfl (lv_at hl 0 rfl) ?_
    refine kg_get (pc := 12) hexec hb (own := RX9) hWX9 hown hG hP 0 rfl rfl 0 (nle rfl) (hts _ (List.mem_cons_of_mem _ (List.mem_append_left _ (List.mem_append_left _ (List.mem_of_getElem? (i := 0) rfl))))) rfl rfl dX9_readsOne_12 ?_
    refine lv_iconst (pc := 15) hexec hb dX9_readsOne_15 ki_2 ?_
    refine kr_iald (pc := 16) hexec hb hG hP 2 rfl hf dX9_readsOne_16 (fun hf => ?_)
    refine lv_aload_n (pc := 17) hexec hb dX9_readsOne_17 rfl (lv_at hl 0 rfl) ?_
    refine kg_get (pc := 18) hexec hb (own := RX9) hWX9 hown hG hP 0 rfl rfl 0 (nle rfl) (hts _ (List.mem_cons_of_mem _ (List.mem_append_left _ (List.mem_append_left _ (List.mem_of_getElem? (i := 0) rfl))))) rfl rfl dX9_readsOne_18 ?_
    refine lv_iconst (pc := 21) hexec hb dX9_readsOne_21 ki_3 ?_
    refine kr_iald (pc := 22) hexec hb hG hP 2 rfl hf dX9_readsOne_22 (fun hf => ?_)
    refine lv_iadd (pc := 23) hexec hb dX9_readsOne_23 ?_
    obtain ⟨j32, ej32, hf⟩ := bvf1 hf
    have hj32 : ∀ (t32 : Int32) (H : Heap) (locs : List Loc) (ls : Array Slot), j32 t32 = some (o_x0_flowLong, o_x0_at, o_x0_from, o_x0_error, o_x0_errorAt, o_x0_hasVoyage, o_y1_flow, o_y2_s, o_y3_sums) → va_P g.1 vwCl (w_X9_readsOne g a0 a1 a2 a3 a4 u0_1 u0_2 u0_3 u0_4 u0_5 u0_6 u0_7 u0_11 u0_12 u0_13 u0_14 u0_15 u0_16 u0_17 u0_18 u0_25 u0_26 u0_27 u0_29 u0_30 x0_flowLong x0_length x0_at x0_from x0_error x0_errorAt x0_hasVoyage y1_flow y2_s y3_sums y4_text) H → va_D A (w_X9_readsOne g a0 a1 a2 a3 a4 u0_1 u0_2 u0_3 u0_4 u0_5 u0_6 u0_7 u0_11 u0_12 u0_13 u0_14 u0_15 u0_16 u0_17 u0_18 u0_25 u0_26 u0_27 u0_29 u0_30 x0_flowLong x0_length x0_at x0_from x0_error x0_errorAt x0_hasVoyage y1_flow y2_s y3_sums y4_text) → va_S A s.heap H locs → lv_has ls 2 [(0, .ref a0)] → W p l e (RM 11 253) s m args below meth c H locs 0 0 Q (F0 m 32 ls [.int t32, .ref a0]) := by
      intro t32 H locs ls hf hP hD hS hl
      have hf := (ej32 t32).symm.trans hf
      refine lv_iconst (pc := 32) hexec hb dX9_readsOne_32 ki_3 ?_
      obtain ⟨x0_error_10, x0_errorAt_10, hc, hf⟩ := bd2_e hf
      refine kVp (pc := 33) (S := ⟨hexec, hb, hml, hown, hts⟩) hP hD hG hA hS [0] [1, 2, 3, 4] [4, 0, 1, 2, 3] (w2 := (w_X9_readsOne g a0 a1 a2 a3 a4 u0_1 u0_2 u0_3 u0_4 u0_5 u0_6 u0_7 u0_11 u0_12 u0_13 u0_14 u0_15 u0_16 u0_17 u0_18 u0_25 u0_26 u0_27 u0_29 u0_30 x0_flowLong x0_length x0_at x0_from x0_error_10 x0_errorAt_10 x0_hasVoyage y1_flow y2_s y3_sums y4_text)) rfl rfl rfl rfl rfl rfl (by decide) (c_X9_failsIf l g a0 _ (.ref a2) u0_1 u0_2 u0_3 u0_4 u0_5 u0_6 u0_7 (.ref a3) (.ref a1) (.int x0_flowLong) u0_11 u0_12 u0_13 u0_14 u0_15 u0_16 u0_17 u0_18 (.ref a4) (.int x0_length) (.int x0_at) u0_25 u0_26 u0_27 (.int x0_hasVoyage) u0_29 u0_30 x0_from x0_error x0_errorAt t32 3 x0_error_10 x0_errorAt_10 hc) gX9_readsOne_X9_failsIf rfl hv_X9_failsIf ⟨nle rfl, nle rfl⟩ 9 0 rfl rfl rfl (rest := []) rfl rfl hl.1 (nle rfl) dX9_readsOne_33 (fun H locs hP hD hS => ?_)
      refine lv_aload_n (pc := 36) hexec hb dX9_readsOne_36 rfl (lv_at hl 0 rfl) ?_
      obtain ⟨x0_at_6, x0_from_6, x0_error_11, x0_errorAt_11, y2_s_6, hc, hf⟩ := bd5_e hf
      refine kVp (pc := 37) (S := ⟨hexec, hb, hml, hown, hts⟩) hP hD hG hA hS [0, 2, 4] [1, 3] [2, 0, 3, 1, 4] (w2 := (w_X9_readsOne g a0 a1 a2 a3 a4 u0_1 u0_2 u0_3 u0_4 u0_5 u0_6 u0_7 u0_11 u0_12 u0_13 u0_14 u0_15 u0_16 u0_17 u0_18 u0_25 u0_26 u0_27 u0_29 u0_30 x0_flowLong x0_length x0_at_6 x0_from_6 x0_error_11 x0_errorAt_11 x0_hasVoyage y1_flow y2_s_6 y3_sums y4_text)) rfl rfl rfl rfl rfl rfl (by decide) (c_X9_readsLand l g a0 a2 a4 _ u0_1 u0_2 u0_3 u0_4 u0_5 u0_6 u0_7 (.ref a3) (.ref a1) (.int x0_flowLong) u0_11 u0_12 u0_13 u0_14 u0_15 u0_16 u0_17 u0_18 u0_25 u0_26 u0_27 (.int x0_hasVoyage) u0_29 u0_30 x0_length x0_at x0_from x0_error_10 x0_errorAt_10 y2_s y4_text x0_at_6 x0_from_6 x0_error_11 x0_errorAt_11 y2_s_6 hc) gX9_readsOne_X9_readsLand rfl hv_X9_readsLand ⟨nle rfl, nle rfl⟩ 9 0 rfl rfl rfl (rest := []) rfl rfl hl.1 (nle rfl) dX9_readsOne_37 (fun H locs hP hD hS => ?_)
      refine lv_goto (pc := 40) hexec hb dX9_readsOne_40 (tgt := 203) rfl ?_
      cases hf
      exact ke_v hQ hexec hb hr hP hD hS dX9_readsOne_203 hlocks
    refine kb_le (pc := 24) hexec hb dX9_readsOne_24 (tgt := 31) rfl hf (fun hc hf => ?_) (fun hc hf => ?_)
    · refine lv_iconst (pc := 31) hexec hb dX9_readsOne_31 ki_0 ?_
      exact hj32 _ _ _ _ hf hP hD hS (lv_sub hl [0] rfl)
    · refine lv_iconst (pc := 27) hexec hb dX9_readsOne_27 ki_1 ?_
      refine lv_goto (pc := 28) hexec hb dX9_readsOne_28 (tgt := 32) rfl ?_
      exact hj32 _ _ _ _ hf hP hD hS (lv_sub hl [0] rfl)
abbrev w_X9_reads (g : GE) (a0 a1 a2 a3 a4 : Nat) (u0_1 u0_2 u0_3 u0_4 u0_5 u0_6 u0_7 u0_11 u0_12 u0_13 u0_14 u0_15 u0_16 u0_17 u0_18 u0_25 u0_26 u0_29 u0_30 : Value) (x0_flowLong : Int32) (x0_length : Int32) (x0_at : Int32) (x0_from : Int32) (x0_error : Int32) (x0_errorAt : Int32) (x0_statement : Int32) (x0_hasVoyage : Int32) (y1_flow : Nat → Int32) (y2_s : Nat → Int32) (y3_sums : Nat → Int32) (y4_text : Nat → Int32) : va_W := [(a0, .inr (9, [.ref a2, u0_1, u0_2, u0_3, u0_4, u0_5, u0_6, u0_7, .ref a3, .ref a1, .int x0_flowLong, u0_11, u0_12, u0_13, u0_14, u0_15, u0_16, u0_17, u0_18, .ref a4, .int x0_length, .int x0_at, .int x0_from, .int x0_error, .int x0_errorAt, u0_25, u0_26, .int x0_statement, .int x0_hasVoyage, u0_29, u0_30])), (a1, .inl (g.2.1 0, 144, .inl y1_flow)), (a2, .inl (g.2.1 0, 552, .inl y2_s)), (a3, .inl (g.2.1 0, 144, .inl y3_sums)), (a4, .inl (g.2.1 0, 500, .inl y4_text))]
set_option maxRecDepth 20000 in
theorem c_X9_reads (l : Launch) (g : GE) (a0 a1 a2 a3 a4 : Nat) (sz : Nat) (u0_1 u0_2 u0_3 u0_4 u0_5 u0_6 u0_7 u0_11 u0_12 u0_13 u0_14 u0_15 u0_16 u0_17 u0_18 u0_25 u0_26 u0_29 u0_30 : Value) (x0_flowLong : Int32) (x0_length : Int32) (x0_at : Int32) (x0_from : Int32) (x0_error : Int32) (x0_errorAt : Int32) (x0_statement : Int32) (x0_hasVoyage : Int32) (y1_flow : Nat → Int32) (y2_s : Nat → Int32) (y3_sums : Nat → Int32) (y4_text : Nat → Int32)   (o_x0_flowLong : Int32) (o_x0_at : Int32) (o_x0_from : Int32) (o_x0_error : Int32) (o_x0_errorAt : Int32) (o_x0_statement : Int32) (o_x0_hasVoyage : Int32) (o_y1_flow : Nat → Int32) (o_y2_s : Nat → Int32) (o_y3_sums : Nat → Int32) (hf : f_X9_reads x0_flowLong x0_length x0_at x0_from x0_error x0_errorAt x0_statement x0_hasVoyage y1_flow y2_s y3_sums y4_text = some (o_x0_flowLong, o_x0_at, o_x0_from, o_x0_error, o_x0_errorAt, o_x0_statement, o_x0_hasVoyage, o_y1_flow, o_y2_s, o_y3_sums)) : MI l g yX9_reads wsX9_reads 12 274 [.ref a0] (w_X9_reads g a0 a1 a2 a3 a4 u0_1 u0_2 u0_3 u0_4 u0_5 u0_6 u0_7 u0_11 u0_12 u0_13 u0_14 u0_15 u0_16 u0_17 u0_18 u0_25 u0_26 u0_29 u0_30 x0_flowLong x0_length x0_at x0_from x0_error x0_errorAt x0_statement x0_hasVoyage y1_flow y2_s y3_sums y4_text) sz none (w_X9_reads g a0 a1 a2 a3 a4 u0_1 u0_2 u0_3 u0_4 u0_5 u0_6 u0_7 u0_11 u0_12 u0_13 u0_14 u0_15 u0_16 u0_17 u0_18 u0_25 u0_26 u0_29 u0_30 o_x0_flowLong x0_length o_x0_at o_x0_from o_x0_error o_x0_errorAt o_x0_statement o_x0_hasVoyage o_y1_flow o_y2_s o_y3_sums y4_text) := by
  refine MI.start (cc := cX9_reads) (maxL := 3) (ret := none) rfl rfl (nle rfl) ?_
  intro p e s m args below meth c A ls Q hQ hexec hb hr hts hown hlocks hml hA hP hD hG hS hl
  unfold f_X9_reads at hf
  have hWX9 : ∀ w ∈ wsX90, w.before args s = true := fun w h => hts w (List.mem_cons_of_mem _ (List.mem_append_right _ h))
  have hS : va_S A s.heap s.heap [] := hS
  refine lv_aload_n (pc := 0) hexec hb dX9_reads_0 rfl (lv_at hl 0 rfl) ?_
  obtain ⟨x0_at_1, x0_from_1, hc, hf⟩ := bd2_e hf
  refine kVp (pc := 1) (S := ⟨hexec, hb, hml, hown, hts⟩) hP hD hG hA hS [0, 4] [1, 2, 3] [3, 0, 1, 2, 4] (w2 := (w_X9_reads g a0 a1 a2 a3 a4 u0_1 u0_2 u0_3 u0_4 u0_5 u0_6 u0_7 u0_11 u0_12 u0_13 u0_14 u0_15 u0_16 u0_17 u0_18 u0_25 u0_26 u0_29 u0_30 x0_flowLong x0_length x0_at_1 x0_from_1 x0_error x0_errorAt x0_statement x0_hasVoyage y1_flow y2_s y3_sums y4_text)) rfl rfl rfl rfl rfl rfl (by decide) (c_X9_word l g a0 a4 _ (.ref a2) u0_1 u0_2 u0_3 u0_4 u0_5 u0_6 u0_7 (.ref a3) (.ref a1) (.int x0_flowLong) u0_11 u0_12 u0_13 u0_14 u0_15 u0_16 u0_17 u0_18 (.int x0_errorAt) u0_25 u0_26 (.int x0_statement) (.int x0_hasVoyage) u0_29 u0_30 x0_length x0_at x0_from x0_error y4_text x0_at_1 x0_from_1 hc) gX9_reads_X9_word rfl hv_X9_word ⟨nle rfl, nle rfl⟩ 9 0 rfl rfl rfl (rest := []) rfl rfl hl.1 (nle rfl) dX9_reads_1 (fun H locs hP hD hS => ?_)
  refine lv_aload_n (pc := 4) hexec hb dX9_reads_4 rfl (lv_at hl 0 rfl) ?_
  refine lv_aload_n (pc := 5) hexec hb dX9_reads_5 rfl (lv_at hl 0 rfl) ?_
  refine k_ldsw (pc := 6) hexec hb (own := RX9) hown hG 23 rfl dX9_reads_6 ?_
  obtain ⟨r9, hc, hf⟩ := bd1_e hf
  refine kVp (pc := 9) (S := ⟨hexec, hb, hml, hown, hts⟩) hP hD hG hA hS [0, 4] [1, 2, 3] [3, 0, 1, 2, 4] (w2 := (w_X9_reads g a0 a1 a2 a3 a4 u0_1 u0_2 u0_3 u0_4 u0_5 u0_6 u0_7 u0_11 u0_12 u0_13 u0_14 u0_15 u0_16 u0_17 u0_18 u0_25 u0_26 u0_29 u0_30 x0_flowLong x0_length x0_at_1 x0_from_1 x0_error x0_errorAt x0_statement x0_hasVoyage y1_flow y2_s y3_sums y4_text)) rfl rfl rfl rfl rfl rfl (by decide) (c_X9_was l g a0 a4 _ (.ref a2) u0_1 u0_2 u0_3 u0_4 u0_5 u0_6 u0_7 (.ref a3) (.ref a1) (.int x0_flowLong) u0_11 u0_12 u0_13 u0_14 u0_15 u0_16 u0_17 u0_18 (.int x0_length) (.int x0_errorAt) u0_25 u0_26 (.int x0_statement) (.int x0_hasVoyage) u0_29 u0_30 x0_at_1 x0_from_1 x0_error y4_text 0 (nle rfl) r9 hc) gX9_reads_X9_was rfl hv_X9_was ⟨nle rfl, nle rfl⟩ 9 0 rfl rfl rfl (rest := [.ref a0]) rfl rfl hl.1 (nle rfl) dX9_reads_9 (fun H locs hP hD hS => ?_)
  obtain ⟨j20, ej20, hf⟩ := bvf1 hf
  have hj20 : ∀ (t20 : Int32) (H : Heap) (locs : List Loc) (ls : Array Slot), j20 t20 = some (o_x0_flowLong, o_x0_at, o_x0_from, o_x0_error, o_x0_errorAt, o_x0_statement, o_x0_hasVoyage, o_y1_flow, o_y2_s, o_y3_sums) → va_P g.1 vwCl (w_X9_reads g a0 a1 a2 a3 a4 u0_1 u0_2 u0_3 u0_4 u0_5 u0_6 u0_7 u0_11 u0_12 u0_13 u0_14 u0_15 u0_16 u0_17 u0_18 u0_25 u0_26 u0_29 u0_30 x0_flowLong x0_length x0_at_1 x0_from_1 x0_error x0_errorAt x0_statement x0_hasVoyage y1_flow y2_s y3_sums y4_text) H → va_D A (w_X9_reads g a0 a1 a2 a3 a4 u0_1 u0_2 u0_3 u0_4 u0_5 u0_6 u0_7 u0_11 u0_12 u0_13 u0_14 u0_15 u0_16 u0_17 u0_18 u0_25 u0_26 u0_29 u0_30 x0_flowLong x0_length x0_at_1 x0_from_1 x0_error x0_errorAt x0_statement x0_hasVoyage y1_flow y2_s y3_sums y4_text) → va_S A s.heap H locs → lv_has ls 3 [(0, .ref a0)] → W p l e (RM 12 274) s m args below meth c H locs 0 0 Q (F0 m 20 ls [.int t20, .ref a0]) := by
    intro t20 H locs ls hf hP hD hS hl
    have hf := (ej20 t20).symm.trans hf
    refine lv_iconst (pc := 20) hexec hb dX9_reads_20 ki_1 ?_
    obtain ⟨x0_error_1, x0_errorAt_1, hc, hf⟩ := bd2_e hf
    refine kVp (pc := 21) (S := ⟨hexec, hb, hml, hown, hts⟩) hP hD hG hA hS [0] [1, 2, 3, 4] [4, 0, 1, 2, 3] (w2 := (w_X9_reads g a0 a1 a2 a3 a4 u0_1 u0_2 u0_3 u0_4 u0_5 u0_6 u0_7 u0_11 u0_12 u0_13 u0_14 u0_15 u0_16 u0_17 u0_18 u0_25 u0_26 u0_29 u0_30 x0_flowLong x0_length x0_at_1 x0_from_1 x0_error_1 x0_errorAt_1 x0_statement x0_hasVoyage y1_flow y2_s y3_sums y4_text)) rfl rfl rfl rfl rfl rfl (by decide) (c_X9_failsIf l g a0 _ (.ref a2) u0_1 u0_2 u0_3 u0_4 u0_5 u0_6 u0_7 (.ref a3) (.ref a1) (.int x0_flowLong) u0_11 u0_12 u0_13 u0_14 u0_15 u0_16 u0_17 u0_18 (.ref a4) (.int x0_length) (.int x0_at_1) u0_25 u0_26 (.int x0_statement) (.int x0_hasVoyage) u0_29 u0_30 x0_from_1 x0_error x0_errorAt t20 1 x0_error_1 x0_errorAt_1 hc) gX9_reads_X9_failsIf rfl hv_X9_failsIf ⟨nle rfl, nle rfl⟩ 9 0 rfl rfl rfl (rest := []) rfl rfl hl.1 (nle rfl) dX9_reads_21 (fun H locs hP hD hS => ?_)
    refine lv_aload_n (pc := 24) hexec hb dX9_reads_24 rfl (lv_at hl 0 rfl) ?_
    refine lv_iconst (pc := 25) hexec hb dX9_reads_25 ki_3 ?_
    refine lv_bipush (pc := 26) hexec hb dX9_reads_26 kb_12 ?_
    obtain ⟨r28, x0_at_2, x0_from_2, x0_error_2, x0_errorAt_2, hc, hf⟩ := bd5_e hf
    refine kVp (pc := 28) (S := ⟨hexec, hb, hml, hown, hts⟩) hP hD hG hA hS [0, 4] [1, 2, 3] [3, 0, 1, 2, 4] (w2 := (w_X9_reads g a0 a1 a2 a3 a4 u0_1 u0_2 u0_3 u0_4 u0_5 u0_6 u0_7 u0_11 u0_12 u0_13 u0_14 u0_15 u0_16 u0_17 u0_18 u0_25 u0_26 u0_29 u0_30 x0_flowLong x0_length x0_at_2 x0_from_2 x0_error_2 x0_errorAt_2 x0_statement x0_hasVoyage y1_flow y2_s y3_sums y4_text)) rfl rfl rfl rfl rfl rfl (by decide) (c_X9_number l g a0 a4 _ (.ref a2) u0_1 u0_2 u0_3 u0_4 u0_5 u0_6 u0_7 (.ref a3) (.ref a1) (.int x0_flowLong) u0_11 u0_12 u0_13 u0_14 u0_15 u0_16 u0_17 u0_18 u0_25 u0_26 (.int x0_statement) (.int x0_hasVoyage) u0_29 u0_30 x0_length x0_at_1 x0_from_1 x0_error_1 x0_errorAt_1 y4_text 3 12 r28 x0_at_2 x0_from_2 x0_error_2 x0_errorAt_2 hc) gX9_reads_X9_number rfl hv_X9_number ⟨nle rfl, nle rfl⟩ 9 0 rfl rfl rfl (rest := []) rfl rfl hl.1 (nle rfl) dX9_reads_28 (fun H locs hP hD hS => ?_)
    refine lv_istore_n (pc := 31) hexec hb dX9_reads_31 rfl hl (nle rfl) rfl (fun ls (hl : lv_has ls 3 [(1, .int r28), (0, .ref a0)]) => ?_)
    refine lv_aload_n (pc := 32) hexec hb dX9_reads_32 rfl (lv_at hl 1 rfl) ?_
    refine lv_iconst (pc := 33) hexec hb dX9_reads_33 ki_3 ?_
    refine lv_bipush (pc := 34) hexec hb dX9_reads_34 kb_12 ?_
    obtain ⟨r36, x0_at_3, x0_from_3, x0_error_3, x0_errorAt_3, hc, hf⟩ := bd5_e hf
    refine kVp (pc := 36) (S := ⟨hexec, hb, hml, hown, hts⟩) hP hD hG hA hS [0, 4] [1, 2, 3] [3, 0, 1, 2, 4] (w2 := (w_X9_reads g a0 a1 a2 a3 a4 u0_1 u0_2 u0_3 u0_4 u0_5 u0_6 u0_7 u0_11 u0_12 u0_13 u0_14 u0_15 u0_16 u0_17 u0_18 u0_25 u0_26 u0_29 u0_30 x0_flowLong x0_length x0_at_3 x0_from_3 x0_error_3 x0_errorAt_3 x0_statement x0_hasVoyage y1_flow y2_s y3_sums y4_text)) rfl rfl rfl rfl rfl rfl (by decide) (c_X9_number l g a0 a4 _ (.ref a2) u0_1 u0_2 u0_3 u0_4 u0_5 u0_6 u0_7 (.ref a3) (.ref a1) (.int x0_flowLong) u0_11 u0_12 u0_13 u0_14 u0_15 u0_16 u0_17 u0_18 u0_25 u0_26 (.int x0_statement) (.int x0_hasVoyage) u0_29 u0_30 x0_length x0_at_2 x0_from_2 x0_error_2 x0_errorAt_2 y4_text 3 12 r36 x0_at_3 x0_from_3 x0_error_3 x0_errorAt_3 hc) gX9_reads_X9_number rfl hv_X9_number ⟨nle rfl, nle rfl⟩ 9 0 rfl rfl rfl (rest := []) rfl rfl hl.1 (nle rfl) dX9_reads_36 (fun H locs hP hD hS => ?_)
    refine lv_istore_n (pc := 39) hexec hb dX9_reads_39 rfl hl (nle rfl) rfl (fun ls (hl : lv_has ls 3 [(2, .int r36), (1, .int r28), (0, .ref a0)]) => ?_)
    refine lv_aload_n (pc := 40) hexec hb dX9_reads_40 rfl (lv_at hl 2 rfl) ?_
    refine lv_iload_n (pc := 41) hexec hb dX9_reads_41 rfl (lv_at hl 1 rfl) ?_
    refine lv_iload_n (pc := 42) hexec hb dX9_reads_42 rfl (lv_at hl 0 rfl) ?_
    obtain ⟨y2_s_1, hc, hf⟩ := bd1_e hf
    refine kVp (pc := 43) (S := ⟨hexec, hb, hml, hown, hts⟩) hP hD hG hA hS [0, 2] [1, 3, 4] [3, 0, 4, 1, 2] (w2 := (w_X9_reads g a0 a1 a2 a3 a4 u0_1 u0_2 u0_3 u0_4 u0_5 u0_6 u0_7 u0_11 u0_12 u0_13 u0_14 u0_15 u0_16 u0_17 u0_18 u0_25 u0_26 u0_29 u0_30 x0_flowLong x0_length x0_at_3 x0_from_3 x0_error_3 x0_errorAt_3 x0_statement x0_hasVoyage y1_flow y2_s_1 y3_sums y4_text)) rfl rfl rfl rfl rfl rfl (by decide) (c_X9_begins l g a0 a2 _ u0_1 u0_2 u0_3 u0_4 u0_5 u0_6 u0_7 (.ref a3) (.ref a1) (.int x0_flowLong) u0_11 u0_12 u0_13 u0_14 u0_15 u0_16 u0_17 u0_18 (.ref a4) (.int x0_length) (.int x0_at_3) (.int x0_from_3) (.int x0_error_3) (.int x0_errorAt_3) u0_25 u0_26 (.int x0_statement) (.int x0_hasVoyage) u0_29 u0_30 y2_s r28 r36 y2_s_1 hc) gX9_reads_X9_begins rfl hv_X9_begins ⟨nle rfl, nle rfl⟩ 9 0 rfl rfl rfl (rest := []) rfl rfl hl.1 (nle rfl) dX9_reads_43 (fun H locs hP hD hS => ?_)
    refine lv_aload_n (pc := 46) hexec hb dX9_reads_46 rfl (lv_at hl 2 rfl) ?_
    refine lv_iconst (pc := 47) hexec hb dX9_reads_47 ki_0 ?_
    refine kp_put (pc := 48) hexec hb (own := RX9) hWX9 tyX9 tyX9_ok nmX9 hown hG hP hD hS 0 rfl rfl 28 (nle rfl) (hts _ (List.mem_cons_of_mem _ (List.mem_append_left _ (List.mem_append_left _ (List.mem_of_getElem? (i := 0) rfl))))) rfl rfl rfl rfl (nle rfl) dX9_reads_48 (fun H locs (hP : va_P g.1 vwCl (w_X9_reads g a0 a1 a2 a3 a4 u0_1 u0_2 u0_3 u0_4 u0_5 u0_6 u0_7 u0_11 u0_12 u0_13 u0_14 u0_15 u0_16 u0_17 u0_18 u0_25 u0_26 u0_29 u0_30 x0_flowLong x0_length x0_at_3 x0_from_3 x0_error_3 x0_errorAt_3 x0_statement 0 y1_flow y2_s_1 y3_sums y4_text) H) (hD : va_D A (w_X9_reads g a0 a1 a2 a3 a4 u0_1 u0_2 u0_3 u0_4 u0_5 u0_6 u0_7 u0_11 u0_12 u0_13 u0_14 u0_15 u0_16 u0_17 u0_18 u0_25 u0_26 u0_29 u0_30 x0_flowLong x0_length x0_at_3 x0_from_3 x0_error_3 x0_errorAt_3 x0_statement 0 y1_flow y2_s_1 y3_sums y4_text)) hS => ?_)
    obtain ⟨l51, el51, hf⟩ := bvf10 hf
    obtain ⟨n, hz⟩ := lq10_e hf
    have hL51 : ∀ (n : Nat) (x0_flowLong_1 : Int32) (x0_at_4 : Int32) (x0_from_4 : Int32) (x0_error_4 : Int32) (x0_errorAt_4 : Int32) (x0_statement_1 : Int32) (x0_hasVoyage_1 : Int32) (y1_flow_1 : Nat → Int32) (y2_s_2 : Nat → Int32) (y3_sums_1 : Nat → Int32) (H : Heap) (locs : List Loc) (ls : Array Slot), it10 l51 n x0_flowLong_1 x0_at_4 x0_from_4 x0_error_4 x0_errorAt_4 x0_statement_1 x0_hasVoyage_1 y1_flow_1 y2_s_2 y3_sums_1 = some (o_x0_flowLong, o_x0_at, o_x0_from, o_x0_error, o_x0_errorAt, o_x0_statement, o_x0_hasVoyage, o_y1_flow, o_y2_s, o_y3_sums) → va_P g.1 vwCl (w_X9_reads g a0 a1 a2 a3 a4 u0_1 u0_2 u0_3 u0_4 u0_5 u0_6 u0_7 u0_11 u0_12 u0_13 u0_14 u0_15 u0_16 u0_17 u0_18 u0_25 u0_26 u0_29 u0_30 x0_flowLong_1 x0_length x0_at_4 x0_from_4 x0_error_4 x0_errorAt_4 x0_statement_1 x0_hasVoyage_1 y1_flow_1 y2_s_2 y3_sums_1 y4_text) H → va_D A (w_X9_reads g a0 a1 a2 a3 a4 u0_1 u0_2 u0_3 u0_4 u0_5 u0_6 u0_7 u0_11 u0_12 u0_13 u0_14 u0_15 u0_16 u0_17 u0_18 u0_25 u0_26 u0_29 u0_30 x0_flowLong_1 x0_length x0_at_4 x0_from_4 x0_error_4 x0_errorAt_4 x0_statement_1 x0_hasVoyage_1 y1_flow_1 y2_s_2 y3_sums_1 y4_text) → va_S A s.heap H locs → lv_has ls 3 [(0, .ref a0)] → W p l e (RM 12 274) s m args below meth c H locs 0 0 Q (F0 m 51 ls []) := by
      intro n
      induction n with
      | zero =>
        intro x0_flowLong_1 x0_at_4 x0_from_4 x0_error_4 x0_errorAt_4 x0_statement_1 x0_hasVoyage_1 y1_flow_1 y2_s_2 y3_sums_1 H locs ls hf hP hD hS hl
        exact it10_0 hf
      | succ n51 ih51 =>
        intro x0_flowLong_1 x0_at_4 x0_from_4 x0_error_4 x0_errorAt_4 x0_statement_1 x0_hasVoyage_1 y1_flow_1 y2_s_2 y3_sums_1 H locs ls hf hP hD hS hl
        obtain ⟨q51, hf, hk51⟩ := it10_e hf
        have hf := (el51 x0_flowLong_1 x0_at_4 x0_from_4 x0_error_4 x0_errorAt_4 x0_statement_1 x0_hasVoyage_1 y1_flow_1 y2_s_2 y3_sums_1).symm.trans hf
        refine lv_aload_n (pc := 51) hexec hb dX9_reads_51 rfl (lv_at hl 0 rfl) ?_
        obtain ⟨r52, hc, hf⟩ := bd1_e hf
        refine kVp (pc := 52) (S := ⟨hexec, hb, hml, hown, hts⟩) hP hD hG hA hS [0] [1, 2, 3, 4] [4, 0, 1, 2, 3] (w2 := (w_X9_reads g a0 a1 a2 a3 a4 u0_1 u0_2 u0_3 u0_4 u0_5 u0_6 u0_7 u0_11 u0_12 u0_13 u0_14 u0_15 u0_16 u0_17 u0_18 u0_25 u0_26 u0_29 u0_30 x0_flowLong_1 x0_length x0_at_4 x0_from_4 x0_error_4 x0_errorAt_4 x0_statement_1 x0_hasVoyage_1 y1_flow_1 y2_s_2 y3_sums_1 y4_text)) rfl rfl rfl rfl rfl rfl (by decide) (c_X9_isFine l g a0 _ (.ref a2) u0_1 u0_2 u0_3 u0_4 u0_5 u0_6 u0_7 (.ref a3) (.ref a1) (.int x0_flowLong_1) u0_11 u0_12 u0_13 u0_14 u0_15 u0_16 u0_17 u0_18 (.ref a4) (.int x0_length) (.int x0_at_4) (.int x0_from_4) (.int x0_errorAt_4) u0_25 u0_26 (.int x0_statement_1) (.int x0_hasVoyage_1) u0_29 u0_30 x0_error_4 r52 hc) gX9_reads_X9_isFine rfl hv_X9_isFine ⟨nle rfl, nle rfl⟩ 9 0 rfl rfl rfl (rest := []) rfl rfl hl.1 (nle rfl) dX9_reads_52 (fun H locs hP hD hS => ?_)
        refine kb_eq (pc := 55) hexec hb dX9_reads_55 (tgt := 120) rfl hf (fun hc hf => ?_) (fun hc hf => ?_)
        · have hf := mk10 hf hk51
          cases hf
          exact ke_v hQ hexec hb hr hP hD hS dX9_reads_120 hlocks
        · refine lv_aload_n (pc := 58) hexec hb dX9_reads_58 rfl (lv_at hl 0 rfl) ?_
          obtain ⟨r59, x0_at_5, x0_from_5, hc, hf⟩ := bd3_e hf
          refine kVp (pc := 59) (S := ⟨hexec, hb, hml, hown, hts⟩) hP hD hG hA hS [0, 4] [1, 2, 3] [3, 0, 1, 2, 4] (w2 := (w_X9_reads g a0 a1 a2 a3 a4 u0_1 u0_2 u0_3 u0_4 u0_5 u0_6 u0_7 u0_11 u0_12 u0_13 u0_14 u0_15 u0_16 u0_17 u0_18 u0_25 u0_26 u0_29 u0_30 x0_flowLong_1 x0_length x0_at_5 x0_from_5 x0_error_4 x0_errorAt_4 x0_statement_1 x0_hasVoyage_1 y1_flow_1 y2_s_2 y3_sums_1 y4_text)) rfl rfl rfl rfl rfl rfl (by decide) (c_X9_looks l g a0 a4 _ (.ref a2) u0_1 u0_2 u0_3 u0_4 u0_5 u0_6 u0_7 (.ref a3) (.ref a1) (.int x0_flowLong_1) u0_11 u0_12 u0_13 u0_14 u0_15 u0_16 u0_17 u0_18 (.int x0_errorAt_4) u0_25 u0_26 (.int x0_statement_1) (.int x0_hasVoyage_1) u0_29 u0_30 x0_length x0_at_4 x0_from_4 x0_error_4 y4_text r59 x0_at_5 x0_from_5 hc) gX9_reads_X9_looks rfl hv_X9_looks ⟨nle rfl, nle rfl⟩ 9 0 rfl rfl rfl (rest := []) rfl rfl hl.1 (nle rfl) dX9_reads_59 (fun H locs hP hD hS => ?_)
          refine lv_iconst (pc := 62) hexec hb dX9_reads_62 ki_m1 ?_
          refine ki_eq (pc := 63) hexec hb dX9_reads_63 (tgt := 120) rfl hf (fun hc hf => ?_) (fun hc hf => ?_)
          · have hf := mk10 hf hk51
            cases hf
            exact ke_v hQ hexec hb hr hP hD hS dX9_reads_120 hlocks
          · refine lv_aload_n (pc := 66) hexec hb dX9_reads_66 rfl (lv_at hl 0 rfl) ?_
            refine lv_aload_n (pc := 67) hexec hb dX9_reads_67 rfl (lv_at hl 0 rfl) ?_
            refine kg_get (pc := 68) hexec hb (own := RX9) hWX9 hown hG hP 0 rfl rfl 21 (nle rfl) (hts _ (List.mem_cons_of_mem _ (List.mem_append_left _ (List.mem_append_left _ (List.mem_of_getElem? (i := 1) rfl))))) rfl rfl dX9_reads_68 ?_
            obtain ⟨r71, hc, hf⟩ := bd1_e hf
            refine kVp (pc := 71) (S := ⟨hexec, hb, hml, hown, hts⟩) hP hD hG hA hS [0, 4] [1, 2, 3] [3, 0, 1, 2, 4] (w2 := (w_X9_reads g a0 a1 a2 a3 a4 u0_1 u0_2 u0_3 u0_4 u0_5 u0_6 u0_7 u0_11 u0_12 u0_13 u0_14 u0_15 u0_16 u0_17 u0_18 u0_25 u0_26 u0_29 u0_30 x0_flowLong_1 x0_length x0_at_5 x0_from_5 x0_error_4 x0_errorAt_4 x0_statement_1 x0_hasVoyage_1 y1_flow_1 y2_s_2 y3_sums_1 y4_text)) rfl rfl rfl rfl rfl rfl (by decide) (c_X9_byteAt l g a0 a4 _ (.ref a2) u0_1 u0_2 u0_3 u0_4 u0_5 u0_6 u0_7 (.ref a3) (.ref a1) (.int x0_flowLong_1) u0_11 u0_12 u0_13 u0_14 u0_15 u0_16 u0_17 u0_18 (.int x0_at_5) (.int x0_from_5) (.int x0_error_4) (.int x0_errorAt_4) u0_25 u0_26 (.int x0_statement_1) (.int x0_hasVoyage_1) u0_29 u0_30 x0_length y4_text x0_at_5 r71 hc) gX9_reads_X9_byteAt rfl hv_X9_byteAt ⟨nle rfl, nle rfl⟩ 9 0 rfl rfl rfl (rest := []) rfl rfl hl.1 (nle rfl) dX9_reads_71 (fun H locs hP hD hS => ?_)
            refine lv_bipush (pc := 74) hexec hb dX9_reads_74 kb_59 ?_
            refine ki_eq (pc := 76) hexec hb dX9_reads_76 (tgt := 89) rfl hf (fun hc hf => ?_) (fun hc hf => ?_)
            · refine lv_aload_n (pc := 89) hexec hb dX9_reads_89 rfl (lv_at hl 0 rfl) ?_
              refine lv_dup (pc := 90) hexec hb dX9_reads_90 rfl ?_
              refine kg_get (pc := 91) hexec hb (own := RX9) hWX9 hown hG hP 0 rfl rfl 21 (nle rfl) (hts _ (List.mem_cons_of_mem _ (List.mem_append_left _ (List.mem_append_left _ (List.mem_of_getElem? (i := 1) rfl))))) rfl rfl dX9_reads_91 ?_
              refine lv_iconst (pc := 94) hexec hb dX9_reads_94 ki_1 ?_
              refine lv_iadd (pc := 95) hexec hb dX9_reads_95 ?_
              obtain ⟨x0_at_6, ex0_at_6, hf⟩ := bv_e hf
              refine kn_i ex0_at_6 ?_
              refine kp_put (pc := 96) hexec hb (own := RX9) hWX9 tyX9 tyX9_ok nmX9 hown hG hP hD hS 0 rfl rfl 21 (nle rfl) (hts _ (List.mem_cons_of_mem _ (List.mem_append_left _ (List.mem_append_left _ (List.mem_of_getElem? (i := 1) rfl))))) rfl rfl rfl rfl (nle rfl) dX9_reads_96 (fun H locs (hP : va_P g.1 vwCl (w_X9_reads g a0 a1 a2 a3 a4 u0_1 u0_2 u0_3 u0_4 u0_5 u0_6 u0_7 u0_11 u0_12 u0_13 u0_14 u0_15 u0_16 u0_17 u0_18 u0_25 u0_26 u0_29 u0_30 x0_flowLong_1 x0_length x0_at_6 x0_from_5 x0_error_4 x0_errorAt_4 x0_statement_1 x0_hasVoyage_1 y1_flow_1 y2_s_2 y3_sums_1 y4_text) H) (hD : va_D A (w_X9_reads g a0 a1 a2 a3 a4 u0_1 u0_2 u0_3 u0_4 u0_5 u0_6 u0_7 u0_11 u0_12 u0_13 u0_14 u0_15 u0_16 u0_17 u0_18 u0_25 u0_26 u0_29 u0_30 x0_flowLong_1 x0_length x0_at_6 x0_from_5 x0_error_4 x0_errorAt_4 x0_statement_1 x0_hasVoyage_1 y1_flow_1 y2_s_2 y3_sums_1 y4_text)) hS => ?_)
              refine lv_aload_n (pc := 99) hexec hb dX9_reads_99 rfl (lv_at hl 0 rfl) ?_
              refine lv_dup (pc := 100) hexec hb dX9_reads_100 rfl ?_
              refine kg_get (pc := 101) hexec hb (own := RX9) hWX9 hown hG hP 0 rfl rfl 27 (nle rfl) (hts _ (List.mem_cons_of_mem _ (List.mem_append_left _ (List.mem_append_left _ (List.mem_of_getElem? (i := 3) rfl))))) rfl rfl dX9_reads_101 ?_
              refine lv_iconst (pc := 104) hexec hb dX9_reads_104 ki_1 ?_
              refine lv_iadd (pc := 105) hexec hb dX9_reads_105 ?_
              obtain ⟨x0_statement_2, ex0_statement_2, hf⟩ := bv_e hf
              refine kn_i ex0_statement_2 ?_
              refine kp_put (pc := 106) hexec hb (own := RX9) hWX9 tyX9 tyX9_ok nmX9 hown hG hP hD hS 0 rfl rfl 27 (nle rfl) (hts _ (List.mem_cons_of_mem _ (List.mem_append_left _ (List.mem_append_left _ (List.mem_of_getElem? (i := 3) rfl))))) rfl rfl rfl rfl (nle rfl) dX9_reads_106 (fun H locs (hP : va_P g.1 vwCl (w_X9_reads g a0 a1 a2 a3 a4 u0_1 u0_2 u0_3 u0_4 u0_5 u0_6 u0_7 u0_11 u0_12 u0_13 u0_14 u0_15 u0_16 u0_17 u0_18 u0_25 u0_26 u0_29 u0_30 x0_flowLong_1 x0_length x0_at_6 x0_from_5 x0_error_4 x0_errorAt_4 x0_statement_2 x0_hasVoyage_1 y1_flow_1 y2_s_2 y3_sums_1 y4_text) H) (hD : va_D A (w_X9_reads g a0 a1 a2 a3 a4 u0_1 u0_2 u0_3 u0_4 u0_5 u0_6 u0_7 u0_11 u0_12 u0_13 u0_14 u0_15 u0_16 u0_17 u0_18 u0_25 u0_26 u0_29 u0_30 x0_flowLong_1 x0_length x0_at_6 x0_from_5 x0_error_4 x0_errorAt_4 x0_statement_2 x0_hasVoyage_1 y1_flow_1 y2_s_2 y3_sums_1 y4_text)) hS => ?_)
              refine lv_aload_n (pc := 109) hexec hb dX9_reads_109 rfl (lv_at hl 0 rfl) ?_
              obtain ⟨x0_at_7, x0_from_6, hc, hf⟩ := bd2_e hf
              refine kVp (pc := 110) (S := ⟨hexec, hb, hml, hown, hts⟩) hP hD hG hA hS [0, 4] [1, 2, 3] [3, 0, 1, 2, 4] (w2 := (w_X9_reads g a0 a1 a2 a3 a4 u0_1 u0_2 u0_3 u0_4 u0_5 u0_6 u0_7 u0_11 u0_12 u0_13 u0_14 u0_15 u0_16 u0_17 u0_18 u0_25 u0_26 u0_29 u0_30 x0_flowLong_1 x0_length x0_at_7 x0_from_6 x0_error_4 x0_errorAt_4 x0_statement_2 x0_hasVoyage_1 y1_flow_1 y2_s_2 y3_sums_1 y4_text)) rfl rfl rfl rfl rfl rfl (by decide) (c_X9_word l g a0 a4 _ (.ref a2) u0_1 u0_2 u0_3 u0_4 u0_5 u0_6 u0_7 (.ref a3) (.ref a1) (.int x0_flowLong_1) u0_11 u0_12 u0_13 u0_14 u0_15 u0_16 u0_17 u0_18 (.int x0_errorAt_4) u0_25 u0_26 (.int x0_statement_2) (.int x0_hasVoyage_1) u0_29 u0_30 x0_length x0_at_6 x0_from_5 x0_error_4 y4_text x0_at_7 x0_from_6 hc) gX9_reads_X9_word rfl hv_X9_word ⟨nle rfl, nle rfl⟩ 9 0 rfl rfl rfl (rest := []) rfl rfl hl.1 (nle rfl) dX9_reads_110 (fun H locs hP hD hS => ?_)
              refine lv_aload_n (pc := 113) hexec hb dX9_reads_113 rfl (lv_at hl 0 rfl) ?_
              obtain ⟨x0_flowLong_2, x0_at_8, x0_from_7, x0_error_5, x0_errorAt_5, x0_hasVoyage_2, y1_flow_2, y2_s_3, y3_sums_2, hc, hf⟩ := bd9_e hf
              refine kVp (pc := 114) (S := ⟨hexec, hb, hml, hown, hts⟩) hP hD hG hA hS [0, 1, 2, 3, 4] [] [0, 1, 2, 3, 4] (w2 := (w_X9_reads g a0 a1 a2 a3 a4 u0_1 u0_2 u0_3 u0_4 u0_5 u0_6 u0_7 u0_11 u0_12 u0_13 u0_14 u0_15 u0_16 u0_17 u0_18 u0_25 u0_26 u0_29 u0_30 x0_flowLong_2 x0_length x0_at_8 x0_from_7 x0_error_5 x0_errorAt_5 x0_statement_2 x0_hasVoyage_2 y1_flow_2 y2_s_3 y3_sums_2 y4_text)) rfl rfl rfl rfl rfl rfl (by decide) (c_X9_readsOne l g a0 a1 a2 a3 a4 _ u0_1 u0_2 u0_3 u0_4 u0_5 u0_6 u0_7 u0_11 u0_12 u0_13 u0_14 u0_15 u0_16 u0_17 u0_18 u0_25 u0_26 (.int x0_statement_2) u0_29 u0_30 x0_flowLong_1 x0_length x0_at_7 x0_from_6 x0_error_4 x0_errorAt_4 x0_hasVoyage_1 y1_flow_1 y2_s_2 y3_sums_1 y4_text x0_flowLong_2 x0_at_8 x0_from_7 x0_error_5 x0_errorAt_5 x0_hasVoyage_2 y1_flow_2 y2_s_3 y3_sums_2 hc) gX9_reads_X9_readsOne rfl hv_X9_readsOne ⟨nle rfl, nle rfl⟩ 9 0 rfl rfl rfl (rest := []) rfl rfl hl.1 (nle rfl) dX9_reads_114 (fun H locs hP hD hS => ?_)
              refine lv_goto (pc := 117) hexec hb dX9_reads_117 (tgt := 51) rfl ?_
              exact ih51 _ _ _ _ _ _ _ _ _ _ _ _ _ (sl10 hf hk51) hP hD hS (lv_sub hl [0] rfl)
            · have hf := mk10 hf hk51
              refine lv_aload_n (pc := 79) hexec hb dX9_reads_79 rfl (lv_at hl 0 rfl) ?_
              refine lv_iconst (pc := 80) hexec hb dX9_reads_80 ki_1 ?_
              refine lv_aload_n (pc := 81) hexec hb dX9_reads_81 rfl (lv_at hl 0 rfl) ?_
              refine kg_get (pc := 82) hexec hb (own := RX9) hWX9 hown hG hP 0 rfl rfl 22 (nle rfl) (hts _ (List.mem_cons_of_mem _ (List.mem_append_left _ (List.mem_append_left _ (List.mem_of_getElem? (i := 2) rfl))))) rfl rfl dX9_reads_82 ?_
              obtain ⟨x0_error_6, x0_errorAt_6, hc, hf⟩ := bd2_e hf
              refine kVp (pc := 85) (S := ⟨hexec, hb, hml, hown, hts⟩) hP hD hG hA hS [0] [1, 2, 3, 4] [4, 0, 1, 2, 3] (w2 := (w_X9_reads g a0 a1 a2 a3 a4 u0_1 u0_2 u0_3 u0_4 u0_5 u0_6 u0_7 u0_11 u0_12 u0_13 u0_14 u0_15 u0_16 u0_17 u0_18 u0_25 u0_26 u0_29 u0_30 x0_flowLong_1 x0_length x0_at_5 x0_from_5 x0_error_6 x0_errorAt_6 x0_statement_1 x0_hasVoyage_1 y1_flow_1 y2_s_2 y3_sums_1 y4_text)) rfl rfl rfl rfl rfl rfl (by decide) (c_X9_fails l g a0 _ (.ref a2) u0_1 u0_2 u0_3 u0_4 u0_5 u0_6 u0_7 (.ref a3) (.ref a1) (.int x0_flowLong_1) u0_11 u0_12 u0_13 u0_14 u0_15 u0_16 u0_17 u0_18 (.ref a4) (.int x0_length) (.int x0_at_5) (.int x0_from_5) u0_25 u0_26 (.int x0_statement_1) (.int x0_hasVoyage_1) u0_29 u0_30 x0_error_4 x0_errorAt_4 1 x0_from_5 x0_error_6 x0_errorAt_6 hc) gX9_reads_X9_fails rfl hv_X9_fails ⟨nle rfl, nle rfl⟩ 9 0 rfl rfl rfl (rest := []) rfl rfl hl.1 (nle rfl) dX9_reads_85 (fun H locs hP hD hS => ?_)
              cases hf
              exact ke_v hQ hexec hb hr hP hD hS dX9_reads_88 hlocks
    exact hL51 n _ _ _ _ _ _ _ _ _ _ _ _ _ hz hP hD hS (lv_sub hl [2] rfl)
  refine kb_ne (pc := 12) hexec hb dX9_reads_12 (tgt := 19) rfl hf (fun hc hf => ?_) (fun hc hf => ?_)
  · refine lv_iconst (pc := 19) hexec hb dX9_reads_19 ki_0 ?_
    exact hj20 _ _ _ _ hf hP hD hS (lv_sub hl [0] rfl)
  · refine lv_iconst (pc := 15) hexec hb dX9_reads_15 ki_1 ?_
    refine lv_goto (pc := 16) hexec hb dX9_reads_16 (tgt := 20) rfl ?_
    exact hj20 _ _ _ _ hf hP hD hS (lv_sub hl [0] rfl)
abbrev w_X9_load (g : GE) (a0 a1 a2 a3 a4 a5 : Nat) (sr : Nat) (u0_3 u0_4 u0_5 u0_11 u0_12 u0_13 u0_14 u0_15 u0_16 u0_17 u0_18 u0_29 u0_30 : Value) (x0_acts : Int32) (x0_thrown : Int32) (x0_flowLong : Int32) (x0_length : Int32) (x0_at : Int32) (x0_from : Int32) (x0_error : Int32) (x0_errorAt : Int32) (x0_errorKind : Int32) (x0_errorStatement : Int32) (x0_statement : Int32) (x0_hasVoyage : Int32) (y1_draft : Nat → Int32) (y2_flow : Nat → Int32) (y3_now : Nat → Int32) (y4_sums : Nat → Int32) (y5_text : Nat → Int32) : va_W := [(a0, .inr (9, [.ref sr, .ref a3, .ref a1, u0_3, u0_4, u0_5, .int x0_acts, .int x0_thrown, .ref a4, .ref a2, .int x0_flowLong, u0_11, u0_12, u0_13, u0_14, u0_15, u0_16, u0_17, u0_18, .ref a5, .int x0_length, .int x0_at, .int x0_from, .int x0_error, .int x0_errorAt, .int x0_errorKind, .int x0_errorStatement, .int x0_statement, .int x0_hasVoyage, u0_29, u0_30])), (a1, .inl (g.2.1 0, 552, .inl y1_draft)), (a2, .inl (g.2.1 0, 144, .inl y2_flow)), (a3, .inl (g.2.1 0, 552, .inl y3_now)), (a4, .inl (g.2.1 0, 144, .inl y4_sums)), (a5, .inl (g.2.1 0, 500, .inl y5_text))]
set_option maxRecDepth 20000 in
theorem c_X9_load (l : Launch) (g : GE) (a0 a1 a2 a3 a4 a5 : Nat) (sz : Nat) (u0_3 u0_4 u0_5 u0_11 u0_12 u0_13 u0_14 u0_15 u0_16 u0_17 u0_18 u0_29 u0_30 : Value) (x0_acts : Int32) (x0_thrown : Int32) (x0_flowLong : Int32) (x0_length : Int32) (x0_at : Int32) (x0_from : Int32) (x0_error : Int32) (x0_errorAt : Int32) (x0_errorKind : Int32) (x0_errorStatement : Int32) (x0_statement : Int32) (x0_hasVoyage : Int32) (y1_draft : Nat → Int32) (y2_flow : Nat → Int32) (y3_now : Nat → Int32) (y4_sums : Nat → Int32) (y5_text : Nat → Int32)   (r : Int32) (o_x0_acts : Int32) (o_x0_thrown : Int32) (o_x0_flowLong : Int32) (o_x0_length : Int32) (o_x0_at : Int32) (o_x0_from : Int32) (o_x0_error : Int32) (o_x0_errorAt : Int32) (o_x0_errorKind : Int32) (o_x0_errorStatement : Int32) (o_x0_statement : Int32) (o_x0_hasVoyage : Int32) (o_y1_draft : Nat → Int32) (o_y2_flow : Nat → Int32) (o_y3_now : Nat → Int32) (o_y4_sums : Nat → Int32) (hf : f_X9_load x0_acts x0_thrown x0_flowLong x0_length x0_at x0_from x0_error x0_errorAt x0_errorKind x0_errorStatement x0_statement x0_hasVoyage y1_draft y2_flow y3_now y4_sums y5_text = some (r, o_x0_acts, o_x0_thrown, o_x0_flowLong, o_x0_length, o_x0_at, o_x0_from, o_x0_error, o_x0_errorAt, o_x0_errorKind, o_x0_errorStatement, o_x0_statement, o_x0_hasVoyage, o_y1_draft, o_y2_flow, o_y3_now, o_y4_sums)) : MI l g yX9_load wsX9_load 13 296 [.ref a0] (w_X9_load g a0 a1 a2 a3 a4 a5 a3 u0_3 u0_4 u0_5 u0_11 u0_12 u0_13 u0_14 u0_15 u0_16 u0_17 u0_18 u0_29 u0_30 x0_acts x0_thrown x0_flowLong x0_length x0_at x0_from x0_error x0_errorAt x0_errorKind x0_errorStatement x0_statement x0_hasVoyage y1_draft y2_flow y3_now y4_sums y5_text) sz (some (.int r)) (w_X9_load g a0 a1 a2 a3 a4 a5 a3 u0_3 u0_4 u0_5 u0_11 u0_12 u0_13 u0_14 u0_15 u0_16 u0_17 u0_18 u0_29 u0_30 o_x0_acts o_x0_thrown o_x0_flowLong o_x0_length o_x0_at o_x0_from o_x0_error o_x0_errorAt o_x0_errorKind o_x0_errorStatement o_x0_statement o_x0_hasVoyage o_y1_draft o_y2_flow o_y3_now o_y4_sums y5_text) := by
  refine MI.start (cc := cX9_load) (maxL := 1) (ret := (some .int)) rfl rfl (nle rfl) ?_
  intro p e s m args below meth c A ls Q hQ hexec hb hr hts hown hlocks hml hA hP hD hG hS hl
  unfold f_X9_load at hf
  have hWX9 : ∀ w ∈ wsX90, w.before args s = true := fun w h => hts w (List.mem_cons_of_mem _ (List.mem_append_right _ h))
  have hS : va_S A s.heap s.heap [] := hS
  refine lv_aload_n (pc := 0) hexec hb dX9_load_0 rfl (lv_at hl 0 rfl) ?_
  refine lv_iconst (pc := 1) hexec hb dX9_load_1 ki_0 ?_
  refine kp_put (pc := 2) hexec hb (own := RX9) hWX9 tyX9 tyX9_ok nmX9 hown hG hP hD hS 0 rfl rfl 7 (nle rfl) (hts _ (List.mem_cons_of_mem _ (List.mem_append_left _ (List.mem_append_left _ (List.mem_of_getElem? (i := 0) rfl))))) rfl rfl rfl rfl (nle rfl) dX9_load_2 (fun H locs (hP : va_P g.1 vwCl (w_X9_load g a0 a1 a2 a3 a4 a5 a3 u0_3 u0_4 u0_5 u0_11 u0_12 u0_13 u0_14 u0_15 u0_16 u0_17 u0_18 u0_29 u0_30 x0_acts 0 x0_flowLong x0_length x0_at x0_from x0_error x0_errorAt x0_errorKind x0_errorStatement x0_statement x0_hasVoyage y1_draft y2_flow y3_now y4_sums y5_text) H) (hD : va_D A (w_X9_load g a0 a1 a2 a3 a4 a5 a3 u0_3 u0_4 u0_5 u0_11 u0_12 u0_13 u0_14 u0_15 u0_16 u0_17 u0_18 u0_29 u0_30 x0_acts 0 x0_flowLong x0_length x0_at x0_from x0_error x0_errorAt x0_errorKind x0_errorStatement x0_statement x0_hasVoyage y1_draft y2_flow y3_now y4_sums y5_text)) hS => ?_)
  refine lv_aload_n (pc := 5) hexec hb dX9_load_5 rfl (lv_at hl 0 rfl) ?_
  refine lv_iconst (pc := 6) hexec hb dX9_load_6 ki_0 ?_
  refine kp_put (pc := 7) hexec hb (own := RX9) hWX9 tyX9 tyX9_ok nmX9 hown hG hP hD hS 0 rfl rfl 21 (nle rfl) (hts _ (List.mem_cons_of_mem _ (List.mem_append_left _ (List.mem_append_left _ (List.mem_of_getElem? (i := 1) rfl))))) rfl rfl rfl rfl (nle rfl) dX9_load_7 (fun H locs (hP : va_P g.1 vwCl (w_X9_load g a0 a1 a2 a3 a4 a5 a3 u0_3 u0_4 u0_5 u0_11 u0_12 u0_13 u0_14 u0_15 u0_16 u0_17 u0_18 u0_29 u0_30 x0_acts 0 x0_flowLong x0_length 0 x0_from x0_error x0_errorAt x0_errorKind x0_errorStatement x0_statement x0_hasVoyage y1_draft y2_flow y3_now y4_sums y5_text) H) (hD : va_D A (w_X9_load g a0 a1 a2 a3 a4 a5 a3 u0_3 u0_4 u0_5 u0_11 u0_12 u0_13 u0_14 u0_15 u0_16 u0_17 u0_18 u0_29 u0_30 x0_acts 0 x0_flowLong x0_length 0 x0_from x0_error x0_errorAt x0_errorKind x0_errorStatement x0_statement x0_hasVoyage y1_draft y2_flow y3_now y4_sums y5_text)) hS => ?_)
  refine lv_aload_n (pc := 10) hexec hb dX9_load_10 rfl (lv_at hl 0 rfl) ?_
  refine lv_iconst (pc := 11) hexec hb dX9_load_11 ki_0 ?_
  refine kp_put (pc := 12) hexec hb (own := RX9) hWX9 tyX9 tyX9_ok nmX9 hown hG hP hD hS 0 rfl rfl 22 (nle rfl) (hts _ (List.mem_cons_of_mem _ (List.mem_append_left _ (List.mem_append_left _ (List.mem_of_getElem? (i := 2) rfl))))) rfl rfl rfl rfl (nle rfl) dX9_load_12 (fun H locs (hP : va_P g.1 vwCl (w_X9_load g a0 a1 a2 a3 a4 a5 a3 u0_3 u0_4 u0_5 u0_11 u0_12 u0_13 u0_14 u0_15 u0_16 u0_17 u0_18 u0_29 u0_30 x0_acts 0 x0_flowLong x0_length 0 0 x0_error x0_errorAt x0_errorKind x0_errorStatement x0_statement x0_hasVoyage y1_draft y2_flow y3_now y4_sums y5_text) H) (hD : va_D A (w_X9_load g a0 a1 a2 a3 a4 a5 a3 u0_3 u0_4 u0_5 u0_11 u0_12 u0_13 u0_14 u0_15 u0_16 u0_17 u0_18 u0_29 u0_30 x0_acts 0 x0_flowLong x0_length 0 0 x0_error x0_errorAt x0_errorKind x0_errorStatement x0_statement x0_hasVoyage y1_draft y2_flow y3_now y4_sums y5_text)) hS => ?_)
  refine lv_aload_n (pc := 15) hexec hb dX9_load_15 rfl (lv_at hl 0 rfl) ?_
  refine lv_iconst (pc := 16) hexec hb dX9_load_16 ki_0 ?_
  refine kp_put (pc := 17) hexec hb (own := RX9) hWX9 tyX9 tyX9_ok nmX9 hown hG hP hD hS 0 rfl rfl 23 (nle rfl) (hts _ (List.mem_cons_of_mem _ (List.mem_append_left _ (List.mem_append_left _ (List.mem_of_getElem? (i := 3) rfl))))) rfl rfl rfl rfl (nle rfl) dX9_load_17 (fun H locs (hP : va_P g.1 vwCl (w_X9_load g a0 a1 a2 a3 a4 a5 a3 u0_3 u0_4 u0_5 u0_11 u0_12 u0_13 u0_14 u0_15 u0_16 u0_17 u0_18 u0_29 u0_30 x0_acts 0 x0_flowLong x0_length 0 0 0 x0_errorAt x0_errorKind x0_errorStatement x0_statement x0_hasVoyage y1_draft y2_flow y3_now y4_sums y5_text) H) (hD : va_D A (w_X9_load g a0 a1 a2 a3 a4 a5 a3 u0_3 u0_4 u0_5 u0_11 u0_12 u0_13 u0_14 u0_15 u0_16 u0_17 u0_18 u0_29 u0_30 x0_acts 0 x0_flowLong x0_length 0 0 0 x0_errorAt x0_errorKind x0_errorStatement x0_statement x0_hasVoyage y1_draft y2_flow y3_now y4_sums y5_text)) hS => ?_)
  refine lv_aload_n (pc := 20) hexec hb dX9_load_20 rfl (lv_at hl 0 rfl) ?_
  refine lv_iconst (pc := 21) hexec hb dX9_load_21 ki_0 ?_
  refine kp_put (pc := 22) hexec hb (own := RX9) hWX9 tyX9 tyX9_ok nmX9 hown hG hP hD hS 0 rfl rfl 24 (nle rfl) (hts _ (List.mem_cons_of_mem _ (List.mem_append_left _ (List.mem_append_left _ (List.mem_of_getElem? (i := 4) rfl))))) rfl rfl rfl rfl (nle rfl) dX9_load_22 (fun H locs (hP : va_P g.1 vwCl (w_X9_load g a0 a1 a2 a3 a4 a5 a3 u0_3 u0_4 u0_5 u0_11 u0_12 u0_13 u0_14 u0_15 u0_16 u0_17 u0_18 u0_29 u0_30 x0_acts 0 x0_flowLong x0_length 0 0 0 0 x0_errorKind x0_errorStatement x0_statement x0_hasVoyage y1_draft y2_flow y3_now y4_sums y5_text) H) (hD : va_D A (w_X9_load g a0 a1 a2 a3 a4 a5 a3 u0_3 u0_4 u0_5 u0_11 u0_12 u0_13 u0_14 u0_15 u0_16 u0_17 u0_18 u0_29 u0_30 x0_acts 0 x0_flowLong x0_length 0 0 0 0 x0_errorKind x0_errorStatement x0_statement x0_hasVoyage y1_draft y2_flow y3_now y4_sums y5_text)) hS => ?_)
  refine lv_aload_n (pc := 25) hexec hb dX9_load_25 rfl (lv_at hl 0 rfl) ?_
  refine lv_iconst (pc := 26) hexec hb dX9_load_26 ki_0 ?_
  refine kp_put (pc := 27) hexec hb (own := RX9) hWX9 tyX9 tyX9_ok nmX9 hown hG hP hD hS 0 rfl rfl 27 (nle rfl) (hts _ (List.mem_cons_of_mem _ (List.mem_append_left _ (List.mem_append_left _ (List.mem_of_getElem? (i := 5) rfl))))) rfl rfl rfl rfl (nle rfl) dX9_load_27 (fun H locs (hP : va_P g.1 vwCl (w_X9_load g a0 a1 a2 a3 a4 a5 a3 u0_3 u0_4 u0_5 u0_11 u0_12 u0_13 u0_14 u0_15 u0_16 u0_17 u0_18 u0_29 u0_30 x0_acts 0 x0_flowLong x0_length 0 0 0 0 x0_errorKind x0_errorStatement 0 x0_hasVoyage y1_draft y2_flow y3_now y4_sums y5_text) H) (hD : va_D A (w_X9_load g a0 a1 a2 a3 a4 a5 a3 u0_3 u0_4 u0_5 u0_11 u0_12 u0_13 u0_14 u0_15 u0_16 u0_17 u0_18 u0_29 u0_30 x0_acts 0 x0_flowLong x0_length 0 0 0 0 x0_errorKind x0_errorStatement 0 x0_hasVoyage y1_draft y2_flow y3_now y4_sums y5_text)) hS => ?_)
  refine lv_aload_n (pc := 30) hexec hb dX9_load_30 rfl (lv_at hl 0 rfl) ?_
  refine lv_aload_n (pc := 31) hexec hb dX9_load_31 rfl (lv_at hl 0 rfl) ?_
  refine kg_get (pc := 32) hexec hb (own := RX9) hWX9 hown hG hP 0 rfl rfl 2 (nle rfl) (hts _ (List.mem_cons_of_mem _ (List.mem_append_left _ (List.mem_append_left _ (List.mem_of_getElem? (i := 6) rfl))))) rfl rfl dX9_load_32 ?_
  refine kp_put (pc := 35) hexec hb (own := RX9) hWX9 tyX9 tyX9_ok nmX9 hown hG hP hD hS 0 rfl rfl 0 (nle rfl) (hts _ (List.mem_cons_of_mem _ (List.mem_append_left _ (List.mem_append_left _ (List.mem_of_getElem? (i := 7) rfl))))) rfl rfl rfl rfl (nle rfl) dX9_load_35 (fun H locs (hP : va_P g.1 vwCl (w_X9_load g a0 a1 a2 a3 a4 a5 a1 u0_3 u0_4 u0_5 u0_11 u0_12 u0_13 u0_14 u0_15 u0_16 u0_17 u0_18 u0_29 u0_30 x0_acts 0 x0_flowLong x0_length 0 0 0 0 x0_errorKind x0_errorStatement 0 x0_hasVoyage y1_draft y2_flow y3_now y4_sums y5_text) H) (hD : va_D A (w_X9_load g a0 a1 a2 a3 a4 a5 a1 u0_3 u0_4 u0_5 u0_11 u0_12 u0_13 u0_14 u0_15 u0_16 u0_17 u0_18 u0_29 u0_30 x0_acts 0 x0_flowLong x0_length 0 0 0 0 x0_errorKind x0_errorStatement 0 x0_hasVoyage y1_draft y2_flow y3_now y4_sums y5_text)) hS => ?_)
  refine lv_aload_n (pc := 38) hexec hb dX9_load_38 rfl (lv_at hl 0 rfl) ?_
  obtain ⟨x0_flowLong_1, x0_at_1, x0_from_1, x0_error_1, x0_errorAt_1, x0_statement_1, x0_hasVoyage_1, y2_flow_1, y1_draft_1, y4_sums_1, hc, hf⟩ := bd10_e hf
  refine kVp (pc := 39) (S := ⟨hexec, hb, hml, hown, hts⟩) hP hD hG hA hS [0, 2, 1, 4, 5] [3] [1, 3, 2, 0, 4, 5] (w2 := (w_X9_load g a0 a1 a2 a3 a4 a5 a1 u0_3 u0_4 u0_5 u0_11 u0_12 u0_13 u0_14 u0_15 u0_16 u0_17 u0_18 u0_29 u0_30 x0_acts 0 x0_flowLong_1 x0_length x0_at_1 x0_from_1 x0_error_1 x0_errorAt_1 x0_errorKind x0_errorStatement x0_statement_1 x0_hasVoyage_1 y1_draft_1 y2_flow_1 y3_now y4_sums_1 y5_text)) rfl rfl rfl rfl rfl rfl (by decide) (c_X9_reads l g a0 a2 a1 a4 a5 _ (.ref a3) (.ref a1) u0_3 u0_4 u0_5 (.int x0_acts) (.int 0) u0_11 u0_12 u0_13 u0_14 u0_15 u0_16 u0_17 u0_18 (.int x0_errorKind) (.int x0_errorStatement) u0_29 u0_30 x0_flowLong x0_length 0 0 0 0 0 x0_hasVoyage y2_flow y1_draft y4_sums y5_text x0_flowLong_1 x0_at_1 x0_from_1 x0_error_1 x0_errorAt_1 x0_statement_1 x0_hasVoyage_1 y2_flow_1 y1_draft_1 y4_sums_1 hc) gX9_load_X9_reads rfl hv_X9_reads ⟨nle rfl, nle rfl⟩ 9 0 rfl rfl rfl (rest := []) rfl rfl hl.1 (nle rfl) dX9_load_39 (fun H locs hP hD hS => ?_)
  refine lv_aload_n (pc := 42) hexec hb dX9_load_42 rfl (lv_at hl 0 rfl) ?_
  refine lv_aload_n (pc := 43) hexec hb dX9_load_43 rfl (lv_at hl 0 rfl) ?_
  refine kg_get (pc := 44) hexec hb (own := RX9) hWX9 hown hG hP 0 rfl rfl 1 (nle rfl) (hts _ (List.mem_cons_of_mem _ (List.mem_append_left _ (List.mem_append_left _ (List.mem_of_getElem? (i := 8) rfl))))) rfl rfl dX9_load_44 ?_
  refine kp_put (pc := 47) hexec hb (own := RX9) hWX9 tyX9 tyX9_ok nmX9 hown hG hP hD hS 0 rfl rfl 0 (nle rfl) (hts _ (List.mem_cons_of_mem _ (List.mem_append_left _ (List.mem_append_left _ (List.mem_of_getElem? (i := 7) rfl))))) rfl rfl rfl rfl (nle rfl) dX9_load_47 (fun H locs (hP : va_P g.1 vwCl (w_X9_load g a0 a1 a2 a3 a4 a5 a3 u0_3 u0_4 u0_5 u0_11 u0_12 u0_13 u0_14 u0_15 u0_16 u0_17 u0_18 u0_29 u0_30 x0_acts 0 x0_flowLong_1 x0_length x0_at_1 x0_from_1 x0_error_1 x0_errorAt_1 x0_errorKind x0_errorStatement x0_statement_1 x0_hasVoyage_1 y1_draft_1 y2_flow_1 y3_now y4_sums_1 y5_text) H) (hD : va_D A (w_X9_load g a0 a1 a2 a3 a4 a5 a3 u0_3 u0_4 u0_5 u0_11 u0_12 u0_13 u0_14 u0_15 u0_16 u0_17 u0_18 u0_29 u0_30 x0_acts 0 x0_flowLong_1 x0_length x0_at_1 x0_from_1 x0_error_1 x0_errorAt_1 x0_errorKind x0_errorStatement x0_statement_1 x0_hasVoyage_1 y1_draft_1 y2_flow_1 y3_now y4_sums_1 y5_text)) hS => ?_)
  refine lv_aload_n (pc := 50) hexec hb dX9_load_50 rfl (lv_at hl 0 rfl) ?_
  refine lv_iconst (pc := 51) hexec hb dX9_load_51 ki_0 ?_
  refine kp_put (pc := 52) hexec hb (own := RX9) hWX9 tyX9 tyX9_ok nmX9 hown hG hP hD hS 0 rfl rfl 20 (nle rfl) (hts _ (List.mem_cons_of_mem _ (List.mem_append_left _ (List.mem_append_left _ (List.mem_of_getElem? (i := 9) rfl))))) rfl rfl rfl rfl (nle rfl) dX9_load_52 (fun H locs (hP : va_P g.1 vwCl (w_X9_load g a0 a1 a2 a3 a4 a5 a3 u0_3 u0_4 u0_5 u0_11 u0_12 u0_13 u0_14 u0_15 u0_16 u0_17 u0_18 u0_29 u0_30 x0_acts 0 x0_flowLong_1 0 x0_at_1 x0_from_1 x0_error_1 x0_errorAt_1 x0_errorKind x0_errorStatement x0_statement_1 x0_hasVoyage_1 y1_draft_1 y2_flow_1 y3_now y4_sums_1 y5_text) H) (hD : va_D A (w_X9_load g a0 a1 a2 a3 a4 a5 a3 u0_3 u0_4 u0_5 u0_11 u0_12 u0_13 u0_14 u0_15 u0_16 u0_17 u0_18 u0_29 u0_30 x0_acts 0 x0_flowLong_1 0 x0_at_1 x0_from_1 x0_error_1 x0_errorAt_1 x0_errorKind x0_errorStatement x0_statement_1 x0_hasVoyage_1 y1_draft_1 y2_flow_1 y3_now y4_sums_1 y5_text)) hS => ?_)
  refine lv_aload_n (pc := 55) hexec hb dX9_load_55 rfl (lv_at hl 0 rfl) ?_
  refine lv_aload_n (pc := 56) hexec hb dX9_load_56 rfl (lv_at hl 0 rfl) ?_
  refine kg_get (pc := 57) hexec hb (own := RX9) hWX9 hown hG hP 0 rfl rfl 23 (nle rfl) (hts _ (List.mem_cons_of_mem _ (List.mem_append_left _ (List.mem_append_left _ (List.mem_of_getElem? (i := 3) rfl))))) rfl rfl dX9_load_57 ?_
  refine kp_put (pc := 60) hexec hb (own := RX9) hWX9 tyX9 tyX9_ok nmX9 hown hG hP hD hS 0 rfl rfl 25 (nle rfl) (hts _ (List.mem_cons_of_mem _ (List.mem_append_left _ (List.mem_append_left _ (List.mem_of_getElem? (i := 10) rfl))))) rfl rfl rfl rfl (nle rfl) dX9_load_60 (fun H locs (hP : va_P g.1 vwCl (w_X9_load g a0 a1 a2 a3 a4 a5 a3 u0_3 u0_4 u0_5 u0_11 u0_12 u0_13 u0_14 u0_15 u0_16 u0_17 u0_18 u0_29 u0_30 x0_acts 0 x0_flowLong_1 0 x0_at_1 x0_from_1 x0_error_1 x0_errorAt_1 x0_error_1 x0_errorStatement x0_statement_1 x0_hasVoyage_1 y1_draft_1 y2_flow_1 y3_now y4_sums_1 y5_text) H) (hD : va_D A (w_X9_load g a0 a1 a2 a3 a4 a5 a3 u0_3 u0_4 u0_5 u0_11 u0_12 u0_13 u0_14 u0_15 u0_16 u0_17 u0_18 u0_29 u0_30 x0_acts 0 x0_flowLong_1 0 x0_at_1 x0_from_1 x0_error_1 x0_errorAt_1 x0_error_1 x0_errorStatement x0_statement_1 x0_hasVoyage_1 y1_draft_1 y2_flow_1 y3_now y4_sums_1 y5_text)) hS => ?_)
  refine lv_aload_n (pc := 63) hexec hb dX9_load_63 rfl (lv_at hl 0 rfl) ?_
  refine lv_aload_n (pc := 64) hexec hb dX9_load_64 rfl (lv_at hl 0 rfl) ?_
  obtain ⟨r65, hc, hf⟩ := bd1_e hf
  refine kVp (pc := 65) (S := ⟨hexec, hb, hml, hown, hts⟩) hP hD hG hA hS [0] [1, 2, 3, 4, 5] [5, 0, 1, 2, 3, 4] (w2 := (w_X9_load g a0 a1 a2 a3 a4 a5 a3 u0_3 u0_4 u0_5 u0_11 u0_12 u0_13 u0_14 u0_15 u0_16 u0_17 u0_18 u0_29 u0_30 x0_acts 0 x0_flowLong_1 0 x0_at_1 x0_from_1 x0_error_1 x0_errorAt_1 x0_error_1 x0_errorStatement x0_statement_1 x0_hasVoyage_1 y1_draft_1 y2_flow_1 y3_now y4_sums_1 y5_text)) rfl rfl rfl rfl rfl rfl (by decide) (c_X9_isFine l g a0 _ (.ref a3) (.ref a3) (.ref a1) u0_3 u0_4 u0_5 (.int x0_acts) (.int 0) (.ref a4) (.ref a2) (.int x0_flowLong_1) u0_11 u0_12 u0_13 u0_14 u0_15 u0_16 u0_17 u0_18 (.ref a5) (.int 0) (.int x0_at_1) (.int x0_from_1) (.int x0_errorAt_1) (.int x0_error_1) (.int x0_errorStatement) (.int x0_statement_1) (.int x0_hasVoyage_1) u0_29 u0_30 x0_error_1 r65 hc) gX9_load_X9_isFine rfl hv_X9_isFine ⟨nle rfl, nle rfl⟩ 9 0 rfl rfl rfl (rest := [.ref a0]) rfl rfl hl.1 (nle rfl) dX9_load_65 (fun H locs hP hD hS => ?_)
  obtain ⟨j79, ej79, hf⟩ := bvf1 hf
  have hj79 : ∀ (t79 : Int32) (H : Heap) (locs : List Loc) (ls : Array Slot), j79 t79 = some (r, o_x0_acts, o_x0_thrown, o_x0_flowLong, o_x0_length, o_x0_at, o_x0_from, o_x0_error, o_x0_errorAt, o_x0_errorKind, o_x0_errorStatement, o_x0_statement, o_x0_hasVoyage, o_y1_draft, o_y2_flow, o_y3_now, o_y4_sums) → va_P g.1 vwCl (w_X9_load g a0 a1 a2 a3 a4 a5 a3 u0_3 u0_4 u0_5 u0_11 u0_12 u0_13 u0_14 u0_15 u0_16 u0_17 u0_18 u0_29 u0_30 x0_acts 0 x0_flowLong_1 0 x0_at_1 x0_from_1 x0_error_1 x0_errorAt_1 x0_error_1 x0_errorStatement x0_statement_1 x0_hasVoyage_1 y1_draft_1 y2_flow_1 y3_now y4_sums_1 y5_text) H → va_D A (w_X9_load g a0 a1 a2 a3 a4 a5 a3 u0_3 u0_4 u0_5 u0_11 u0_12 u0_13 u0_14 u0_15 u0_16 u0_17 u0_18 u0_29 u0_30 x0_acts 0 x0_flowLong_1 0 x0_at_1 x0_from_1 x0_error_1 x0_errorAt_1 x0_error_1 x0_errorStatement x0_statement_1 x0_hasVoyage_1 y1_draft_1 y2_flow_1 y3_now y4_sums_1 y5_text) → va_S A s.heap H locs → lv_has ls 1 [(0, .ref a0)] → W p l e (RM 13 296) s m args below meth c H locs 0 0 Q (F0 m 79 ls [.int t79, .ref a0]) := by
    intro t79 H locs ls hf hP hD hS hl
    have hf := (ej79 t79).symm.trans hf
    refine kp_put (pc := 79) hexec hb (own := RX9) hWX9 tyX9 tyX9_ok nmX9 hown hG hP hD hS 0 rfl rfl 26 (nle rfl) (hts _ (List.mem_cons_of_mem _ (List.mem_append_left _ (List.mem_append_left _ (List.mem_of_getElem? (i := 11) rfl))))) rfl rfl rfl rfl (nle rfl) dX9_load_79 (fun H locs (hP : va_P g.1 vwCl (w_X9_load g a0 a1 a2 a3 a4 a5 a3 u0_3 u0_4 u0_5 u0_11 u0_12 u0_13 u0_14 u0_15 u0_16 u0_17 u0_18 u0_29 u0_30 x0_acts 0 x0_flowLong_1 0 x0_at_1 x0_from_1 x0_error_1 x0_errorAt_1 x0_error_1 t79 x0_statement_1 x0_hasVoyage_1 y1_draft_1 y2_flow_1 y3_now y4_sums_1 y5_text) H) (hD : va_D A (w_X9_load g a0 a1 a2 a3 a4 a5 a3 u0_3 u0_4 u0_5 u0_11 u0_12 u0_13 u0_14 u0_15 u0_16 u0_17 u0_18 u0_29 u0_30 x0_acts 0 x0_flowLong_1 0 x0_at_1 x0_from_1 x0_error_1 x0_errorAt_1 x0_error_1 t79 x0_statement_1 x0_hasVoyage_1 y1_draft_1 y2_flow_1 y3_now y4_sums_1 y5_text)) hS => ?_)
    refine lv_aload_n (pc := 82) hexec hb dX9_load_82 rfl (lv_at hl 0 rfl) ?_
    obtain ⟨r83, hc, hf⟩ := bd1_e hf
    refine kVp (pc := 83) (S := ⟨hexec, hb, hml, hown, hts⟩) hP hD hG hA hS [0] [1, 2, 3, 4, 5] [5, 0, 1, 2, 3, 4] (w2 := (w_X9_load g a0 a1 a2 a3 a4 a5 a3 u0_3 u0_4 u0_5 u0_11 u0_12 u0_13 u0_14 u0_15 u0_16 u0_17 u0_18 u0_29 u0_30 x0_acts 0 x0_flowLong_1 0 x0_at_1 x0_from_1 x0_error_1 x0_errorAt_1 x0_error_1 t79 x0_statement_1 x0_hasVoyage_1 y1_draft_1 y2_flow_1 y3_now y4_sums_1 y5_text)) rfl rfl rfl rfl rfl rfl (by decide) (c_X9_isFine l g a0 _ (.ref a3) (.ref a3) (.ref a1) u0_3 u0_4 u0_5 (.int x0_acts) (.int 0) (.ref a4) (.ref a2) (.int x0_flowLong_1) u0_11 u0_12 u0_13 u0_14 u0_15 u0_16 u0_17 u0_18 (.ref a5) (.int 0) (.int x0_at_1) (.int x0_from_1) (.int x0_errorAt_1) (.int x0_error_1) (.int t79) (.int x0_statement_1) (.int x0_hasVoyage_1) u0_29 u0_30 x0_error_1 r83 hc) gX9_load_X9_isFine rfl hv_X9_isFine ⟨nle rfl, nle rfl⟩ 9 0 rfl rfl rfl (rest := []) rfl rfl hl.1 (nle rfl) dX9_load_83 (fun H locs hP hD hS => ?_)
    refine kb_ne (pc := 86) hexec hb dX9_load_86 (tgt := 97) rfl hf (fun hc hf => ?_) (fun hc hf => ?_)
    · refine lv_aload_n (pc := 97) hexec hb dX9_load_97 rfl (lv_at hl 0 rfl) ?_
      refine kg_get (pc := 98) hexec hb (own := RX9) hWX9 hown hG hP 0 rfl rfl 2 (nle rfl) (hts _ (List.mem_cons_of_mem _ (List.mem_append_left _ (List.mem_append_left _ (List.mem_of_getElem? (i := 6) rfl))))) rfl rfl dX9_load_98 ?_
      refine lv_iconst (pc := 101) hexec hb dX9_load_101 ki_0 ?_
      refine lv_aload_n (pc := 102) hexec hb dX9_load_102 rfl (lv_at hl 0 rfl) ?_
      refine kg_get (pc := 103) hexec hb (own := RX9) hWX9 hown hG hP 0 rfl rfl 0 (nle rfl) (hts _ (List.mem_cons_of_mem _ (List.mem_append_left _ (List.mem_append_left _ (List.mem_of_getElem? (i := 7) rfl))))) rfl rfl dX9_load_103 ?_
      refine lv_iconst (pc := 106) hexec hb dX9_load_106 ki_0 ?_
      obtain ⟨y3_now_1, hc, hf⟩ := bd1_e hf
      refine kSp (pc := 107) (S := ⟨hexec, hb, hml, hown, hts⟩) hP hD hG hA hS [1, 3] [0, 2, 4, 5] [0, 4, 1, 5, 2, 3] (w2 := (w_X9_load g a0 a1 a2 a3 a4 a5 a3 u0_3 u0_4 u0_5 u0_11 u0_12 u0_13 u0_14 u0_15 u0_16 u0_17 u0_18 u0_29 u0_30 x0_acts 0 x0_flowLong_1 0 x0_at_1 x0_from_1 x0_error_1 x0_errorAt_1 x0_error_1 t79 x0_statement_1 x0_hasVoyage_1 y1_draft_1 y2_flow_1 y3_now_1 y4_sums_1 y5_text)) rfl rfl rfl rfl rfl rfl (by decide) (c_X9_copies l g a1 a3 _ 552 552 y1_draft_1 y3_now 0 0 y3_now_1 hc) gX9_load_X9_copies rfl hs_X9_copies ⟨nle rfl, nle rfl⟩ (rest := []) rfl rfl hl.1 (nle rfl) dX9_load_107 (fun H locs hP hD hS => ?_)
      refine lv_aload_n (pc := 110) hexec hb dX9_load_110 rfl (lv_at hl 0 rfl) ?_
      refine lv_iconst (pc := 111) hexec hb dX9_load_111 ki_0 ?_
      refine kp_put (pc := 112) hexec hb (own := RX9) hWX9 tyX9 tyX9_ok nmX9 hown hG hP hD hS 0 rfl rfl 6 (nle rfl) (hts _ (List.mem_cons_of_mem _ (List.mem_append_left _ (List.mem_append_left _ (List.mem_of_getElem? (i := 12) rfl))))) rfl rfl rfl rfl (nle rfl) dX9_load_112 (fun H locs (hP : va_P g.1 vwCl (w_X9_load g a0 a1 a2 a3 a4 a5 a3 u0_3 u0_4 u0_5 u0_11 u0_12 u0_13 u0_14 u0_15 u0_16 u0_17 u0_18 u0_29 u0_30 0 0 x0_flowLong_1 0 x0_at_1 x0_from_1 x0_error_1 x0_errorAt_1 x0_error_1 t79 x0_statement_1 x0_hasVoyage_1 y1_draft_1 y2_flow_1 y3_now_1 y4_sums_1 y5_text) H) (hD : va_D A (w_X9_load g a0 a1 a2 a3 a4 a5 a3 u0_3 u0_4 u0_5 u0_11 u0_12 u0_13 u0_14 u0_15 u0_16 u0_17 u0_18 u0_29 u0_30 0 0 x0_flowLong_1 0 x0_at_1 x0_from_1 x0_error_1 x0_errorAt_1 x0_error_1 t79 x0_statement_1 x0_hasVoyage_1 y1_draft_1 y2_flow_1 y3_now_1 y4_sums_1 y5_text)) hS => ?_)
      refine lv_aload_n (pc := 115) hexec hb dX9_load_115 rfl (lv_at hl 0 rfl) ?_
      refine kg_get (pc := 116) hexec hb (own := RX9) hWX9 hown hG hP 0 rfl rfl 0 (nle rfl) (hts _ (List.mem_cons_of_mem _ (List.mem_append_left _ (List.mem_append_left _ (List.mem_of_getElem? (i := 7) rfl))))) rfl rfl dX9_load_116 ?_
      refine lv_iconst (pc := 119) hexec hb dX9_load_119 ki_2 ?_
      refine kr_iald (pc := 120) hexec hb hG hP 3 rfl hf dX9_load_120 (fun hf => ?_)
      simp only [Option.some.injEq, Prod.mk.injEq] at hf
      obtain ⟨rfl, rfl, rfl, rfl, rfl, rfl, rfl, rfl, rfl, rfl, rfl, rfl, rfl, rfl, rfl, rfl, rfl⟩ := hf
      exact ke_i hQ hexec hb hr hP hD hS dX9_load_121 hlocks
    · refine lv_bipush (pc := 89) hexec hb dX9_load_89 kb_m100 ?_
      refine lv_aload_n (pc := 91) hexec hb dX9_load_91 rfl (lv_at hl 0 rfl) ?_
      refine kg_get (pc := 92) hexec hb (own := RX9) hWX9 hown hG hP 0 rfl rfl 24 (nle rfl) (hts _ (List.mem_cons_of_mem _ (List.mem_append_left _ (List.mem_append_left _ (List.mem_of_getElem? (i := 4) rfl))))) rfl rfl dX9_load_92 ?_
      refine lv_isub (pc := 95) hexec hb dX9_load_95 ?_
      simp only [Option.some.injEq, Prod.mk.injEq] at hf
      obtain ⟨rfl, rfl, rfl, rfl, rfl, rfl, rfl, rfl, rfl, rfl, rfl, rfl, rfl, rfl, rfl, rfl, rfl⟩ := hf
      exact ke_i hQ hexec hb hr hP hD hS dX9_load_96 hlocks
  refine kb_eq (pc := 68) hexec hb dX9_load_68 (tgt := 75) rfl hf (fun hc hf => ?_) (fun hc hf => ?_)
  · refine lv_aload_n (pc := 75) hexec hb dX9_load_75 rfl (lv_at hl 0 rfl) ?_
    refine kg_get (pc := 76) hexec hb (own := RX9) hWX9 hown hG hP 0 rfl rfl 27 (nle rfl) (hts _ (List.mem_cons_of_mem _ (List.mem_append_left _ (List.mem_append_left _ (List.mem_of_getElem? (i := 5) rfl))))) rfl rfl dX9_load_76 ?_
    exact hj79 _ _ _ _ hf hP hD hS (lv_sub hl [0] rfl)
  · refine lv_iconst (pc := 71) hexec hb dX9_load_71 ki_m1 ?_
    refine lv_goto (pc := 72) hexec hb dX9_load_72 (tgt := 79) rfl ?_
    exact hj79 _ _ _ _ hf hP hD hS (lv_sub hl [0] rfl)
abbrev w_X9_loadError (g : GE) (a0 : Nat) (u0_0 u0_1 u0_2 u0_3 u0_4 u0_5 u0_6 u0_8 u0_9 u0_10 u0_11 u0_12 u0_13 u0_14 u0_15 u0_16 u0_17 u0_18 u0_19 u0_20 u0_21 u0_22 u0_23 u0_24 u0_26 u0_27 u0_28 u0_29 u0_30 : Value) (x0_thrown : Int32) (x0_errorKind : Int32) : va_W := [(a0, .inr (9, [u0_0, u0_1, u0_2, u0_3, u0_4, u0_5, u0_6, .int x0_thrown, u0_8, u0_9, u0_10, u0_11, u0_12, u0_13, u0_14, u0_15, u0_16, u0_17, u0_18, u0_19, u0_20, u0_21, u0_22, u0_23, u0_24, .int x0_errorKind, u0_26, u0_27, u0_28, u0_29, u0_30]))]
set_option maxRecDepth 20000 in
theorem c_X9_loadError (l : Launch) (g : GE) (a0 : Nat) (sz : Nat) (u0_0 u0_1 u0_2 u0_3 u0_4 u0_5 u0_6 u0_8 u0_9 u0_10 u0_11 u0_12 u0_13 u0_14 u0_15 u0_16 u0_17 u0_18 u0_19 u0_20 u0_21 u0_22 u0_23 u0_24 u0_26 u0_27 u0_28 u0_29 u0_30 : Value) (x0_thrown : Int32) (x0_errorKind : Int32)   (r : Int32) (o_x0_thrown : Int32) (hf : f_X9_loadError x0_thrown x0_errorKind = some (r, o_x0_thrown)) : MI l g yX9_loadError wsX9_loadError 1 24 [.ref a0] (w_X9_loadError g a0 u0_0 u0_1 u0_2 u0_3 u0_4 u0_5 u0_6 u0_8 u0_9 u0_10 u0_11 u0_12 u0_13 u0_14 u0_15 u0_16 u0_17 u0_18 u0_19 u0_20 u0_21 u0_22 u0_23 u0_24 u0_26 u0_27 u0_28 u0_29 u0_30 x0_thrown x0_errorKind) sz (some (.int r)) (w_X9_loadError g a0 u0_0 u0_1 u0_2 u0_3 u0_4 u0_5 u0_6 u0_8 u0_9 u0_10 u0_11 u0_12 u0_13 u0_14 u0_15 u0_16 u0_17 u0_18 u0_19 u0_20 u0_21 u0_22 u0_23 u0_24 u0_26 u0_27 u0_28 u0_29 u0_30 o_x0_thrown x0_errorKind) := by
  refine MI.start (cc := cX9_loadError) (maxL := 1) (ret := (some .int)) rfl rfl (nle rfl) ?_
  intro p e s m args below meth c A ls Q hQ hexec hb hr hts hown hlocks hml hA hP hD hG hS hl
  unfold f_X9_loadError at hf
  have hWX9 : ∀ w ∈ wsX90, w.before args s = true := fun w h => hts w (List.mem_cons_of_mem _ (List.mem_append_right _ h))
  have hS : va_S A s.heap s.heap [] := hS
  refine lv_aload_n (pc := 0) hexec hb dX9_loadError_0 rfl (lv_at hl 0 rfl) ?_
  refine lv_iconst (pc := 1) hexec hb dX9_loadError_1 ki_0 ?_
  refine kp_put (pc := 2) hexec hb (own := RX9) hWX9 tyX9 tyX9_ok nmX9 hown hG hP hD hS 0 rfl rfl 7 (nle rfl) (hts _ (List.mem_cons_of_mem _ (List.mem_append_left _ (List.mem_of_getElem? (i := 0) rfl)))) rfl rfl rfl rfl (nle rfl) dX9_loadError_2 (fun H locs (hP : va_P g.1 vwCl (w_X9_loadError g a0 u0_0 u0_1 u0_2 u0_3 u0_4 u0_5 u0_6 u0_8 u0_9 u0_10 u0_11 u0_12 u0_13 u0_14 u0_15 u0_16 u0_17 u0_18 u0_19 u0_20 u0_21 u0_22 u0_23 u0_24 u0_26 u0_27 u0_28 u0_29 u0_30 0 x0_errorKind) H) (hD : va_D A (w_X9_loadError g a0 u0_0 u0_1 u0_2 u0_3 u0_4 u0_5 u0_6 u0_8 u0_9 u0_10 u0_11 u0_12 u0_13 u0_14 u0_15 u0_16 u0_17 u0_18 u0_19 u0_20 u0_21 u0_22 u0_23 u0_24 u0_26 u0_27 u0_28 u0_29 u0_30 0 x0_errorKind)) hS => ?_)
  refine lv_aload_n (pc := 5) hexec hb dX9_loadError_5 rfl (lv_at hl 0 rfl) ?_
  refine kg_get (pc := 6) hexec hb (own := RX9) hWX9 hown hG hP 0 rfl rfl 25 (nle rfl) (hts _ (List.mem_cons_of_mem _ (List.mem_append_left _ (List.mem_of_getElem? (i := 1) rfl)))) rfl rfl dX9_loadError_6 ?_
  cases hf
  exact ke_i hQ hexec hb hr hP hD hS dX9_loadError_9 hlocks
abbrev w_X9_loadStatement (g : GE) (a0 : Nat) (u0_0 u0_1 u0_2 u0_3 u0_4 u0_5 u0_6 u0_8 u0_9 u0_10 u0_11 u0_12 u0_13 u0_14 u0_15 u0_16 u0_17 u0_18 u0_19 u0_20 u0_21 u0_22 u0_23 u0_24 u0_25 u0_27 u0_28 u0_29 u0_30 : Value) (x0_thrown : Int32) (x0_errorStatement : Int32) : va_W := [(a0, .inr (9, [u0_0, u0_1, u0_2, u0_3, u0_4, u0_5, u0_6, .int x0_thrown, u0_8, u0_9, u0_10, u0_11, u0_12, u0_13, u0_14, u0_15, u0_16, u0_17, u0_18, u0_19, u0_20, u0_21, u0_22, u0_23, u0_24, u0_25, .int x0_errorStatement, u0_27, u0_28, u0_29, u0_30]))]
set_option maxRecDepth 20000 in
theorem c_X9_loadStatement (l : Launch) (g : GE) (a0 : Nat) (sz : Nat) (u0_0 u0_1 u0_2 u0_3 u0_4 u0_5 u0_6 u0_8 u0_9 u0_10 u0_11 u0_12 u0_13 u0_14 u0_15 u0_16 u0_17 u0_18 u0_19 u0_20 u0_21 u0_22 u0_23 u0_24 u0_25 u0_27 u0_28 u0_29 u0_30 : Value) (x0_thrown : Int32) (x0_errorStatement : Int32)   (r : Int32) (o_x0_thrown : Int32) (hf : f_X9_loadStatement x0_thrown x0_errorStatement = some (r, o_x0_thrown)) : MI l g yX9_loadStatement wsX9_loadStatement 1 24 [.ref a0] (w_X9_loadStatement g a0 u0_0 u0_1 u0_2 u0_3 u0_4 u0_5 u0_6 u0_8 u0_9 u0_10 u0_11 u0_12 u0_13 u0_14 u0_15 u0_16 u0_17 u0_18 u0_19 u0_20 u0_21 u0_22 u0_23 u0_24 u0_25 u0_27 u0_28 u0_29 u0_30 x0_thrown x0_errorStatement) sz (some (.int r)) (w_X9_loadStatement g a0 u0_0 u0_1 u0_2 u0_3 u0_4 u0_5 u0_6 u0_8 u0_9 u0_10 u0_11 u0_12 u0_13 u0_14 u0_15 u0_16 u0_17 u0_18 u0_19 u0_20 u0_21 u0_22 u0_23 u0_24 u0_25 u0_27 u0_28 u0_29 u0_30 o_x0_thrown x0_errorStatement) := by
  refine MI.start (cc := cX9_loadStatement) (maxL := 1) (ret := (some .int)) rfl rfl (nle rfl) ?_
  intro p e s m args below meth c A ls Q hQ hexec hb hr hts hown hlocks hml hA hP hD hG hS hl
  unfold f_X9_loadStatement at hf
  have hWX9 : ∀ w ∈ wsX90, w.before args s = true := fun w h => hts w (List.mem_cons_of_mem _ (List.mem_append_right _ h))
  have hS : va_S A s.heap s.heap [] := hS
  refine lv_aload_n (pc := 0) hexec hb dX9_loadStatement_0 rfl (lv_at hl 0 rfl) ?_
  refine lv_iconst (pc := 1) hexec hb dX9_loadStatement_1 ki_0 ?_
  refine kp_put (pc := 2) hexec hb (own := RX9) hWX9 tyX9 tyX9_ok nmX9 hown hG hP hD hS 0 rfl rfl 7 (nle rfl) (hts _ (List.mem_cons_of_mem _ (List.mem_append_left _ (List.mem_of_getElem? (i := 0) rfl)))) rfl rfl rfl rfl (nle rfl) dX9_loadStatement_2 (fun H locs (hP : va_P g.1 vwCl (w_X9_loadStatement g a0 u0_0 u0_1 u0_2 u0_3 u0_4 u0_5 u0_6 u0_8 u0_9 u0_10 u0_11 u0_12 u0_13 u0_14 u0_15 u0_16 u0_17 u0_18 u0_19 u0_20 u0_21 u0_22 u0_23 u0_24 u0_25 u0_27 u0_28 u0_29 u0_30 0 x0_errorStatement) H) (hD : va_D A (w_X9_loadStatement g a0 u0_0 u0_1 u0_2 u0_3 u0_4 u0_5 u0_6 u0_8 u0_9 u0_10 u0_11 u0_12 u0_13 u0_14 u0_15 u0_16 u0_17 u0_18 u0_19 u0_20 u0_21 u0_22 u0_23 u0_24 u0_25 u0_27 u0_28 u0_29 u0_30 0 x0_errorStatement)) hS => ?_)
  refine lv_aload_n (pc := 5) hexec hb dX9_loadStatement_5 rfl (lv_at hl 0 rfl) ?_
  refine kg_get (pc := 6) hexec hb (own := RX9) hWX9 hown hG hP 0 rfl rfl 26 (nle rfl) (hts _ (List.mem_cons_of_mem _ (List.mem_append_left _ (List.mem_of_getElem? (i := 1) rfl)))) rfl rfl dX9_loadStatement_6 ?_
  cases hf
  exact ke_i hQ hexec hb hr hP hD hS dX9_loadStatement_9 hlocks
abbrev w_X9_landCells (g : GE) (a0 a1 : Nat) (u0_1 u0_2 u0_3 u0_4 u0_5 u0_6 u0_7 u0_8 u0_9 u0_10 u0_11 u0_12 u0_13 u0_14 u0_15 u0_16 u0_17 u0_18 u0_19 u0_20 u0_21 u0_22 u0_23 u0_24 u0_25 u0_26 u0_27 u0_28 u0_29 u0_30 : Value) (y1_s : Nat → Int32) : va_W := [(a0, .inr (9, [.ref a1, u0_1, u0_2, u0_3, u0_4, u0_5, u0_6, u0_7, u0_8, u0_9, u0_10, u0_11, u0_12, u0_13, u0_14, u0_15, u0_16, u0_17, u0_18, u0_19, u0_20, u0_21, u0_22, u0_23, u0_24, u0_25, u0_26, u0_27, u0_28, u0_29, u0_30])), (a1, .inl (g.2.1 0, 552, .inl y1_s))]
set_option maxRecDepth 20000 in
theorem c_X9_landCells (l : Launch) (g : GE) (a0 a1 : Nat) (sz : Nat) (u0_1 u0_2 u0_3 u0_4 u0_5 u0_6 u0_7 u0_8 u0_9 u0_10 u0_11 u0_12 u0_13 u0_14 u0_15 u0_16 u0_17 u0_18 u0_19 u0_20 u0_21 u0_22 u0_23 u0_24 u0_25 u0_26 u0_27 u0_28 u0_29 u0_30 : Value) (y1_s : Nat → Int32)   (r : Int32) (hf : f_X9_landCells y1_s = some r) : MI l g yX9_landCells wsX9_landCells 2 44 [.ref a0] (w_X9_landCells g a0 a1 u0_1 u0_2 u0_3 u0_4 u0_5 u0_6 u0_7 u0_8 u0_9 u0_10 u0_11 u0_12 u0_13 u0_14 u0_15 u0_16 u0_17 u0_18 u0_19 u0_20 u0_21 u0_22 u0_23 u0_24 u0_25 u0_26 u0_27 u0_28 u0_29 u0_30 y1_s) sz (some (.int r)) (w_X9_landCells g a0 a1 u0_1 u0_2 u0_3 u0_4 u0_5 u0_6 u0_7 u0_8 u0_9 u0_10 u0_11 u0_12 u0_13 u0_14 u0_15 u0_16 u0_17 u0_18 u0_19 u0_20 u0_21 u0_22 u0_23 u0_24 u0_25 u0_26 u0_27 u0_28 u0_29 u0_30 y1_s) := by
  refine MI.start (cc := cX9_landCells) (maxL := 3) (ret := (some .int)) rfl rfl (nle rfl) ?_
  intro p e s m args below meth c A ls Q hQ hexec hb hr hts hown hlocks hml hA hP hD hG hS hl
  unfold f_X9_landCells at hf
  have hWX9 : ∀ w ∈ wsX90, w.before args s = true := fun w h => hts w (List.mem_cons_of_mem _ (List.mem_append_right _ h))
  have hS : va_S A s.heap s.heap [] := hS
  refine lv_iconst (pc := 0) hexec hb dX9_landCells_0 ki_0 ?_
  refine lv_istore_n (pc := 1) hexec hb dX9_landCells_1 rfl hl (nle rfl) rfl (fun ls (hl : lv_has ls 3 [(1, .int 0), (0, .ref a0)]) => ?_)
  refine lv_iconst (pc := 2) hexec hb dX9_landCells_2 ki_0 ?_
  refine lv_istore_n (pc := 3) hexec hb dX9_landCells_3 rfl hl (nle rfl) rfl (fun ls (hl : lv_has ls 3 [(2, .int 0), (1, .int 0), (0, .ref a0)]) => ?_)
  obtain ⟨l4, el4, hf⟩ := bvf2 hf
  obtain ⟨v1_1, hz, hf⟩ := bd1_e hf
  have hE4 : ∀ (H : Heap) (locs : List Loc) (ls : Array Slot), va_P g.1 vwCl (w_X9_landCells g a0 a1 u0_1 u0_2 u0_3 u0_4 u0_5 u0_6 u0_7 u0_8 u0_9 u0_10 u0_11 u0_12 u0_13 u0_14 u0_15 u0_16 u0_17 u0_18 u0_19 u0_20 u0_21 u0_22 u0_23 u0_24 u0_25 u0_26 u0_27 u0_28 u0_29 u0_30 y1_s) H → va_D A (w_X9_landCells g a0 a1 u0_1 u0_2 u0_3 u0_4 u0_5 u0_6 u0_7 u0_8 u0_9 u0_10 u0_11 u0_12 u0_13 u0_14 u0_15 u0_16 u0_17 u0_18 u0_19 u0_20 u0_21 u0_22 u0_23 u0_24 u0_25 u0_26 u0_27 u0_28 u0_29 u0_30 y1_s) → va_S A s.heap H locs → lv_has ls 3 [(1, .int v1_1)] → W p l e (RM 2 44) s m args below meth c H locs 0 0 Q (F0 m 30 ls []) := by
    intro H locs ls hP hD hS hl
    refine lv_iload_n (pc := 30) hexec hb dX9_landCells_30 rfl (lv_at hl 0 rfl) ?_
    cases hf
    exact ke_i hQ hexec hb hr hP hD hS dX9_landCells_31 hlocks
  obtain ⟨n, hz⟩ := lq2_e hz
  have hL4 : ∀ (n : Nat) (v1 : Int32) (v2 : Int32) (H : Heap) (locs : List Loc) (ls : Array Slot), it2 l4 n v1 v2 = some v1_1 → va_P g.1 vwCl (w_X9_landCells g a0 a1 u0_1 u0_2 u0_3 u0_4 u0_5 u0_6 u0_7 u0_8 u0_9 u0_10 u0_11 u0_12 u0_13 u0_14 u0_15 u0_16 u0_17 u0_18 u0_19 u0_20 u0_21 u0_22 u0_23 u0_24 u0_25 u0_26 u0_27 u0_28 u0_29 u0_30 y1_s) H → va_D A (w_X9_landCells g a0 a1 u0_1 u0_2 u0_3 u0_4 u0_5 u0_6 u0_7 u0_8 u0_9 u0_10 u0_11 u0_12 u0_13 u0_14 u0_15 u0_16 u0_17 u0_18 u0_19 u0_20 u0_21 u0_22 u0_23 u0_24 u0_25 u0_26 u0_27 u0_28 u0_29 u0_30 y1_s) → va_S A s.heap H locs → lv_has ls 3 [(0, .ref a0), (1, .int v1), (2, .int v2)] → W p l e (RM 2 44) s m args below meth c H locs 0 0 Q (F0 m 4 ls []) := by
    intro n
    induction n with
    | zero =>
      intro v1 v2 H locs ls hf hP hD hS hl
      exact it2_0 hf
    | succ n4 ih4 =>
      intro v1 v2 H locs ls hf hP hD hS hl
      obtain ⟨q4, hf, hk4⟩ := it2_e hf
      have hf := (el4 v1 v2).symm.trans hf
      refine lv_iload_n (pc := 4) hexec hb dX9_landCells_4 rfl (lv_at hl 2 rfl) ?_
      refine lv_aload_n (pc := 5) hexec hb dX9_landCells_5 rfl (lv_at hl 0 rfl) ?_
      obtain ⟨r6, hc, hf⟩ := bd1_e hf
      refine kVp (pc := 6) (S := ⟨hexec, hb, hml, hown, hts⟩) hP hD hG hA hS [0, 1] [] [0, 1] (w2 := (w_X9_landCells g a0 a1 u0_1 u0_2 u0_3 u0_4 u0_5 u0_6 u0_7 u0_8 u0_9 u0_10 u0_11 u0_12 u0_13 u0_14 u0_15 u0_16 u0_17 u0_18 u0_19 u0_20 u0_21 u0_22 u0_23 u0_24 u0_25 u0_26 u0_27 u0_28 u0_29 u0_30 y1_s)) rfl rfl rfl rfl rfl rfl (by decide) (c_X9_cells l g a0 a1 _ u0_1 u0_2 u0_3 u0_4 u0_5 u0_6 u0_7 u0_8 u0_9 u0_10 u0_11 u0_12 u0_13 u0_14 u0_15 u0_16 u0_17 u0_18 u0_19 u0_20 u0_21 u0_22 u0_23 u0_24 u0_25 u0_26 u0_27 u0_28 u0_29 u0_30 y1_s r6 hc) gX9_landCells_X9_cells rfl hv_X9_cells ⟨nle rfl, nle rfl⟩ 9 0 rfl rfl rfl (rest := [.int v2]) rfl rfl hl.1 (nle rfl) dX9_landCells_6 (fun H locs hP hD hS => ?_)
      refine ki_ge (pc := 9) hexec hb dX9_landCells_9 (tgt := 30) rfl hf (fun hc hf => ?_) (fun hc hf => ?_)
      · cases sr2 hf hk4
        exact hE4 _ _ _ hP hD hS (lv_sub hl [1] rfl)
      · refine lv_iload_n (pc := 12) hexec hb dX9_landCells_12 rfl (lv_at hl 1 rfl) ?_
        refine lv_aload_n (pc := 13) hexec hb dX9_landCells_13 rfl (lv_at hl 0 rfl) ?_
        refine kg_get (pc := 14) hexec hb (own := RX9) hWX9 hown hG hP 0 rfl rfl 0 (nle rfl) (hts _ (List.mem_cons_of_mem _ (List.mem_append_left _ (List.mem_of_getElem? (i := 0) rfl)))) rfl rfl dX9_landCells_14 ?_
        refine lv_bipush (pc := 17) hexec hb dX9_landCells_17 kb_8 ?_
        refine lv_iload_n (pc := 19) hexec hb dX9_landCells_19 rfl (lv_at hl 2 rfl) ?_
        refine lv_iadd (pc := 20) hexec hb dX9_landCells_20 ?_
        refine kr_iald (pc := 21) hexec hb hG hP 1 rfl hf dX9_landCells_21 (fun hf => ?_)
        refine lv_iadd (pc := 22) hexec hb dX9_landCells_22 ?_
        obtain ⟨v1_2, ev1_2, hf⟩ := bv_e hf
        refine kn_i ev1_2 ?_
        refine lv_istore_n (pc := 23) hexec hb dX9_landCells_23 rfl hl (nle rfl) rfl (fun ls (hl : lv_has ls 3 [(1, .int v1_2), (0, .ref a0), (2, .int v2)]) => ?_)
        obtain ⟨v2_1, ev2_1, hf⟩ := bv_e hf
        refine k_iinc (pc := 24) hexec hb dX9_landCells_24 kq_1 hl (k := 2) rfl ev2_1 (nle rfl) rfl (fun ls (hl : lv_has ls 3 [(2, .int v2_1), (1, .int v1_2), (0, .ref a0)]) => ?_)
        refine lv_goto (pc := 27) hexec hb dX9_landCells_27 (tgt := 4) rfl ?_
        exact ih4 _ _ _ _ _ (sl2 hf hk4) hP hD hS (lv_sub hl [2, 1, 0] rfl)
  exact hL4 n _ _ _ _ _ hz hP hD hS (lv_sub hl [2, 1, 0] rfl)
abbrev w_X9_placedNow (g : GE) (a0 a1 : Nat) (u0_1 u0_2 u0_3 u0_4 u0_5 u0_6 u0_7 u0_8 u0_9 u0_10 u0_11 u0_12 u0_13 u0_14 u0_15 u0_16 u0_17 u0_18 u0_19 u0_20 u0_21 u0_22 u0_23 u0_24 u0_25 u0_26 u0_27 u0_28 u0_29 u0_30 : Value) (y1_s : Nat → Int32) : va_W := [(a0, .inr (9, [.ref a1, u0_1, u0_2, u0_3, u0_4, u0_5, u0_6, u0_7, u0_8, u0_9, u0_10, u0_11, u0_12, u0_13, u0_14, u0_15, u0_16, u0_17, u0_18, u0_19, u0_20, u0_21, u0_22, u0_23, u0_24, u0_25, u0_26, u0_27, u0_28, u0_29, u0_30])), (a1, .inl (g.2.1 0, 552, .inl y1_s))]
set_option maxRecDepth 20000 in
theorem c_X9_placedNow (l : Launch) (g : GE) (a0 a1 : Nat) (sz : Nat) (u0_1 u0_2 u0_3 u0_4 u0_5 u0_6 u0_7 u0_8 u0_9 u0_10 u0_11 u0_12 u0_13 u0_14 u0_15 u0_16 u0_17 u0_18 u0_19 u0_20 u0_21 u0_22 u0_23 u0_24 u0_25 u0_26 u0_27 u0_28 u0_29 u0_30 : Value) (y1_s : Nat → Int32) (p1 : Int32)  (r : Int32) (hf : f_X9_placedNow y1_s p1 = some r) : MI l g yX9_placedNow wsX9_placedNow 3 67 [.ref a0, .int p1] (w_X9_placedNow g a0 a1 u0_1 u0_2 u0_3 u0_4 u0_5 u0_6 u0_7 u0_8 u0_9 u0_10 u0_11 u0_12 u0_13 u0_14 u0_15 u0_16 u0_17 u0_18 u0_19 u0_20 u0_21 u0_22 u0_23 u0_24 u0_25 u0_26 u0_27 u0_28 u0_29 u0_30 y1_s) sz (some (.int r)) (w_X9_placedNow g a0 a1 u0_1 u0_2 u0_3 u0_4 u0_5 u0_6 u0_7 u0_8 u0_9 u0_10 u0_11 u0_12 u0_13 u0_14 u0_15 u0_16 u0_17 u0_18 u0_19 u0_20 u0_21 u0_22 u0_23 u0_24 u0_25 u0_26 u0_27 u0_28 u0_29 u0_30 y1_s) := by
  refine MI.start (cc := cX9_placedNow) (maxL := 4) (ret := (some .int)) rfl rfl (nle rfl) ?_
  intro p e s m args below meth c A ls Q hQ hexec hb hr hts hown hlocks hml hA hP hD hG hS hl
  unfold f_X9_placedNow at hf
  have hWX9 : ∀ w ∈ wsX90, w.before args s = true := fun w h => hts w (List.mem_cons_of_mem _ (List.mem_append_right _ h))
  have hS : va_S A s.heap s.heap [] := hS
  refine lv_iconst (pc := 0) hexec hb dX9_placedNow_0 ki_0 ?_
  refine lv_istore_n (pc := 1) hexec hb dX9_placedNow_1 rfl hl (nle rfl) rfl (fun ls (hl : lv_has ls 4 [(2, .int 0), (0, .ref a0), (1, .int p1)]) => ?_)
  refine lv_iconst (pc := 2) hexec hb dX9_placedNow_2 ki_0 ?_
  refine lv_istore_n (pc := 3) hexec hb dX9_placedNow_3 rfl hl (nle rfl) rfl (fun ls (hl : lv_has ls 4 [(3, .int 0), (2, .int 0), (0, .ref a0), (1, .int p1)]) => ?_)
  obtain ⟨l4, el4, hf⟩ := bvf2 hf
  obtain ⟨v2_1, hz, hf⟩ := bd1_e hf
  have hE4 : ∀ (H : Heap) (locs : List Loc) (ls : Array Slot), va_P g.1 vwCl (w_X9_placedNow g a0 a1 u0_1 u0_2 u0_3 u0_4 u0_5 u0_6 u0_7 u0_8 u0_9 u0_10 u0_11 u0_12 u0_13 u0_14 u0_15 u0_16 u0_17 u0_18 u0_19 u0_20 u0_21 u0_22 u0_23 u0_24 u0_25 u0_26 u0_27 u0_28 u0_29 u0_30 y1_s) H → va_D A (w_X9_placedNow g a0 a1 u0_1 u0_2 u0_3 u0_4 u0_5 u0_6 u0_7 u0_8 u0_9 u0_10 u0_11 u0_12 u0_13 u0_14 u0_15 u0_16 u0_17 u0_18 u0_19 u0_20 u0_21 u0_22 u0_23 u0_24 u0_25 u0_26 u0_27 u0_28 u0_29 u0_30 y1_s) → va_S A s.heap H locs → lv_has ls 4 [(2, .int v2_1)] → W p l e (RM 3 67) s m args below meth c H locs 0 0 Q (F0 m 48 ls []) := by
    intro H locs ls hP hD hS hl
    refine lv_iload_n (pc := 48) hexec hb dX9_placedNow_48 rfl (lv_at hl 0 rfl) ?_
    cases hf
    exact ke_i hQ hexec hb hr hP hD hS dX9_placedNow_49 hlocks
  obtain ⟨n, hz⟩ := lq2_e hz
  have hL4 : ∀ (n : Nat) (v2 : Int32) (v3 : Int32) (H : Heap) (locs : List Loc) (ls : Array Slot), it2 l4 n v2 v3 = some v2_1 → va_P g.1 vwCl (w_X9_placedNow g a0 a1 u0_1 u0_2 u0_3 u0_4 u0_5 u0_6 u0_7 u0_8 u0_9 u0_10 u0_11 u0_12 u0_13 u0_14 u0_15 u0_16 u0_17 u0_18 u0_19 u0_20 u0_21 u0_22 u0_23 u0_24 u0_25 u0_26 u0_27 u0_28 u0_29 u0_30 y1_s) H → va_D A (w_X9_placedNow g a0 a1 u0_1 u0_2 u0_3 u0_4 u0_5 u0_6 u0_7 u0_8 u0_9 u0_10 u0_11 u0_12 u0_13 u0_14 u0_15 u0_16 u0_17 u0_18 u0_19 u0_20 u0_21 u0_22 u0_23 u0_24 u0_25 u0_26 u0_27 u0_28 u0_29 u0_30 y1_s) → va_S A s.heap H locs → lv_has ls 4 [(0, .ref a0), (1, .int p1), (2, .int v2), (3, .int v3)] → W p l e (RM 3 67) s m args below meth c H locs 0 0 Q (F0 m 4 ls []) := by
    intro n
    induction n with
    | zero =>
      intro v2 v3 H locs ls hf hP hD hS hl
      exact it2_0 hf
    | succ n4 ih4 =>
      intro v2 v3 H locs ls hf hP hD hS hl
      obtain ⟨q4, hf, hk4⟩ := it2_e hf
      have hf := (el4 v2 v3).symm.trans hf
      refine lv_iload_n (pc := 4) hexec hb dX9_placedNow_4 rfl (lv_at hl 3 rfl) ?_
      refine lv_aload_n (pc := 5) hexec hb dX9_placedNow_5 rfl (lv_at hl 0 rfl) ?_
      refine kg_get (pc := 6) hexec hb (own := RX9) hWX9 hown hG hP 0 rfl rfl 0 (nle rfl) (hts _ (List.mem_cons_of_mem _ (List.mem_append_left _ (List.mem_of_getElem? (i := 0) rfl)))) rfl rfl dX9_placedNow_6 ?_
      refine lv_iconst (pc := 9) hexec hb dX9_placedNow_9 ki_2 ?_
      refine kr_iald (pc := 10) hexec hb hG hP 1 rfl hf dX9_placedNow_10 (fun hf => ?_)
      refine ki_ge (pc := 11) hexec hb dX9_placedNow_11 (tgt := 48) rfl hf (fun hc hf => ?_) (fun hc hf => ?_)
      · cases sr2 hf hk4
        exact hE4 _ _ _ hP hD hS (lv_sub hl [2] rfl)
      · refine lv_iload_n (pc := 14) hexec hb dX9_placedNow_14 rfl (lv_at hl 2 rfl) ?_
        refine lv_aload_n (pc := 15) hexec hb dX9_placedNow_15 rfl (lv_at hl 0 rfl) ?_
        refine lv_iload_n (pc := 16) hexec hb dX9_placedNow_16 rfl (lv_at hl 3 rfl) ?_
        obtain ⟨r17, hc, hf⟩ := bd1_e hf
        refine kVp (pc := 17) (S := ⟨hexec, hb, hml, hown, hts⟩) hP hD hG hA hS [0, 1] [] [0, 1] (w2 := (w_X9_placedNow g a0 a1 u0_1 u0_2 u0_3 u0_4 u0_5 u0_6 u0_7 u0_8 u0_9 u0_10 u0_11 u0_12 u0_13 u0_14 u0_15 u0_16 u0_17 u0_18 u0_19 u0_20 u0_21 u0_22 u0_23 u0_24 u0_25 u0_26 u0_27 u0_28 u0_29 u0_30 y1_s)) rfl rfl rfl rfl rfl rfl (by decide) (c_X9_isPlaced l g a0 a1 _ u0_1 u0_2 u0_3 u0_4 u0_5 u0_6 u0_7 u0_8 u0_9 u0_10 u0_11 u0_12 u0_13 u0_14 u0_15 u0_16 u0_17 u0_18 u0_19 u0_20 u0_21 u0_22 u0_23 u0_24 u0_25 u0_26 u0_27 u0_28 u0_29 u0_30 y1_s v3 r17 hc) gX9_placedNow_X9_isPlaced rfl hv_X9_isPlaced ⟨nle rfl, nle rfl⟩ 9 0 rfl rfl rfl (rest := [.int v2]) rfl rfl hl.1 (nle rfl) dX9_placedNow_17 (fun H locs hP hD hS => ?_)
        obtain ⟨j40, ej40, hf⟩ := bvf1 hf
        have hj40 : ∀ (t40 : Int32) (H : Heap) (locs : List Loc) (ls : Array Slot), j40 t40 = some q4 → va_P g.1 vwCl (w_X9_placedNow g a0 a1 u0_1 u0_2 u0_3 u0_4 u0_5 u0_6 u0_7 u0_8 u0_9 u0_10 u0_11 u0_12 u0_13 u0_14 u0_15 u0_16 u0_17 u0_18 u0_19 u0_20 u0_21 u0_22 u0_23 u0_24 u0_25 u0_26 u0_27 u0_28 u0_29 u0_30 y1_s) H → va_D A (w_X9_placedNow g a0 a1 u0_1 u0_2 u0_3 u0_4 u0_5 u0_6 u0_7 u0_8 u0_9 u0_10 u0_11 u0_12 u0_13 u0_14 u0_15 u0_16 u0_17 u0_18 u0_19 u0_20 u0_21 u0_22 u0_23 u0_24 u0_25 u0_26 u0_27 u0_28 u0_29 u0_30 y1_s) → va_S A s.heap H locs → lv_has ls 4 [(0, .ref a0), (1, .int p1), (3, .int v3)] → W p l e (RM 3 67) s m args below meth c H locs 0 0 Q (F0 m 40 ls [.int t40, .int v2]) := by
          intro t40 H locs ls hf hP hD hS hl
          have hf := (ej40 t40).symm.trans hf
          refine lv_iadd (pc := 40) hexec hb dX9_placedNow_40 ?_
          obtain ⟨v2_2, ev2_2, hf⟩ := bv_e hf
          refine kn_i ev2_2 ?_
          refine lv_istore_n (pc := 41) hexec hb dX9_placedNow_41 rfl hl (nle rfl) rfl (fun ls (hl : lv_has ls 4 [(2, .int v2_2), (0, .ref a0), (1, .int p1), (3, .int v3)]) => ?_)
          obtain ⟨v3_1, ev3_1, hf⟩ := bv_e hf
          refine k_iinc (pc := 42) hexec hb dX9_placedNow_42 kq_1 hl (k := 3) rfl ev3_1 (nle rfl) rfl (fun ls (hl : lv_has ls 4 [(3, .int v3_1), (2, .int v2_2), (0, .ref a0), (1, .int p1)]) => ?_)
          refine lv_goto (pc := 45) hexec hb dX9_placedNow_45 (tgt := 4) rfl ?_
          exact ih4 _ _ _ _ _ (sl2 hf hk4) hP hD hS (lv_sub hl [2, 3, 1, 0] rfl)
        obtain ⟨j39, ej39, hf⟩ := bvf1 hf
        have hj39 : ∀ (u : Unit) (H : Heap) (locs : List Loc) (ls : Array Slot), j39 u = some q4 → va_P g.1 vwCl (w_X9_placedNow g a0 a1 u0_1 u0_2 u0_3 u0_4 u0_5 u0_6 u0_7 u0_8 u0_9 u0_10 u0_11 u0_12 u0_13 u0_14 u0_15 u0_16 u0_17 u0_18 u0_19 u0_20 u0_21 u0_22 u0_23 u0_24 u0_25 u0_26 u0_27 u0_28 u0_29 u0_30 y1_s) H → va_D A (w_X9_placedNow g a0 a1 u0_1 u0_2 u0_3 u0_4 u0_5 u0_6 u0_7 u0_8 u0_9 u0_10 u0_11 u0_12 u0_13 u0_14 u0_15 u0_16 u0_17 u0_18 u0_19 u0_20 u0_21 u0_22 u0_23 u0_24 u0_25 u0_26 u0_27 u0_28 u0_29 u0_30 y1_s) → va_S A s.heap H locs → lv_has ls 4 [(0, .ref a0), (1, .int p1), (3, .int v3)] → W p l e (RM 3 67) s m args below meth c H locs 0 0 Q (F0 m 39 ls [.int v2]) := by
          intro u H locs ls hf hP hD hS hl
          have hf := (ej39 u).symm.trans hf
          refine lv_iconst (pc := 39) hexec hb dX9_placedNow_39 ki_0 ?_
          exact hj40 _ _ _ _ hf hP hD hS (lv_sub hl [0, 1, 2] rfl)
        refine kb_eq (pc := 20) hexec hb dX9_placedNow_20 (tgt := 39) rfl hf (fun hc hf => ?_) (fun hc hf => ?_)
        · exact hj39 _ _ _ _ hf hP hD hS (lv_sub hl [0, 1, 3] rfl)
        · refine lv_iload_n (pc := 23) hexec hb dX9_placedNow_23 rfl (lv_at hl 1 rfl) ?_
          obtain ⟨j35, ej35, hf⟩ := bvf1 hf
          have hj35 : ∀ (u : Unit) (H : Heap) (locs : List Loc) (ls : Array Slot), j35 u = some q4 → va_P g.1 vwCl (w_X9_placedNow g a0 a1 u0_1 u0_2 u0_3 u0_4 u0_5 u0_6 u0_7 u0_8 u0_9 u0_10 u0_11 u0_12 u0_13 u0_14 u0_15 u0_16 u0_17 u0_18 u0_19 u0_20 u0_21 u0_22 u0_23 u0_24 u0_25 u0_26 u0_27 u0_28 u0_29 u0_30 y1_s) H → va_D A (w_X9_placedNow g a0 a1 u0_1 u0_2 u0_3 u0_4 u0_5 u0_6 u0_7 u0_8 u0_9 u0_10 u0_11 u0_12 u0_13 u0_14 u0_15 u0_16 u0_17 u0_18 u0_19 u0_20 u0_21 u0_22 u0_23 u0_24 u0_25 u0_26 u0_27 u0_28 u0_29 u0_30 y1_s) → va_S A s.heap H locs → lv_has ls 4 [(0, .ref a0), (1, .int p1), (3, .int v3)] → W p l e (RM 3 67) s m args below meth c H locs 0 0 Q (F0 m 35 ls [.int v2]) := by
            intro u H locs ls hf hP hD hS hl
            have hf := (ej35 u).symm.trans hf
            refine lv_iconst (pc := 35) hexec hb dX9_placedNow_35 ki_1 ?_
            refine lv_goto (pc := 36) hexec hb dX9_placedNow_36 (tgt := 40) rfl ?_
            exact hj40 _ _ _ _ hf hP hD hS (lv_sub hl [0, 1, 2] rfl)
          refine kb_eq (pc := 24) hexec hb dX9_placedNow_24 (tgt := 35) rfl hf (fun hc hf => ?_) (fun hc hf => ?_)
          · exact hj35 _ _ _ _ hf hP hD hS (lv_sub hl [0, 1, 3] rfl)
          · refine lv_aload_n (pc := 27) hexec hb dX9_placedNow_27 rfl (lv_at hl 0 rfl) ?_
            refine lv_iload_n (pc := 28) hexec hb dX9_placedNow_28 rfl (lv_at hl 3 rfl) ?_
            obtain ⟨r29, hc, hf⟩ := bd1_e hf
            refine kVp (pc := 29) (S := ⟨hexec, hb, hml, hown, hts⟩) hP hD hG hA hS [0, 1] [] [0, 1] (w2 := (w_X9_placedNow g a0 a1 u0_1 u0_2 u0_3 u0_4 u0_5 u0_6 u0_7 u0_8 u0_9 u0_10 u0_11 u0_12 u0_13 u0_14 u0_15 u0_16 u0_17 u0_18 u0_19 u0_20 u0_21 u0_22 u0_23 u0_24 u0_25 u0_26 u0_27 u0_28 u0_29 u0_30 y1_s)) rfl rfl rfl rfl rfl rfl (by decide) (c_X9_isRed l g a0 a1 _ u0_1 u0_2 u0_3 u0_4 u0_5 u0_6 u0_7 u0_8 u0_9 u0_10 u0_11 u0_12 u0_13 u0_14 u0_15 u0_16 u0_17 u0_18 u0_19 u0_20 u0_21 u0_22 u0_23 u0_24 u0_25 u0_26 u0_27 u0_28 u0_29 u0_30 y1_s v3 r29 hc) gX9_placedNow_X9_isRed rfl hv_X9_isRed ⟨nle rfl, nle rfl⟩ 9 0 rfl rfl rfl (rest := [.int v2]) rfl rfl hl.1 (nle rfl) dX9_placedNow_29 (fun H locs hP hD hS => ?_)
            refine kb_eq (pc := 32) hexec hb dX9_placedNow_32 (tgt := 39) rfl hf (fun hc hf => ?_) (fun hc hf => ?_)
            · exact hj39 _ _ _ _ hf hP hD hS (lv_sub hl [0, 1, 3] rfl)
            · exact hj35 _ _ _ _ hf hP hD hS (lv_sub hl [0, 1, 3] rfl)
  exact hL4 n _ _ _ _ _ hz hP hD hS (lv_sub hl [2, 3, 1, 0] rfl)
abbrev w_X9_size (g : GE) (a0 a1 : Nat) (u0_1 u0_2 u0_3 u0_4 u0_5 u0_8 u0_9 u0_10 u0_11 u0_12 u0_13 u0_14 u0_15 u0_16 u0_17 u0_18 u0_19 u0_20 u0_21 u0_22 u0_23 u0_24 u0_25 u0_26 u0_27 u0_28 u0_29 u0_30 : Value) (x0_acts : Int32) (x0_thrown : Int32) (y1_s : Nat → Int32) : va_W := [(a0, .inr (9, [.ref a1, u0_1, u0_2, u0_3, u0_4, u0_5, .int x0_acts, .int x0_thrown, u0_8, u0_9, u0_10, u0_11, u0_12, u0_13, u0_14, u0_15, u0_16, u0_17, u0_18, u0_19, u0_20, u0_21, u0_22, u0_23, u0_24, u0_25, u0_26, u0_27, u0_28, u0_29, u0_30])), (a1, .inl (g.2.1 0, 552, .inl y1_s))]
set_option maxRecDepth 20000 in
theorem c_X9_size (l : Launch) (g : GE) (a0 a1 : Nat) (sz : Nat) (u0_1 u0_2 u0_3 u0_4 u0_5 u0_8 u0_9 u0_10 u0_11 u0_12 u0_13 u0_14 u0_15 u0_16 u0_17 u0_18 u0_19 u0_20 u0_21 u0_22 u0_23 u0_24 u0_25 u0_26 u0_27 u0_28 u0_29 u0_30 : Value) (x0_acts : Int32) (x0_thrown : Int32) (y1_s : Nat → Int32) (p1 : Int32)  (r : Int32) (o_x0_thrown : Int32) (hf : f_X9_size x0_acts x0_thrown y1_s p1 = some (r, o_x0_thrown)) : MI l g yX9_size wsX9_size 4 90 [.ref a0, .int p1] (w_X9_size g a0 a1 u0_1 u0_2 u0_3 u0_4 u0_5 u0_8 u0_9 u0_10 u0_11 u0_12 u0_13 u0_14 u0_15 u0_16 u0_17 u0_18 u0_19 u0_20 u0_21 u0_22 u0_23 u0_24 u0_25 u0_26 u0_27 u0_28 u0_29 u0_30 x0_acts x0_thrown y1_s) sz (some (.int r)) (w_X9_size g a0 a1 u0_1 u0_2 u0_3 u0_4 u0_5 u0_8 u0_9 u0_10 u0_11 u0_12 u0_13 u0_14 u0_15 u0_16 u0_17 u0_18 u0_19 u0_20 u0_21 u0_22 u0_23 u0_24 u0_25 u0_26 u0_27 u0_28 u0_29 u0_30 x0_acts o_x0_thrown y1_s) := by
  refine MI.start (cc := cX9_size) (maxL := 2) (ret := (some .int)) rfl rfl (nle rfl) ?_
  intro p e s m args below meth c A ls Q hQ hexec hb hr hts hown hlocks hml hA hP hD hG hS hl
  unfold f_X9_size at hf
  have hWX9 : ∀ w ∈ wsX90, w.before args s = true := fun w h => hts w (List.mem_cons_of_mem _ (List.mem_append_right _ h))
  have hS : va_S A s.heap s.heap [] := hS
  refine lv_aload_n (pc := 0) hexec hb dX9_size_0 rfl (lv_at hl 0 rfl) ?_
  refine lv_iload_n (pc := 1) hexec hb dX9_size_1 rfl (lv_at hl 1 rfl) ?_
  refine lv_i2l (pc := 2) hexec hb dX9_size_2 rfl ?_
  refine lv_lconst (pc := 3) hexec hb dX9_size_3 kl_0 ?_
  refine lv_ldc2 (pc := 4) hexec hb (own := RX9) hown (hts _ (List.mem_cons_of_mem _ (List.mem_append_left _ (List.mem_append_left _ (List.mem_of_getElem? (i := 0) rfl))))) dX9_size_4 ?_
  obtain ⟨r7, hc, hf⟩ := bd1_e hf
  refine kSp (pc := 7) (S := ⟨hexec, hb, hml, hown, hts⟩) hP hD hG hA hS [] [0, 1] [0, 1] (w2 := (w_X9_size g a0 a1 u0_1 u0_2 u0_3 u0_4 u0_5 u0_8 u0_9 u0_10 u0_11 u0_12 u0_13 u0_14 u0_15 u0_16 u0_17 u0_18 u0_19 u0_20 u0_21 u0_22 u0_23 u0_24 u0_25 u0_26 u0_27 u0_28 u0_29 u0_30 x0_acts x0_thrown y1_s)) rfl rfl rfl rfl rfl rfl (by decide) (c_X9_isIn l g _ (p1.toInt64) 0 11 r7 hc) gX9_size_X9_isIn rfl hs_X9_isIn ⟨nle rfl, nle rfl⟩ (rest := [.ref a0]) rfl rfl hl.1 (nle rfl) dX9_size_7 (fun H locs hP hD hS => ?_)
  refine lv_iconst (pc := 10) hexec hb dX9_size_10 ki_1 ?_
  obtain ⟨r11, x0_thrown_1, hc, hf⟩ := bd2_e hf
  refine kVp (pc := 11) (S := ⟨hexec, hb, hml, hown, hts⟩) hP hD hG hA hS [0] [1] [1, 0] (w2 := (w_X9_size g a0 a1 u0_1 u0_2 u0_3 u0_4 u0_5 u0_8 u0_9 u0_10 u0_11 u0_12 u0_13 u0_14 u0_15 u0_16 u0_17 u0_18 u0_19 u0_20 u0_21 u0_22 u0_23 u0_24 u0_25 u0_26 u0_27 u0_28 u0_29 u0_30 x0_acts x0_thrown_1 y1_s)) rfl rfl rfl rfl rfl rfl (by decide) (c_X9_passes l g a0 _ (.ref a1) u0_1 u0_2 u0_3 u0_4 u0_5 (.int x0_acts) u0_8 u0_9 u0_10 u0_11 u0_12 u0_13 u0_14 u0_15 u0_16 u0_17 u0_18 u0_19 u0_20 u0_21 u0_22 u0_23 u0_24 u0_25 u0_26 u0_27 u0_28 u0_29 u0_30 x0_thrown r7 1 r11 x0_thrown_1 hc) gX9_size_X9_passes rfl hv_X9_passes ⟨nle rfl, nle rfl⟩ 9 0 rfl rfl rfl (rest := []) rfl rfl hl.1 (nle rfl) dX9_size_11 (fun H locs hP hD hS => ?_)
  refine kb_ne (pc := 14) hexec hb dX9_size_14 (tgt := 19) rfl hf (fun hc hf => ?_) (fun hc hf => ?_)
  · refine lv_iload_n (pc := 19) hexec hb dX9_size_19 rfl (lv_at hl 1 rfl) ?_
    rcases ite_or hf with ⟨hc0, hf⟩ | ⟨hc0, hf⟩
    · refine lv_tableIn (pc := 20) hexec hb dX9_size_20 (by rw [hc0]; decide) (by rw [hc0]; decide) (by rw [hc0]; rfl) (tgt := 80) rfl ?_
      refine lv_aload_n (pc := 80) hexec hb dX9_size_80 rfl (lv_at hl 0 rfl) ?_
      refine kg_get (pc := 81) hexec hb (own := RX9) hWX9 hown hG hP 0 rfl rfl 0 (nle rfl) (hts _ (List.mem_cons_of_mem _ (List.mem_append_left _ (List.mem_append_left _ (List.mem_of_getElem? (i := 1) rfl))))) rfl rfl dX9_size_81 ?_
      refine lv_iconst (pc := 84) hexec hb dX9_size_84 ki_0 ?_
      refine kr_iald (pc := 85) hexec hb hG hP 1 rfl hf dX9_size_85 (fun hf => ?_)
      cases hf
      exact ke_i hQ hexec hb hr hP hD hS dX9_size_86 hlocks
    rcases ite_or hf with ⟨hc1, hf⟩ | ⟨hc1, hf⟩
    · refine lv_tableIn (pc := 20) hexec hb dX9_size_20 (by rw [hc1]; decide) (by rw [hc1]; decide) (by rw [hc1]; rfl) (tgt := 87) rfl ?_
      refine lv_aload_n (pc := 87) hexec hb dX9_size_87 rfl (lv_at hl 0 rfl) ?_
      refine kg_get (pc := 88) hexec hb (own := RX9) hWX9 hown hG hP 0 rfl rfl 0 (nle rfl) (hts _ (List.mem_cons_of_mem _ (List.mem_append_left _ (List.mem_append_left _ (List.mem_of_getElem? (i := 1) rfl))))) rfl rfl dX9_size_88 ?_
      refine lv_iconst (pc := 91) hexec hb dX9_size_91 ki_1 ?_
      refine kr_iald (pc := 92) hexec hb hG hP 1 rfl hf dX9_size_92 (fun hf => ?_)
      cases hf
      exact ke_i hQ hexec hb hr hP hD hS dX9_size_93 hlocks
    rcases ite_or hf with ⟨hc2, hf⟩ | ⟨hc2, hf⟩
    · refine lv_tableIn (pc := 20) hexec hb dX9_size_20 (by rw [hc2]; decide) (by rw [hc2]; decide) (by rw [hc2]; rfl) (tgt := 94) rfl ?_
      refine lv_aload_n (pc := 94) hexec hb dX9_size_94 rfl (lv_at hl 0 rfl) ?_
      obtain ⟨r95, hc, hf⟩ := bd1_e hf
      refine kVp (pc := 95) (S := ⟨hexec, hb, hml, hown, hts⟩) hP hD hG hA hS [0, 1] [] [0, 1] (w2 := (w_X9_size g a0 a1 u0_1 u0_2 u0_3 u0_4 u0_5 u0_8 u0_9 u0_10 u0_11 u0_12 u0_13 u0_14 u0_15 u0_16 u0_17 u0_18 u0_19 u0_20 u0_21 u0_22 u0_23 u0_24 u0_25 u0_26 u0_27 u0_28 u0_29 u0_30 x0_acts x0_thrown_1 y1_s)) rfl rfl rfl rfl rfl rfl (by decide) (c_X9_landCells l g a0 a1 _ u0_1 u0_2 u0_3 u0_4 u0_5 (.int x0_acts) (.int x0_thrown_1) u0_8 u0_9 u0_10 u0_11 u0_12 u0_13 u0_14 u0_15 u0_16 u0_17 u0_18 u0_19 u0_20 u0_21 u0_22 u0_23 u0_24 u0_25 u0_26 u0_27 u0_28 u0_29 u0_30 y1_s r95 hc) gX9_size_X9_landCells rfl hv_X9_landCells ⟨nle rfl, nle rfl⟩ 9 0 rfl rfl rfl (rest := []) rfl rfl hl.1 (nle rfl) dX9_size_95 (fun H locs hP hD hS => ?_)
      cases hf
      exact ke_i hQ hexec hb hr hP hD hS dX9_size_98 hlocks
    rcases ite_or hf with ⟨hc3, hf⟩ | ⟨hc3, hf⟩
    · refine lv_tableIn (pc := 20) hexec hb dX9_size_20 (by rw [hc3]; decide) (by rw [hc3]; decide) (by rw [hc3]; rfl) (tgt := 99) rfl ?_
      refine lv_aload_n (pc := 99) hexec hb dX9_size_99 rfl (lv_at hl 0 rfl) ?_
      refine kg_get (pc := 100) hexec hb (own := RX9) hWX9 hown hG hP 0 rfl rfl 0 (nle rfl) (hts _ (List.mem_cons_of_mem _ (List.mem_append_left _ (List.mem_append_left _ (List.mem_of_getElem? (i := 1) rfl))))) rfl rfl dX9_size_100 ?_
      refine lv_iconst (pc := 103) hexec hb dX9_size_103 ki_2 ?_
      refine kr_iald (pc := 104) hexec hb hG hP 1 rfl hf dX9_size_104 (fun hf => ?_)
      cases hf
      exact ke_i hQ hexec hb hr hP hD hS dX9_size_105 hlocks
    rcases ite_or hf with ⟨hc4, hf⟩ | ⟨hc4, hf⟩
    · refine lv_tableIn (pc := 20) hexec hb dX9_size_20 (by rw [hc4]; decide) (by rw [hc4]; decide) (by rw [hc4]; rfl) (tgt := 106) rfl ?_
      refine lv_aload_n (pc := 106) hexec hb dX9_size_106 rfl (lv_at hl 0 rfl) ?_
      refine kg_get (pc := 107) hexec hb (own := RX9) hWX9 hown hG hP 0 rfl rfl 0 (nle rfl) (hts _ (List.mem_cons_of_mem _ (List.mem_append_left _ (List.mem_append_left _ (List.mem_of_getElem? (i := 1) rfl))))) rfl rfl dX9_size_107 ?_
      refine lv_iconst (pc := 110) hexec hb dX9_size_110 ki_3 ?_
      refine kr_iald (pc := 111) hexec hb hG hP 1 rfl hf dX9_size_111 (fun hf => ?_)
      cases hf
      exact ke_i hQ hexec hb hr hP hD hS dX9_size_112 hlocks
    rcases ite_or hf with ⟨hc5, hf⟩ | ⟨hc5, hf⟩
    · refine lv_tableIn (pc := 20) hexec hb dX9_size_20 (by rw [hc5]; decide) (by rw [hc5]; decide) (by rw [hc5]; rfl) (tgt := 113) rfl ?_
      refine lv_aload_n (pc := 113) hexec hb dX9_size_113 rfl (lv_at hl 0 rfl) ?_
      refine lv_iconst (pc := 114) hexec hb dX9_size_114 ki_0 ?_
      obtain ⟨r115, hc, hf⟩ := bd1_e hf
      refine kVp (pc := 115) (S := ⟨hexec, hb, hml, hown, hts⟩) hP hD hG hA hS [0, 1] [] [0, 1] (w2 := (w_X9_size g a0 a1 u0_1 u0_2 u0_3 u0_4 u0_5 u0_8 u0_9 u0_10 u0_11 u0_12 u0_13 u0_14 u0_15 u0_16 u0_17 u0_18 u0_19 u0_20 u0_21 u0_22 u0_23 u0_24 u0_25 u0_26 u0_27 u0_28 u0_29 u0_30 x0_acts x0_thrown_1 y1_s)) rfl rfl rfl rfl rfl rfl (by decide) (c_X9_placedNow l g a0 a1 _ u0_1 u0_2 u0_3 u0_4 u0_5 (.int x0_acts) (.int x0_thrown_1) u0_8 u0_9 u0_10 u0_11 u0_12 u0_13 u0_14 u0_15 u0_16 u0_17 u0_18 u0_19 u0_20 u0_21 u0_22 u0_23 u0_24 u0_25 u0_26 u0_27 u0_28 u0_29 u0_30 y1_s 0 r115 hc) gX9_size_X9_placedNow rfl hv_X9_placedNow ⟨nle rfl, nle rfl⟩ 9 0 rfl rfl rfl (rest := []) rfl rfl hl.1 (nle rfl) dX9_size_115 (fun H locs hP hD hS => ?_)
      cases hf
      exact ke_i hQ hexec hb hr hP hD hS dX9_size_118 hlocks
    rcases ite_or hf with ⟨hc6, hf⟩ | ⟨hc6, hf⟩
    · refine lv_tableIn (pc := 20) hexec hb dX9_size_20 (by rw [hc6]; decide) (by rw [hc6]; decide) (by rw [hc6]; rfl) (tgt := 119) rfl ?_
      refine lv_aload_n (pc := 119) hexec hb dX9_size_119 rfl (lv_at hl 0 rfl) ?_
      refine lv_iconst (pc := 120) hexec hb dX9_size_120 ki_1 ?_
      obtain ⟨r121, hc, hf⟩ := bd1_e hf
      refine kVp (pc := 121) (S := ⟨hexec, hb, hml, hown, hts⟩) hP hD hG hA hS [0, 1] [] [0, 1] (w2 := (w_X9_size g a0 a1 u0_1 u0_2 u0_3 u0_4 u0_5 u0_8 u0_9 u0_10 u0_11 u0_12 u0_13 u0_14 u0_15 u0_16 u0_17 u0_18 u0_19 u0_20 u0_21 u0_22 u0_23 u0_24 u0_25 u0_26 u0_27 u0_28 u0_29 u0_30 x0_acts x0_thrown_1 y1_s)) rfl rfl rfl rfl rfl rfl (by decide) (c_X9_placedNow l g a0 a1 _ u0_1 u0_2 u0_3 u0_4 u0_5 (.int x0_acts) (.int x0_thrown_1) u0_8 u0_9 u0_10 u0_11 u0_12 u0_13 u0_14 u0_15 u0_16 u0_17 u0_18 u0_19 u0_20 u0_21 u0_22 u0_23 u0_24 u0_25 u0_26 u0_27 u0_28 u0_29 u0_30 y1_s 1 r121 hc) gX9_size_X9_placedNow rfl hv_X9_placedNow ⟨nle rfl, nle rfl⟩ 9 0 rfl rfl rfl (rest := []) rfl rfl hl.1 (nle rfl) dX9_size_121 (fun H locs hP hD hS => ?_)
      cases hf
      exact ke_i hQ hexec hb hr hP hD hS dX9_size_124 hlocks
    rcases ite_or hf with ⟨hc7, hf⟩ | ⟨hc7, hf⟩
    · refine lv_tableIn (pc := 20) hexec hb dX9_size_20 (by rw [hc7]; decide) (by rw [hc7]; decide) (by rw [hc7]; rfl) (tgt := 125) rfl ?_
      refine lv_aload_n (pc := 125) hexec hb dX9_size_125 rfl (lv_at hl 0 rfl) ?_
      refine kg_get (pc := 126) hexec hb (own := RX9) hWX9 hown hG hP 0 rfl rfl 0 (nle rfl) (hts _ (List.mem_cons_of_mem _ (List.mem_append_left _ (List.mem_append_left _ (List.mem_of_getElem? (i := 1) rfl))))) rfl rfl dX9_size_126 ?_
      refine lv_iconst (pc := 129) hexec hb dX9_size_129 ki_4 ?_
      refine kr_iald (pc := 130) hexec hb hG hP 1 rfl hf dX9_size_130 (fun hf => ?_)
      cases hf
      exact ke_i hQ hexec hb hr hP hD hS dX9_size_131 hlocks
    rcases ite_or hf with ⟨hc8, hf⟩ | ⟨hc8, hf⟩
    · refine lv_tableIn (pc := 20) hexec hb dX9_size_20 (by rw [hc8]; decide) (by rw [hc8]; decide) (by rw [hc8]; rfl) (tgt := 132) rfl ?_
      refine lv_aload_n (pc := 132) hexec hb dX9_size_132 rfl (lv_at hl 0 rfl) ?_
      refine kg_get (pc := 133) hexec hb (own := RX9) hWX9 hown hG hP 0 rfl rfl 0 (nle rfl) (hts _ (List.mem_cons_of_mem _ (List.mem_append_left _ (List.mem_append_left _ (List.mem_of_getElem? (i := 1) rfl))))) rfl rfl dX9_size_133 ?_
      refine lv_iconst (pc := 136) hexec hb dX9_size_136 ki_5 ?_
      refine kr_iald (pc := 137) hexec hb hG hP 1 rfl hf dX9_size_137 (fun hf => ?_)
      cases hf
      exact ke_i hQ hexec hb hr hP hD hS dX9_size_138 hlocks
    rcases ite_or hf with ⟨hc9, hf⟩ | ⟨hc9, hf⟩
    · refine lv_tableIn (pc := 20) hexec hb dX9_size_20 (by rw [hc9]; decide) (by rw [hc9]; decide) (by rw [hc9]; rfl) (tgt := 139) rfl ?_
      refine lv_aload_n (pc := 139) hexec hb dX9_size_139 rfl (lv_at hl 0 rfl) ?_
      refine kg_get (pc := 140) hexec hb (own := RX9) hWX9 hown hG hP 0 rfl rfl 0 (nle rfl) (hts _ (List.mem_cons_of_mem _ (List.mem_append_left _ (List.mem_append_left _ (List.mem_of_getElem? (i := 1) rfl))))) rfl rfl dX9_size_140 ?_
      refine lv_bipush (pc := 143) hexec hb dX9_size_143 kb_6 ?_
      refine kr_iald (pc := 145) hexec hb hG hP 1 rfl hf dX9_size_145 (fun hf => ?_)
      cases hf
      exact ke_i hQ hexec hb hr hP hD hS dX9_size_146 hlocks
    rcases ite_or hf with ⟨hc10, hf⟩ | ⟨hc10, hf⟩
    · refine lv_tableIn (pc := 20) hexec hb dX9_size_20 (by rw [hc10]; decide) (by rw [hc10]; decide) (by rw [hc10]; rfl) (tgt := 147) rfl ?_
      refine lv_aload_n (pc := 147) hexec hb dX9_size_147 rfl (lv_at hl 0 rfl) ?_
      refine kg_get (pc := 148) hexec hb (own := RX9) hWX9 hown hG hP 0 rfl rfl 0 (nle rfl) (hts _ (List.mem_cons_of_mem _ (List.mem_append_left _ (List.mem_append_left _ (List.mem_of_getElem? (i := 1) rfl))))) rfl rfl dX9_size_148 ?_
      refine lv_bipush (pc := 151) hexec hb dX9_size_151 kb_7 ?_
      refine kr_iald (pc := 153) hexec hb hG hP 1 rfl hf dX9_size_153 (fun hf => ?_)
      cases hf
      exact ke_i hQ hexec hb hr hP hD hS dX9_size_154 hlocks
    refine lv_tableOut (pc := 20) hexec hb dX9_size_20 (by have h0 : ¬ (p1).toInt = 0 := fun h => hc0 (Int32.toInt_inj.mp (h.trans (by decide))); have h1 : ¬ (p1).toInt = 1 := fun h => hc1 (Int32.toInt_inj.mp (h.trans (by decide))); have h2 : ¬ (p1).toInt = 2 := fun h => hc2 (Int32.toInt_inj.mp (h.trans (by decide))); have h3 : ¬ (p1).toInt = 3 := fun h => hc3 (Int32.toInt_inj.mp (h.trans (by decide))); have h4 : ¬ (p1).toInt = 4 := fun h => hc4 (Int32.toInt_inj.mp (h.trans (by decide))); have h5 : ¬ (p1).toInt = 5 := fun h => hc5 (Int32.toInt_inj.mp (h.trans (by decide))); have h6 : ¬ (p1).toInt = 6 := fun h => hc6 (Int32.toInt_inj.mp (h.trans (by decide))); have h7 : ¬ (p1).toInt = 7 := fun h => hc7 (Int32.toInt_inj.mp (h.trans (by decide))); have h8 : ¬ (p1).toInt = 8 := fun h => hc8 (Int32.toInt_inj.mp (h.trans (by decide))); have h9 : ¬ (p1).toInt = 9 := fun h => hc9 (Int32.toInt_inj.mp (h.trans (by decide))); have h10 : ¬ (p1).toInt = 10 := fun h => hc10 (Int32.toInt_inj.mp (h.trans (by decide))); omega) (tgt := 155) rfl ?_
    refine lv_aload_n (pc := 155) hexec hb dX9_size_155 rfl (lv_at hl 0 rfl) ?_
    refine kg_get (pc := 156) hexec hb (own := RX9) hWX9 hown hG hP 0 rfl rfl 6 (nle rfl) (hts _ (List.mem_cons_of_mem _ (List.mem_append_left _ (List.mem_append_left _ (List.mem_of_getElem? (i := 2) rfl))))) rfl rfl dX9_size_156 ?_
    cases hf
    exact ke_i hQ hexec hb hr hP hD hS dX9_size_159 hlocks
  · refine lv_iconst (pc := 17) hexec hb dX9_size_17 ki_0 ?_
    cases hf
    exact ke_i hQ hexec hb hr hP hD hS dX9_size_18 hlocks
abbrev w_X9_cell (g : GE) (a0 a1 : Nat) (u0_1 u0_2 u0_3 u0_4 u0_5 u0_6 u0_8 u0_9 u0_10 u0_11 u0_12 u0_13 u0_14 u0_15 u0_16 u0_17 u0_18 u0_19 u0_20 u0_21 u0_22 u0_23 u0_24 u0_25 u0_26 u0_27 u0_28 u0_29 u0_30 : Value) (x0_thrown : Int32) (y1_s : Nat → Int32) : va_W := [(a0, .inr (9, [.ref a1, u0_1, u0_2, u0_3, u0_4, u0_5, u0_6, .int x0_thrown, u0_8, u0_9, u0_10, u0_11, u0_12, u0_13, u0_14, u0_15, u0_16, u0_17, u0_18, u0_19, u0_20, u0_21, u0_22, u0_23, u0_24, u0_25, u0_26, u0_27, u0_28, u0_29, u0_30])), (a1, .inl (g.2.1 0, 552, .inl y1_s))]
set_option maxRecDepth 20000 in
theorem c_X9_cell (l : Launch) (g : GE) (a0 a1 : Nat) (sz : Nat) (u0_1 u0_2 u0_3 u0_4 u0_5 u0_6 u0_8 u0_9 u0_10 u0_11 u0_12 u0_13 u0_14 u0_15 u0_16 u0_17 u0_18 u0_19 u0_20 u0_21 u0_22 u0_23 u0_24 u0_25 u0_26 u0_27 u0_28 u0_29 u0_30 : Value) (x0_thrown : Int32) (y1_s : Nat → Int32) (p1 : Int32) (p2 : Int32)  (r : Int32) (o_x0_thrown : Int32) (hf : f_X9_cell x0_thrown y1_s p1 p2 = some (r, o_x0_thrown)) : MI l g yX9_cell wsX9_cell 6 143 [.ref a0, .int p1, .int p2] (w_X9_cell g a0 a1 u0_1 u0_2 u0_3 u0_4 u0_5 u0_6 u0_8 u0_9 u0_10 u0_11 u0_12 u0_13 u0_14 u0_15 u0_16 u0_17 u0_18 u0_19 u0_20 u0_21 u0_22 u0_23 u0_24 u0_25 u0_26 u0_27 u0_28 u0_29 u0_30 x0_thrown y1_s) sz (some (.int r)) (w_X9_cell g a0 a1 u0_1 u0_2 u0_3 u0_4 u0_5 u0_6 u0_8 u0_9 u0_10 u0_11 u0_12 u0_13 u0_14 u0_15 u0_16 u0_17 u0_18 u0_19 u0_20 u0_21 u0_22 u0_23 u0_24 u0_25 u0_26 u0_27 u0_28 u0_29 u0_30 o_x0_thrown y1_s) := by
  refine MI.start (cc := cX9_cell) (maxL := 3) (ret := (some .int)) rfl rfl (nle rfl) ?_
  intro p e s m args below meth c A ls Q hQ hexec hb hr hts hown hlocks hml hA hP hD hG hS hl
  unfold f_X9_cell at hf
  have hWX9 : ∀ w ∈ wsX90, w.before args s = true := fun w h => hts w (List.mem_cons_of_mem _ (List.mem_append_right _ h))
  have hS : va_S A s.heap s.heap [] := hS
  refine lv_aload_n (pc := 0) hexec hb dX9_cell_0 rfl (lv_at hl 0 rfl) ?_
  refine lv_aload_n (pc := 1) hexec hb dX9_cell_1 rfl (lv_at hl 0 rfl) ?_
  refine lv_iload_n (pc := 2) hexec hb dX9_cell_2 rfl (lv_at hl 1 rfl) ?_
  obtain ⟨r3, hc, hf⟩ := bd1_e hf
  refine kVp (pc := 3) (S := ⟨hexec, hb, hml, hown, hts⟩) hP hD hG hA hS [0, 1] [] [0, 1] (w2 := (w_X9_cell g a0 a1 u0_1 u0_2 u0_3 u0_4 u0_5 u0_6 u0_8 u0_9 u0_10 u0_11 u0_12 u0_13 u0_14 u0_15 u0_16 u0_17 u0_18 u0_19 u0_20 u0_21 u0_22 u0_23 u0_24 u0_25 u0_26 u0_27 u0_28 u0_29 u0_30 x0_thrown y1_s)) rfl rfl rfl rfl rfl rfl (by decide) (c_X9_isCell l g a0 a1 _ u0_1 u0_2 u0_3 u0_4 u0_5 u0_6 (.int x0_thrown) u0_8 u0_9 u0_10 u0_11 u0_12 u0_13 u0_14 u0_15 u0_16 u0_17 u0_18 u0_19 u0_20 u0_21 u0_22 u0_23 u0_24 u0_25 u0_26 u0_27 u0_28 u0_29 u0_30 y1_s p1 r3 hc) gX9_cell_X9_isCell rfl hv_X9_isCell ⟨nle rfl, nle rfl⟩ 9 0 rfl rfl rfl (rest := [.ref a0]) rfl rfl hl.1 (nle rfl) dX9_cell_3 (fun H locs hP hD hS => ?_)
  refine lv_iload_n (pc := 6) hexec hb dX9_cell_6 rfl (lv_at hl 2 rfl) ?_
  refine lv_i2l (pc := 7) hexec hb dX9_cell_7 rfl ?_
  refine lv_lconst (pc := 8) hexec hb dX9_cell_8 kl_0 ?_
  refine lv_ldc2 (pc := 9) hexec hb (own := RX9) hown (hts _ (List.mem_cons_of_mem _ (List.mem_append_left _ (List.mem_append_left _ (List.mem_of_getElem? (i := 0) rfl))))) dX9_cell_9 ?_
  obtain ⟨r12, hc, hf⟩ := bd1_e hf
  refine kSp (pc := 12) (S := ⟨hexec, hb, hml, hown, hts⟩) hP hD hG hA hS [] [0, 1] [0, 1] (w2 := (w_X9_cell g a0 a1 u0_1 u0_2 u0_3 u0_4 u0_5 u0_6 u0_8 u0_9 u0_10 u0_11 u0_12 u0_13 u0_14 u0_15 u0_16 u0_17 u0_18 u0_19 u0_20 u0_21 u0_22 u0_23 u0_24 u0_25 u0_26 u0_27 u0_28 u0_29 u0_30 x0_thrown y1_s)) rfl rfl rfl rfl rfl rfl (by decide) (c_X9_isIn l g _ (p2.toInt64) 0 5 r12 hc) gX9_cell_X9_isIn rfl hs_X9_isIn ⟨nle rfl, nle rfl⟩ (rest := [.int r3, .ref a0]) rfl rfl hl.1 (nle rfl) dX9_cell_12 (fun H locs hP hD hS => ?_)
  obtain ⟨r15, x0_thrown_1, hc, hf⟩ := bd2_e hf
  refine kVp (pc := 15) (S := ⟨hexec, hb, hml, hown, hts⟩) hP hD hG hA hS [0] [1] [1, 0] (w2 := (w_X9_cell g a0 a1 u0_1 u0_2 u0_3 u0_4 u0_5 u0_6 u0_8 u0_9 u0_10 u0_11 u0_12 u0_13 u0_14 u0_15 u0_16 u0_17 u0_18 u0_19 u0_20 u0_21 u0_22 u0_23 u0_24 u0_25 u0_26 u0_27 u0_28 u0_29 u0_30 x0_thrown_1 y1_s)) rfl rfl rfl rfl rfl rfl (by decide) (c_X9_passes l g a0 _ (.ref a1) u0_1 u0_2 u0_3 u0_4 u0_5 u0_6 u0_8 u0_9 u0_10 u0_11 u0_12 u0_13 u0_14 u0_15 u0_16 u0_17 u0_18 u0_19 u0_20 u0_21 u0_22 u0_23 u0_24 u0_25 u0_26 u0_27 u0_28 u0_29 u0_30 x0_thrown r3 r12 r15 x0_thrown_1 hc) gX9_cell_X9_passes rfl hv_X9_passes ⟨nle rfl, nle rfl⟩ 9 0 rfl rfl rfl (rest := []) rfl rfl hl.1 (nle rfl) dX9_cell_15 (fun H locs hP hD hS => ?_)
  refine kb_ne (pc := 18) hexec hb dX9_cell_18 (tgt := 23) rfl hf (fun hc hf => ?_) (fun hc hf => ?_)
  · refine lv_iload_n (pc := 23) hexec hb dX9_cell_23 rfl (lv_at hl 2 rfl) ?_
    rcases ite_or hf with ⟨hc0, hf⟩ | ⟨hc0, hf⟩
    · refine lv_tableIn (pc := 24) hexec hb dX9_cell_24 (by rw [hc0]; decide) (by rw [hc0]; decide) (by rw [hc0]; rfl) (tgt := 60) rfl ?_
      refine lv_aload_n (pc := 60) hexec hb dX9_cell_60 rfl (lv_at hl 0 rfl) ?_
      refine lv_iload_n (pc := 61) hexec hb dX9_cell_61 rfl (lv_at hl 1 rfl) ?_
      obtain ⟨r62, hc, hf⟩ := bd1_e hf
      refine kVp (pc := 62) (S := ⟨hexec, hb, hml, hown, hts⟩) hP hD hG hA hS [0, 1] [] [0, 1] (w2 := (w_X9_cell g a0 a1 u0_1 u0_2 u0_3 u0_4 u0_5 u0_6 u0_8 u0_9 u0_10 u0_11 u0_12 u0_13 u0_14 u0_15 u0_16 u0_17 u0_18 u0_19 u0_20 u0_21 u0_22 u0_23 u0_24 u0_25 u0_26 u0_27 u0_28 u0_29 u0_30 x0_thrown_1 y1_s)) rfl rfl rfl rfl rfl rfl (by decide) (c_X9_isRiver l g a0 a1 _ u0_1 u0_2 u0_3 u0_4 u0_5 u0_6 (.int x0_thrown_1) u0_8 u0_9 u0_10 u0_11 u0_12 u0_13 u0_14 u0_15 u0_16 u0_17 u0_18 u0_19 u0_20 u0_21 u0_22 u0_23 u0_24 u0_25 u0_26 u0_27 u0_28 u0_29 u0_30 y1_s p1 r62 hc) gX9_cell_X9_isRiver rfl hv_X9_isRiver ⟨nle rfl, nle rfl⟩ 9 0 rfl rfl rfl (rest := []) rfl rfl hl.1 (nle rfl) dX9_cell_62 (fun H locs hP hD hS => ?_)
      refine kb_eq (pc := 65) hexec hb dX9_cell_65 (tgt := 72) rfl hf (fun hc hf => ?_) (fun hc hf => ?_)
      · refine lv_aload_n (pc := 72) hexec hb dX9_cell_72 rfl (lv_at hl 0 rfl) ?_
        refine kg_get (pc := 73) hexec hb (own := RX9) hWX9 hown hG hP 0 rfl rfl 0 (nle rfl) (hts _ (List.mem_cons_of_mem _ (List.mem_append_left _ (List.mem_append_left _ (List.mem_of_getElem? (i := 1) rfl))))) rfl rfl dX9_cell_73 ?_
        refine lv_bipush (pc := 76) hexec hb dX9_cell_76 kb_8 ?_
        refine lv_iload_n (pc := 78) hexec hb dX9_cell_78 rfl (lv_at hl 1 rfl) ?_
        refine lv_iadd (pc := 79) hexec hb dX9_cell_79 ?_
        refine kr_iald (pc := 80) hexec hb hG hP 1 rfl hf dX9_cell_80 (fun hf => ?_)
        cases hf
        exact ke_i hQ hexec hb hr hP hD hS dX9_cell_81 hlocks
      · refine lv_iconst (pc := 68) hexec hb dX9_cell_68 ki_2 ?_
        refine lv_goto (pc := 69) hexec hb dX9_cell_69 (tgt := 81) rfl ?_
        cases hf
        exact ke_i hQ hexec hb hr hP hD hS dX9_cell_81 hlocks
    rcases ite_or hf with ⟨hc1, hf⟩ | ⟨hc1, hf⟩
    · refine lv_tableIn (pc := 24) hexec hb dX9_cell_24 (by rw [hc1]; decide) (by rw [hc1]; decide) (by rw [hc1]; rfl) (tgt := 82) rfl ?_
      refine lv_aload_n (pc := 82) hexec hb dX9_cell_82 rfl (lv_at hl 0 rfl) ?_
      refine lv_iload_n (pc := 83) hexec hb dX9_cell_83 rfl (lv_at hl 1 rfl) ?_
      refine lv_iconst (pc := 84) hexec hb dX9_cell_84 ki_m1 ?_
      obtain ⟨r85, hc, hf⟩ := bd1_e hf
      refine kVp (pc := 85) (S := ⟨hexec, hb, hml, hown, hts⟩) hP hD hG hA hS [0, 1] [] [0, 1] (w2 := (w_X9_cell g a0 a1 u0_1 u0_2 u0_3 u0_4 u0_5 u0_6 u0_8 u0_9 u0_10 u0_11 u0_12 u0_13 u0_14 u0_15 u0_16 u0_17 u0_18 u0_19 u0_20 u0_21 u0_22 u0_23 u0_24 u0_25 u0_26 u0_27 u0_28 u0_29 u0_30 x0_thrown_1 y1_s)) rfl rfl rfl rfl rfl rfl (by decide) (c_X9_harbourAt l g a0 a1 _ u0_1 u0_2 u0_3 u0_4 u0_5 u0_6 (.int x0_thrown_1) u0_8 u0_9 u0_10 u0_11 u0_12 u0_13 u0_14 u0_15 u0_16 u0_17 u0_18 u0_19 u0_20 u0_21 u0_22 u0_23 u0_24 u0_25 u0_26 u0_27 u0_28 u0_29 u0_30 y1_s p1 (-1) r85 hc) gX9_cell_X9_harbourAt rfl hv_X9_harbourAt ⟨nle rfl, nle rfl⟩ 9 0 rfl rfl rfl (rest := []) rfl rfl hl.1 (nle rfl) dX9_cell_85 (fun H locs hP hD hS => ?_)
      cases hf
      exact ke_i hQ hexec hb hr hP hD hS dX9_cell_88 hlocks
    rcases ite_or hf with ⟨hc2, hf⟩ | ⟨hc2, hf⟩
    · refine lv_tableIn (pc := 24) hexec hb dX9_cell_24 (by rw [hc2]; decide) (by rw [hc2]; decide) (by rw [hc2]; rfl) (tgt := 89) rfl ?_
      refine lv_aload_n (pc := 89) hexec hb dX9_cell_89 rfl (lv_at hl 0 rfl) ?_
      refine lv_iload_n (pc := 90) hexec hb dX9_cell_90 rfl (lv_at hl 1 rfl) ?_
      obtain ⟨r91, hc, hf⟩ := bd1_e hf
      refine kVp (pc := 91) (S := ⟨hexec, hb, hml, hown, hts⟩) hP hD hG hA hS [0, 1] [] [0, 1] (w2 := (w_X9_cell g a0 a1 u0_1 u0_2 u0_3 u0_4 u0_5 u0_6 u0_8 u0_9 u0_10 u0_11 u0_12 u0_13 u0_14 u0_15 u0_16 u0_17 u0_18 u0_19 u0_20 u0_21 u0_22 u0_23 u0_24 u0_25 u0_26 u0_27 u0_28 u0_29 u0_30 x0_thrown_1 y1_s)) rfl rfl rfl rfl rfl rfl (by decide) (c_X9_riverAt l g a0 a1 _ u0_1 u0_2 u0_3 u0_4 u0_5 u0_6 (.int x0_thrown_1) u0_8 u0_9 u0_10 u0_11 u0_12 u0_13 u0_14 u0_15 u0_16 u0_17 u0_18 u0_19 u0_20 u0_21 u0_22 u0_23 u0_24 u0_25 u0_26 u0_27 u0_28 u0_29 u0_30 y1_s p1 r91 hc) gX9_cell_X9_riverAt rfl hv_X9_riverAt ⟨nle rfl, nle rfl⟩ 9 0 rfl rfl rfl (rest := []) rfl rfl hl.1 (nle rfl) dX9_cell_91 (fun H locs hP hD hS => ?_)
      cases hf
      exact ke_i hQ hexec hb hr hP hD hS dX9_cell_94 hlocks
    rcases ite_or hf with ⟨hc3, hf⟩ | ⟨hc3, hf⟩
    · refine lv_tableIn (pc := 24) hexec hb dX9_cell_24 (by rw [hc3]; decide) (by rw [hc3]; decide) (by rw [hc3]; rfl) (tgt := 95) rfl ?_
      refine lv_aload_n (pc := 95) hexec hb dX9_cell_95 rfl (lv_at hl 0 rfl) ?_
      refine lv_iload_n (pc := 96) hexec hb dX9_cell_96 rfl (lv_at hl 1 rfl) ?_
      obtain ⟨r97, hc, hf⟩ := bd1_e hf
      refine kVp (pc := 97) (S := ⟨hexec, hb, hml, hown, hts⟩) hP hD hG hA hS [0, 1] [] [0, 1] (w2 := (w_X9_cell g a0 a1 u0_1 u0_2 u0_3 u0_4 u0_5 u0_6 u0_8 u0_9 u0_10 u0_11 u0_12 u0_13 u0_14 u0_15 u0_16 u0_17 u0_18 u0_19 u0_20 u0_21 u0_22 u0_23 u0_24 u0_25 u0_26 u0_27 u0_28 u0_29 u0_30 x0_thrown_1 y1_s)) rfl rfl rfl rfl rfl rfl (by decide) (c_X9_letterAt l g a0 a1 _ u0_1 u0_2 u0_3 u0_4 u0_5 u0_6 (.int x0_thrown_1) u0_8 u0_9 u0_10 u0_11 u0_12 u0_13 u0_14 u0_15 u0_16 u0_17 u0_18 u0_19 u0_20 u0_21 u0_22 u0_23 u0_24 u0_25 u0_26 u0_27 u0_28 u0_29 u0_30 y1_s p1 r97 hc) gX9_cell_X9_letterAt rfl hv_X9_letterAt ⟨nle rfl, nle rfl⟩ 9 0 rfl rfl rfl (rest := []) rfl rfl hl.1 (nle rfl) dX9_cell_97 (fun H locs hP hD hS => ?_)
      cases hf
      exact ke_i hQ hexec hb hr hP hD hS dX9_cell_100 hlocks
    rcases ite_or hf with ⟨hc4, hf⟩ | ⟨hc4, hf⟩
    · refine lv_tableIn (pc := 24) hexec hb dX9_cell_24 (by rw [hc4]; decide) (by rw [hc4]; decide) (by rw [hc4]; rfl) (tgt := 101) rfl ?_
      refine lv_aload_n (pc := 101) hexec hb dX9_cell_101 rfl (lv_at hl 0 rfl) ?_
      refine lv_iload_n (pc := 102) hexec hb dX9_cell_102 rfl (lv_at hl 1 rfl) ?_
      obtain ⟨r103, hc, hf⟩ := bd1_e hf
      refine kVp (pc := 103) (S := ⟨hexec, hb, hml, hown, hts⟩) hP hD hG hA hS [0, 1] [] [0, 1] (w2 := (w_X9_cell g a0 a1 u0_1 u0_2 u0_3 u0_4 u0_5 u0_6 u0_8 u0_9 u0_10 u0_11 u0_12 u0_13 u0_14 u0_15 u0_16 u0_17 u0_18 u0_19 u0_20 u0_21 u0_22 u0_23 u0_24 u0_25 u0_26 u0_27 u0_28 u0_29 u0_30 x0_thrown_1 y1_s)) rfl rfl rfl rfl rfl rfl (by decide) (c_X9_namesIn l g a0 a1 _ u0_1 u0_2 u0_3 u0_4 u0_5 u0_6 (.int x0_thrown_1) u0_8 u0_9 u0_10 u0_11 u0_12 u0_13 u0_14 u0_15 u0_16 u0_17 u0_18 u0_19 u0_20 u0_21 u0_22 u0_23 u0_24 u0_25 u0_26 u0_27 u0_28 u0_29 u0_30 y1_s p1 r103 hc) gX9_cell_X9_namesIn rfl hv_X9_namesIn ⟨nle rfl, nle rfl⟩ 9 0 rfl rfl rfl (rest := []) rfl rfl hl.1 (nle rfl) dX9_cell_103 (fun H locs hP hD hS => ?_)
      cases hf
      exact ke_i hQ hexec hb hr hP hD hS dX9_cell_106 hlocks
    refine lv_tableOut (pc := 24) hexec hb dX9_cell_24 (by have h0 : ¬ (p2).toInt = 0 := fun h => hc0 (Int32.toInt_inj.mp (h.trans (by decide))); have h1 : ¬ (p2).toInt = 1 := fun h => hc1 (Int32.toInt_inj.mp (h.trans (by decide))); have h2 : ¬ (p2).toInt = 2 := fun h => hc2 (Int32.toInt_inj.mp (h.trans (by decide))); have h3 : ¬ (p2).toInt = 3 := fun h => hc3 (Int32.toInt_inj.mp (h.trans (by decide))); have h4 : ¬ (p2).toInt = 4 := fun h => hc4 (Int32.toInt_inj.mp (h.trans (by decide))); omega) (tgt := 107) rfl ?_
    refine lv_aload_n (pc := 107) hexec hb dX9_cell_107 rfl (lv_at hl 0 rfl) ?_
    refine lv_iload_n (pc := 108) hexec hb dX9_cell_108 rfl (lv_at hl 1 rfl) ?_
    obtain ⟨r109, hc, hf⟩ := bd1_e hf
    refine kVp (pc := 109) (S := ⟨hexec, hb, hml, hown, hts⟩) hP hD hG hA hS [0, 1] [] [0, 1] (w2 := (w_X9_cell g a0 a1 u0_1 u0_2 u0_3 u0_4 u0_5 u0_6 u0_8 u0_9 u0_10 u0_11 u0_12 u0_13 u0_14 u0_15 u0_16 u0_17 u0_18 u0_19 u0_20 u0_21 u0_22 u0_23 u0_24 u0_25 u0_26 u0_27 u0_28 u0_29 u0_30 x0_thrown_1 y1_s)) rfl rfl rfl rfl rfl rfl (by decide) (c_X9_depthOf l g a0 a1 _ u0_1 u0_2 u0_3 u0_4 u0_5 u0_6 (.int x0_thrown_1) u0_8 u0_9 u0_10 u0_11 u0_12 u0_13 u0_14 u0_15 u0_16 u0_17 u0_18 u0_19 u0_20 u0_21 u0_22 u0_23 u0_24 u0_25 u0_26 u0_27 u0_28 u0_29 u0_30 y1_s p1 r109 hc) gX9_cell_X9_depthOf rfl hv_X9_depthOf ⟨nle rfl, nle rfl⟩ 9 0 rfl rfl rfl (rest := []) rfl rfl hl.1 (nle rfl) dX9_cell_109 (fun H locs hP hD hS => ?_)
    cases hf
    exact ke_i hQ hexec hb hr hP hD hS dX9_cell_112 hlocks
  · refine lv_iconst (pc := 21) hexec hb dX9_cell_21 ki_0 ?_
    cases hf
    exact ke_i hQ hexec hb hr hP hD hS dX9_cell_22 hlocks
abbrev w_X9_timesIn (g : GE) (a0 a1 : Nat) (u0_1 u0_2 u0_3 u0_4 u0_5 u0_6 u0_7 u0_8 u0_9 u0_10 u0_11 u0_12 u0_13 u0_14 u0_15 u0_16 u0_17 u0_18 u0_19 u0_20 u0_21 u0_22 u0_23 u0_24 u0_25 u0_26 u0_27 u0_28 u0_29 u0_30 : Value) (y1_s : Nat → Int32) : va_W := [(a0, .inr (9, [.ref a1, u0_1, u0_2, u0_3, u0_4, u0_5, u0_6, u0_7, u0_8, u0_9, u0_10, u0_11, u0_12, u0_13, u0_14, u0_15, u0_16, u0_17, u0_18, u0_19, u0_20, u0_21, u0_22, u0_23, u0_24, u0_25, u0_26, u0_27, u0_28, u0_29, u0_30])), (a1, .inl (g.2.1 0, 552, .inl y1_s))]
set_option maxRecDepth 20000 in
theorem c_X9_timesIn (l : Launch) (g : GE) (a0 a1 : Nat) (sz : Nat) (u0_1 u0_2 u0_3 u0_4 u0_5 u0_6 u0_7 u0_8 u0_9 u0_10 u0_11 u0_12 u0_13 u0_14 u0_15 u0_16 u0_17 u0_18 u0_19 u0_20 u0_21 u0_22 u0_23 u0_24 u0_25 u0_26 u0_27 u0_28 u0_29 u0_30 : Value) (y1_s : Nat → Int32) (p1 : Int32)  (r : Int32) (hf : f_X9_timesIn y1_s p1 = some r) : MI l g yX9_timesIn wsX9_timesIn 1 24 [.ref a0, .int p1] (w_X9_timesIn g a0 a1 u0_1 u0_2 u0_3 u0_4 u0_5 u0_6 u0_7 u0_8 u0_9 u0_10 u0_11 u0_12 u0_13 u0_14 u0_15 u0_16 u0_17 u0_18 u0_19 u0_20 u0_21 u0_22 u0_23 u0_24 u0_25 u0_26 u0_27 u0_28 u0_29 u0_30 y1_s) sz (some (.int r)) (w_X9_timesIn g a0 a1 u0_1 u0_2 u0_3 u0_4 u0_5 u0_6 u0_7 u0_8 u0_9 u0_10 u0_11 u0_12 u0_13 u0_14 u0_15 u0_16 u0_17 u0_18 u0_19 u0_20 u0_21 u0_22 u0_23 u0_24 u0_25 u0_26 u0_27 u0_28 u0_29 u0_30 y1_s) := by
  refine MI.start (cc := cX9_timesIn) (maxL := 4) (ret := (some .int)) rfl rfl (nle rfl) ?_
  intro p e s m args below meth c A ls Q hQ hexec hb hr hts hown hlocks hml hA hP hD hG hS hl
  unfold f_X9_timesIn at hf
  have hWX9 : ∀ w ∈ wsX90, w.before args s = true := fun w h => hts w (List.mem_cons_of_mem _ (List.mem_append_right _ h))
  have hS : va_S A s.heap s.heap [] := hS
  refine lv_iconst (pc := 0) hexec hb dX9_timesIn_0 ki_0 ?_
  refine lv_istore_n (pc := 1) hexec hb dX9_timesIn_1 rfl hl (nle rfl) rfl (fun ls (hl : lv_has ls 4 [(2, .int 0), (0, .ref a0), (1, .int p1)]) => ?_)
  refine lv_iconst (pc := 2) hexec hb dX9_timesIn_2 ki_0 ?_
  refine lv_istore_n (pc := 3) hexec hb dX9_timesIn_3 rfl hl (nle rfl) rfl (fun ls (hl : lv_has ls 4 [(3, .int 0), (2, .int 0), (0, .ref a0), (1, .int p1)]) => ?_)
  obtain ⟨l4, el4, hf⟩ := bvf2 hf
  obtain ⟨v2_1, hz, hf⟩ := bd1_e hf
  have hE4 : ∀ (H : Heap) (locs : List Loc) (ls : Array Slot), va_P g.1 vwCl (w_X9_timesIn g a0 a1 u0_1 u0_2 u0_3 u0_4 u0_5 u0_6 u0_7 u0_8 u0_9 u0_10 u0_11 u0_12 u0_13 u0_14 u0_15 u0_16 u0_17 u0_18 u0_19 u0_20 u0_21 u0_22 u0_23 u0_24 u0_25 u0_26 u0_27 u0_28 u0_29 u0_30 y1_s) H → va_D A (w_X9_timesIn g a0 a1 u0_1 u0_2 u0_3 u0_4 u0_5 u0_6 u0_7 u0_8 u0_9 u0_10 u0_11 u0_12 u0_13 u0_14 u0_15 u0_16 u0_17 u0_18 u0_19 u0_20 u0_21 u0_22 u0_23 u0_24 u0_25 u0_26 u0_27 u0_28 u0_29 u0_30 y1_s) → va_S A s.heap H locs → lv_has ls 4 [(2, .int v2_1)] → W p l e (RM 1 24) s m args below meth c H locs 0 0 Q (F0 m 42 ls []) := by
    intro H locs ls hP hD hS hl
    refine lv_iload_n (pc := 42) hexec hb dX9_timesIn_42 rfl (lv_at hl 0 rfl) ?_
    cases hf
    exact ke_i hQ hexec hb hr hP hD hS dX9_timesIn_43 hlocks
  obtain ⟨n, hz⟩ := lq2_e hz
  have hL4 : ∀ (n : Nat) (v2 : Int32) (v3 : Int32) (H : Heap) (locs : List Loc) (ls : Array Slot), it2 l4 n v2 v3 = some v2_1 → va_P g.1 vwCl (w_X9_timesIn g a0 a1 u0_1 u0_2 u0_3 u0_4 u0_5 u0_6 u0_7 u0_8 u0_9 u0_10 u0_11 u0_12 u0_13 u0_14 u0_15 u0_16 u0_17 u0_18 u0_19 u0_20 u0_21 u0_22 u0_23 u0_24 u0_25 u0_26 u0_27 u0_28 u0_29 u0_30 y1_s) H → va_D A (w_X9_timesIn g a0 a1 u0_1 u0_2 u0_3 u0_4 u0_5 u0_6 u0_7 u0_8 u0_9 u0_10 u0_11 u0_12 u0_13 u0_14 u0_15 u0_16 u0_17 u0_18 u0_19 u0_20 u0_21 u0_22 u0_23 u0_24 u0_25 u0_26 u0_27 u0_28 u0_29 u0_30 y1_s) → va_S A s.heap H locs → lv_has ls 4 [(0, .ref a0), (1, .int p1), (2, .int v2), (3, .int v3)] → W p l e (RM 1 24) s m args below meth c H locs 0 0 Q (F0 m 4 ls []) := by
    intro n
    induction n with
    | zero =>
      intro v2 v3 H locs ls hf hP hD hS hl
      exact it2_0 hf
    | succ n4 ih4 =>
      intro v2 v3 H locs ls hf hP hD hS hl
      obtain ⟨q4, hf, hk4⟩ := it2_e hf
      have hf := (el4 v2 v3).symm.trans hf
      refine lv_iload_n (pc := 4) hexec hb dX9_timesIn_4 rfl (lv_at hl 3 rfl) ?_
      refine lv_aload_n (pc := 5) hexec hb dX9_timesIn_5 rfl (lv_at hl 0 rfl) ?_
      refine kg_get (pc := 6) hexec hb (own := RX9) hWX9 hown hG hP 0 rfl rfl 0 (nle rfl) (hts _ (List.mem_cons_of_mem _ (List.mem_append_left _ (List.mem_of_getElem? (i := 0) rfl)))) rfl rfl dX9_timesIn_6 ?_
      refine lv_iconst (pc := 9) hexec hb dX9_timesIn_9 ki_4 ?_
      refine kr_iald (pc := 10) hexec hb hG hP 1 rfl hf dX9_timesIn_10 (fun hf => ?_)
      refine ki_ge (pc := 11) hexec hb dX9_timesIn_11 (tgt := 42) rfl hf (fun hc hf => ?_) (fun hc hf => ?_)
      · cases sr2 hf hk4
        exact hE4 _ _ _ hP hD hS (lv_sub hl [2] rfl)
      · refine lv_iload_n (pc := 14) hexec hb dX9_timesIn_14 rfl (lv_at hl 2 rfl) ?_
        refine lv_aload_n (pc := 15) hexec hb dX9_timesIn_15 rfl (lv_at hl 0 rfl) ?_
        refine kg_get (pc := 16) hexec hb (own := RX9) hWX9 hown hG hP 0 rfl rfl 0 (nle rfl) (hts _ (List.mem_cons_of_mem _ (List.mem_append_left _ (List.mem_of_getElem? (i := 0) rfl)))) rfl rfl dX9_timesIn_16 ?_
        refine lv_sipush (pc := 19) hexec hb dX9_timesIn_19 ks_536 ?_
        refine lv_iload_n (pc := 22) hexec hb dX9_timesIn_22 rfl (lv_at hl 3 rfl) ?_
        refine lv_iadd (pc := 23) hexec hb dX9_timesIn_23 ?_
        refine kr_iald (pc := 24) hexec hb hG hP 1 rfl hf dX9_timesIn_24 (fun hf => ?_)
        refine lv_iload_n (pc := 25) hexec hb dX9_timesIn_25 rfl (lv_at hl 1 rfl) ?_
        obtain ⟨j34, ej34, hf⟩ := bvf1 hf
        have hj34 : ∀ (t34 : Int32) (H : Heap) (locs : List Loc) (ls : Array Slot), j34 t34 = some q4 → va_P g.1 vwCl (w_X9_timesIn g a0 a1 u0_1 u0_2 u0_3 u0_4 u0_5 u0_6 u0_7 u0_8 u0_9 u0_10 u0_11 u0_12 u0_13 u0_14 u0_15 u0_16 u0_17 u0_18 u0_19 u0_20 u0_21 u0_22 u0_23 u0_24 u0_25 u0_26 u0_27 u0_28 u0_29 u0_30 y1_s) H → va_D A (w_X9_timesIn g a0 a1 u0_1 u0_2 u0_3 u0_4 u0_5 u0_6 u0_7 u0_8 u0_9 u0_10 u0_11 u0_12 u0_13 u0_14 u0_15 u0_16 u0_17 u0_18 u0_19 u0_20 u0_21 u0_22 u0_23 u0_24 u0_25 u0_26 u0_27 u0_28 u0_29 u0_30 y1_s) → va_S A s.heap H locs → lv_has ls 4 [(0, .ref a0), (1, .int p1), (3, .int v3)] → W p l e (RM 1 24) s m args below meth c H locs 0 0 Q (F0 m 34 ls [.int t34, .int v2]) := by
          intro t34 H locs ls hf hP hD hS hl
          have hf := (ej34 t34).symm.trans hf
          refine lv_iadd (pc := 34) hexec hb dX9_timesIn_34 ?_
          obtain ⟨v2_2, ev2_2, hf⟩ := bv_e hf
          refine kn_i ev2_2 ?_
          refine lv_istore_n (pc := 35) hexec hb dX9_timesIn_35 rfl hl (nle rfl) rfl (fun ls (hl : lv_has ls 4 [(2, .int v2_2), (0, .ref a0), (1, .int p1), (3, .int v3)]) => ?_)
          obtain ⟨v3_1, ev3_1, hf⟩ := bv_e hf
          refine k_iinc (pc := 36) hexec hb dX9_timesIn_36 kq_1 hl (k := 3) rfl ev3_1 (nle rfl) rfl (fun ls (hl : lv_has ls 4 [(3, .int v3_1), (2, .int v2_2), (0, .ref a0), (1, .int p1)]) => ?_)
          refine lv_goto (pc := 39) hexec hb dX9_timesIn_39 (tgt := 4) rfl ?_
          exact ih4 _ _ _ _ _ (sl2 hf hk4) hP hD hS (lv_sub hl [2, 3, 1, 0] rfl)
        refine ki_ne (pc := 26) hexec hb dX9_timesIn_26 (tgt := 33) rfl hf (fun hc hf => ?_) (fun hc hf => ?_)
        · refine lv_iconst (pc := 33) hexec hb dX9_timesIn_33 ki_0 ?_
          exact hj34 _ _ _ _ hf hP hD hS (lv_sub hl [0, 1, 3] rfl)
        · refine lv_iconst (pc := 29) hexec hb dX9_timesIn_29 ki_1 ?_
          refine lv_goto (pc := 30) hexec hb dX9_timesIn_30 (tgt := 34) rfl ?_
          exact hj34 _ _ _ _ hf hP hD hS (lv_sub hl [0, 1, 3] rfl)
  exact hL4 n _ _ _ _ _ hz hP hD hS (lv_sub hl [2, 3, 1, 0] rfl)
