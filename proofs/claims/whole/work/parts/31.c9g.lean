abbrev w_X9_harbour (g : GE) (a0 a1 : Nat) (u0_1 u0_2 u0_3 u0_4 u0_5 u0_6 u0_8 u0_9 u0_10 u0_11 u0_12 u0_13 u0_14 u0_15 u0_16 u0_17 u0_18 u0_19 u0_20 u0_21 u0_22 u0_23 u0_24 u0_25 u0_26 u0_27 u0_28 u0_29 u0_30 : Value) (x0_thrown : Int32) (y1_s : Nat → Int32) : va_W := [(a0, .inr (9, [.ref a1, u0_1, u0_2, u0_3, u0_4, u0_5, u0_6, .int x0_thrown, u0_8, u0_9, u0_10, u0_11, u0_12, u0_13, u0_14, u0_15, u0_16, u0_17, u0_18, u0_19, u0_20, u0_21, u0_22, u0_23, u0_24, u0_25, u0_26, u0_27, u0_28, u0_29, u0_30])), (a1, .inl (g.2.1 0, 552, .inl y1_s))]
set_option maxRecDepth 20000 in
theorem c_X9_harbour (l : Launch) (g : GE) (a0 a1 : Nat) (sz : Nat) (u0_1 u0_2 u0_3 u0_4 u0_5 u0_6 u0_8 u0_9 u0_10 u0_11 u0_12 u0_13 u0_14 u0_15 u0_16 u0_17 u0_18 u0_19 u0_20 u0_21 u0_22 u0_23 u0_24 u0_25 u0_26 u0_27 u0_28 u0_29 u0_30 : Value) (x0_thrown : Int32) (y1_s : Nat → Int32) (p1 : Int32) (p2 : Int32)  (r : Int32) (o_x0_thrown : Int32) (hf : f_X9_harbour x0_thrown y1_s p1 p2 = some (r, o_x0_thrown)) : MI l g yX9_harbour wsX9_harbour 3 70 [.ref a0, .int p1, .int p2] (w_X9_harbour g a0 a1 u0_1 u0_2 u0_3 u0_4 u0_5 u0_6 u0_8 u0_9 u0_10 u0_11 u0_12 u0_13 u0_14 u0_15 u0_16 u0_17 u0_18 u0_19 u0_20 u0_21 u0_22 u0_23 u0_24 u0_25 u0_26 u0_27 u0_28 u0_29 u0_30 x0_thrown y1_s) sz (some (.int r)) (w_X9_harbour g a0 a1 u0_1 u0_2 u0_3 u0_4 u0_5 u0_6 u0_8 u0_9 u0_10 u0_11 u0_12 u0_13 u0_14 u0_15 u0_16 u0_17 u0_18 u0_19 u0_20 u0_21 u0_22 u0_23 u0_24 u0_25 u0_26 u0_27 u0_28 u0_29 u0_30 o_x0_thrown y1_s) := by
  refine MI.start (cc := cX9_harbour) (maxL := 3) (ret := (some .int)) rfl rfl (nle rfl) ?_
  intro p e s m args below meth c A ls Q hQ hexec hb hr hts hown hlocks hml hA hP hD hG hS hl
  unfold f_X9_harbour at hf
  have hWX9 : ∀ w ∈ wsX90, w.before args s = true := fun w h => hts w (List.mem_cons_of_mem _ (List.mem_append_right _ h))
  have hS : va_S A s.heap s.heap [] := hS
  refine lv_aload_n (pc := 0) hexec hb dX9_harbour_0 rfl (lv_at hl 0 rfl) ?_
  refine lv_aload_n (pc := 1) hexec hb dX9_harbour_1 rfl (lv_at hl 0 rfl) ?_
  refine lv_iload_n (pc := 2) hexec hb dX9_harbour_2 rfl (lv_at hl 1 rfl) ?_
  obtain ⟨r3, hc, hf⟩ := bd1_e hf
  refine kVp (pc := 3) (S := ⟨hexec, hb, hml, hown, hts⟩) hP hD hG hA hS [0, 1] [] [0, 1] (w2 := (w_X9_harbour g a0 a1 u0_1 u0_2 u0_3 u0_4 u0_5 u0_6 u0_8 u0_9 u0_10 u0_11 u0_12 u0_13 u0_14 u0_15 u0_16 u0_17 u0_18 u0_19 u0_20 u0_21 u0_22 u0_23 u0_24 u0_25 u0_26 u0_27 u0_28 u0_29 u0_30 x0_thrown y1_s)) rfl rfl rfl rfl rfl rfl (by decide) (c_X9_isHarbour l g a0 a1 _ u0_1 u0_2 u0_3 u0_4 u0_5 u0_6 (.int x0_thrown) u0_8 u0_9 u0_10 u0_11 u0_12 u0_13 u0_14 u0_15 u0_16 u0_17 u0_18 u0_19 u0_20 u0_21 u0_22 u0_23 u0_24 u0_25 u0_26 u0_27 u0_28 u0_29 u0_30 y1_s p1 r3 hc) gX9_harbour_X9_isHarbour rfl hv_X9_isHarbour ⟨nle rfl, nle rfl⟩ 9 0 rfl rfl rfl (rest := [.ref a0]) rfl rfl hl.1 (nle rfl) dX9_harbour_3 (fun H locs hP hD hS => ?_)
  refine lv_iload_n (pc := 6) hexec hb dX9_harbour_6 rfl (lv_at hl 2 rfl) ?_
  refine lv_i2l (pc := 7) hexec hb dX9_harbour_7 rfl ?_
  refine lv_lconst (pc := 8) hexec hb dX9_harbour_8 kl_0 ?_
  refine lv_ldc2 (pc := 9) hexec hb (own := RX9) hown (hts _ (List.mem_cons_of_mem _ (List.mem_append_left _ (List.mem_of_getElem? (i := 0) rfl)))) dX9_harbour_9 ?_
  obtain ⟨r12, hc, hf⟩ := bd1_e hf
  refine kSp (pc := 12) (S := ⟨hexec, hb, hml, hown, hts⟩) hP hD hG hA hS [] [0, 1] [0, 1] (w2 := (w_X9_harbour g a0 a1 u0_1 u0_2 u0_3 u0_4 u0_5 u0_6 u0_8 u0_9 u0_10 u0_11 u0_12 u0_13 u0_14 u0_15 u0_16 u0_17 u0_18 u0_19 u0_20 u0_21 u0_22 u0_23 u0_24 u0_25 u0_26 u0_27 u0_28 u0_29 u0_30 x0_thrown y1_s)) rfl rfl rfl rfl rfl rfl (by decide) (c_X9_isIn l g _ (p2.toInt64) 0 4 r12 hc) gX9_harbour_X9_isIn rfl hs_X9_isIn ⟨nle rfl, nle rfl⟩ (rest := [.int r3, .ref a0]) rfl rfl hl.1 (nle rfl) dX9_harbour_12 (fun H locs hP hD hS => ?_)
  obtain ⟨r15, x0_thrown_1, hc, hf⟩ := bd2_e hf
  refine kVp (pc := 15) (S := ⟨hexec, hb, hml, hown, hts⟩) hP hD hG hA hS [0] [1] [1, 0] (w2 := (w_X9_harbour g a0 a1 u0_1 u0_2 u0_3 u0_4 u0_5 u0_6 u0_8 u0_9 u0_10 u0_11 u0_12 u0_13 u0_14 u0_15 u0_16 u0_17 u0_18 u0_19 u0_20 u0_21 u0_22 u0_23 u0_24 u0_25 u0_26 u0_27 u0_28 u0_29 u0_30 x0_thrown_1 y1_s)) rfl rfl rfl rfl rfl rfl (by decide) (c_X9_passes l g a0 _ (.ref a1) u0_1 u0_2 u0_3 u0_4 u0_5 u0_6 u0_8 u0_9 u0_10 u0_11 u0_12 u0_13 u0_14 u0_15 u0_16 u0_17 u0_18 u0_19 u0_20 u0_21 u0_22 u0_23 u0_24 u0_25 u0_26 u0_27 u0_28 u0_29 u0_30 x0_thrown r3 r12 r15 x0_thrown_1 hc) gX9_harbour_X9_passes rfl hv_X9_passes ⟨nle rfl, nle rfl⟩ 9 0 rfl rfl rfl (rest := []) rfl rfl hl.1 (nle rfl) dX9_harbour_15 (fun H locs hP hD hS => ?_)
  refine kb_ne (pc := 18) hexec hb dX9_harbour_18 (tgt := 23) rfl hf (fun hc hf => ?_) (fun hc hf => ?_)
  · refine lv_iload_n (pc := 23) hexec hb dX9_harbour_23 rfl (lv_at hl 2 rfl) ?_
    refine lv_iconst (pc := 24) hexec hb dX9_harbour_24 ki_4 ?_
    refine ki_ne (pc := 25) hexec hb dX9_harbour_25 (tgt := 36) rfl hf (fun hc hf => ?_) (fun hc hf => ?_)
    · refine lv_aload_n (pc := 36) hexec hb dX9_harbour_36 rfl (lv_at hl 0 rfl) ?_
      refine lv_iload_n (pc := 37) hexec hb dX9_harbour_37 rfl (lv_at hl 1 rfl) ?_
      refine lv_iload_n (pc := 38) hexec hb dX9_harbour_38 rfl (lv_at hl 2 rfl) ?_
      obtain ⟨r39, hc, hf⟩ := bd1_e hf
      refine kVp (pc := 39) (S := ⟨hexec, hb, hml, hown, hts⟩) hP hD hG hA hS [0, 1] [] [0, 1] (w2 := (w_X9_harbour g a0 a1 u0_1 u0_2 u0_3 u0_4 u0_5 u0_6 u0_8 u0_9 u0_10 u0_11 u0_12 u0_13 u0_14 u0_15 u0_16 u0_17 u0_18 u0_19 u0_20 u0_21 u0_22 u0_23 u0_24 u0_25 u0_26 u0_27 u0_28 u0_29 u0_30 x0_thrown_1 y1_s)) rfl rfl rfl rfl rfl rfl (by decide) (c_X9_of l g a0 a1 _ u0_1 u0_2 u0_3 u0_4 u0_5 u0_6 (.int x0_thrown_1) u0_8 u0_9 u0_10 u0_11 u0_12 u0_13 u0_14 u0_15 u0_16 u0_17 u0_18 u0_19 u0_20 u0_21 u0_22 u0_23 u0_24 u0_25 u0_26 u0_27 u0_28 u0_29 u0_30 y1_s p1 p2 r39 hc) gX9_harbour_X9_of rfl hv_X9_of ⟨nle rfl, nle rfl⟩ 9 0 rfl rfl rfl (rest := []) rfl rfl hl.1 (nle rfl) dX9_harbour_39 (fun H locs hP hD hS => ?_)
      cases hf
      exact ke_i hQ hexec hb hr hP hD hS dX9_harbour_42 hlocks
    · refine lv_aload_n (pc := 28) hexec hb dX9_harbour_28 rfl (lv_at hl 0 rfl) ?_
      refine lv_iload_n (pc := 29) hexec hb dX9_harbour_29 rfl (lv_at hl 1 rfl) ?_
      obtain ⟨r30, hc, hf⟩ := bd1_e hf
      refine kVp (pc := 30) (S := ⟨hexec, hb, hml, hown, hts⟩) hP hD hG hA hS [0, 1] [] [0, 1] (w2 := (w_X9_harbour g a0 a1 u0_1 u0_2 u0_3 u0_4 u0_5 u0_6 u0_8 u0_9 u0_10 u0_11 u0_12 u0_13 u0_14 u0_15 u0_16 u0_17 u0_18 u0_19 u0_20 u0_21 u0_22 u0_23 u0_24 u0_25 u0_26 u0_27 u0_28 u0_29 u0_30 x0_thrown_1 y1_s)) rfl rfl rfl rfl rfl rfl (by decide) (c_X9_timesIn l g a0 a1 _ u0_1 u0_2 u0_3 u0_4 u0_5 u0_6 (.int x0_thrown_1) u0_8 u0_9 u0_10 u0_11 u0_12 u0_13 u0_14 u0_15 u0_16 u0_17 u0_18 u0_19 u0_20 u0_21 u0_22 u0_23 u0_24 u0_25 u0_26 u0_27 u0_28 u0_29 u0_30 y1_s p1 r30 hc) gX9_harbour_X9_timesIn rfl hv_X9_timesIn ⟨nle rfl, nle rfl⟩ 9 0 rfl rfl rfl (rest := []) rfl rfl hl.1 (nle rfl) dX9_harbour_30 (fun H locs hP hD hS => ?_)
      refine lv_goto (pc := 33) hexec hb dX9_harbour_33 (tgt := 42) rfl ?_
      cases hf
      exact ke_i hQ hexec hb hr hP hD hS dX9_harbour_42 hlocks
  · refine lv_iconst (pc := 21) hexec hb dX9_harbour_21 ki_0 ?_
    cases hf
    exact ke_i hQ hexec hb hr hP hD hS dX9_harbour_22 hlocks
abbrev w_X9_mayHarbour (g : GE) (a0 a1 : Nat) (u0_1 u0_2 u0_3 u0_4 u0_5 u0_6 u0_8 u0_9 u0_10 u0_11 u0_12 u0_13 u0_14 u0_15 u0_16 u0_17 u0_18 u0_19 u0_20 u0_21 u0_22 u0_23 u0_24 u0_25 u0_26 u0_27 u0_28 u0_29 u0_30 : Value) (x0_thrown : Int32) (y1_s : Nat → Int32) : va_W := [(a0, .inr (9, [.ref a1, u0_1, u0_2, u0_3, u0_4, u0_5, u0_6, .int x0_thrown, u0_8, u0_9, u0_10, u0_11, u0_12, u0_13, u0_14, u0_15, u0_16, u0_17, u0_18, u0_19, u0_20, u0_21, u0_22, u0_23, u0_24, u0_25, u0_26, u0_27, u0_28, u0_29, u0_30])), (a1, .inl (g.2.1 0, 552, .inl y1_s))]
set_option maxRecDepth 20000 in
theorem c_X9_mayHarbour (l : Launch) (g : GE) (a0 a1 : Nat) (sz : Nat) (u0_1 u0_2 u0_3 u0_4 u0_5 u0_6 u0_8 u0_9 u0_10 u0_11 u0_12 u0_13 u0_14 u0_15 u0_16 u0_17 u0_18 u0_19 u0_20 u0_21 u0_22 u0_23 u0_24 u0_25 u0_26 u0_27 u0_28 u0_29 u0_30 : Value) (x0_thrown : Int32) (y1_s : Nat → Int32) (p1 : Int32)  (r : Int32) (o_x0_thrown : Int32) (hf : f_X9_mayHarbour x0_thrown y1_s p1 = some (r, o_x0_thrown)) : MI l g yX9_mayHarbour wsX9_mayHarbour 3 70 [.ref a0, .int p1] (w_X9_mayHarbour g a0 a1 u0_1 u0_2 u0_3 u0_4 u0_5 u0_6 u0_8 u0_9 u0_10 u0_11 u0_12 u0_13 u0_14 u0_15 u0_16 u0_17 u0_18 u0_19 u0_20 u0_21 u0_22 u0_23 u0_24 u0_25 u0_26 u0_27 u0_28 u0_29 u0_30 x0_thrown y1_s) sz (some (.int r)) (w_X9_mayHarbour g a0 a1 u0_1 u0_2 u0_3 u0_4 u0_5 u0_6 u0_8 u0_9 u0_10 u0_11 u0_12 u0_13 u0_14 u0_15 u0_16 u0_17 u0_18 u0_19 u0_20 u0_21 u0_22 u0_23 u0_24 u0_25 u0_26 u0_27 u0_28 u0_29 u0_30 o_x0_thrown y1_s) := by
  refine MI.start (cc := cX9_mayHarbour) (maxL := 2) (ret := (some .boolean)) rfl rfl (nle rfl) ?_
  intro p e s m args below meth c A ls Q hQ hexec hb hr hts hown hlocks hml hA hP hD hG hS hl
  unfold f_X9_mayHarbour at hf
  have hWX9 : ∀ w ∈ wsX90, w.before args s = true := fun w h => hts w (List.mem_cons_of_mem _ (List.mem_append_right _ h))
  have hS : va_S A s.heap s.heap [] := hS
  refine lv_aload_n (pc := 0) hexec hb dX9_mayHarbour_0 rfl (lv_at hl 0 rfl) ?_
  refine lv_aload_n (pc := 1) hexec hb dX9_mayHarbour_1 rfl (lv_at hl 0 rfl) ?_
  refine lv_iload_n (pc := 2) hexec hb dX9_mayHarbour_2 rfl (lv_at hl 1 rfl) ?_
  obtain ⟨r3, hc, hf⟩ := bd1_e hf
  refine kVp (pc := 3) (S := ⟨hexec, hb, hml, hown, hts⟩) hP hD hG hA hS [0, 1] [] [0, 1] (w2 := (w_X9_mayHarbour g a0 a1 u0_1 u0_2 u0_3 u0_4 u0_5 u0_6 u0_8 u0_9 u0_10 u0_11 u0_12 u0_13 u0_14 u0_15 u0_16 u0_17 u0_18 u0_19 u0_20 u0_21 u0_22 u0_23 u0_24 u0_25 u0_26 u0_27 u0_28 u0_29 u0_30 x0_thrown y1_s)) rfl rfl rfl rfl rfl rfl (by decide) (c_X9_isHarbour l g a0 a1 _ u0_1 u0_2 u0_3 u0_4 u0_5 u0_6 (.int x0_thrown) u0_8 u0_9 u0_10 u0_11 u0_12 u0_13 u0_14 u0_15 u0_16 u0_17 u0_18 u0_19 u0_20 u0_21 u0_22 u0_23 u0_24 u0_25 u0_26 u0_27 u0_28 u0_29 u0_30 y1_s p1 r3 hc) gX9_mayHarbour_X9_isHarbour rfl hv_X9_isHarbour ⟨nle rfl, nle rfl⟩ 9 0 rfl rfl rfl (rest := [.ref a0]) rfl rfl hl.1 (nle rfl) dX9_mayHarbour_3 (fun H locs hP hD hS => ?_)
  refine lv_iconst (pc := 6) hexec hb dX9_mayHarbour_6 ki_1 ?_
  obtain ⟨r7, x0_thrown_1, hc, hf⟩ := bd2_e hf
  refine kVp (pc := 7) (S := ⟨hexec, hb, hml, hown, hts⟩) hP hD hG hA hS [0] [1] [1, 0] (w2 := (w_X9_mayHarbour g a0 a1 u0_1 u0_2 u0_3 u0_4 u0_5 u0_6 u0_8 u0_9 u0_10 u0_11 u0_12 u0_13 u0_14 u0_15 u0_16 u0_17 u0_18 u0_19 u0_20 u0_21 u0_22 u0_23 u0_24 u0_25 u0_26 u0_27 u0_28 u0_29 u0_30 x0_thrown_1 y1_s)) rfl rfl rfl rfl rfl rfl (by decide) (c_X9_passes l g a0 _ (.ref a1) u0_1 u0_2 u0_3 u0_4 u0_5 u0_6 u0_8 u0_9 u0_10 u0_11 u0_12 u0_13 u0_14 u0_15 u0_16 u0_17 u0_18 u0_19 u0_20 u0_21 u0_22 u0_23 u0_24 u0_25 u0_26 u0_27 u0_28 u0_29 u0_30 x0_thrown r3 1 r7 x0_thrown_1 hc) gX9_mayHarbour_X9_passes rfl hv_X9_passes ⟨nle rfl, nle rfl⟩ 9 0 rfl rfl rfl (rest := []) rfl rfl hl.1 (nle rfl) dX9_mayHarbour_7 (fun H locs hP hD hS => ?_)
  obtain ⟨hx, hf⟩ := zb_e hf
  cases hf
  exact ke_z hQ hexec hb hr hx hP hD hS dX9_mayHarbour_10 hlocks
abbrev w_X9_letter (g : GE) (a0 a1 : Nat) (u0_1 u0_2 u0_3 u0_4 u0_5 u0_6 u0_8 u0_9 u0_10 u0_11 u0_12 u0_13 u0_14 u0_15 u0_16 u0_17 u0_18 u0_19 u0_20 u0_21 u0_22 u0_23 u0_24 u0_25 u0_26 u0_27 u0_28 u0_29 u0_30 : Value) (x0_thrown : Int32) (y1_s : Nat → Int32) : va_W := [(a0, .inr (9, [.ref a1, u0_1, u0_2, u0_3, u0_4, u0_5, u0_6, .int x0_thrown, u0_8, u0_9, u0_10, u0_11, u0_12, u0_13, u0_14, u0_15, u0_16, u0_17, u0_18, u0_19, u0_20, u0_21, u0_22, u0_23, u0_24, u0_25, u0_26, u0_27, u0_28, u0_29, u0_30])), (a1, .inl (g.2.1 0, 552, .inl y1_s))]
set_option maxRecDepth 20000 in
theorem c_X9_letter (l : Launch) (g : GE) (a0 a1 : Nat) (sz : Nat) (u0_1 u0_2 u0_3 u0_4 u0_5 u0_6 u0_8 u0_9 u0_10 u0_11 u0_12 u0_13 u0_14 u0_15 u0_16 u0_17 u0_18 u0_19 u0_20 u0_21 u0_22 u0_23 u0_24 u0_25 u0_26 u0_27 u0_28 u0_29 u0_30 : Value) (x0_thrown : Int32) (y1_s : Nat → Int32) (p1 : Int32) (p2 : Int32)  (r : Int32) (o_x0_thrown : Int32) (hf : f_X9_letter x0_thrown y1_s p1 p2 = some (r, o_x0_thrown)) : MI l g yX9_letter wsX9_letter 4 91 [.ref a0, .int p1, .int p2] (w_X9_letter g a0 a1 u0_1 u0_2 u0_3 u0_4 u0_5 u0_6 u0_8 u0_9 u0_10 u0_11 u0_12 u0_13 u0_14 u0_15 u0_16 u0_17 u0_18 u0_19 u0_20 u0_21 u0_22 u0_23 u0_24 u0_25 u0_26 u0_27 u0_28 u0_29 u0_30 x0_thrown y1_s) sz (some (.int r)) (w_X9_letter g a0 a1 u0_1 u0_2 u0_3 u0_4 u0_5 u0_6 u0_8 u0_9 u0_10 u0_11 u0_12 u0_13 u0_14 u0_15 u0_16 u0_17 u0_18 u0_19 u0_20 u0_21 u0_22 u0_23 u0_24 u0_25 u0_26 u0_27 u0_28 u0_29 u0_30 o_x0_thrown y1_s) := by
  refine MI.start (cc := cX9_letter) (maxL := 3) (ret := (some .int)) rfl rfl (nle rfl) ?_
  intro p e s m args below meth c A ls Q hQ hexec hb hr hts hown hlocks hml hA hP hD hG hS hl
  unfold f_X9_letter at hf
  have hWX9 : ∀ w ∈ wsX90, w.before args s = true := fun w h => hts w (List.mem_cons_of_mem _ (List.mem_append_right _ h))
  have hS : va_S A s.heap s.heap [] := hS
  refine lv_aload_n (pc := 0) hexec hb dX9_letter_0 rfl (lv_at hl 0 rfl) ?_
  refine lv_iload_n (pc := 1) hexec hb dX9_letter_1 rfl (lv_at hl 1 rfl) ?_
  obtain ⟨r2, x0_thrown_1, hc, hf⟩ := bd2_e hf
  refine kVp (pc := 2) (S := ⟨hexec, hb, hml, hown, hts⟩) hP hD hG hA hS [0, 1] [] [0, 1] (w2 := (w_X9_letter g a0 a1 u0_1 u0_2 u0_3 u0_4 u0_5 u0_6 u0_8 u0_9 u0_10 u0_11 u0_12 u0_13 u0_14 u0_15 u0_16 u0_17 u0_18 u0_19 u0_20 u0_21 u0_22 u0_23 u0_24 u0_25 u0_26 u0_27 u0_28 u0_29 u0_30 x0_thrown_1 y1_s)) rfl rfl rfl rfl rfl rfl (by decide) (c_X9_mayHarbour l g a0 a1 _ u0_1 u0_2 u0_3 u0_4 u0_5 u0_6 u0_8 u0_9 u0_10 u0_11 u0_12 u0_13 u0_14 u0_15 u0_16 u0_17 u0_18 u0_19 u0_20 u0_21 u0_22 u0_23 u0_24 u0_25 u0_26 u0_27 u0_28 u0_29 u0_30 x0_thrown y1_s p1 r2 x0_thrown_1 hc) gX9_letter_X9_mayHarbour rfl hv_X9_mayHarbour ⟨nle rfl, nle rfl⟩ 9 0 rfl rfl rfl (rest := []) rfl rfl hl.1 (nle rfl) dX9_letter_2 (fun H locs hP hD hS => ?_)
  refine kb_ne (pc := 5) hexec hb dX9_letter_5 (tgt := 10) rfl hf (fun hc hf => ?_) (fun hc hf => ?_)
  · refine lv_iload_n (pc := 10) hexec hb dX9_letter_10 rfl (lv_at hl 2 rfl) ?_
    refine lv_i2l (pc := 11) hexec hb dX9_letter_11 rfl ?_
    refine lv_lconst (pc := 12) hexec hb dX9_letter_12 kl_0 ?_
    refine lv_aload_n (pc := 13) hexec hb dX9_letter_13 rfl (lv_at hl 0 rfl) ?_
    refine lv_iload_n (pc := 14) hexec hb dX9_letter_14 rfl (lv_at hl 1 rfl) ?_
    refine lv_iconst (pc := 15) hexec hb dX9_letter_15 ki_3 ?_
    obtain ⟨r16, hc, hf⟩ := bd1_e hf
    refine kVp (pc := 16) (S := ⟨hexec, hb, hml, hown, hts⟩) hP hD hG hA hS [0, 1] [] [0, 1] (w2 := (w_X9_letter g a0 a1 u0_1 u0_2 u0_3 u0_4 u0_5 u0_6 u0_8 u0_9 u0_10 u0_11 u0_12 u0_13 u0_14 u0_15 u0_16 u0_17 u0_18 u0_19 u0_20 u0_21 u0_22 u0_23 u0_24 u0_25 u0_26 u0_27 u0_28 u0_29 u0_30 x0_thrown_1 y1_s)) rfl rfl rfl rfl rfl rfl (by decide) (c_X9_of l g a0 a1 _ u0_1 u0_2 u0_3 u0_4 u0_5 u0_6 (.int x0_thrown_1) u0_8 u0_9 u0_10 u0_11 u0_12 u0_13 u0_14 u0_15 u0_16 u0_17 u0_18 u0_19 u0_20 u0_21 u0_22 u0_23 u0_24 u0_25 u0_26 u0_27 u0_28 u0_29 u0_30 y1_s p1 3 r16 hc) gX9_letter_X9_of rfl hv_X9_of ⟨nle rfl, nle rfl⟩ 9 0 rfl rfl rfl (rest := [.long 0, .long (p2.toInt64)]) rfl rfl hl.1 (nle rfl) dX9_letter_16 (fun H locs hP hD hS => ?_)
    refine lv_iconst (pc := 19) hexec hb dX9_letter_19 ki_1 ?_
    refine lv_isub (pc := 20) hexec hb dX9_letter_20 ?_
    refine lv_i2l (pc := 21) hexec hb dX9_letter_21 rfl ?_
    obtain ⟨r22, hc, hf⟩ := bd1_e hf
    refine kSp (pc := 22) (S := ⟨hexec, hb, hml, hown, hts⟩) hP hD hG hA hS [] [0, 1] [0, 1] (w2 := (w_X9_letter g a0 a1 u0_1 u0_2 u0_3 u0_4 u0_5 u0_6 u0_8 u0_9 u0_10 u0_11 u0_12 u0_13 u0_14 u0_15 u0_16 u0_17 u0_18 u0_19 u0_20 u0_21 u0_22 u0_23 u0_24 u0_25 u0_26 u0_27 u0_28 u0_29 u0_30 x0_thrown_1 y1_s)) rfl rfl rfl rfl rfl rfl (by decide) (c_X9_isIn l g _ (p2.toInt64) 0 (((r16 - 1)).toInt64) r22 hc) gX9_letter_X9_isIn rfl hs_X9_isIn ⟨nle rfl, nle rfl⟩ (rest := []) rfl rfl hl.1 (nle rfl) dX9_letter_22 (fun H locs hP hD hS => ?_)
    refine kb_eq (pc := 25) hexec hb dX9_letter_25 (tgt := 39) rfl hf (fun hc hf => ?_) (fun hc hf => ?_)
    · refine lv_iconst (pc := 39) hexec hb dX9_letter_39 ki_m1 ?_
      cases hf
      exact ke_i hQ hexec hb hr hP hD hS dX9_letter_40 hlocks
    · refine lv_aload_n (pc := 28) hexec hb dX9_letter_28 rfl (lv_at hl 0 rfl) ?_
      refine lv_iload_n (pc := 29) hexec hb dX9_letter_29 rfl (lv_at hl 1 rfl) ?_
      refine lv_iconst (pc := 30) hexec hb dX9_letter_30 ki_4 ?_
      refine lv_iload_n (pc := 31) hexec hb dX9_letter_31 rfl (lv_at hl 2 rfl) ?_
      refine lv_iadd (pc := 32) hexec hb dX9_letter_32 ?_
      obtain ⟨r33, hc, hf⟩ := bd1_e hf
      refine kVp (pc := 33) (S := ⟨hexec, hb, hml, hown, hts⟩) hP hD hG hA hS [0, 1] [] [0, 1] (w2 := (w_X9_letter g a0 a1 u0_1 u0_2 u0_3 u0_4 u0_5 u0_6 u0_8 u0_9 u0_10 u0_11 u0_12 u0_13 u0_14 u0_15 u0_16 u0_17 u0_18 u0_19 u0_20 u0_21 u0_22 u0_23 u0_24 u0_25 u0_26 u0_27 u0_28 u0_29 u0_30 x0_thrown_1 y1_s)) rfl rfl rfl rfl rfl rfl (by decide) (c_X9_of l g a0 a1 _ u0_1 u0_2 u0_3 u0_4 u0_5 u0_6 (.int x0_thrown_1) u0_8 u0_9 u0_10 u0_11 u0_12 u0_13 u0_14 u0_15 u0_16 u0_17 u0_18 u0_19 u0_20 u0_21 u0_22 u0_23 u0_24 u0_25 u0_26 u0_27 u0_28 u0_29 u0_30 y1_s p1 (4 + p2) r33 hc) gX9_letter_X9_of rfl hv_X9_of ⟨nle rfl, nle rfl⟩ 9 0 rfl rfl rfl (rest := []) rfl rfl hl.1 (nle rfl) dX9_letter_33 (fun H locs hP hD hS => ?_)
      refine lv_goto (pc := 36) hexec hb dX9_letter_36 (tgt := 40) rfl ?_
      cases hf
      exact ke_i hQ hexec hb hr hP hD hS dX9_letter_40 hlocks
  · refine lv_iconst (pc := 8) hexec hb dX9_letter_8 ki_0 ?_
    cases hf
    exact ke_i hQ hexec hb hr hP hD hS dX9_letter_9 hlocks
abbrev w_X9_mayRiver (g : GE) (a0 a1 : Nat) (u0_1 u0_2 u0_3 u0_4 u0_5 u0_6 u0_8 u0_9 u0_10 u0_11 u0_12 u0_13 u0_14 u0_15 u0_16 u0_17 u0_18 u0_19 u0_20 u0_21 u0_22 u0_23 u0_24 u0_25 u0_26 u0_27 u0_28 u0_29 u0_30 : Value) (x0_thrown : Int32) (y1_s : Nat → Int32) : va_W := [(a0, .inr (9, [.ref a1, u0_1, u0_2, u0_3, u0_4, u0_5, u0_6, .int x0_thrown, u0_8, u0_9, u0_10, u0_11, u0_12, u0_13, u0_14, u0_15, u0_16, u0_17, u0_18, u0_19, u0_20, u0_21, u0_22, u0_23, u0_24, u0_25, u0_26, u0_27, u0_28, u0_29, u0_30])), (a1, .inl (g.2.1 0, 552, .inl y1_s))]
set_option maxRecDepth 20000 in
theorem c_X9_mayRiver (l : Launch) (g : GE) (a0 a1 : Nat) (sz : Nat) (u0_1 u0_2 u0_3 u0_4 u0_5 u0_6 u0_8 u0_9 u0_10 u0_11 u0_12 u0_13 u0_14 u0_15 u0_16 u0_17 u0_18 u0_19 u0_20 u0_21 u0_22 u0_23 u0_24 u0_25 u0_26 u0_27 u0_28 u0_29 u0_30 : Value) (x0_thrown : Int32) (y1_s : Nat → Int32) (p1 : Int32)  (r : Int32) (o_x0_thrown : Int32) (hf : f_X9_mayRiver x0_thrown y1_s p1 = some (r, o_x0_thrown)) : MI l g yX9_mayRiver wsX9_mayRiver 2 49 [.ref a0, .int p1] (w_X9_mayRiver g a0 a1 u0_1 u0_2 u0_3 u0_4 u0_5 u0_6 u0_8 u0_9 u0_10 u0_11 u0_12 u0_13 u0_14 u0_15 u0_16 u0_17 u0_18 u0_19 u0_20 u0_21 u0_22 u0_23 u0_24 u0_25 u0_26 u0_27 u0_28 u0_29 u0_30 x0_thrown y1_s) sz (some (.int r)) (w_X9_mayRiver g a0 a1 u0_1 u0_2 u0_3 u0_4 u0_5 u0_6 u0_8 u0_9 u0_10 u0_11 u0_12 u0_13 u0_14 u0_15 u0_16 u0_17 u0_18 u0_19 u0_20 u0_21 u0_22 u0_23 u0_24 u0_25 u0_26 u0_27 u0_28 u0_29 u0_30 o_x0_thrown y1_s) := by
  refine MI.start (cc := cX9_mayRiver) (maxL := 2) (ret := (some .boolean)) rfl rfl (nle rfl) ?_
  intro p e s m args below meth c A ls Q hQ hexec hb hr hts hown hlocks hml hA hP hD hG hS hl
  unfold f_X9_mayRiver at hf
  have hWX9 : ∀ w ∈ wsX90, w.before args s = true := fun w h => hts w (List.mem_cons_of_mem _ (List.mem_append_right _ h))
  have hS : va_S A s.heap s.heap [] := hS
  refine lv_aload_n (pc := 0) hexec hb dX9_mayRiver_0 rfl (lv_at hl 0 rfl) ?_
  refine lv_iload_n (pc := 1) hexec hb dX9_mayRiver_1 rfl (lv_at hl 1 rfl) ?_
  refine lv_i2l (pc := 2) hexec hb dX9_mayRiver_2 rfl ?_
  refine lv_lconst (pc := 3) hexec hb dX9_mayRiver_3 kl_0 ?_
  refine lv_aload_n (pc := 4) hexec hb dX9_mayRiver_4 rfl (lv_at hl 0 rfl) ?_
  refine kg_get (pc := 5) hexec hb (own := RX9) hWX9 hown hG hP 0 rfl rfl 0 (nle rfl) (hts _ (List.mem_cons_of_mem _ (List.mem_append_left _ (List.mem_of_getElem? (i := 0) rfl)))) rfl rfl dX9_mayRiver_5 ?_
  refine lv_iconst (pc := 8) hexec hb dX9_mayRiver_8 ki_3 ?_
  refine kr_iald (pc := 9) hexec hb hG hP 1 rfl hf dX9_mayRiver_9 (fun hf => ?_)
  refine lv_iconst (pc := 10) hexec hb dX9_mayRiver_10 ki_1 ?_
  refine lv_isub (pc := 11) hexec hb dX9_mayRiver_11 ?_
  refine lv_i2l (pc := 12) hexec hb dX9_mayRiver_12 rfl ?_
  obtain ⟨r13, hc, hf⟩ := bd1_e hf
  refine kSp (pc := 13) (S := ⟨hexec, hb, hml, hown, hts⟩) hP hD hG hA hS [] [0, 1] [0, 1] (w2 := (w_X9_mayRiver g a0 a1 u0_1 u0_2 u0_3 u0_4 u0_5 u0_6 u0_8 u0_9 u0_10 u0_11 u0_12 u0_13 u0_14 u0_15 u0_16 u0_17 u0_18 u0_19 u0_20 u0_21 u0_22 u0_23 u0_24 u0_25 u0_26 u0_27 u0_28 u0_29 u0_30 x0_thrown y1_s)) rfl rfl rfl rfl rfl rfl (by decide) (c_X9_isIn l g _ (p1.toInt64) 0 ((((y1_s (3 : Int32).toNatClampNeg) - 1)).toInt64) r13 hc) gX9_mayRiver_X9_isIn rfl hs_X9_isIn ⟨nle rfl, nle rfl⟩ (rest := [.ref a0]) rfl rfl hl.1 (nle rfl) dX9_mayRiver_13 (fun H locs hP hD hS => ?_)
  refine lv_iconst (pc := 16) hexec hb dX9_mayRiver_16 ki_1 ?_
  obtain ⟨r17, x0_thrown_1, hc, hf⟩ := bd2_e hf
  refine kVp (pc := 17) (S := ⟨hexec, hb, hml, hown, hts⟩) hP hD hG hA hS [0] [1] [1, 0] (w2 := (w_X9_mayRiver g a0 a1 u0_1 u0_2 u0_3 u0_4 u0_5 u0_6 u0_8 u0_9 u0_10 u0_11 u0_12 u0_13 u0_14 u0_15 u0_16 u0_17 u0_18 u0_19 u0_20 u0_21 u0_22 u0_23 u0_24 u0_25 u0_26 u0_27 u0_28 u0_29 u0_30 x0_thrown_1 y1_s)) rfl rfl rfl rfl rfl rfl (by decide) (c_X9_passes l g a0 _ (.ref a1) u0_1 u0_2 u0_3 u0_4 u0_5 u0_6 u0_8 u0_9 u0_10 u0_11 u0_12 u0_13 u0_14 u0_15 u0_16 u0_17 u0_18 u0_19 u0_20 u0_21 u0_22 u0_23 u0_24 u0_25 u0_26 u0_27 u0_28 u0_29 u0_30 x0_thrown r13 1 r17 x0_thrown_1 hc) gX9_mayRiver_X9_passes rfl hv_X9_passes ⟨nle rfl, nle rfl⟩ 9 0 rfl rfl rfl (rest := []) rfl rfl hl.1 (nle rfl) dX9_mayRiver_17 (fun H locs hP hD hS => ?_)
  obtain ⟨hx, hf⟩ := zb_e hf
  cases hf
  exact ke_z hQ hexec hb hr hx hP hD hS dX9_mayRiver_20 hlocks
abbrev w_X9_river (g : GE) (a0 a1 : Nat) (u0_1 u0_2 u0_3 u0_4 u0_5 u0_6 u0_8 u0_9 u0_10 u0_11 u0_12 u0_13 u0_14 u0_15 u0_16 u0_17 u0_18 u0_19 u0_20 u0_21 u0_22 u0_23 u0_24 u0_25 u0_26 u0_27 u0_28 u0_29 u0_30 : Value) (x0_thrown : Int32) (y1_s : Nat → Int32) : va_W := [(a0, .inr (9, [.ref a1, u0_1, u0_2, u0_3, u0_4, u0_5, u0_6, .int x0_thrown, u0_8, u0_9, u0_10, u0_11, u0_12, u0_13, u0_14, u0_15, u0_16, u0_17, u0_18, u0_19, u0_20, u0_21, u0_22, u0_23, u0_24, u0_25, u0_26, u0_27, u0_28, u0_29, u0_30])), (a1, .inl (g.2.1 0, 552, .inl y1_s))]
set_option maxRecDepth 20000 in
theorem c_X9_river (l : Launch) (g : GE) (a0 a1 : Nat) (sz : Nat) (u0_1 u0_2 u0_3 u0_4 u0_5 u0_6 u0_8 u0_9 u0_10 u0_11 u0_12 u0_13 u0_14 u0_15 u0_16 u0_17 u0_18 u0_19 u0_20 u0_21 u0_22 u0_23 u0_24 u0_25 u0_26 u0_27 u0_28 u0_29 u0_30 : Value) (x0_thrown : Int32) (y1_s : Nat → Int32) (p1 : Int32) (p2 : Int32)  (r : Int32) (o_x0_thrown : Int32) (hf : f_X9_river x0_thrown y1_s p1 p2 = some (r, o_x0_thrown)) : MI l g yX9_river wsX9_river 3 70 [.ref a0, .int p1, .int p2] (w_X9_river g a0 a1 u0_1 u0_2 u0_3 u0_4 u0_5 u0_6 u0_8 u0_9 u0_10 u0_11 u0_12 u0_13 u0_14 u0_15 u0_16 u0_17 u0_18 u0_19 u0_20 u0_21 u0_22 u0_23 u0_24 u0_25 u0_26 u0_27 u0_28 u0_29 u0_30 x0_thrown y1_s) sz (some (.int r)) (w_X9_river g a0 a1 u0_1 u0_2 u0_3 u0_4 u0_5 u0_6 u0_8 u0_9 u0_10 u0_11 u0_12 u0_13 u0_14 u0_15 u0_16 u0_17 u0_18 u0_19 u0_20 u0_21 u0_22 u0_23 u0_24 u0_25 u0_26 u0_27 u0_28 u0_29 u0_30 o_x0_thrown y1_s) := by
  refine MI.start (cc := cX9_river) (maxL := 4) (ret := (some .int)) rfl rfl (nle rfl) ?_
  intro p e s m args below meth c A ls Q hQ hexec hb hr hts hown hlocks hml hA hP hD hG hS hl
  unfold f_X9_river at hf
  have hWX9 : ∀ w ∈ wsX90, w.before args s = true := fun w h => hts w (List.mem_cons_of_mem _ (List.mem_append_right _ h))
  have hS : va_S A s.heap s.heap [] := hS
  refine lv_aload_n (pc := 0) hexec hb dX9_river_0 rfl (lv_at hl 0 rfl) ?_
  refine lv_iload_n (pc := 1) hexec hb dX9_river_1 rfl (lv_at hl 1 rfl) ?_
  obtain ⟨r2, x0_thrown_1, hc, hf⟩ := bd2_e hf
  refine kVp (pc := 2) (S := ⟨hexec, hb, hml, hown, hts⟩) hP hD hG hA hS [0, 1] [] [0, 1] (w2 := (w_X9_river g a0 a1 u0_1 u0_2 u0_3 u0_4 u0_5 u0_6 u0_8 u0_9 u0_10 u0_11 u0_12 u0_13 u0_14 u0_15 u0_16 u0_17 u0_18 u0_19 u0_20 u0_21 u0_22 u0_23 u0_24 u0_25 u0_26 u0_27 u0_28 u0_29 u0_30 x0_thrown_1 y1_s)) rfl rfl rfl rfl rfl rfl (by decide) (c_X9_mayRiver l g a0 a1 _ u0_1 u0_2 u0_3 u0_4 u0_5 u0_6 u0_8 u0_9 u0_10 u0_11 u0_12 u0_13 u0_14 u0_15 u0_16 u0_17 u0_18 u0_19 u0_20 u0_21 u0_22 u0_23 u0_24 u0_25 u0_26 u0_27 u0_28 u0_29 u0_30 x0_thrown y1_s p1 r2 x0_thrown_1 hc) gX9_river_X9_mayRiver rfl hv_X9_mayRiver ⟨nle rfl, nle rfl⟩ 9 0 rfl rfl rfl (rest := []) rfl rfl hl.1 (nle rfl) dX9_river_2 (fun H locs hP hD hS => ?_)
  refine kb_ne (pc := 5) hexec hb dX9_river_5 (tgt := 10) rfl hf (fun hc hf => ?_) (fun hc hf => ?_)
  · refine lv_iconst (pc := 10) hexec hb dX9_river_10 ki_0 ?_
    refine lv_istore_n (pc := 11) hexec hb dX9_river_11 rfl hl (nle rfl) rfl (fun ls (hl : lv_has ls 4 [(3, .int 0), (0, .ref a0), (1, .int p1), (2, .int p2)]) => ?_)
    obtain ⟨l12, el12, hf⟩ := bvf1 hf
    obtain ⟨n, hz⟩ := lq1_e hf
    have hL12 : ∀ (n : Nat) (v3 : Int32) (H : Heap) (locs : List Loc) (ls : Array Slot), it1 l12 n v3 = some (r, o_x0_thrown) → va_P g.1 vwCl (w_X9_river g a0 a1 u0_1 u0_2 u0_3 u0_4 u0_5 u0_6 u0_8 u0_9 u0_10 u0_11 u0_12 u0_13 u0_14 u0_15 u0_16 u0_17 u0_18 u0_19 u0_20 u0_21 u0_22 u0_23 u0_24 u0_25 u0_26 u0_27 u0_28 u0_29 u0_30 x0_thrown_1 y1_s) H → va_D A (w_X9_river g a0 a1 u0_1 u0_2 u0_3 u0_4 u0_5 u0_6 u0_8 u0_9 u0_10 u0_11 u0_12 u0_13 u0_14 u0_15 u0_16 u0_17 u0_18 u0_19 u0_20 u0_21 u0_22 u0_23 u0_24 u0_25 u0_26 u0_27 u0_28 u0_29 u0_30 x0_thrown_1 y1_s) → va_S A s.heap H locs → lv_has ls 4 [(0, .ref a0), (1, .int p1), (2, .int p2), (3, .int v3)] → W p l e (RM 3 70) s m args below meth c H locs 0 0 Q (F0 m 12 ls []) := by
      intro n
      induction n with
      | zero =>
        intro v3 H locs ls hf hP hD hS hl
        exact it1_0 hf
      | succ n12 ih12 =>
        intro v3 H locs ls hf hP hD hS hl
        obtain ⟨q12, hf, hk12⟩ := it1_e hf
        have hf := (el12 v3).symm.trans hf
        refine lv_iload_n (pc := 12) hexec hb dX9_river_12 rfl (lv_at hl 3 rfl) ?_
        refine lv_aload_n (pc := 13) hexec hb dX9_river_13 rfl (lv_at hl 0 rfl) ?_
        obtain ⟨r14, hc, hf⟩ := bd1_e hf
        refine kVp (pc := 14) (S := ⟨hexec, hb, hml, hown, hts⟩) hP hD hG hA hS [0, 1] [] [0, 1] (w2 := (w_X9_river g a0 a1 u0_1 u0_2 u0_3 u0_4 u0_5 u0_6 u0_8 u0_9 u0_10 u0_11 u0_12 u0_13 u0_14 u0_15 u0_16 u0_17 u0_18 u0_19 u0_20 u0_21 u0_22 u0_23 u0_24 u0_25 u0_26 u0_27 u0_28 u0_29 u0_30 x0_thrown_1 y1_s)) rfl rfl rfl rfl rfl rfl (by decide) (c_X9_cells l g a0 a1 _ u0_1 u0_2 u0_3 u0_4 u0_5 u0_6 (.int x0_thrown_1) u0_8 u0_9 u0_10 u0_11 u0_12 u0_13 u0_14 u0_15 u0_16 u0_17 u0_18 u0_19 u0_20 u0_21 u0_22 u0_23 u0_24 u0_25 u0_26 u0_27 u0_28 u0_29 u0_30 y1_s r14 hc) gX9_river_X9_cells rfl hv_X9_cells ⟨nle rfl, nle rfl⟩ 9 0 rfl rfl rfl (rest := [.int v3]) rfl rfl hl.1 (nle rfl) dX9_river_14 (fun H locs hP hD hS => ?_)
        refine ki_ge (pc := 17) hexec hb dX9_river_17 (tgt := 51) rfl hf (fun hc hf => ?_) (fun hc hf => ?_)
        · have hf := mk1 hf hk12
          refine lv_iconst (pc := 51) hexec hb dX9_river_51 ki_m1 ?_
          cases hf
          exact ke_i hQ hexec hb hr hP hD hS dX9_river_52 hlocks
        · refine lv_aload_n (pc := 20) hexec hb dX9_river_20 rfl (lv_at hl 0 rfl) ?_
          refine lv_iload_n (pc := 21) hexec hb dX9_river_21 rfl (lv_at hl 3 rfl) ?_
          obtain ⟨r22, hc, hf⟩ := bd1_e hf
          refine kVp (pc := 22) (S := ⟨hexec, hb, hml, hown, hts⟩) hP hD hG hA hS [0, 1] [] [0, 1] (w2 := (w_X9_river g a0 a1 u0_1 u0_2 u0_3 u0_4 u0_5 u0_6 u0_8 u0_9 u0_10 u0_11 u0_12 u0_13 u0_14 u0_15 u0_16 u0_17 u0_18 u0_19 u0_20 u0_21 u0_22 u0_23 u0_24 u0_25 u0_26 u0_27 u0_28 u0_29 u0_30 x0_thrown_1 y1_s)) rfl rfl rfl rfl rfl rfl (by decide) (c_X9_riverAt l g a0 a1 _ u0_1 u0_2 u0_3 u0_4 u0_5 u0_6 (.int x0_thrown_1) u0_8 u0_9 u0_10 u0_11 u0_12 u0_13 u0_14 u0_15 u0_16 u0_17 u0_18 u0_19 u0_20 u0_21 u0_22 u0_23 u0_24 u0_25 u0_26 u0_27 u0_28 u0_29 u0_30 y1_s v3 r22 hc) gX9_river_X9_riverAt rfl hv_X9_riverAt ⟨nle rfl, nle rfl⟩ 9 0 rfl rfl rfl (rest := []) rfl rfl hl.1 (nle rfl) dX9_river_22 (fun H locs hP hD hS => ?_)
          refine lv_iload_n (pc := 25) hexec hb dX9_river_25 rfl (lv_at hl 1 rfl) ?_
          obtain ⟨j45, ej45, hf⟩ := bvf1 hf
          have hj45 : ∀ (u : Unit) (H : Heap) (locs : List Loc) (ls : Array Slot), j45 u = some q12 → va_P g.1 vwCl (w_X9_river g a0 a1 u0_1 u0_2 u0_3 u0_4 u0_5 u0_6 u0_8 u0_9 u0_10 u0_11 u0_12 u0_13 u0_14 u0_15 u0_16 u0_17 u0_18 u0_19 u0_20 u0_21 u0_22 u0_23 u0_24 u0_25 u0_26 u0_27 u0_28 u0_29 u0_30 x0_thrown_1 y1_s) H → va_D A (w_X9_river g a0 a1 u0_1 u0_2 u0_3 u0_4 u0_5 u0_6 u0_8 u0_9 u0_10 u0_11 u0_12 u0_13 u0_14 u0_15 u0_16 u0_17 u0_18 u0_19 u0_20 u0_21 u0_22 u0_23 u0_24 u0_25 u0_26 u0_27 u0_28 u0_29 u0_30 x0_thrown_1 y1_s) → va_S A s.heap H locs → lv_has ls 4 [(0, .ref a0), (1, .int p1), (2, .int p2), (3, .int v3)] → W p l e (RM 3 70) s m args below meth c H locs 0 0 Q (F0 m 45 ls []) := by
            intro u H locs ls hf hP hD hS hl
            have hf := (ej45 u).symm.trans hf
            obtain ⟨v3_1, ev3_1, hf⟩ := bv_e hf
            refine k_iinc (pc := 45) hexec hb dX9_river_45 kq_1 hl (k := 3) rfl ev3_1 (nle rfl) rfl (fun ls (hl : lv_has ls 4 [(3, .int v3_1), (0, .ref a0), (1, .int p1), (2, .int p2)]) => ?_)
            refine lv_goto (pc := 48) hexec hb dX9_river_48 (tgt := 12) rfl ?_
            exact ih12 _ _ _ _ (sl1 hf hk12) hP hD hS (lv_sub hl [1, 2, 3, 0] rfl)
          refine ki_ne (pc := 26) hexec hb dX9_river_26 (tgt := 45) rfl hf (fun hc hf => ?_) (fun hc hf => ?_)
          · exact hj45 _ _ _ _ hf hP hD hS (lv_sub hl [0, 1, 2, 3] rfl)
          · refine lv_aload_n (pc := 29) hexec hb dX9_river_29 rfl (lv_at hl 0 rfl) ?_
            refine kg_get (pc := 30) hexec hb (own := RX9) hWX9 hown hG hP 0 rfl rfl 0 (nle rfl) (hts _ (List.mem_cons_of_mem _ (List.mem_append_left _ (List.mem_of_getElem? (i := 0) rfl)))) rfl rfl dX9_river_30 ?_
            refine lv_sipush (pc := 33) hexec hb dX9_river_33 ks_296 ?_
            refine lv_iload_n (pc := 36) hexec hb dX9_river_36 rfl (lv_at hl 3 rfl) ?_
            refine lv_iadd (pc := 37) hexec hb dX9_river_37 ?_
            refine kr_iald (pc := 38) hexec hb hG hP 1 rfl hf dX9_river_38 (fun hf => ?_)
            refine lv_iload_n (pc := 39) hexec hb dX9_river_39 rfl (lv_at hl 2 rfl) ?_
            refine ki_ne (pc := 40) hexec hb dX9_river_40 (tgt := 45) rfl hf (fun hc hf => ?_) (fun hc hf => ?_)
            · exact hj45 _ _ _ _ hf hP hD hS (lv_sub hl [0, 1, 2, 3] rfl)
            · have hf := mk1 hf hk12
              refine lv_iload_n (pc := 43) hexec hb dX9_river_43 rfl (lv_at hl 3 rfl) ?_
              cases hf
              exact ke_i hQ hexec hb hr hP hD hS dX9_river_44 hlocks
    exact hL12 n _ _ _ _ hz hP hD hS (lv_sub hl [1, 2, 3, 0] rfl)
  · refine lv_iconst (pc := 8) hexec hb dX9_river_8 ki_0 ?_
    cases hf
    exact ke_i hQ hexec hb hr hP hD hS dX9_river_9 hlocks
abbrev w_X9_voyage (g : GE) (a0 a1 : Nat) (u0_1 u0_2 u0_3 u0_4 u0_5 u0_6 u0_8 u0_9 u0_10 u0_11 u0_12 u0_13 u0_14 u0_15 u0_16 u0_17 u0_18 u0_19 u0_20 u0_21 u0_22 u0_23 u0_24 u0_25 u0_26 u0_27 u0_28 u0_29 u0_30 : Value) (x0_thrown : Int32) (y1_s : Nat → Int32) : va_W := [(a0, .inr (9, [.ref a1, u0_1, u0_2, u0_3, u0_4, u0_5, u0_6, .int x0_thrown, u0_8, u0_9, u0_10, u0_11, u0_12, u0_13, u0_14, u0_15, u0_16, u0_17, u0_18, u0_19, u0_20, u0_21, u0_22, u0_23, u0_24, u0_25, u0_26, u0_27, u0_28, u0_29, u0_30])), (a1, .inl (g.2.1 0, 552, .inl y1_s))]
set_option maxRecDepth 20000 in
theorem c_X9_voyage (l : Launch) (g : GE) (a0 a1 : Nat) (sz : Nat) (u0_1 u0_2 u0_3 u0_4 u0_5 u0_6 u0_8 u0_9 u0_10 u0_11 u0_12 u0_13 u0_14 u0_15 u0_16 u0_17 u0_18 u0_19 u0_20 u0_21 u0_22 u0_23 u0_24 u0_25 u0_26 u0_27 u0_28 u0_29 u0_30 : Value) (x0_thrown : Int32) (y1_s : Nat → Int32) (p1 : Int32)  (r : Int32) (o_x0_thrown : Int32) (hf : f_X9_voyage x0_thrown y1_s p1 = some (r, o_x0_thrown)) : MI l g yX9_voyage wsX9_voyage 2 49 [.ref a0, .int p1] (w_X9_voyage g a0 a1 u0_1 u0_2 u0_3 u0_4 u0_5 u0_6 u0_8 u0_9 u0_10 u0_11 u0_12 u0_13 u0_14 u0_15 u0_16 u0_17 u0_18 u0_19 u0_20 u0_21 u0_22 u0_23 u0_24 u0_25 u0_26 u0_27 u0_28 u0_29 u0_30 x0_thrown y1_s) sz (some (.int r)) (w_X9_voyage g a0 a1 u0_1 u0_2 u0_3 u0_4 u0_5 u0_6 u0_8 u0_9 u0_10 u0_11 u0_12 u0_13 u0_14 u0_15 u0_16 u0_17 u0_18 u0_19 u0_20 u0_21 u0_22 u0_23 u0_24 u0_25 u0_26 u0_27 u0_28 u0_29 u0_30 o_x0_thrown y1_s) := by
  refine MI.start (cc := cX9_voyage) (maxL := 2) (ret := (some .int)) rfl rfl (nle rfl) ?_
  intro p e s m args below meth c A ls Q hQ hexec hb hr hts hown hlocks hml hA hP hD hG hS hl
  unfold f_X9_voyage at hf
  have hWX9 : ∀ w ∈ wsX90, w.before args s = true := fun w h => hts w (List.mem_cons_of_mem _ (List.mem_append_right _ h))
  have hS : va_S A s.heap s.heap [] := hS
  refine lv_aload_n (pc := 0) hexec hb dX9_voyage_0 rfl (lv_at hl 0 rfl) ?_
  refine lv_iconst (pc := 1) hexec hb dX9_voyage_1 ki_0 ?_
  refine kp_put (pc := 2) hexec hb (own := RX9) hWX9 tyX9 tyX9_ok nmX9 hown hG hP hD hS 0 rfl rfl 7 (nle rfl) (hts _ (List.mem_cons_of_mem _ (List.mem_append_left _ (List.mem_of_getElem? (i := 0) rfl)))) rfl rfl rfl rfl (nle rfl) dX9_voyage_2 (fun H locs (hP : va_P g.1 vwCl (w_X9_voyage g a0 a1 u0_1 u0_2 u0_3 u0_4 u0_5 u0_6 u0_8 u0_9 u0_10 u0_11 u0_12 u0_13 u0_14 u0_15 u0_16 u0_17 u0_18 u0_19 u0_20 u0_21 u0_22 u0_23 u0_24 u0_25 u0_26 u0_27 u0_28 u0_29 u0_30 0 y1_s) H) (hD : va_D A (w_X9_voyage g a0 a1 u0_1 u0_2 u0_3 u0_4 u0_5 u0_6 u0_8 u0_9 u0_10 u0_11 u0_12 u0_13 u0_14 u0_15 u0_16 u0_17 u0_18 u0_19 u0_20 u0_21 u0_22 u0_23 u0_24 u0_25 u0_26 u0_27 u0_28 u0_29 u0_30 0 y1_s)) hS => ?_)
  refine lv_iload_n (pc := 5) hexec hb dX9_voyage_5 rfl (lv_at hl 1 rfl) ?_
  refine lv_i2l (pc := 6) hexec hb dX9_voyage_6 rfl ?_
  refine lv_lconst (pc := 7) hexec hb dX9_voyage_7 kl_0 ?_
  refine lv_aload_n (pc := 8) hexec hb dX9_voyage_8 rfl (lv_at hl 0 rfl) ?_
  refine kg_get (pc := 9) hexec hb (own := RX9) hWX9 hown hG hP 0 rfl rfl 0 (nle rfl) (hts _ (List.mem_cons_of_mem _ (List.mem_append_left _ (List.mem_of_getElem? (i := 1) rfl)))) rfl rfl dX9_voyage_9 ?_
  refine lv_iconst (pc := 12) hexec hb dX9_voyage_12 ki_4 ?_
  refine kr_iald (pc := 13) hexec hb hG hP 1 rfl hf dX9_voyage_13 (fun hf => ?_)
  refine lv_iconst (pc := 14) hexec hb dX9_voyage_14 ki_1 ?_
  refine lv_isub (pc := 15) hexec hb dX9_voyage_15 ?_
  refine lv_i2l (pc := 16) hexec hb dX9_voyage_16 rfl ?_
  obtain ⟨r17, hc, hf⟩ := bd1_e hf
  refine kSp (pc := 17) (S := ⟨hexec, hb, hml, hown, hts⟩) hP hD hG hA hS [] [0, 1] [0, 1] (w2 := (w_X9_voyage g a0 a1 u0_1 u0_2 u0_3 u0_4 u0_5 u0_6 u0_8 u0_9 u0_10 u0_11 u0_12 u0_13 u0_14 u0_15 u0_16 u0_17 u0_18 u0_19 u0_20 u0_21 u0_22 u0_23 u0_24 u0_25 u0_26 u0_27 u0_28 u0_29 u0_30 0 y1_s)) rfl rfl rfl rfl rfl rfl (by decide) (c_X9_isIn l g _ (p1.toInt64) 0 ((((y1_s (4 : Int32).toNatClampNeg) - 1)).toInt64) r17 hc) gX9_voyage_X9_isIn rfl hs_X9_isIn ⟨nle rfl, nle rfl⟩ (rest := []) rfl rfl hl.1 (nle rfl) dX9_voyage_17 (fun H locs hP hD hS => ?_)
  refine kb_eq (pc := 20) hexec hb dX9_voyage_20 (tgt := 36) rfl hf (fun hc hf => ?_) (fun hc hf => ?_)
  · refine lv_iconst (pc := 36) hexec hb dX9_voyage_36 ki_m1 ?_
    cases hf
    exact ke_i hQ hexec hb hr hP hD hS dX9_voyage_37 hlocks
  · refine lv_aload_n (pc := 23) hexec hb dX9_voyage_23 rfl (lv_at hl 0 rfl) ?_
    refine kg_get (pc := 24) hexec hb (own := RX9) hWX9 hown hG hP 0 rfl rfl 0 (nle rfl) (hts _ (List.mem_cons_of_mem _ (List.mem_append_left _ (List.mem_of_getElem? (i := 1) rfl)))) rfl rfl dX9_voyage_24 ?_
    refine lv_sipush (pc := 27) hexec hb dX9_voyage_27 ks_536 ?_
    refine lv_iload_n (pc := 30) hexec hb dX9_voyage_30 rfl (lv_at hl 1 rfl) ?_
    refine lv_iadd (pc := 31) hexec hb dX9_voyage_31 ?_
    refine kr_iald (pc := 32) hexec hb hG hP 1 rfl hf dX9_voyage_32 (fun hf => ?_)
    refine lv_goto (pc := 33) hexec hb dX9_voyage_33 (tgt := 37) rfl ?_
    cases hf
    exact ke_i hQ hexec hb hr hP hD hS dX9_voyage_37 hlocks
abbrev w_X9_isWay (g : GE) : va_W := []
set_option maxRecDepth 20000 in
theorem c_X9_isWay (l : Launch) (g : GE) (sz : Nat)  (p0 : Int32)  (r : Int32) (hf : f_X9_isWay p0 = some r) : MI l g yX9_isWay wsX9_isWay 2 49 [.int p0] (w_X9_isWay g ) sz (some (.int r)) (w_X9_isWay g ) := by
  refine MI.start (cc := cX9_isWay) (maxL := 1) (ret := (some .boolean)) rfl rfl (nle rfl) ?_
  intro p e s m args below meth c A ls Q hQ hexec hb hr hts hown hlocks hml hA hP hD hG hS hl
  unfold f_X9_isWay at hf
  have hS : va_S A s.heap s.heap [] := hS
  refine lv_iload_n (pc := 0) hexec hb dX9_isWay_0 rfl (lv_at hl 0 rfl) ?_
  refine lv_i2l (pc := 1) hexec hb dX9_isWay_1 rfl ?_
  refine lv_lconst (pc := 2) hexec hb dX9_isWay_2 kl_0 ?_
  refine lv_ldc2 (pc := 3) hexec hb (own := RX9) hown (hts _ (List.mem_cons_of_mem _ (List.mem_of_getElem? (i := 0) rfl))) dX9_isWay_3 ?_
  obtain ⟨r6, hc, hf⟩ := bd1_e hf
  refine kSp (pc := 6) (S := ⟨hexec, hb, hml, hown, hts⟩) hP hD hG hA hS [] [] [] (w2 := (w_X9_isWay g )) rfl rfl rfl rfl rfl rfl (by decide) (c_X9_isIn l g _ (p0.toInt64) 0 3 r6 hc) gX9_isWay_X9_isIn rfl hs_X9_isIn ⟨nle rfl, nle rfl⟩ (rest := []) rfl rfl hl.1 (nle rfl) dX9_isWay_6 (fun H locs hP hD hS => ?_)
  obtain ⟨hx, hf⟩ := zb_e hf
  cases hf
  exact ke_z hQ hexec hb hr hx hP hD hS dX9_isWay_9 hlocks
abbrev w_X9_why (g : GE) (a0 a1 : Nat) (u0_1 u0_2 u0_3 u0_4 u0_5 u0_6 u0_8 u0_9 u0_10 u0_11 u0_12 u0_13 u0_14 u0_15 u0_16 u0_17 u0_18 u0_19 u0_20 u0_21 u0_22 u0_23 u0_24 u0_25 u0_26 u0_27 u0_28 u0_29 u0_30 : Value) (x0_thrown : Int32) (y1_s : Nat → Int32) : va_W := [(a0, .inr (9, [.ref a1, u0_1, u0_2, u0_3, u0_4, u0_5, u0_6, .int x0_thrown, u0_8, u0_9, u0_10, u0_11, u0_12, u0_13, u0_14, u0_15, u0_16, u0_17, u0_18, u0_19, u0_20, u0_21, u0_22, u0_23, u0_24, u0_25, u0_26, u0_27, u0_28, u0_29, u0_30])), (a1, .inl (g.2.1 0, 552, .inl y1_s))]
set_option maxRecDepth 20000 in
theorem c_X9_why (l : Launch) (g : GE) (a0 a1 : Nat) (sz : Nat) (u0_1 u0_2 u0_3 u0_4 u0_5 u0_6 u0_8 u0_9 u0_10 u0_11 u0_12 u0_13 u0_14 u0_15 u0_16 u0_17 u0_18 u0_19 u0_20 u0_21 u0_22 u0_23 u0_24 u0_25 u0_26 u0_27 u0_28 u0_29 u0_30 : Value) (x0_thrown : Int32) (y1_s : Nat → Int32) (p1 : Int32) (p2 : Int32)  (r : Int32) (o_x0_thrown : Int32) (hf : f_X9_why x0_thrown y1_s p1 p2 = some (r, o_x0_thrown)) : MI l g yX9_why wsX9_why 6 151 [.ref a0, .int p1, .int p2] (w_X9_why g a0 a1 u0_1 u0_2 u0_3 u0_4 u0_5 u0_6 u0_8 u0_9 u0_10 u0_11 u0_12 u0_13 u0_14 u0_15 u0_16 u0_17 u0_18 u0_19 u0_20 u0_21 u0_22 u0_23 u0_24 u0_25 u0_26 u0_27 u0_28 u0_29 u0_30 x0_thrown y1_s) sz (some (.int r)) (w_X9_why g a0 a1 u0_1 u0_2 u0_3 u0_4 u0_5 u0_6 u0_8 u0_9 u0_10 u0_11 u0_12 u0_13 u0_14 u0_15 u0_16 u0_17 u0_18 u0_19 u0_20 u0_21 u0_22 u0_23 u0_24 u0_25 u0_26 u0_27 u0_28 u0_29 u0_30 o_x0_thrown y1_s) := by
  refine MI.start (cc := cX9_why) (maxL := 3) (ret := (some .int)) rfl rfl (nle rfl) ?_
  intro p e s m args below meth c A ls Q hQ hexec hb hr hts hown hlocks hml hA hP hD hG hS hl
  unfold f_X9_why at hf
  have hWX9 : ∀ w ∈ wsX90, w.before args s = true := fun w h => hts w (List.mem_cons_of_mem _ (List.mem_append_right _ h))
  have hS : va_S A s.heap s.heap [] := hS
  refine lv_aload_n (pc := 0) hexec hb dX9_why_0 rfl (lv_at hl 0 rfl) ?_
  refine lv_aload_n (pc := 1) hexec hb dX9_why_1 rfl (lv_at hl 0 rfl) ?_
  refine lv_iload_n (pc := 2) hexec hb dX9_why_2 rfl (lv_at hl 1 rfl) ?_
  obtain ⟨r3, hc, hf⟩ := bd1_e hf
  refine kVp (pc := 3) (S := ⟨hexec, hb, hml, hown, hts⟩) hP hD hG hA hS [0, 1] [] [0, 1] (w2 := (w_X9_why g a0 a1 u0_1 u0_2 u0_3 u0_4 u0_5 u0_6 u0_8 u0_9 u0_10 u0_11 u0_12 u0_13 u0_14 u0_15 u0_16 u0_17 u0_18 u0_19 u0_20 u0_21 u0_22 u0_23 u0_24 u0_25 u0_26 u0_27 u0_28 u0_29 u0_30 x0_thrown y1_s)) rfl rfl rfl rfl rfl rfl (by decide) (c_X9_isHarbour l g a0 a1 _ u0_1 u0_2 u0_3 u0_4 u0_5 u0_6 (.int x0_thrown) u0_8 u0_9 u0_10 u0_11 u0_12 u0_13 u0_14 u0_15 u0_16 u0_17 u0_18 u0_19 u0_20 u0_21 u0_22 u0_23 u0_24 u0_25 u0_26 u0_27 u0_28 u0_29 u0_30 y1_s p1 r3 hc) gX9_why_X9_isHarbour rfl hv_X9_isHarbour ⟨nle rfl, nle rfl⟩ 9 0 rfl rfl rfl (rest := [.ref a0]) rfl rfl hl.1 (nle rfl) dX9_why_3 (fun H locs hP hD hS => ?_)
  refine lv_iload_n (pc := 6) hexec hb dX9_why_6 rfl (lv_at hl 2 rfl) ?_
  obtain ⟨r7, hc, hf⟩ := bd1_e hf
  refine kSp (pc := 7) (S := ⟨hexec, hb, hml, hown, hts⟩) hP hD hG hA hS [] [0, 1] [0, 1] (w2 := (w_X9_why g a0 a1 u0_1 u0_2 u0_3 u0_4 u0_5 u0_6 u0_8 u0_9 u0_10 u0_11 u0_12 u0_13 u0_14 u0_15 u0_16 u0_17 u0_18 u0_19 u0_20 u0_21 u0_22 u0_23 u0_24 u0_25 u0_26 u0_27 u0_28 u0_29 u0_30 x0_thrown y1_s)) rfl rfl rfl rfl rfl rfl (by decide) (c_X9_isWay l g _ p2 r7 hc) gX9_why_X9_isWay rfl hs_X9_isWay ⟨nle rfl, nle rfl⟩ (rest := [.int r3, .ref a0]) rfl rfl hl.1 (nle rfl) dX9_why_7 (fun H locs hP hD hS => ?_)
  obtain ⟨r10, x0_thrown_1, hc, hf⟩ := bd2_e hf
  refine kVp (pc := 10) (S := ⟨hexec, hb, hml, hown, hts⟩) hP hD hG hA hS [0] [1] [1, 0] (w2 := (w_X9_why g a0 a1 u0_1 u0_2 u0_3 u0_4 u0_5 u0_6 u0_8 u0_9 u0_10 u0_11 u0_12 u0_13 u0_14 u0_15 u0_16 u0_17 u0_18 u0_19 u0_20 u0_21 u0_22 u0_23 u0_24 u0_25 u0_26 u0_27 u0_28 u0_29 u0_30 x0_thrown_1 y1_s)) rfl rfl rfl rfl rfl rfl (by decide) (c_X9_passes l g a0 _ (.ref a1) u0_1 u0_2 u0_3 u0_4 u0_5 u0_6 u0_8 u0_9 u0_10 u0_11 u0_12 u0_13 u0_14 u0_15 u0_16 u0_17 u0_18 u0_19 u0_20 u0_21 u0_22 u0_23 u0_24 u0_25 u0_26 u0_27 u0_28 u0_29 u0_30 x0_thrown r3 r7 r10 x0_thrown_1 hc) gX9_why_X9_passes rfl hv_X9_passes ⟨nle rfl, nle rfl⟩ 9 0 rfl rfl rfl (rest := []) rfl rfl hl.1 (nle rfl) dX9_why_10 (fun H locs hP hD hS => ?_)
  refine kb_eq (pc := 13) hexec hb dX9_why_13 (tgt := 25) rfl hf (fun hc hf => ?_) (fun hc hf => ?_)
  · refine lv_iconst (pc := 25) hexec hb dX9_why_25 ki_0 ?_
    cases hf
    exact ke_i hQ hexec hb hr hP hD hS dX9_why_26 hlocks
  · refine lv_aload_n (pc := 16) hexec hb dX9_why_16 rfl (lv_at hl 0 rfl) ?_
    refine lv_iload_n (pc := 17) hexec hb dX9_why_17 rfl (lv_at hl 1 rfl) ?_
    refine lv_iload_n (pc := 18) hexec hb dX9_why_18 rfl (lv_at hl 2 rfl) ?_
    obtain ⟨r19, hc, hf⟩ := bd1_e hf
    refine kVp (pc := 19) (S := ⟨hexec, hb, hml, hown, hts⟩) hP hD hG hA hS [0, 1] [] [0, 1] (w2 := (w_X9_why g a0 a1 u0_1 u0_2 u0_3 u0_4 u0_5 u0_6 u0_8 u0_9 u0_10 u0_11 u0_12 u0_13 u0_14 u0_15 u0_16 u0_17 u0_18 u0_19 u0_20 u0_21 u0_22 u0_23 u0_24 u0_25 u0_26 u0_27 u0_28 u0_29 u0_30 x0_thrown_1 y1_s)) rfl rfl rfl rfl rfl rfl (by decide) (c_X9_reason l g a0 a1 _ u0_1 u0_2 u0_3 u0_4 u0_5 u0_6 (.int x0_thrown_1) u0_8 u0_9 u0_10 u0_11 u0_12 u0_13 u0_14 u0_15 u0_16 u0_17 u0_18 u0_19 u0_20 u0_21 u0_22 u0_23 u0_24 u0_25 u0_26 u0_27 u0_28 u0_29 u0_30 y1_s p1 p2 r19 hc) gX9_why_X9_reason rfl hv_X9_reason ⟨nle rfl, nle rfl⟩ 9 0 rfl rfl rfl (rest := []) rfl rfl hl.1 (nle rfl) dX9_why_19 (fun H locs hP hD hS => ?_)
    refine lv_goto (pc := 22) hexec hb dX9_why_22 (tgt := 26) rfl ?_
    cases hf
    exact ke_i hQ hexec hb hr hP hD hS dX9_why_26 hlocks
abbrev w_X9_ways (g : GE) (a0 a1 : Nat) (u0_1 u0_2 u0_3 u0_4 u0_5 u0_6 u0_8 u0_9 u0_10 u0_11 u0_12 u0_13 u0_14 u0_15 u0_16 u0_17 u0_18 u0_19 u0_20 u0_21 u0_22 u0_23 u0_24 u0_25 u0_26 u0_27 u0_28 u0_29 u0_30 : Value) (x0_thrown : Int32) (y1_s : Nat → Int32) : va_W := [(a0, .inr (9, [.ref a1, u0_1, u0_2, u0_3, u0_4, u0_5, u0_6, .int x0_thrown, u0_8, u0_9, u0_10, u0_11, u0_12, u0_13, u0_14, u0_15, u0_16, u0_17, u0_18, u0_19, u0_20, u0_21, u0_22, u0_23, u0_24, u0_25, u0_26, u0_27, u0_28, u0_29, u0_30])), (a1, .inl (g.2.1 0, 552, .inl y1_s))]
set_option maxRecDepth 20000 in
theorem c_X9_ways (l : Launch) (g : GE) (a0 a1 : Nat) (sz : Nat) (u0_1 u0_2 u0_3 u0_4 u0_5 u0_6 u0_8 u0_9 u0_10 u0_11 u0_12 u0_13 u0_14 u0_15 u0_16 u0_17 u0_18 u0_19 u0_20 u0_21 u0_22 u0_23 u0_24 u0_25 u0_26 u0_27 u0_28 u0_29 u0_30 : Value) (x0_thrown : Int32) (y1_s : Nat → Int32) (p1 : Int32)  (r : Int32) (o_x0_thrown : Int32) (hf : f_X9_ways x0_thrown y1_s p1 = some (r, o_x0_thrown)) : MI l g yX9_ways wsX9_ways 6 151 [.ref a0, .int p1] (w_X9_ways g a0 a1 u0_1 u0_2 u0_3 u0_4 u0_5 u0_6 u0_8 u0_9 u0_10 u0_11 u0_12 u0_13 u0_14 u0_15 u0_16 u0_17 u0_18 u0_19 u0_20 u0_21 u0_22 u0_23 u0_24 u0_25 u0_26 u0_27 u0_28 u0_29 u0_30 x0_thrown y1_s) sz (some (.int r)) (w_X9_ways g a0 a1 u0_1 u0_2 u0_3 u0_4 u0_5 u0_6 u0_8 u0_9 u0_10 u0_11 u0_12 u0_13 u0_14 u0_15 u0_16 u0_17 u0_18 u0_19 u0_20 u0_21 u0_22 u0_23 u0_24 u0_25 u0_26 u0_27 u0_28 u0_29 u0_30 o_x0_thrown y1_s) := by
  refine MI.start (cc := cX9_ways) (maxL := 4) (ret := (some .int)) rfl rfl (nle rfl) ?_
  intro p e s m args below meth c A ls Q hQ hexec hb hr hts hown hlocks hml hA hP hD hG hS hl
  unfold f_X9_ways at hf
  have hWX9 : ∀ w ∈ wsX90, w.before args s = true := fun w h => hts w (List.mem_cons_of_mem _ (List.mem_append_right _ h))
  have hS : va_S A s.heap s.heap [] := hS
  refine lv_aload_n (pc := 0) hexec hb dX9_ways_0 rfl (lv_at hl 0 rfl) ?_
  refine lv_iload_n (pc := 1) hexec hb dX9_ways_1 rfl (lv_at hl 1 rfl) ?_
  obtain ⟨r2, x0_thrown_1, hc, hf⟩ := bd2_e hf
  refine kVp (pc := 2) (S := ⟨hexec, hb, hml, hown, hts⟩) hP hD hG hA hS [0, 1] [] [0, 1] (w2 := (w_X9_ways g a0 a1 u0_1 u0_2 u0_3 u0_4 u0_5 u0_6 u0_8 u0_9 u0_10 u0_11 u0_12 u0_13 u0_14 u0_15 u0_16 u0_17 u0_18 u0_19 u0_20 u0_21 u0_22 u0_23 u0_24 u0_25 u0_26 u0_27 u0_28 u0_29 u0_30 x0_thrown_1 y1_s)) rfl rfl rfl rfl rfl rfl (by decide) (c_X9_mayHarbour l g a0 a1 _ u0_1 u0_2 u0_3 u0_4 u0_5 u0_6 u0_8 u0_9 u0_10 u0_11 u0_12 u0_13 u0_14 u0_15 u0_16 u0_17 u0_18 u0_19 u0_20 u0_21 u0_22 u0_23 u0_24 u0_25 u0_26 u0_27 u0_28 u0_29 u0_30 x0_thrown y1_s p1 r2 x0_thrown_1 hc) gX9_ways_X9_mayHarbour rfl hv_X9_mayHarbour ⟨nle rfl, nle rfl⟩ 9 0 rfl rfl rfl (rest := []) rfl rfl hl.1 (nle rfl) dX9_ways_2 (fun H locs hP hD hS => ?_)
  refine kb_ne (pc := 5) hexec hb dX9_ways_5 (tgt := 10) rfl hf (fun hc hf => ?_) (fun hc hf => ?_)
  · refine lv_iconst (pc := 10) hexec hb dX9_ways_10 ki_0 ?_
    refine lv_istore_n (pc := 11) hexec hb dX9_ways_11 rfl hl (nle rfl) rfl (fun ls (hl : lv_has ls 4 [(2, .int 0), (0, .ref a0), (1, .int p1)]) => ?_)
    refine lv_iconst (pc := 12) hexec hb dX9_ways_12 ki_0 ?_
    refine lv_istore_n (pc := 13) hexec hb dX9_ways_13 rfl hl (nle rfl) rfl (fun ls (hl : lv_has ls 4 [(3, .int 0), (2, .int 0), (0, .ref a0), (1, .int p1)]) => ?_)
    obtain ⟨l14, el14, hf⟩ := bvf2 hf
    obtain ⟨v2_1, hz, hf⟩ := bd1_e hf
    have hE14 : ∀ (H : Heap) (locs : List Loc) (ls : Array Slot), va_P g.1 vwCl (w_X9_ways g a0 a1 u0_1 u0_2 u0_3 u0_4 u0_5 u0_6 u0_8 u0_9 u0_10 u0_11 u0_12 u0_13 u0_14 u0_15 u0_16 u0_17 u0_18 u0_19 u0_20 u0_21 u0_22 u0_23 u0_24 u0_25 u0_26 u0_27 u0_28 u0_29 u0_30 x0_thrown_1 y1_s) H → va_D A (w_X9_ways g a0 a1 u0_1 u0_2 u0_3 u0_4 u0_5 u0_6 u0_8 u0_9 u0_10 u0_11 u0_12 u0_13 u0_14 u0_15 u0_16 u0_17 u0_18 u0_19 u0_20 u0_21 u0_22 u0_23 u0_24 u0_25 u0_26 u0_27 u0_28 u0_29 u0_30 x0_thrown_1 y1_s) → va_S A s.heap H locs → lv_has ls 4 [(2, .int v2_1)] → W p l e (RM 6 151) s m args below meth c H locs 0 0 Q (F0 m 44 ls []) := by
      intro H locs ls hP hD hS hl
      refine lv_iload_n (pc := 44) hexec hb dX9_ways_44 rfl (lv_at hl 0 rfl) ?_
      cases hf
      exact ke_i hQ hexec hb hr hP hD hS dX9_ways_45 hlocks
    obtain ⟨n, hz⟩ := lq2_e hz
    have hL14 : ∀ (n : Nat) (v2 : Int32) (v3 : Int32) (H : Heap) (locs : List Loc) (ls : Array Slot), it2 l14 n v2 v3 = some v2_1 → va_P g.1 vwCl (w_X9_ways g a0 a1 u0_1 u0_2 u0_3 u0_4 u0_5 u0_6 u0_8 u0_9 u0_10 u0_11 u0_12 u0_13 u0_14 u0_15 u0_16 u0_17 u0_18 u0_19 u0_20 u0_21 u0_22 u0_23 u0_24 u0_25 u0_26 u0_27 u0_28 u0_29 u0_30 x0_thrown_1 y1_s) H → va_D A (w_X9_ways g a0 a1 u0_1 u0_2 u0_3 u0_4 u0_5 u0_6 u0_8 u0_9 u0_10 u0_11 u0_12 u0_13 u0_14 u0_15 u0_16 u0_17 u0_18 u0_19 u0_20 u0_21 u0_22 u0_23 u0_24 u0_25 u0_26 u0_27 u0_28 u0_29 u0_30 x0_thrown_1 y1_s) → va_S A s.heap H locs → lv_has ls 4 [(0, .ref a0), (1, .int p1), (2, .int v2), (3, .int v3)] → W p l e (RM 6 151) s m args below meth c H locs 0 0 Q (F0 m 14 ls []) := by
      intro n
      induction n with
      | zero =>
        intro v2 v3 H locs ls hf hP hD hS hl
        exact it2_0 hf
      | succ n14 ih14 =>
        intro v2 v3 H locs ls hf hP hD hS hl
        obtain ⟨q14, hf, hk14⟩ := it2_e hf
        have hf := (el14 v2 v3).symm.trans hf
        refine lv_iload_n (pc := 14) hexec hb dX9_ways_14 rfl (lv_at hl 3 rfl) ?_
        refine lv_iconst (pc := 15) hexec hb dX9_ways_15 ki_4 ?_
        refine ki_ge (pc := 16) hexec hb dX9_ways_16 (tgt := 44) rfl hf (fun hc hf => ?_) (fun hc hf => ?_)
        · cases sr2 hf hk14
          exact hE14 _ _ _ hP hD hS (lv_sub hl [2] rfl)
        · refine lv_iload_n (pc := 19) hexec hb dX9_ways_19 rfl (lv_at hl 2 rfl) ?_
          refine lv_aload_n (pc := 20) hexec hb dX9_ways_20 rfl (lv_at hl 0 rfl) ?_
          refine lv_iload_n (pc := 21) hexec hb dX9_ways_21 rfl (lv_at hl 1 rfl) ?_
          refine lv_iload_n (pc := 22) hexec hb dX9_ways_22 rfl (lv_at hl 3 rfl) ?_
          obtain ⟨r23, hc, hf⟩ := bd1_e hf
          refine kVp (pc := 23) (S := ⟨hexec, hb, hml, hown, hts⟩) hP hD hG hA hS [0, 1] [] [0, 1] (w2 := (w_X9_ways g a0 a1 u0_1 u0_2 u0_3 u0_4 u0_5 u0_6 u0_8 u0_9 u0_10 u0_11 u0_12 u0_13 u0_14 u0_15 u0_16 u0_17 u0_18 u0_19 u0_20 u0_21 u0_22 u0_23 u0_24 u0_25 u0_26 u0_27 u0_28 u0_29 u0_30 x0_thrown_1 y1_s)) rfl rfl rfl rfl rfl rfl (by decide) (c_X9_reason l g a0 a1 _ u0_1 u0_2 u0_3 u0_4 u0_5 u0_6 (.int x0_thrown_1) u0_8 u0_9 u0_10 u0_11 u0_12 u0_13 u0_14 u0_15 u0_16 u0_17 u0_18 u0_19 u0_20 u0_21 u0_22 u0_23 u0_24 u0_25 u0_26 u0_27 u0_28 u0_29 u0_30 y1_s p1 v3 r23 hc) gX9_ways_X9_reason rfl hv_X9_reason ⟨nle rfl, nle rfl⟩ 9 0 rfl rfl rfl (rest := [.int v2]) rfl rfl hl.1 (nle rfl) dX9_ways_23 (fun H locs hP hD hS => ?_)
          obtain ⟨j36, ej36, hf⟩ := bvf1 hf
          have hj36 : ∀ (t36 : Int32) (H : Heap) (locs : List Loc) (ls : Array Slot), j36 t36 = some q14 → va_P g.1 vwCl (w_X9_ways g a0 a1 u0_1 u0_2 u0_3 u0_4 u0_5 u0_6 u0_8 u0_9 u0_10 u0_11 u0_12 u0_13 u0_14 u0_15 u0_16 u0_17 u0_18 u0_19 u0_20 u0_21 u0_22 u0_23 u0_24 u0_25 u0_26 u0_27 u0_28 u0_29 u0_30 x0_thrown_1 y1_s) H → va_D A (w_X9_ways g a0 a1 u0_1 u0_2 u0_3 u0_4 u0_5 u0_6 u0_8 u0_9 u0_10 u0_11 u0_12 u0_13 u0_14 u0_15 u0_16 u0_17 u0_18 u0_19 u0_20 u0_21 u0_22 u0_23 u0_24 u0_25 u0_26 u0_27 u0_28 u0_29 u0_30 x0_thrown_1 y1_s) → va_S A s.heap H locs → lv_has ls 4 [(0, .ref a0), (1, .int p1), (3, .int v3)] → W p l e (RM 6 151) s m args below meth c H locs 0 0 Q (F0 m 36 ls [.int t36, .int v2]) := by
            intro t36 H locs ls hf hP hD hS hl
            have hf := (ej36 t36).symm.trans hf
            refine lv_ior (pc := 36) hexec hb dX9_ways_36 ?_
            obtain ⟨v2_2, ev2_2, hf⟩ := bv_e hf
            refine kn_i ev2_2 ?_
            refine lv_istore_n (pc := 37) hexec hb dX9_ways_37 rfl hl (nle rfl) rfl (fun ls (hl : lv_has ls 4 [(2, .int v2_2), (0, .ref a0), (1, .int p1), (3, .int v3)]) => ?_)
            obtain ⟨v3_1, ev3_1, hf⟩ := bv_e hf
            refine k_iinc (pc := 38) hexec hb dX9_ways_38 kq_1 hl (k := 3) rfl ev3_1 (nle rfl) rfl (fun ls (hl : lv_has ls 4 [(3, .int v3_1), (2, .int v2_2), (0, .ref a0), (1, .int p1)]) => ?_)
            refine lv_goto (pc := 41) hexec hb dX9_ways_41 (tgt := 14) rfl ?_
            exact ih14 _ _ _ _ _ (sl2 hf hk14) hP hD hS (lv_sub hl [2, 3, 1, 0] rfl)
          refine kb_ne (pc := 26) hexec hb dX9_ways_26 (tgt := 35) rfl hf (fun hc hf => ?_) (fun hc hf => ?_)
          · refine lv_iconst (pc := 35) hexec hb dX9_ways_35 ki_0 ?_
            exact hj36 _ _ _ _ hf hP hD hS (lv_sub hl [0, 1, 3] rfl)
          · refine lv_iconst (pc := 29) hexec hb dX9_ways_29 ki_1 ?_
            refine lv_iload_n (pc := 30) hexec hb dX9_ways_30 rfl (lv_at hl 3 rfl) ?_
            refine lv_ishl (pc := 31) hexec hb dX9_ways_31 ?_
            refine lv_goto (pc := 32) hexec hb dX9_ways_32 (tgt := 36) rfl ?_
            exact hj36 _ _ _ _ hf hP hD hS (lv_sub hl [0, 1, 3] rfl)
    exact hL14 n _ _ _ _ _ hz hP hD hS (lv_sub hl [2, 3, 1, 0] rfl)
  · refine lv_iconst (pc := 8) hexec hb dX9_ways_8 ki_0 ?_
    cases hf
    exact ke_i hQ hexec hb hr hP hD hS dX9_ways_9 hlocks
abbrev w_X9_room (g : GE) (a0 a1 : Nat) (u0_1 u0_2 u0_3 u0_4 u0_5 u0_6 u0_8 u0_9 u0_10 u0_11 u0_12 u0_13 u0_14 u0_15 u0_16 u0_17 u0_18 u0_19 u0_20 u0_21 u0_22 u0_23 u0_24 u0_25 u0_26 u0_27 u0_28 u0_29 u0_30 : Value) (x0_thrown : Int32) (y1_s : Nat → Int32) : va_W := [(a0, .inr (9, [.ref a1, u0_1, u0_2, u0_3, u0_4, u0_5, u0_6, .int x0_thrown, u0_8, u0_9, u0_10, u0_11, u0_12, u0_13, u0_14, u0_15, u0_16, u0_17, u0_18, u0_19, u0_20, u0_21, u0_22, u0_23, u0_24, u0_25, u0_26, u0_27, u0_28, u0_29, u0_30])), (a1, .inl (g.2.1 0, 552, .inl y1_s))]
set_option maxRecDepth 20000 in
theorem c_X9_room (l : Launch) (g : GE) (a0 a1 : Nat) (sz : Nat) (u0_1 u0_2 u0_3 u0_4 u0_5 u0_6 u0_8 u0_9 u0_10 u0_11 u0_12 u0_13 u0_14 u0_15 u0_16 u0_17 u0_18 u0_19 u0_20 u0_21 u0_22 u0_23 u0_24 u0_25 u0_26 u0_27 u0_28 u0_29 u0_30 : Value) (x0_thrown : Int32) (y1_s : Nat → Int32) (p1 : Int32) (p2 : Int32)  (r : Int32) (o_x0_thrown : Int32) (hf : f_X9_room x0_thrown y1_s p1 p2 = some (r, o_x0_thrown)) : MI l g yX9_room wsX9_room 3 74 [.ref a0, .int p1, .int p2] (w_X9_room g a0 a1 u0_1 u0_2 u0_3 u0_4 u0_5 u0_6 u0_8 u0_9 u0_10 u0_11 u0_12 u0_13 u0_14 u0_15 u0_16 u0_17 u0_18 u0_19 u0_20 u0_21 u0_22 u0_23 u0_24 u0_25 u0_26 u0_27 u0_28 u0_29 u0_30 x0_thrown y1_s) sz (some (.int r)) (w_X9_room g a0 a1 u0_1 u0_2 u0_3 u0_4 u0_5 u0_6 u0_8 u0_9 u0_10 u0_11 u0_12 u0_13 u0_14 u0_15 u0_16 u0_17 u0_18 u0_19 u0_20 u0_21 u0_22 u0_23 u0_24 u0_25 u0_26 u0_27 u0_28 u0_29 u0_30 o_x0_thrown y1_s) := by
  refine MI.start (cc := cX9_room) (maxL := 5) (ret := (some .int)) rfl rfl (nle rfl) ?_
  intro p e s m args below meth c A ls Q hQ hexec hb hr hts hown hlocks hml hA hP hD hG hS hl
  unfold f_X9_room at hf
  have hWX9 : ∀ w ∈ wsX90, w.before args s = true := fun w h => hts w (List.mem_cons_of_mem _ (List.mem_append_right _ h))
  have hS : va_S A s.heap s.heap [] := hS
  refine lv_aload_n (pc := 0) hexec hb dX9_room_0 rfl (lv_at hl 0 rfl) ?_
  refine lv_aload_n (pc := 1) hexec hb dX9_room_1 rfl (lv_at hl 0 rfl) ?_
  refine lv_iload_n (pc := 2) hexec hb dX9_room_2 rfl (lv_at hl 1 rfl) ?_
  obtain ⟨r3, hc, hf⟩ := bd1_e hf
  refine kVp (pc := 3) (S := ⟨hexec, hb, hml, hown, hts⟩) hP hD hG hA hS [0, 1] [] [0, 1] (w2 := (w_X9_room g a0 a1 u0_1 u0_2 u0_3 u0_4 u0_5 u0_6 u0_8 u0_9 u0_10 u0_11 u0_12 u0_13 u0_14 u0_15 u0_16 u0_17 u0_18 u0_19 u0_20 u0_21 u0_22 u0_23 u0_24 u0_25 u0_26 u0_27 u0_28 u0_29 u0_30 x0_thrown y1_s)) rfl rfl rfl rfl rfl rfl (by decide) (c_X9_isHarbour l g a0 a1 _ u0_1 u0_2 u0_3 u0_4 u0_5 u0_6 (.int x0_thrown) u0_8 u0_9 u0_10 u0_11 u0_12 u0_13 u0_14 u0_15 u0_16 u0_17 u0_18 u0_19 u0_20 u0_21 u0_22 u0_23 u0_24 u0_25 u0_26 u0_27 u0_28 u0_29 u0_30 y1_s p1 r3 hc) gX9_room_X9_isHarbour rfl hv_X9_isHarbour ⟨nle rfl, nle rfl⟩ 9 0 rfl rfl rfl (rest := [.ref a0]) rfl rfl hl.1 (nle rfl) dX9_room_3 (fun H locs hP hD hS => ?_)
  refine lv_iload_n (pc := 6) hexec hb dX9_room_6 rfl (lv_at hl 2 rfl) ?_
  obtain ⟨r7, hc, hf⟩ := bd1_e hf
  refine kSp (pc := 7) (S := ⟨hexec, hb, hml, hown, hts⟩) hP hD hG hA hS [] [0, 1] [0, 1] (w2 := (w_X9_room g a0 a1 u0_1 u0_2 u0_3 u0_4 u0_5 u0_6 u0_8 u0_9 u0_10 u0_11 u0_12 u0_13 u0_14 u0_15 u0_16 u0_17 u0_18 u0_19 u0_20 u0_21 u0_22 u0_23 u0_24 u0_25 u0_26 u0_27 u0_28 u0_29 u0_30 x0_thrown y1_s)) rfl rfl rfl rfl rfl rfl (by decide) (c_X9_isWay l g _ p2 r7 hc) gX9_room_X9_isWay rfl hs_X9_isWay ⟨nle rfl, nle rfl⟩ (rest := [.int r3, .ref a0]) rfl rfl hl.1 (nle rfl) dX9_room_7 (fun H locs hP hD hS => ?_)
  obtain ⟨r10, x0_thrown_1, hc, hf⟩ := bd2_e hf
  refine kVp (pc := 10) (S := ⟨hexec, hb, hml, hown, hts⟩) hP hD hG hA hS [0] [1] [1, 0] (w2 := (w_X9_room g a0 a1 u0_1 u0_2 u0_3 u0_4 u0_5 u0_6 u0_8 u0_9 u0_10 u0_11 u0_12 u0_13 u0_14 u0_15 u0_16 u0_17 u0_18 u0_19 u0_20 u0_21 u0_22 u0_23 u0_24 u0_25 u0_26 u0_27 u0_28 u0_29 u0_30 x0_thrown_1 y1_s)) rfl rfl rfl rfl rfl rfl (by decide) (c_X9_passes l g a0 _ (.ref a1) u0_1 u0_2 u0_3 u0_4 u0_5 u0_6 u0_8 u0_9 u0_10 u0_11 u0_12 u0_13 u0_14 u0_15 u0_16 u0_17 u0_18 u0_19 u0_20 u0_21 u0_22 u0_23 u0_24 u0_25 u0_26 u0_27 u0_28 u0_29 u0_30 x0_thrown r3 r7 r10 x0_thrown_1 hc) gX9_room_X9_passes rfl hv_X9_passes ⟨nle rfl, nle rfl⟩ 9 0 rfl rfl rfl (rest := []) rfl rfl hl.1 (nle rfl) dX9_room_10 (fun H locs hP hD hS => ?_)
  refine kb_ne (pc := 13) hexec hb dX9_room_13 (tgt := 18) rfl hf (fun hc hf => ?_) (fun hc hf => ?_)
  · refine lv_iconst (pc := 18) hexec hb dX9_room_18 ki_0 ?_
    refine lv_istore_n (pc := 19) hexec hb dX9_room_19 rfl hl (nle rfl) rfl (fun ls (hl : lv_has ls 5 [(3, .int 0), (0, .ref a0), (1, .int p1), (2, .int p2)]) => ?_)
    refine lv_aload_n (pc := 20) hexec hb dX9_room_20 rfl (lv_at hl 1 rfl) ?_
    refine lv_aload_n (pc := 21) hexec hb dX9_room_21 rfl (lv_at hl 1 rfl) ?_
    refine lv_iload_n (pc := 22) hexec hb dX9_room_22 rfl (lv_at hl 2 rfl) ?_
    refine lv_iconst (pc := 23) hexec hb dX9_room_23 ki_0 ?_
    obtain ⟨r24, hc, hf⟩ := bd1_e hf
    refine kVp (pc := 24) (S := ⟨hexec, hb, hml, hown, hts⟩) hP hD hG hA hS [0, 1] [] [0, 1] (w2 := (w_X9_room g a0 a1 u0_1 u0_2 u0_3 u0_4 u0_5 u0_6 u0_8 u0_9 u0_10 u0_11 u0_12 u0_13 u0_14 u0_15 u0_16 u0_17 u0_18 u0_19 u0_20 u0_21 u0_22 u0_23 u0_24 u0_25 u0_26 u0_27 u0_28 u0_29 u0_30 x0_thrown_1 y1_s)) rfl rfl rfl rfl rfl rfl (by decide) (c_X9_of l g a0 a1 _ u0_1 u0_2 u0_3 u0_4 u0_5 u0_6 (.int x0_thrown_1) u0_8 u0_9 u0_10 u0_11 u0_12 u0_13 u0_14 u0_15 u0_16 u0_17 u0_18 u0_19 u0_20 u0_21 u0_22 u0_23 u0_24 u0_25 u0_26 u0_27 u0_28 u0_29 u0_30 y1_s p1 0 r24 hc) gX9_room_X9_of rfl hv_X9_of ⟨nle rfl, nle rfl⟩ 9 0 rfl rfl rfl (rest := [.ref a0]) rfl rfl hl.1 (nle rfl) dX9_room_24 (fun H locs hP hD hS => ?_)
    refine lv_iload_n (pc := 27) hexec hb dX9_room_27 rfl (lv_at hl 3 rfl) ?_
    refine lv_iconst (pc := 28) hexec hb dX9_room_28 ki_1 ?_
    obtain ⟨r29, hc, hf⟩ := bd1_e hf
    refine kVp (pc := 29) (S := ⟨hexec, hb, hml, hown, hts⟩) hP hD hG hA hS [0, 1] [] [0, 1] (w2 := (w_X9_room g a0 a1 u0_1 u0_2 u0_3 u0_4 u0_5 u0_6 u0_8 u0_9 u0_10 u0_11 u0_12 u0_13 u0_14 u0_15 u0_16 u0_17 u0_18 u0_19 u0_20 u0_21 u0_22 u0_23 u0_24 u0_25 u0_26 u0_27 u0_28 u0_29 u0_30 x0_thrown_1 y1_s)) rfl rfl rfl rfl rfl rfl (by decide) (c_X9_away l g a0 a1 _ u0_1 u0_2 u0_3 u0_4 u0_5 u0_6 (.int x0_thrown_1) u0_8 u0_9 u0_10 u0_11 u0_12 u0_13 u0_14 u0_15 u0_16 u0_17 u0_18 u0_19 u0_20 u0_21 u0_22 u0_23 u0_24 u0_25 u0_26 u0_27 u0_28 u0_29 u0_30 y1_s r24 p2 1 r29 hc) gX9_room_X9_away rfl hv_X9_away ⟨nle rfl, nle rfl⟩ 9 0 rfl rfl rfl (rest := []) rfl rfl hl.1 (nle rfl) dX9_room_29 (fun H locs hP hD hS => ?_)
    refine lv_istore (pc := 32) hexec hb dX9_room_32 hl (nle rfl) rfl (fun ls (hl : lv_has ls 5 [(4, .int r29), (3, .int 0), (0, .ref a0), (1, .int p1), (2, .int p2)]) => ?_)
    obtain ⟨l34, el34, hf⟩ := bvf2 hf
    obtain ⟨v3_1, hz, hf⟩ := bd1_e hf
    have hE34 : ∀ (H : Heap) (locs : List Loc) (ls : Array Slot), va_P g.1 vwCl (w_X9_room g a0 a1 u0_1 u0_2 u0_3 u0_4 u0_5 u0_6 u0_8 u0_9 u0_10 u0_11 u0_12 u0_13 u0_14 u0_15 u0_16 u0_17 u0_18 u0_19 u0_20 u0_21 u0_22 u0_23 u0_24 u0_25 u0_26 u0_27 u0_28 u0_29 u0_30 x0_thrown_1 y1_s) H → va_D A (w_X9_room g a0 a1 u0_1 u0_2 u0_3 u0_4 u0_5 u0_6 u0_8 u0_9 u0_10 u0_11 u0_12 u0_13 u0_14 u0_15 u0_16 u0_17 u0_18 u0_19 u0_20 u0_21 u0_22 u0_23 u0_24 u0_25 u0_26 u0_27 u0_28 u0_29 u0_30 x0_thrown_1 y1_s) → va_S A s.heap H locs → lv_has ls 5 [(3, .int v3_1)] → W p l e (RM 3 74) s m args below meth c H locs 0 0 Q (F0 m 79 ls []) := by
      intro H locs ls hP hD hS hl
      refine lv_iload_n (pc := 79) hexec hb dX9_room_79 rfl (lv_at hl 0 rfl) ?_
      cases hf
      exact ke_i hQ hexec hb hr hP hD hS dX9_room_80 hlocks
    obtain ⟨n, hz⟩ := lq2_e hz
    have hL34 : ∀ (n : Nat) (v3 : Int32) (v4 : Int32) (H : Heap) (locs : List Loc) (ls : Array Slot), it2 l34 n v3 v4 = some v3_1 → va_P g.1 vwCl (w_X9_room g a0 a1 u0_1 u0_2 u0_3 u0_4 u0_5 u0_6 u0_8 u0_9 u0_10 u0_11 u0_12 u0_13 u0_14 u0_15 u0_16 u0_17 u0_18 u0_19 u0_20 u0_21 u0_22 u0_23 u0_24 u0_25 u0_26 u0_27 u0_28 u0_29 u0_30 x0_thrown_1 y1_s) H → va_D A (w_X9_room g a0 a1 u0_1 u0_2 u0_3 u0_4 u0_5 u0_6 u0_8 u0_9 u0_10 u0_11 u0_12 u0_13 u0_14 u0_15 u0_16 u0_17 u0_18 u0_19 u0_20 u0_21 u0_22 u0_23 u0_24 u0_25 u0_26 u0_27 u0_28 u0_29 u0_30 x0_thrown_1 y1_s) → va_S A s.heap H locs → lv_has ls 5 [(0, .ref a0), (2, .int p2), (3, .int v3), (4, .int v4)] → W p l e (RM 3 74) s m args below meth c H locs 0 0 Q (F0 m 34 ls []) := by
      intro n
      induction n with
      | zero =>
        intro v3 v4 H locs ls hf hP hD hS hl
        exact it2_0 hf
      | succ n34 ih34 =>
        intro v3 v4 H locs ls hf hP hD hS hl
        obtain ⟨q34, hf, hk34⟩ := it2_e hf
        have hf := (el34 v3 v4).symm.trans hf
        refine lv_aload_n (pc := 34) hexec hb dX9_room_34 rfl (lv_at hl 0 rfl) ?_
        refine lv_iload (pc := 35) hexec hb dX9_room_35 (lv_at hl 3 rfl) ?_
        obtain ⟨r37, hc, hf⟩ := bd1_e hf
        refine kVp (pc := 37) (S := ⟨hexec, hb, hml, hown, hts⟩) hP hD hG hA hS [0, 1] [] [0, 1] (w2 := (w_X9_room g a0 a1 u0_1 u0_2 u0_3 u0_4 u0_5 u0_6 u0_8 u0_9 u0_10 u0_11 u0_12 u0_13 u0_14 u0_15 u0_16 u0_17 u0_18 u0_19 u0_20 u0_21 u0_22 u0_23 u0_24 u0_25 u0_26 u0_27 u0_28 u0_29 u0_30 x0_thrown_1 y1_s)) rfl rfl rfl rfl rfl rfl (by decide) (c_X9_isLand l g a0 a1 _ u0_1 u0_2 u0_3 u0_4 u0_5 u0_6 (.int x0_thrown_1) u0_8 u0_9 u0_10 u0_11 u0_12 u0_13 u0_14 u0_15 u0_16 u0_17 u0_18 u0_19 u0_20 u0_21 u0_22 u0_23 u0_24 u0_25 u0_26 u0_27 u0_28 u0_29 u0_30 y1_s v4 r37 hc) gX9_room_X9_isLand rfl hv_X9_isLand ⟨nle rfl, nle rfl⟩ 9 0 rfl rfl rfl (rest := []) rfl rfl hl.1 (nle rfl) dX9_room_37 (fun H locs hP hD hS => ?_)
        refine kb_eq (pc := 40) hexec hb dX9_room_40 (tgt := 79) rfl hf (fun hc hf => ?_) (fun hc hf => ?_)
        · cases sr2 hf hk34
          exact hE34 _ _ _ hP hD hS (lv_sub hl [2] rfl)
        · refine lv_aload_n (pc := 43) hexec hb dX9_room_43 rfl (lv_at hl 0 rfl) ?_
          refine lv_iload (pc := 44) hexec hb dX9_room_44 (lv_at hl 3 rfl) ?_
          obtain ⟨r46, hc, hf⟩ := bd1_e hf
          refine kVp (pc := 46) (S := ⟨hexec, hb, hml, hown, hts⟩) hP hD hG hA hS [0, 1] [] [0, 1] (w2 := (w_X9_room g a0 a1 u0_1 u0_2 u0_3 u0_4 u0_5 u0_6 u0_8 u0_9 u0_10 u0_11 u0_12 u0_13 u0_14 u0_15 u0_16 u0_17 u0_18 u0_19 u0_20 u0_21 u0_22 u0_23 u0_24 u0_25 u0_26 u0_27 u0_28 u0_29 u0_30 x0_thrown_1 y1_s)) rfl rfl rfl rfl rfl rfl (by decide) (c_X9_isRiver l g a0 a1 _ u0_1 u0_2 u0_3 u0_4 u0_5 u0_6 (.int x0_thrown_1) u0_8 u0_9 u0_10 u0_11 u0_12 u0_13 u0_14 u0_15 u0_16 u0_17 u0_18 u0_19 u0_20 u0_21 u0_22 u0_23 u0_24 u0_25 u0_26 u0_27 u0_28 u0_29 u0_30 y1_s v4 r46 hc) gX9_room_X9_isRiver rfl hv_X9_isRiver ⟨nle rfl, nle rfl⟩ 9 0 rfl rfl rfl (rest := []) rfl rfl hl.1 (nle rfl) dX9_room_46 (fun H locs hP hD hS => ?_)
          refine kb_ne (pc := 49) hexec hb dX9_room_49 (tgt := 79) rfl hf (fun hc hf => ?_) (fun hc hf => ?_)
          · cases sr2 hf hk34
            exact hE34 _ _ _ hP hD hS (lv_sub hl [2] rfl)
          · refine lv_aload_n (pc := 52) hexec hb dX9_room_52 rfl (lv_at hl 0 rfl) ?_
            refine lv_iload (pc := 53) hexec hb dX9_room_53 (lv_at hl 3 rfl) ?_
            refine lv_iconst (pc := 55) hexec hb dX9_room_55 ki_m1 ?_
            obtain ⟨r56, hc, hf⟩ := bd1_e hf
            refine kVp (pc := 56) (S := ⟨hexec, hb, hml, hown, hts⟩) hP hD hG hA hS [0, 1] [] [0, 1] (w2 := (w_X9_room g a0 a1 u0_1 u0_2 u0_3 u0_4 u0_5 u0_6 u0_8 u0_9 u0_10 u0_11 u0_12 u0_13 u0_14 u0_15 u0_16 u0_17 u0_18 u0_19 u0_20 u0_21 u0_22 u0_23 u0_24 u0_25 u0_26 u0_27 u0_28 u0_29 u0_30 x0_thrown_1 y1_s)) rfl rfl rfl rfl rfl rfl (by decide) (c_X9_harbourAt l g a0 a1 _ u0_1 u0_2 u0_3 u0_4 u0_5 u0_6 (.int x0_thrown_1) u0_8 u0_9 u0_10 u0_11 u0_12 u0_13 u0_14 u0_15 u0_16 u0_17 u0_18 u0_19 u0_20 u0_21 u0_22 u0_23 u0_24 u0_25 u0_26 u0_27 u0_28 u0_29 u0_30 y1_s v4 (-1) r56 hc) gX9_room_X9_harbourAt rfl hv_X9_harbourAt ⟨nle rfl, nle rfl⟩ 9 0 rfl rfl rfl (rest := []) rfl rfl hl.1 (nle rfl) dX9_room_56 (fun H locs hP hD hS => ?_)
            refine lv_iconst (pc := 59) hexec hb dX9_room_59 ki_m1 ?_
            refine ki_ne (pc := 60) hexec hb dX9_room_60 (tgt := 79) rfl hf (fun hc hf => ?_) (fun hc hf => ?_)
            · cases sr2 hf hk34
              exact hE34 _ _ _ hP hD hS (lv_sub hl [2] rfl)
            · obtain ⟨v3_2, ev3_2, hf⟩ := bv_e hf
              refine k_iinc (pc := 63) hexec hb dX9_room_63 kq_1 hl (k := 2) rfl ev3_2 (nle rfl) rfl (fun ls (hl : lv_has ls 5 [(3, .int v3_2), (0, .ref a0), (2, .int p2), (4, .int v4)]) => ?_)
              refine lv_aload_n (pc := 66) hexec hb dX9_room_66 rfl (lv_at hl 1 rfl) ?_
              refine lv_iload (pc := 67) hexec hb dX9_room_67 (lv_at hl 3 rfl) ?_
              refine lv_iload_n (pc := 69) hexec hb dX9_room_69 rfl (lv_at hl 2 rfl) ?_
              refine lv_iconst (pc := 70) hexec hb dX9_room_70 ki_1 ?_
              obtain ⟨r71, hc, hf⟩ := bd1_e hf
              refine kVp (pc := 71) (S := ⟨hexec, hb, hml, hown, hts⟩) hP hD hG hA hS [0, 1] [] [0, 1] (w2 := (w_X9_room g a0 a1 u0_1 u0_2 u0_3 u0_4 u0_5 u0_6 u0_8 u0_9 u0_10 u0_11 u0_12 u0_13 u0_14 u0_15 u0_16 u0_17 u0_18 u0_19 u0_20 u0_21 u0_22 u0_23 u0_24 u0_25 u0_26 u0_27 u0_28 u0_29 u0_30 x0_thrown_1 y1_s)) rfl rfl rfl rfl rfl rfl (by decide) (c_X9_away l g a0 a1 _ u0_1 u0_2 u0_3 u0_4 u0_5 u0_6 (.int x0_thrown_1) u0_8 u0_9 u0_10 u0_11 u0_12 u0_13 u0_14 u0_15 u0_16 u0_17 u0_18 u0_19 u0_20 u0_21 u0_22 u0_23 u0_24 u0_25 u0_26 u0_27 u0_28 u0_29 u0_30 y1_s v4 p2 1 r71 hc) gX9_room_X9_away rfl hv_X9_away ⟨nle rfl, nle rfl⟩ 9 0 rfl rfl rfl (rest := []) rfl rfl hl.1 (nle rfl) dX9_room_71 (fun H locs hP hD hS => ?_)
              refine lv_istore (pc := 74) hexec hb dX9_room_74 hl (nle rfl) rfl (fun ls (hl : lv_has ls 5 [(4, .int r71), (3, .int v3_2), (0, .ref a0), (2, .int p2)]) => ?_)
              refine lv_goto (pc := 76) hexec hb dX9_room_76 (tgt := 34) rfl ?_
              exact ih34 _ _ _ _ _ (sl2 hf hk34) hP hD hS (lv_sub hl [2, 3, 1, 0] rfl)
    exact hL34 n _ _ _ _ _ hz hP hD hS (lv_sub hl [2, 4, 1, 0] rfl)
  · refine lv_iconst (pc := 16) hexec hb dX9_room_16 ki_0 ?_
    cases hf
    exact ke_i hQ hexec hb hr hP hD hS dX9_room_17 hlocks
abbrev w_X9_crossings (g : GE) (a0 a1 : Nat) (u0_1 u0_2 u0_3 u0_4 u0_5 u0_6 u0_8 u0_9 u0_10 u0_11 u0_12 u0_13 u0_14 u0_15 u0_16 u0_17 u0_18 u0_19 u0_20 u0_21 u0_22 u0_23 u0_24 u0_25 u0_26 u0_27 u0_28 u0_29 u0_30 : Value) (x0_thrown : Int32) (y1_s : Nat → Int32) : va_W := [(a0, .inr (9, [.ref a1, u0_1, u0_2, u0_3, u0_4, u0_5, u0_6, .int x0_thrown, u0_8, u0_9, u0_10, u0_11, u0_12, u0_13, u0_14, u0_15, u0_16, u0_17, u0_18, u0_19, u0_20, u0_21, u0_22, u0_23, u0_24, u0_25, u0_26, u0_27, u0_28, u0_29, u0_30])), (a1, .inl (g.2.1 0, 552, .inl y1_s))]
set_option maxRecDepth 20000 in
theorem c_X9_crossings (l : Launch) (g : GE) (a0 a1 : Nat) (sz : Nat) (u0_1 u0_2 u0_3 u0_4 u0_5 u0_6 u0_8 u0_9 u0_10 u0_11 u0_12 u0_13 u0_14 u0_15 u0_16 u0_17 u0_18 u0_19 u0_20 u0_21 u0_22 u0_23 u0_24 u0_25 u0_26 u0_27 u0_28 u0_29 u0_30 : Value) (x0_thrown : Int32) (y1_s : Nat → Int32)   (r : Int32) (o_x0_thrown : Int32) (hf : f_X9_crossings x0_thrown y1_s = some (r, o_x0_thrown)) : MI l g yX9_crossings wsX9_crossings 7 167 [.ref a0] (w_X9_crossings g a0 a1 u0_1 u0_2 u0_3 u0_4 u0_5 u0_6 u0_8 u0_9 u0_10 u0_11 u0_12 u0_13 u0_14 u0_15 u0_16 u0_17 u0_18 u0_19 u0_20 u0_21 u0_22 u0_23 u0_24 u0_25 u0_26 u0_27 u0_28 u0_29 u0_30 x0_thrown y1_s) sz (some (.int r)) (w_X9_crossings g a0 a1 u0_1 u0_2 u0_3 u0_4 u0_5 u0_6 u0_8 u0_9 u0_10 u0_11 u0_12 u0_13 u0_14 u0_15 u0_16 u0_17 u0_18 u0_19 u0_20 u0_21 u0_22 u0_23 u0_24 u0_25 u0_26 u0_27 u0_28 u0_29 u0_30 o_x0_thrown y1_s) := by
  refine MI.start (cc := cX9_crossings) (maxL := 3) (ret := (some .int)) rfl rfl (nle rfl) ?_
  intro p e s m args below meth c A ls Q hQ hexec hb hr hts hown hlocks hml hA hP hD hG hS hl
  unfold f_X9_crossings at hf
  have hWX9 : ∀ w ∈ wsX90, w.before args s = true := fun w h => hts w (List.mem_cons_of_mem _ (List.mem_append_right _ h))
  have hS : va_S A s.heap s.heap [] := hS
  refine lv_aload_n (pc := 0) hexec hb dX9_crossings_0 rfl (lv_at hl 0 rfl) ?_
  refine lv_iconst (pc := 1) hexec hb dX9_crossings_1 ki_0 ?_
  refine kp_put (pc := 2) hexec hb (own := RX9) hWX9 tyX9 tyX9_ok nmX9 hown hG hP hD hS 0 rfl rfl 7 (nle rfl) (hts _ (List.mem_cons_of_mem _ (List.mem_append_left _ (List.mem_append_left _ (List.mem_of_getElem? (i := 0) rfl))))) rfl rfl rfl rfl (nle rfl) dX9_crossings_2 (fun H locs (hP : va_P g.1 vwCl (w_X9_crossings g a0 a1 u0_1 u0_2 u0_3 u0_4 u0_5 u0_6 u0_8 u0_9 u0_10 u0_11 u0_12 u0_13 u0_14 u0_15 u0_16 u0_17 u0_18 u0_19 u0_20 u0_21 u0_22 u0_23 u0_24 u0_25 u0_26 u0_27 u0_28 u0_29 u0_30 0 y1_s) H) (hD : va_D A (w_X9_crossings g a0 a1 u0_1 u0_2 u0_3 u0_4 u0_5 u0_6 u0_8 u0_9 u0_10 u0_11 u0_12 u0_13 u0_14 u0_15 u0_16 u0_17 u0_18 u0_19 u0_20 u0_21 u0_22 u0_23 u0_24 u0_25 u0_26 u0_27 u0_28 u0_29 u0_30 0 y1_s)) hS => ?_)
  refine lv_iconst (pc := 5) hexec hb dX9_crossings_5 ki_0 ?_
  refine lv_istore_n (pc := 6) hexec hb dX9_crossings_6 rfl hl (nle rfl) rfl (fun ls (hl : lv_has ls 3 [(1, .int 0), (0, .ref a0)]) => ?_)
  refine lv_iconst (pc := 7) hexec hb dX9_crossings_7 ki_0 ?_
  refine lv_istore_n (pc := 8) hexec hb dX9_crossings_8 rfl hl (nle rfl) rfl (fun ls (hl : lv_has ls 3 [(2, .int 0), (1, .int 0), (0, .ref a0)]) => ?_)
  obtain ⟨l9, el9, hf⟩ := bvf2 hf
  obtain ⟨v1_1, hz, hf⟩ := bd1_e hf
  have hE9 : ∀ (H : Heap) (locs : List Loc) (ls : Array Slot), va_P g.1 vwCl (w_X9_crossings g a0 a1 u0_1 u0_2 u0_3 u0_4 u0_5 u0_6 u0_8 u0_9 u0_10 u0_11 u0_12 u0_13 u0_14 u0_15 u0_16 u0_17 u0_18 u0_19 u0_20 u0_21 u0_22 u0_23 u0_24 u0_25 u0_26 u0_27 u0_28 u0_29 u0_30 0 y1_s) H → va_D A (w_X9_crossings g a0 a1 u0_1 u0_2 u0_3 u0_4 u0_5 u0_6 u0_8 u0_9 u0_10 u0_11 u0_12 u0_13 u0_14 u0_15 u0_16 u0_17 u0_18 u0_19 u0_20 u0_21 u0_22 u0_23 u0_24 u0_25 u0_26 u0_27 u0_28 u0_29 u0_30 0 y1_s) → va_S A s.heap H locs → lv_has ls 3 [(1, .int v1_1)] → W p l e (RM 7 167) s m args below meth c H locs 0 0 Q (F0 m 36 ls []) := by
    intro H locs ls hP hD hS hl
    refine lv_iload_n (pc := 36) hexec hb dX9_crossings_36 rfl (lv_at hl 0 rfl) ?_
    refine lv_iconst (pc := 37) hexec hb dX9_crossings_37 ki_2 ?_
    refine lv_idiv (pc := 38) hexec hb dX9_crossings_38 (by decide) ?_
    cases hf
    exact ke_i hQ hexec hb hr hP hD hS dX9_crossings_39 hlocks
  obtain ⟨n, hz⟩ := lq2_e hz
  have hL9 : ∀ (n : Nat) (v1 : Int32) (v2 : Int32) (H : Heap) (locs : List Loc) (ls : Array Slot), it2 l9 n v1 v2 = some v1_1 → va_P g.1 vwCl (w_X9_crossings g a0 a1 u0_1 u0_2 u0_3 u0_4 u0_5 u0_6 u0_8 u0_9 u0_10 u0_11 u0_12 u0_13 u0_14 u0_15 u0_16 u0_17 u0_18 u0_19 u0_20 u0_21 u0_22 u0_23 u0_24 u0_25 u0_26 u0_27 u0_28 u0_29 u0_30 0 y1_s) H → va_D A (w_X9_crossings g a0 a1 u0_1 u0_2 u0_3 u0_4 u0_5 u0_6 u0_8 u0_9 u0_10 u0_11 u0_12 u0_13 u0_14 u0_15 u0_16 u0_17 u0_18 u0_19 u0_20 u0_21 u0_22 u0_23 u0_24 u0_25 u0_26 u0_27 u0_28 u0_29 u0_30 0 y1_s) → va_S A s.heap H locs → lv_has ls 3 [(0, .ref a0), (1, .int v1), (2, .int v2)] → W p l e (RM 7 167) s m args below meth c H locs 0 0 Q (F0 m 9 ls []) := by
    intro n
    induction n with
    | zero =>
      intro v1 v2 H locs ls hf hP hD hS hl
      exact it2_0 hf
    | succ n9 ih9 =>
      intro v1 v2 H locs ls hf hP hD hS hl
      obtain ⟨q9, hf, hk9⟩ := it2_e hf
      have hf := (el9 v1 v2).symm.trans hf
      refine lv_iload_n (pc := 9) hexec hb dX9_crossings_9 rfl (lv_at hl 2 rfl) ?_
      refine lv_aload_n (pc := 10) hexec hb dX9_crossings_10 rfl (lv_at hl 0 rfl) ?_
      refine kg_get (pc := 11) hexec hb (own := RX9) hWX9 hown hG hP 0 rfl rfl 0 (nle rfl) (hts _ (List.mem_cons_of_mem _ (List.mem_append_left _ (List.mem_append_left _ (List.mem_of_getElem? (i := 1) rfl))))) rfl rfl dX9_crossings_11 ?_
      refine lv_iconst (pc := 14) hexec hb dX9_crossings_14 ki_2 ?_
      refine kr_iald (pc := 15) hexec hb hG hP 1 rfl hf dX9_crossings_15 (fun hf => ?_)
      refine ki_ge (pc := 16) hexec hb dX9_crossings_16 (tgt := 36) rfl hf (fun hc hf => ?_) (fun hc hf => ?_)
      · cases sr2 hf hk9
        exact hE9 _ _ _ hP hD hS (lv_sub hl [1] rfl)
      · refine lv_iload_n (pc := 19) hexec hb dX9_crossings_19 rfl (lv_at hl 1 rfl) ?_
        refine lv_aload_n (pc := 20) hexec hb dX9_crossings_20 rfl (lv_at hl 0 rfl) ?_
        refine lv_iload_n (pc := 21) hexec hb dX9_crossings_21 rfl (lv_at hl 2 rfl) ?_
        obtain ⟨r22, hc, hf⟩ := bd1_e hf
        refine kVp (pc := 22) (S := ⟨hexec, hb, hml, hown, hts⟩) hP hD hG hA hS [0, 1] [] [0, 1] (w2 := (w_X9_crossings g a0 a1 u0_1 u0_2 u0_3 u0_4 u0_5 u0_6 u0_8 u0_9 u0_10 u0_11 u0_12 u0_13 u0_14 u0_15 u0_16 u0_17 u0_18 u0_19 u0_20 u0_21 u0_22 u0_23 u0_24 u0_25 u0_26 u0_27 u0_28 u0_29 u0_30 0 y1_s)) rfl rfl rfl rfl rfl rfl (by decide) (c_X9_crossedBy l g a0 a1 _ u0_1 u0_2 u0_3 u0_4 u0_5 u0_6 (.int 0) u0_8 u0_9 u0_10 u0_11 u0_12 u0_13 u0_14 u0_15 u0_16 u0_17 u0_18 u0_19 u0_20 u0_21 u0_22 u0_23 u0_24 u0_25 u0_26 u0_27 u0_28 u0_29 u0_30 y1_s v2 r22 hc) gX9_crossings_X9_crossedBy rfl hv_X9_crossedBy ⟨nle rfl, nle rfl⟩ 9 0 rfl rfl rfl (rest := [.int v1]) rfl rfl hl.1 (nle rfl) dX9_crossings_22 (fun H locs hP hD hS => ?_)
        obtain ⟨r25, hc, hf⟩ := bd1_e hf
        refine kSp (pc := 25) (S := ⟨hexec, hb, hml, hown, hts⟩) hP hD hG hA hS [] [0, 1] [0, 1] (w2 := (w_X9_crossings g a0 a1 u0_1 u0_2 u0_3 u0_4 u0_5 u0_6 u0_8 u0_9 u0_10 u0_11 u0_12 u0_13 u0_14 u0_15 u0_16 u0_17 u0_18 u0_19 u0_20 u0_21 u0_22 u0_23 u0_24 u0_25 u0_26 u0_27 u0_28 u0_29 u0_30 0 y1_s)) rfl rfl rfl rfl rfl rfl (by decide) (c_X9_ones l g _ r22 r25 hc) gX9_crossings_X9_ones rfl hs_X9_ones ⟨nle rfl, nle rfl⟩ (rest := [.int v1]) rfl rfl hl.1 (nle rfl) dX9_crossings_25 (fun H locs hP hD hS => ?_)
        refine lv_iadd (pc := 28) hexec hb dX9_crossings_28 ?_
        obtain ⟨v1_2, ev1_2, hf⟩ := bv_e hf
        refine kn_i ev1_2 ?_
        refine lv_istore_n (pc := 29) hexec hb dX9_crossings_29 rfl hl (nle rfl) rfl (fun ls (hl : lv_has ls 3 [(1, .int v1_2), (0, .ref a0), (2, .int v2)]) => ?_)
        obtain ⟨v2_1, ev2_1, hf⟩ := bv_e hf
        refine k_iinc (pc := 30) hexec hb dX9_crossings_30 kq_1 hl (k := 2) rfl ev2_1 (nle rfl) rfl (fun ls (hl : lv_has ls 3 [(2, .int v2_1), (1, .int v1_2), (0, .ref a0)]) => ?_)
        refine lv_goto (pc := 33) hexec hb dX9_crossings_33 (tgt := 9) rfl ?_
        exact ih9 _ _ _ _ _ (sl2 hf hk9) hP hD hS (lv_sub hl [2, 1, 0] rfl)
  exact hL9 n _ _ _ _ _ hz hP hD hS (lv_sub hl [2, 1, 0] rfl)
abbrev w_X9_crossed (g : GE) (a0 a1 : Nat) (u0_1 u0_2 u0_3 u0_4 u0_5 u0_6 u0_8 u0_9 u0_10 u0_11 u0_12 u0_13 u0_14 u0_15 u0_16 u0_17 u0_18 u0_19 u0_20 u0_21 u0_22 u0_23 u0_24 u0_25 u0_26 u0_27 u0_28 u0_29 u0_30 : Value) (x0_thrown : Int32) (y1_s : Nat → Int32) : va_W := [(a0, .inr (9, [.ref a1, u0_1, u0_2, u0_3, u0_4, u0_5, u0_6, .int x0_thrown, u0_8, u0_9, u0_10, u0_11, u0_12, u0_13, u0_14, u0_15, u0_16, u0_17, u0_18, u0_19, u0_20, u0_21, u0_22, u0_23, u0_24, u0_25, u0_26, u0_27, u0_28, u0_29, u0_30])), (a1, .inl (g.2.1 0, 552, .inl y1_s))]
set_option maxRecDepth 20000 in
theorem c_X9_crossed (l : Launch) (g : GE) (a0 a1 : Nat) (sz : Nat) (u0_1 u0_2 u0_3 u0_4 u0_5 u0_6 u0_8 u0_9 u0_10 u0_11 u0_12 u0_13 u0_14 u0_15 u0_16 u0_17 u0_18 u0_19 u0_20 u0_21 u0_22 u0_23 u0_24 u0_25 u0_26 u0_27 u0_28 u0_29 u0_30 : Value) (x0_thrown : Int32) (y1_s : Nat → Int32) (p1 : Int32)  (r : Int32) (o_x0_thrown : Int32) (hf : f_X9_crossed x0_thrown y1_s p1 = some (r, o_x0_thrown)) : MI l g yX9_crossed wsX9_crossed 7 167 [.ref a0, .int p1] (w_X9_crossed g a0 a1 u0_1 u0_2 u0_3 u0_4 u0_5 u0_6 u0_8 u0_9 u0_10 u0_11 u0_12 u0_13 u0_14 u0_15 u0_16 u0_17 u0_18 u0_19 u0_20 u0_21 u0_22 u0_23 u0_24 u0_25 u0_26 u0_27 u0_28 u0_29 u0_30 x0_thrown y1_s) sz (some (.int r)) (w_X9_crossed g a0 a1 u0_1 u0_2 u0_3 u0_4 u0_5 u0_6 u0_8 u0_9 u0_10 u0_11 u0_12 u0_13 u0_14 u0_15 u0_16 u0_17 u0_18 u0_19 u0_20 u0_21 u0_22 u0_23 u0_24 u0_25 u0_26 u0_27 u0_28 u0_29 u0_30 o_x0_thrown y1_s) := by
  refine MI.start (cc := cX9_crossed) (maxL := 2) (ret := (some .int)) rfl rfl (nle rfl) ?_
  intro p e s m args below meth c A ls Q hQ hexec hb hr hts hown hlocks hml hA hP hD hG hS hl
  unfold f_X9_crossed at hf
  have hWX9 : ∀ w ∈ wsX90, w.before args s = true := fun w h => hts w (List.mem_cons_of_mem _ (List.mem_append_right _ h))
  have hS : va_S A s.heap s.heap [] := hS
  refine lv_aload_n (pc := 0) hexec hb dX9_crossed_0 rfl (lv_at hl 0 rfl) ?_
  refine lv_iload_n (pc := 1) hexec hb dX9_crossed_1 rfl (lv_at hl 1 rfl) ?_
  obtain ⟨r2, x0_thrown_1, hc, hf⟩ := bd2_e hf
  refine kVp (pc := 2) (S := ⟨hexec, hb, hml, hown, hts⟩) hP hD hG hA hS [0, 1] [] [0, 1] (w2 := (w_X9_crossed g a0 a1 u0_1 u0_2 u0_3 u0_4 u0_5 u0_6 u0_8 u0_9 u0_10 u0_11 u0_12 u0_13 u0_14 u0_15 u0_16 u0_17 u0_18 u0_19 u0_20 u0_21 u0_22 u0_23 u0_24 u0_25 u0_26 u0_27 u0_28 u0_29 u0_30 x0_thrown_1 y1_s)) rfl rfl rfl rfl rfl rfl (by decide) (c_X9_mayHarbour l g a0 a1 _ u0_1 u0_2 u0_3 u0_4 u0_5 u0_6 u0_8 u0_9 u0_10 u0_11 u0_12 u0_13 u0_14 u0_15 u0_16 u0_17 u0_18 u0_19 u0_20 u0_21 u0_22 u0_23 u0_24 u0_25 u0_26 u0_27 u0_28 u0_29 u0_30 x0_thrown y1_s p1 r2 x0_thrown_1 hc) gX9_crossed_X9_mayHarbour rfl hv_X9_mayHarbour ⟨nle rfl, nle rfl⟩ 9 0 rfl rfl rfl (rest := []) rfl rfl hl.1 (nle rfl) dX9_crossed_2 (fun H locs hP hD hS => ?_)
  refine kb_eq (pc := 5) hexec hb dX9_crossed_5 (tgt := 16) rfl hf (fun hc hf => ?_) (fun hc hf => ?_)
  · refine lv_iconst (pc := 16) hexec hb dX9_crossed_16 ki_0 ?_
    cases hf
    exact ke_i hQ hexec hb hr hP hD hS dX9_crossed_17 hlocks
  · refine lv_aload_n (pc := 8) hexec hb dX9_crossed_8 rfl (lv_at hl 0 rfl) ?_
    refine lv_iload_n (pc := 9) hexec hb dX9_crossed_9 rfl (lv_at hl 1 rfl) ?_
    obtain ⟨r10, hc, hf⟩ := bd1_e hf
    refine kVp (pc := 10) (S := ⟨hexec, hb, hml, hown, hts⟩) hP hD hG hA hS [0, 1] [] [0, 1] (w2 := (w_X9_crossed g a0 a1 u0_1 u0_2 u0_3 u0_4 u0_5 u0_6 u0_8 u0_9 u0_10 u0_11 u0_12 u0_13 u0_14 u0_15 u0_16 u0_17 u0_18 u0_19 u0_20 u0_21 u0_22 u0_23 u0_24 u0_25 u0_26 u0_27 u0_28 u0_29 u0_30 x0_thrown_1 y1_s)) rfl rfl rfl rfl rfl rfl (by decide) (c_X9_crossedBy l g a0 a1 _ u0_1 u0_2 u0_3 u0_4 u0_5 u0_6 (.int x0_thrown_1) u0_8 u0_9 u0_10 u0_11 u0_12 u0_13 u0_14 u0_15 u0_16 u0_17 u0_18 u0_19 u0_20 u0_21 u0_22 u0_23 u0_24 u0_25 u0_26 u0_27 u0_28 u0_29 u0_30 y1_s p1 r10 hc) gX9_crossed_X9_crossedBy rfl hv_X9_crossedBy ⟨nle rfl, nle rfl⟩ 9 0 rfl rfl rfl (rest := []) rfl rfl hl.1 (nle rfl) dX9_crossed_10 (fun H locs hP hD hS => ?_)
    refine lv_goto (pc := 13) hexec hb dX9_crossed_13 (tgt := 17) rfl ?_
    cases hf
    exact ke_i hQ hexec hb hr hP hD hS dX9_crossed_17 hlocks
abbrev w_X9_free (g : GE) (a0 a1 : Nat) (u0_1 u0_2 u0_3 u0_4 u0_5 u0_6 u0_8 u0_9 u0_10 u0_11 u0_12 u0_13 u0_14 u0_15 u0_16 u0_17 u0_18 u0_19 u0_20 u0_21 u0_22 u0_23 u0_24 u0_25 u0_26 u0_27 u0_28 u0_29 u0_30 : Value) (x0_thrown : Int32) (y1_s : Nat → Int32) : va_W := [(a0, .inr (9, [.ref a1, u0_1, u0_2, u0_3, u0_4, u0_5, u0_6, .int x0_thrown, u0_8, u0_9, u0_10, u0_11, u0_12, u0_13, u0_14, u0_15, u0_16, u0_17, u0_18, u0_19, u0_20, u0_21, u0_22, u0_23, u0_24, u0_25, u0_26, u0_27, u0_28, u0_29, u0_30])), (a1, .inl (g.2.1 0, 552, .inl y1_s))]
set_option maxRecDepth 20000 in
theorem c_X9_free (l : Launch) (g : GE) (a0 a1 : Nat) (sz : Nat) (u0_1 u0_2 u0_3 u0_4 u0_5 u0_6 u0_8 u0_9 u0_10 u0_11 u0_12 u0_13 u0_14 u0_15 u0_16 u0_17 u0_18 u0_19 u0_20 u0_21 u0_22 u0_23 u0_24 u0_25 u0_26 u0_27 u0_28 u0_29 u0_30 : Value) (x0_thrown : Int32) (y1_s : Nat → Int32)   (r : Int32) (o_x0_thrown : Int32) (hf : f_X9_free x0_thrown y1_s = some (r, o_x0_thrown)) : MI l g yX9_free wsX9_free 6 143 [.ref a0] (w_X9_free g a0 a1 u0_1 u0_2 u0_3 u0_4 u0_5 u0_6 u0_8 u0_9 u0_10 u0_11 u0_12 u0_13 u0_14 u0_15 u0_16 u0_17 u0_18 u0_19 u0_20 u0_21 u0_22 u0_23 u0_24 u0_25 u0_26 u0_27 u0_28 u0_29 u0_30 x0_thrown y1_s) sz (some (.int r)) (w_X9_free g a0 a1 u0_1 u0_2 u0_3 u0_4 u0_5 u0_6 u0_8 u0_9 u0_10 u0_11 u0_12 u0_13 u0_14 u0_15 u0_16 u0_17 u0_18 u0_19 u0_20 u0_21 u0_22 u0_23 u0_24 u0_25 u0_26 u0_27 u0_28 u0_29 u0_30 o_x0_thrown y1_s) := by
  refine MI.start (cc := cX9_free) (maxL := 3) (ret := (some .int)) rfl rfl (nle rfl) ?_
  intro p e s m args below meth c A ls Q hQ hexec hb hr hts hown hlocks hml hA hP hD hG hS hl
  unfold f_X9_free at hf
  have hWX9 : ∀ w ∈ wsX90, w.before args s = true := fun w h => hts w (List.mem_cons_of_mem _ (List.mem_append_right _ h))
  have hS : va_S A s.heap s.heap [] := hS
  refine lv_aload_n (pc := 0) hexec hb dX9_free_0 rfl (lv_at hl 0 rfl) ?_
  refine lv_iconst (pc := 1) hexec hb dX9_free_1 ki_0 ?_
  refine kp_put (pc := 2) hexec hb (own := RX9) hWX9 tyX9 tyX9_ok nmX9 hown hG hP hD hS 0 rfl rfl 7 (nle rfl) (hts _ (List.mem_cons_of_mem _ (List.mem_append_left _ (List.mem_append_left _ (List.mem_of_getElem? (i := 0) rfl))))) rfl rfl rfl rfl (nle rfl) dX9_free_2 (fun H locs (hP : va_P g.1 vwCl (w_X9_free g a0 a1 u0_1 u0_2 u0_3 u0_4 u0_5 u0_6 u0_8 u0_9 u0_10 u0_11 u0_12 u0_13 u0_14 u0_15 u0_16 u0_17 u0_18 u0_19 u0_20 u0_21 u0_22 u0_23 u0_24 u0_25 u0_26 u0_27 u0_28 u0_29 u0_30 0 y1_s) H) (hD : va_D A (w_X9_free g a0 a1 u0_1 u0_2 u0_3 u0_4 u0_5 u0_6 u0_8 u0_9 u0_10 u0_11 u0_12 u0_13 u0_14 u0_15 u0_16 u0_17 u0_18 u0_19 u0_20 u0_21 u0_22 u0_23 u0_24 u0_25 u0_26 u0_27 u0_28 u0_29 u0_30 0 y1_s)) hS => ?_)
  refine lv_iconst (pc := 5) hexec hb dX9_free_5 ki_0 ?_
  refine lv_istore_n (pc := 6) hexec hb dX9_free_6 rfl hl (nle rfl) rfl (fun ls (hl : lv_has ls 3 [(1, .int 0), (0, .ref a0)]) => ?_)
  refine lv_iconst (pc := 7) hexec hb dX9_free_7 ki_0 ?_
  refine lv_istore_n (pc := 8) hexec hb dX9_free_8 rfl hl (nle rfl) rfl (fun ls (hl : lv_has ls 3 [(2, .int 0), (1, .int 0), (0, .ref a0)]) => ?_)
  obtain ⟨l9, el9, hf⟩ := bvf2 hf
  obtain ⟨v1_1, hz, hf⟩ := bd1_e hf
  have hE9 : ∀ (H : Heap) (locs : List Loc) (ls : Array Slot), va_P g.1 vwCl (w_X9_free g a0 a1 u0_1 u0_2 u0_3 u0_4 u0_5 u0_6 u0_8 u0_9 u0_10 u0_11 u0_12 u0_13 u0_14 u0_15 u0_16 u0_17 u0_18 u0_19 u0_20 u0_21 u0_22 u0_23 u0_24 u0_25 u0_26 u0_27 u0_28 u0_29 u0_30 0 y1_s) H → va_D A (w_X9_free g a0 a1 u0_1 u0_2 u0_3 u0_4 u0_5 u0_6 u0_8 u0_9 u0_10 u0_11 u0_12 u0_13 u0_14 u0_15 u0_16 u0_17 u0_18 u0_19 u0_20 u0_21 u0_22 u0_23 u0_24 u0_25 u0_26 u0_27 u0_28 u0_29 u0_30 0 y1_s) → va_S A s.heap H locs → lv_has ls 3 [(1, .int v1_1)] → W p l e (RM 6 143) s m args below meth c H locs 0 0 Q (F0 m 47 ls []) := by
    intro H locs ls hP hD hS hl
    refine lv_iload_n (pc := 47) hexec hb dX9_free_47 rfl (lv_at hl 0 rfl) ?_
    cases hf
    exact ke_i hQ hexec hb hr hP hD hS dX9_free_48 hlocks
  obtain ⟨n, hz⟩ := lq2_e hz
  have hL9 : ∀ (n : Nat) (v1 : Int32) (v2 : Int32) (H : Heap) (locs : List Loc) (ls : Array Slot), it2 l9 n v1 v2 = some v1_1 → va_P g.1 vwCl (w_X9_free g a0 a1 u0_1 u0_2 u0_3 u0_4 u0_5 u0_6 u0_8 u0_9 u0_10 u0_11 u0_12 u0_13 u0_14 u0_15 u0_16 u0_17 u0_18 u0_19 u0_20 u0_21 u0_22 u0_23 u0_24 u0_25 u0_26 u0_27 u0_28 u0_29 u0_30 0 y1_s) H → va_D A (w_X9_free g a0 a1 u0_1 u0_2 u0_3 u0_4 u0_5 u0_6 u0_8 u0_9 u0_10 u0_11 u0_12 u0_13 u0_14 u0_15 u0_16 u0_17 u0_18 u0_19 u0_20 u0_21 u0_22 u0_23 u0_24 u0_25 u0_26 u0_27 u0_28 u0_29 u0_30 0 y1_s) → va_S A s.heap H locs → lv_has ls 3 [(0, .ref a0), (1, .int v1), (2, .int v2)] → W p l e (RM 6 143) s m args below meth c H locs 0 0 Q (F0 m 9 ls []) := by
    intro n
    induction n with
    | zero =>
      intro v1 v2 H locs ls hf hP hD hS hl
      exact it2_0 hf
    | succ n9 ih9 =>
      intro v1 v2 H locs ls hf hP hD hS hl
      obtain ⟨q9, hf, hk9⟩ := it2_e hf
      have hf := (el9 v1 v2).symm.trans hf
      refine lv_iload_n (pc := 9) hexec hb dX9_free_9 rfl (lv_at hl 2 rfl) ?_
      refine lv_aload_n (pc := 10) hexec hb dX9_free_10 rfl (lv_at hl 0 rfl) ?_
      obtain ⟨r11, hc, hf⟩ := bd1_e hf
      refine kVp (pc := 11) (S := ⟨hexec, hb, hml, hown, hts⟩) hP hD hG hA hS [0, 1] [] [0, 1] (w2 := (w_X9_free g a0 a1 u0_1 u0_2 u0_3 u0_4 u0_5 u0_6 u0_8 u0_9 u0_10 u0_11 u0_12 u0_13 u0_14 u0_15 u0_16 u0_17 u0_18 u0_19 u0_20 u0_21 u0_22 u0_23 u0_24 u0_25 u0_26 u0_27 u0_28 u0_29 u0_30 0 y1_s)) rfl rfl rfl rfl rfl rfl (by decide) (c_X9_cells l g a0 a1 _ u0_1 u0_2 u0_3 u0_4 u0_5 u0_6 (.int 0) u0_8 u0_9 u0_10 u0_11 u0_12 u0_13 u0_14 u0_15 u0_16 u0_17 u0_18 u0_19 u0_20 u0_21 u0_22 u0_23 u0_24 u0_25 u0_26 u0_27 u0_28 u0_29 u0_30 y1_s r11 hc) gX9_free_X9_cells rfl hv_X9_cells ⟨nle rfl, nle rfl⟩ 9 0 rfl rfl rfl (rest := [.int v2]) rfl rfl hl.1 (nle rfl) dX9_free_11 (fun H locs hP hD hS => ?_)
      refine ki_ge (pc := 14) hexec hb dX9_free_14 (tgt := 47) rfl hf (fun hc hf => ?_) (fun hc hf => ?_)
      · cases sr2 hf hk9
        exact hE9 _ _ _ hP hD hS (lv_sub hl [1] rfl)
      · refine lv_iload_n (pc := 17) hexec hb dX9_free_17 rfl (lv_at hl 1 rfl) ?_
        refine lv_aload_n (pc := 18) hexec hb dX9_free_18 rfl (lv_at hl 0 rfl) ?_
        refine lv_iload_n (pc := 19) hexec hb dX9_free_19 rfl (lv_at hl 2 rfl) ?_
        obtain ⟨r20, hc, hf⟩ := bd1_e hf
        refine kVp (pc := 20) (S := ⟨hexec, hb, hml, hown, hts⟩) hP hD hG hA hS [0, 1] [] [0, 1] (w2 := (w_X9_free g a0 a1 u0_1 u0_2 u0_3 u0_4 u0_5 u0_6 u0_8 u0_9 u0_10 u0_11 u0_12 u0_13 u0_14 u0_15 u0_16 u0_17 u0_18 u0_19 u0_20 u0_21 u0_22 u0_23 u0_24 u0_25 u0_26 u0_27 u0_28 u0_29 u0_30 0 y1_s)) rfl rfl rfl rfl rfl rfl (by decide) (c_X9_canBegin l g a0 a1 _ u0_1 u0_2 u0_3 u0_4 u0_5 u0_6 (.int 0) u0_8 u0_9 u0_10 u0_11 u0_12 u0_13 u0_14 u0_15 u0_16 u0_17 u0_18 u0_19 u0_20 u0_21 u0_22 u0_23 u0_24 u0_25 u0_26 u0_27 u0_28 u0_29 u0_30 y1_s v2 r20 hc) gX9_free_X9_canBegin rfl hv_X9_canBegin ⟨nle rfl, nle rfl⟩ 9 0 rfl rfl rfl (rest := [.int v1]) rfl rfl hl.1 (nle rfl) dX9_free_20 (fun H locs hP hD hS => ?_)
        obtain ⟨j39, ej39, hf⟩ := bvf1 hf
        have hj39 : ∀ (t39 : Int32) (H : Heap) (locs : List Loc) (ls : Array Slot), j39 t39 = some q9 → va_P g.1 vwCl (w_X9_free g a0 a1 u0_1 u0_2 u0_3 u0_4 u0_5 u0_6 u0_8 u0_9 u0_10 u0_11 u0_12 u0_13 u0_14 u0_15 u0_16 u0_17 u0_18 u0_19 u0_20 u0_21 u0_22 u0_23 u0_24 u0_25 u0_26 u0_27 u0_28 u0_29 u0_30 0 y1_s) H → va_D A (w_X9_free g a0 a1 u0_1 u0_2 u0_3 u0_4 u0_5 u0_6 u0_8 u0_9 u0_10 u0_11 u0_12 u0_13 u0_14 u0_15 u0_16 u0_17 u0_18 u0_19 u0_20 u0_21 u0_22 u0_23 u0_24 u0_25 u0_26 u0_27 u0_28 u0_29 u0_30 0 y1_s) → va_S A s.heap H locs → lv_has ls 3 [(0, .ref a0), (2, .int v2)] → W p l e (RM 6 143) s m args below meth c H locs 0 0 Q (F0 m 39 ls [.int t39, .int v1]) := by
          intro t39 H locs ls hf hP hD hS hl
          have hf := (ej39 t39).symm.trans hf
          refine lv_iadd (pc := 39) hexec hb dX9_free_39 ?_
          obtain ⟨v1_2, ev1_2, hf⟩ := bv_e hf
          refine kn_i ev1_2 ?_
          refine lv_istore_n (pc := 40) hexec hb dX9_free_40 rfl hl (nle rfl) rfl (fun ls (hl : lv_has ls 3 [(1, .int v1_2), (0, .ref a0), (2, .int v2)]) => ?_)
          obtain ⟨v2_1, ev2_1, hf⟩ := bv_e hf
          refine k_iinc (pc := 41) hexec hb dX9_free_41 kq_1 hl (k := 2) rfl ev2_1 (nle rfl) rfl (fun ls (hl : lv_has ls 3 [(2, .int v2_1), (1, .int v1_2), (0, .ref a0)]) => ?_)
          refine lv_goto (pc := 44) hexec hb dX9_free_44 (tgt := 9) rfl ?_
          exact ih9 _ _ _ _ _ (sl2 hf hk9) hP hD hS (lv_sub hl [2, 1, 0] rfl)
        obtain ⟨j38, ej38, hf⟩ := bvf1 hf
        have hj38 : ∀ (u : Unit) (H : Heap) (locs : List Loc) (ls : Array Slot), j38 u = some q9 → va_P g.1 vwCl (w_X9_free g a0 a1 u0_1 u0_2 u0_3 u0_4 u0_5 u0_6 u0_8 u0_9 u0_10 u0_11 u0_12 u0_13 u0_14 u0_15 u0_16 u0_17 u0_18 u0_19 u0_20 u0_21 u0_22 u0_23 u0_24 u0_25 u0_26 u0_27 u0_28 u0_29 u0_30 0 y1_s) H → va_D A (w_X9_free g a0 a1 u0_1 u0_2 u0_3 u0_4 u0_5 u0_6 u0_8 u0_9 u0_10 u0_11 u0_12 u0_13 u0_14 u0_15 u0_16 u0_17 u0_18 u0_19 u0_20 u0_21 u0_22 u0_23 u0_24 u0_25 u0_26 u0_27 u0_28 u0_29 u0_30 0 y1_s) → va_S A s.heap H locs → lv_has ls 3 [(0, .ref a0), (2, .int v2)] → W p l e (RM 6 143) s m args below meth c H locs 0 0 Q (F0 m 38 ls [.int v1]) := by
          intro u H locs ls hf hP hD hS hl
          have hf := (ej38 u).symm.trans hf
          refine lv_iconst (pc := 38) hexec hb dX9_free_38 ki_0 ?_
          exact hj39 _ _ _ _ hf hP hD hS (lv_sub hl [0, 1] rfl)
        refine kb_eq (pc := 23) hexec hb dX9_free_23 (tgt := 38) rfl hf (fun hc hf => ?_) (fun hc hf => ?_)
        · exact hj38 _ _ _ _ hf hP hD hS (lv_sub hl [0, 2] rfl)
        · refine lv_aload_n (pc := 26) hexec hb dX9_free_26 rfl (lv_at hl 0 rfl) ?_
          refine lv_iload_n (pc := 27) hexec hb dX9_free_27 rfl (lv_at hl 2 rfl) ?_
          obtain ⟨r28, hc, hf⟩ := bd1_e hf
          refine kVp (pc := 28) (S := ⟨hexec, hb, hml, hown, hts⟩) hP hD hG hA hS [0, 1] [] [0, 1] (w2 := (w_X9_free g a0 a1 u0_1 u0_2 u0_3 u0_4 u0_5 u0_6 u0_8 u0_9 u0_10 u0_11 u0_12 u0_13 u0_14 u0_15 u0_16 u0_17 u0_18 u0_19 u0_20 u0_21 u0_22 u0_23 u0_24 u0_25 u0_26 u0_27 u0_28 u0_29 u0_30 0 y1_s)) rfl rfl rfl rfl rfl rfl (by decide) (c_X9_namesIn l g a0 a1 _ u0_1 u0_2 u0_3 u0_4 u0_5 u0_6 (.int 0) u0_8 u0_9 u0_10 u0_11 u0_12 u0_13 u0_14 u0_15 u0_16 u0_17 u0_18 u0_19 u0_20 u0_21 u0_22 u0_23 u0_24 u0_25 u0_26 u0_27 u0_28 u0_29 u0_30 y1_s v2 r28 hc) gX9_free_X9_namesIn rfl hv_X9_namesIn ⟨nle rfl, nle rfl⟩ 9 0 rfl rfl rfl (rest := [.int v1]) rfl rfl hl.1 (nle rfl) dX9_free_28 (fun H locs hP hD hS => ?_)
          refine kb_ne (pc := 31) hexec hb dX9_free_31 (tgt := 38) rfl hf (fun hc hf => ?_) (fun hc hf => ?_)
          · exact hj38 _ _ _ _ hf hP hD hS (lv_sub hl [0, 2] rfl)
          · refine lv_iconst (pc := 34) hexec hb dX9_free_34 ki_1 ?_
            refine lv_goto (pc := 35) hexec hb dX9_free_35 (tgt := 39) rfl ?_
            exact hj39 _ _ _ _ hf hP hD hS (lv_sub hl [0, 2] rfl)
  exact hL9 n _ _ _ _ _ hz hP hD hS (lv_sub hl [2, 1, 0] rfl)
abbrev w_X9_mayTurn (g : GE) (a0 : Nat) (u0_0 u0_1 u0_2 u0_3 u0_4 u0_5 u0_6 u0_8 u0_9 u0_10 u0_11 u0_12 u0_13 u0_14 u0_15 u0_16 u0_17 u0_18 u0_19 u0_20 u0_21 u0_22 u0_23 u0_24 u0_25 u0_26 u0_27 u0_28 u0_29 u0_30 : Value) (x0_thrown : Int32) : va_W := [(a0, .inr (9, [u0_0, u0_1, u0_2, u0_3, u0_4, u0_5, u0_6, .int x0_thrown, u0_8, u0_9, u0_10, u0_11, u0_12, u0_13, u0_14, u0_15, u0_16, u0_17, u0_18, u0_19, u0_20, u0_21, u0_22, u0_23, u0_24, u0_25, u0_26, u0_27, u0_28, u0_29, u0_30]))]
set_option maxRecDepth 20000 in
theorem c_X9_mayTurn (l : Launch) (g : GE) (a0 : Nat) (sz : Nat) (u0_0 u0_1 u0_2 u0_3 u0_4 u0_5 u0_6 u0_8 u0_9 u0_10 u0_11 u0_12 u0_13 u0_14 u0_15 u0_16 u0_17 u0_18 u0_19 u0_20 u0_21 u0_22 u0_23 u0_24 u0_25 u0_26 u0_27 u0_28 u0_29 u0_30 : Value) (x0_thrown : Int32) (p1 : Int32)  (r : Int32) (o_x0_thrown : Int32) (hf : f_X9_mayTurn x0_thrown p1 = some (r, o_x0_thrown)) : MI l g yX9_mayTurn wsX9_mayTurn 2 49 [.ref a0, .int p1] (w_X9_mayTurn g a0 u0_0 u0_1 u0_2 u0_3 u0_4 u0_5 u0_6 u0_8 u0_9 u0_10 u0_11 u0_12 u0_13 u0_14 u0_15 u0_16 u0_17 u0_18 u0_19 u0_20 u0_21 u0_22 u0_23 u0_24 u0_25 u0_26 u0_27 u0_28 u0_29 u0_30 x0_thrown) sz (some (.int r)) (w_X9_mayTurn g a0 u0_0 u0_1 u0_2 u0_3 u0_4 u0_5 u0_6 u0_8 u0_9 u0_10 u0_11 u0_12 u0_13 u0_14 u0_15 u0_16 u0_17 u0_18 u0_19 u0_20 u0_21 u0_22 u0_23 u0_24 u0_25 u0_26 u0_27 u0_28 u0_29 u0_30 o_x0_thrown) := by
  refine MI.start (cc := cX9_mayTurn) (maxL := 2) (ret := (some .boolean)) rfl rfl (nle rfl) ?_
  intro p e s m args below meth c A ls Q hQ hexec hb hr hts hown hlocks hml hA hP hD hG hS hl
  unfold f_X9_mayTurn at hf
  have hWX9 : ∀ w ∈ wsX90, w.before args s = true := fun w h => hts w (List.mem_cons_of_mem _ (List.mem_append_right _ h))
  have hS : va_S A s.heap s.heap [] := hS
  refine lv_aload_n (pc := 0) hexec hb dX9_mayTurn_0 rfl (lv_at hl 0 rfl) ?_
  refine lv_iload_n (pc := 1) hexec hb dX9_mayTurn_1 rfl (lv_at hl 1 rfl) ?_
  refine lv_i2l (pc := 2) hexec hb dX9_mayTurn_2 rfl ?_
  refine lv_lconst (pc := 3) hexec hb dX9_mayTurn_3 kl_0 ?_
  refine lv_ldc2 (pc := 4) hexec hb (own := RX9) hown (hts _ (List.mem_cons_of_mem _ (List.mem_append_left _ (List.mem_of_getElem? (i := 0) rfl)))) dX9_mayTurn_4 ?_
  obtain ⟨r7, hc, hf⟩ := bd1_e hf
  refine kSp (pc := 7) (S := ⟨hexec, hb, hml, hown, hts⟩) hP hD hG hA hS [] [0] [0] (w2 := (w_X9_mayTurn g a0 u0_0 u0_1 u0_2 u0_3 u0_4 u0_5 u0_6 u0_8 u0_9 u0_10 u0_11 u0_12 u0_13 u0_14 u0_15 u0_16 u0_17 u0_18 u0_19 u0_20 u0_21 u0_22 u0_23 u0_24 u0_25 u0_26 u0_27 u0_28 u0_29 u0_30 x0_thrown)) rfl rfl rfl rfl rfl rfl (by decide) (c_X9_isIn l g _ (p1.toInt64) 0 3 r7 hc) gX9_mayTurn_X9_isIn rfl hs_X9_isIn ⟨nle rfl, nle rfl⟩ (rest := [.ref a0]) rfl rfl hl.1 (nle rfl) dX9_mayTurn_7 (fun H locs hP hD hS => ?_)
  refine lv_iconst (pc := 10) hexec hb dX9_mayTurn_10 ki_1 ?_
  obtain ⟨r11, x0_thrown_1, hc, hf⟩ := bd2_e hf
  refine kVp (pc := 11) (S := ⟨hexec, hb, hml, hown, hts⟩) hP hD hG hA hS [0] [] [0] (w2 := (w_X9_mayTurn g a0 u0_0 u0_1 u0_2 u0_3 u0_4 u0_5 u0_6 u0_8 u0_9 u0_10 u0_11 u0_12 u0_13 u0_14 u0_15 u0_16 u0_17 u0_18 u0_19 u0_20 u0_21 u0_22 u0_23 u0_24 u0_25 u0_26 u0_27 u0_28 u0_29 u0_30 x0_thrown_1)) rfl rfl rfl rfl rfl rfl (by decide) (c_X9_passes l g a0 _ u0_0 u0_1 u0_2 u0_3 u0_4 u0_5 u0_6 u0_8 u0_9 u0_10 u0_11 u0_12 u0_13 u0_14 u0_15 u0_16 u0_17 u0_18 u0_19 u0_20 u0_21 u0_22 u0_23 u0_24 u0_25 u0_26 u0_27 u0_28 u0_29 u0_30 x0_thrown r7 1 r11 x0_thrown_1 hc) gX9_mayTurn_X9_passes rfl hv_X9_passes ⟨nle rfl, nle rfl⟩ 9 0 rfl rfl rfl (rest := []) rfl rfl hl.1 (nle rfl) dX9_mayTurn_11 (fun H locs hP hD hS => ?_)
  obtain ⟨hx, hf⟩ := zb_e hf
  cases hf
  exact ke_z hQ hexec hb hr hx hP hD hS dX9_mayTurn_14 hlocks
abbrev w_X9_upright (g : GE) (a0 a1 : Nat) (u0_1 u0_2 u0_3 u0_4 u0_5 u0_6 u0_8 u0_9 u0_10 u0_11 u0_12 u0_13 u0_14 u0_15 u0_16 u0_17 u0_18 u0_19 u0_20 u0_21 u0_22 u0_23 u0_24 u0_25 u0_26 u0_27 u0_28 u0_29 u0_30 : Value) (x0_thrown : Int32) (y1_s : Nat → Int32) : va_W := [(a0, .inr (9, [.ref a1, u0_1, u0_2, u0_3, u0_4, u0_5, u0_6, .int x0_thrown, u0_8, u0_9, u0_10, u0_11, u0_12, u0_13, u0_14, u0_15, u0_16, u0_17, u0_18, u0_19, u0_20, u0_21, u0_22, u0_23, u0_24, u0_25, u0_26, u0_27, u0_28, u0_29, u0_30])), (a1, .inl (g.2.1 0, 552, .inl y1_s))]
set_option maxRecDepth 20000 in
theorem c_X9_upright (l : Launch) (g : GE) (a0 a1 : Nat) (sz : Nat) (u0_1 u0_2 u0_3 u0_4 u0_5 u0_6 u0_8 u0_9 u0_10 u0_11 u0_12 u0_13 u0_14 u0_15 u0_16 u0_17 u0_18 u0_19 u0_20 u0_21 u0_22 u0_23 u0_24 u0_25 u0_26 u0_27 u0_28 u0_29 u0_30 : Value) (x0_thrown : Int32) (y1_s : Nat → Int32) (p1 : Int32)  (r : Int32) (o_x0_thrown : Int32) (hf : f_X9_upright x0_thrown y1_s p1 = some (r, o_x0_thrown)) : MI l g yX9_upright wsX9_upright 3 70 [.ref a0, .int p1] (w_X9_upright g a0 a1 u0_1 u0_2 u0_3 u0_4 u0_5 u0_6 u0_8 u0_9 u0_10 u0_11 u0_12 u0_13 u0_14 u0_15 u0_16 u0_17 u0_18 u0_19 u0_20 u0_21 u0_22 u0_23 u0_24 u0_25 u0_26 u0_27 u0_28 u0_29 u0_30 x0_thrown y1_s) sz (some (.int r)) (w_X9_upright g a0 a1 u0_1 u0_2 u0_3 u0_4 u0_5 u0_6 u0_8 u0_9 u0_10 u0_11 u0_12 u0_13 u0_14 u0_15 u0_16 u0_17 u0_18 u0_19 u0_20 u0_21 u0_22 u0_23 u0_24 u0_25 u0_26 u0_27 u0_28 u0_29 u0_30 o_x0_thrown y1_s) := by
  refine MI.start (cc := cX9_upright) (maxL := 4) (ret := (some .int)) rfl rfl (nle rfl) ?_
  intro p e s m args below meth c A ls Q hQ hexec hb hr hts hown hlocks hml hA hP hD hG hS hl
  unfold f_X9_upright at hf
  have hWX9 : ∀ w ∈ wsX90, w.before args s = true := fun w h => hts w (List.mem_cons_of_mem _ (List.mem_append_right _ h))
  have hS : va_S A s.heap s.heap [] := hS
  refine lv_aload_n (pc := 0) hexec hb dX9_upright_0 rfl (lv_at hl 0 rfl) ?_
  refine lv_iload_n (pc := 1) hexec hb dX9_upright_1 rfl (lv_at hl 1 rfl) ?_
  obtain ⟨r2, x0_thrown_1, hc, hf⟩ := bd2_e hf
  refine kVp (pc := 2) (S := ⟨hexec, hb, hml, hown, hts⟩) hP hD hG hA hS [0] [1] [1, 0] (w2 := (w_X9_upright g a0 a1 u0_1 u0_2 u0_3 u0_4 u0_5 u0_6 u0_8 u0_9 u0_10 u0_11 u0_12 u0_13 u0_14 u0_15 u0_16 u0_17 u0_18 u0_19 u0_20 u0_21 u0_22 u0_23 u0_24 u0_25 u0_26 u0_27 u0_28 u0_29 u0_30 x0_thrown_1 y1_s)) rfl rfl rfl rfl rfl rfl (by decide) (c_X9_mayTurn l g a0 _ (.ref a1) u0_1 u0_2 u0_3 u0_4 u0_5 u0_6 u0_8 u0_9 u0_10 u0_11 u0_12 u0_13 u0_14 u0_15 u0_16 u0_17 u0_18 u0_19 u0_20 u0_21 u0_22 u0_23 u0_24 u0_25 u0_26 u0_27 u0_28 u0_29 u0_30 x0_thrown p1 r2 x0_thrown_1 hc) gX9_upright_X9_mayTurn rfl hv_X9_mayTurn ⟨nle rfl, nle rfl⟩ 9 0 rfl rfl rfl (rest := []) rfl rfl hl.1 (nle rfl) dX9_upright_2 (fun H locs hP hD hS => ?_)
  refine kb_ne (pc := 5) hexec hb dX9_upright_5 (tgt := 10) rfl hf (fun hc hf => ?_) (fun hc hf => ?_)
  · refine lv_iconst (pc := 10) hexec hb dX9_upright_10 ki_0 ?_
    refine lv_istore_n (pc := 11) hexec hb dX9_upright_11 rfl hl (nle rfl) rfl (fun ls (hl : lv_has ls 4 [(2, .int 0), (0, .ref a0), (1, .int p1)]) => ?_)
    refine lv_iconst (pc := 12) hexec hb dX9_upright_12 ki_0 ?_
    refine lv_istore_n (pc := 13) hexec hb dX9_upright_13 rfl hl (nle rfl) rfl (fun ls (hl : lv_has ls 4 [(3, .int 0), (2, .int 0), (0, .ref a0), (1, .int p1)]) => ?_)
    obtain ⟨l14, el14, hf⟩ := bvf2 hf
    obtain ⟨v2_1, hz, hf⟩ := bd1_e hf
    have hE14 : ∀ (H : Heap) (locs : List Loc) (ls : Array Slot), va_P g.1 vwCl (w_X9_upright g a0 a1 u0_1 u0_2 u0_3 u0_4 u0_5 u0_6 u0_8 u0_9 u0_10 u0_11 u0_12 u0_13 u0_14 u0_15 u0_16 u0_17 u0_18 u0_19 u0_20 u0_21 u0_22 u0_23 u0_24 u0_25 u0_26 u0_27 u0_28 u0_29 u0_30 x0_thrown_1 y1_s) H → va_D A (w_X9_upright g a0 a1 u0_1 u0_2 u0_3 u0_4 u0_5 u0_6 u0_8 u0_9 u0_10 u0_11 u0_12 u0_13 u0_14 u0_15 u0_16 u0_17 u0_18 u0_19 u0_20 u0_21 u0_22 u0_23 u0_24 u0_25 u0_26 u0_27 u0_28 u0_29 u0_30 x0_thrown_1 y1_s) → va_S A s.heap H locs → lv_has ls 4 [(2, .int v2_1)] → W p l e (RM 3 70) s m args below meth c H locs 0 0 Q (F0 m 61 ls []) := by
      intro H locs ls hP hD hS hl
      refine lv_iload_n (pc := 61) hexec hb dX9_upright_61 rfl (lv_at hl 0 rfl) ?_
      cases hf
      exact ke_i hQ hexec hb hr hP hD hS dX9_upright_62 hlocks
    obtain ⟨n, hz⟩ := lq2_e hz
    have hL14 : ∀ (n : Nat) (v2 : Int32) (v3 : Int32) (H : Heap) (locs : List Loc) (ls : Array Slot), it2 l14 n v2 v3 = some v2_1 → va_P g.1 vwCl (w_X9_upright g a0 a1 u0_1 u0_2 u0_3 u0_4 u0_5 u0_6 u0_8 u0_9 u0_10 u0_11 u0_12 u0_13 u0_14 u0_15 u0_16 u0_17 u0_18 u0_19 u0_20 u0_21 u0_22 u0_23 u0_24 u0_25 u0_26 u0_27 u0_28 u0_29 u0_30 x0_thrown_1 y1_s) H → va_D A (w_X9_upright g a0 a1 u0_1 u0_2 u0_3 u0_4 u0_5 u0_6 u0_8 u0_9 u0_10 u0_11 u0_12 u0_13 u0_14 u0_15 u0_16 u0_17 u0_18 u0_19 u0_20 u0_21 u0_22 u0_23 u0_24 u0_25 u0_26 u0_27 u0_28 u0_29 u0_30 x0_thrown_1 y1_s) → va_S A s.heap H locs → lv_has ls 4 [(0, .ref a0), (1, .int p1), (2, .int v2), (3, .int v3)] → W p l e (RM 3 70) s m args below meth c H locs 0 0 Q (F0 m 14 ls []) := by
      intro n
      induction n with
      | zero =>
        intro v2 v3 H locs ls hf hP hD hS hl
        exact it2_0 hf
      | succ n14 ih14 =>
        intro v2 v3 H locs ls hf hP hD hS hl
        obtain ⟨q14, hf, hk14⟩ := it2_e hf
        have hf := (el14 v2 v3).symm.trans hf
        refine lv_iload_n (pc := 14) hexec hb dX9_upright_14 rfl (lv_at hl 3 rfl) ?_
        refine lv_aload_n (pc := 15) hexec hb dX9_upright_15 rfl (lv_at hl 0 rfl) ?_
        refine kg_get (pc := 16) hexec hb (own := RX9) hWX9 hown hG hP 0 rfl rfl 0 (nle rfl) (hts _ (List.mem_cons_of_mem _ (List.mem_append_left _ (List.mem_append_left _ (List.mem_of_getElem? (i := 0) rfl))))) rfl rfl dX9_upright_16 ?_
        refine lv_iconst (pc := 19) hexec hb dX9_upright_19 ki_2 ?_
        refine kr_iald (pc := 20) hexec hb hG hP 1 rfl hf dX9_upright_20 (fun hf => ?_)
        refine ki_ge (pc := 21) hexec hb dX9_upright_21 (tgt := 61) rfl hf (fun hc hf => ?_) (fun hc hf => ?_)
        · cases sr2 hf hk14
          exact hE14 _ _ _ hP hD hS (lv_sub hl [2] rfl)
        · refine lv_iload_n (pc := 24) hexec hb dX9_upright_24 rfl (lv_at hl 2 rfl) ?_
          refine lv_aload_n (pc := 25) hexec hb dX9_upright_25 rfl (lv_at hl 0 rfl) ?_
          refine lv_iload_n (pc := 26) hexec hb dX9_upright_26 rfl (lv_at hl 3 rfl) ?_
          obtain ⟨r27, hc, hf⟩ := bd1_e hf
          refine kVp (pc := 27) (S := ⟨hexec, hb, hml, hown, hts⟩) hP hD hG hA hS [0, 1] [] [0, 1] (w2 := (w_X9_upright g a0 a1 u0_1 u0_2 u0_3 u0_4 u0_5 u0_6 u0_8 u0_9 u0_10 u0_11 u0_12 u0_13 u0_14 u0_15 u0_16 u0_17 u0_18 u0_19 u0_20 u0_21 u0_22 u0_23 u0_24 u0_25 u0_26 u0_27 u0_28 u0_29 u0_30 x0_thrown_1 y1_s)) rfl rfl rfl rfl rfl rfl (by decide) (c_X9_isPlaced l g a0 a1 _ u0_1 u0_2 u0_3 u0_4 u0_5 u0_6 (.int x0_thrown_1) u0_8 u0_9 u0_10 u0_11 u0_12 u0_13 u0_14 u0_15 u0_16 u0_17 u0_18 u0_19 u0_20 u0_21 u0_22 u0_23 u0_24 u0_25 u0_26 u0_27 u0_28 u0_29 u0_30 y1_s v3 r27 hc) gX9_upright_X9_isPlaced rfl hv_X9_isPlaced ⟨nle rfl, nle rfl⟩ 9 0 rfl rfl rfl (rest := [.int v2]) rfl rfl hl.1 (nle rfl) dX9_upright_27 (fun H locs hP hD hS => ?_)
          obtain ⟨j53, ej53, hf⟩ := bvf1 hf
          have hj53 : ∀ (t53 : Int32) (H : Heap) (locs : List Loc) (ls : Array Slot), j53 t53 = some q14 → va_P g.1 vwCl (w_X9_upright g a0 a1 u0_1 u0_2 u0_3 u0_4 u0_5 u0_6 u0_8 u0_9 u0_10 u0_11 u0_12 u0_13 u0_14 u0_15 u0_16 u0_17 u0_18 u0_19 u0_20 u0_21 u0_22 u0_23 u0_24 u0_25 u0_26 u0_27 u0_28 u0_29 u0_30 x0_thrown_1 y1_s) H → va_D A (w_X9_upright g a0 a1 u0_1 u0_2 u0_3 u0_4 u0_5 u0_6 u0_8 u0_9 u0_10 u0_11 u0_12 u0_13 u0_14 u0_15 u0_16 u0_17 u0_18 u0_19 u0_20 u0_21 u0_22 u0_23 u0_24 u0_25 u0_26 u0_27 u0_28 u0_29 u0_30 x0_thrown_1 y1_s) → va_S A s.heap H locs → lv_has ls 4 [(0, .ref a0), (1, .int p1), (3, .int v3)] → W p l e (RM 3 70) s m args below meth c H locs 0 0 Q (F0 m 53 ls [.int t53, .int v2]) := by
            intro t53 H locs ls hf hP hD hS hl
            have hf := (ej53 t53).symm.trans hf
            refine lv_ior (pc := 53) hexec hb dX9_upright_53 ?_
            obtain ⟨v2_2, ev2_2, hf⟩ := bv_e hf
            refine kn_i ev2_2 ?_
            refine lv_istore_n (pc := 54) hexec hb dX9_upright_54 rfl hl (nle rfl) rfl (fun ls (hl : lv_has ls 4 [(2, .int v2_2), (0, .ref a0), (1, .int p1), (3, .int v3)]) => ?_)
            obtain ⟨v3_1, ev3_1, hf⟩ := bv_e hf
            refine k_iinc (pc := 55) hexec hb dX9_upright_55 kq_1 hl (k := 3) rfl ev3_1 (nle rfl) rfl (fun ls (hl : lv_has ls 4 [(3, .int v3_1), (2, .int v2_2), (0, .ref a0), (1, .int p1)]) => ?_)
            refine lv_goto (pc := 58) hexec hb dX9_upright_58 (tgt := 14) rfl ?_
            exact ih14 _ _ _ _ _ (sl2 hf hk14) hP hD hS (lv_sub hl [2, 3, 1, 0] rfl)
          obtain ⟨j52, ej52, hf⟩ := bvf1 hf
          have hj52 : ∀ (u : Unit) (H : Heap) (locs : List Loc) (ls : Array Slot), j52 u = some q14 → va_P g.1 vwCl (w_X9_upright g a0 a1 u0_1 u0_2 u0_3 u0_4 u0_5 u0_6 u0_8 u0_9 u0_10 u0_11 u0_12 u0_13 u0_14 u0_15 u0_16 u0_17 u0_18 u0_19 u0_20 u0_21 u0_22 u0_23 u0_24 u0_25 u0_26 u0_27 u0_28 u0_29 u0_30 x0_thrown_1 y1_s) H → va_D A (w_X9_upright g a0 a1 u0_1 u0_2 u0_3 u0_4 u0_5 u0_6 u0_8 u0_9 u0_10 u0_11 u0_12 u0_13 u0_14 u0_15 u0_16 u0_17 u0_18 u0_19 u0_20 u0_21 u0_22 u0_23 u0_24 u0_25 u0_26 u0_27 u0_28 u0_29 u0_30 x0_thrown_1 y1_s) → va_S A s.heap H locs → lv_has ls 4 [(0, .ref a0), (1, .int p1), (3, .int v3)] → W p l e (RM 3 70) s m args below meth c H locs 0 0 Q (F0 m 52 ls [.int v2]) := by
            intro u H locs ls hf hP hD hS hl
            have hf := (ej52 u).symm.trans hf
            refine lv_iconst (pc := 52) hexec hb dX9_upright_52 ki_0 ?_
            exact hj53 _ _ _ _ hf hP hD hS (lv_sub hl [0, 1, 2] rfl)
          refine kb_eq (pc := 30) hexec hb dX9_upright_30 (tgt := 52) rfl hf (fun hc hf => ?_) (fun hc hf => ?_)
          · exact hj52 _ _ _ _ hf hP hD hS (lv_sub hl [0, 1, 3] rfl)
          · refine lv_aload_n (pc := 33) hexec hb dX9_upright_33 rfl (lv_at hl 0 rfl) ?_
            refine lv_iload_n (pc := 34) hexec hb dX9_upright_34 rfl (lv_at hl 3 rfl) ?_
            refine lv_iconst (pc := 35) hexec hb dX9_upright_35 ki_2 ?_
            obtain ⟨r36, hc, hf⟩ := bd1_e hf
            refine kVp (pc := 36) (S := ⟨hexec, hb, hml, hown, hts⟩) hP hD hG hA hS [0, 1] [] [0, 1] (w2 := (w_X9_upright g a0 a1 u0_1 u0_2 u0_3 u0_4 u0_5 u0_6 u0_8 u0_9 u0_10 u0_11 u0_12 u0_13 u0_14 u0_15 u0_16 u0_17 u0_18 u0_19 u0_20 u0_21 u0_22 u0_23 u0_24 u0_25 u0_26 u0_27 u0_28 u0_29 u0_30 x0_thrown_1 y1_s)) rfl rfl rfl rfl rfl rfl (by decide) (c_X9_of l g a0 a1 _ u0_1 u0_2 u0_3 u0_4 u0_5 u0_6 (.int x0_thrown_1) u0_8 u0_9 u0_10 u0_11 u0_12 u0_13 u0_14 u0_15 u0_16 u0_17 u0_18 u0_19 u0_20 u0_21 u0_22 u0_23 u0_24 u0_25 u0_26 u0_27 u0_28 u0_29 u0_30 y1_s v3 2 r36 hc) gX9_upright_X9_of rfl hv_X9_of ⟨nle rfl, nle rfl⟩ 9 0 rfl rfl rfl (rest := [.int v2]) rfl rfl hl.1 (nle rfl) dX9_upright_36 (fun H locs hP hD hS => ?_)
            obtain ⟨r39, hc, hf⟩ := bd1_e hf
            refine kSp (pc := 39) (S := ⟨hexec, hb, hml, hown, hts⟩) hP hD hG hA hS [] [0, 1] [0, 1] (w2 := (w_X9_upright g a0 a1 u0_1 u0_2 u0_3 u0_4 u0_5 u0_6 u0_8 u0_9 u0_10 u0_11 u0_12 u0_13 u0_14 u0_15 u0_16 u0_17 u0_18 u0_19 u0_20 u0_21 u0_22 u0_23 u0_24 u0_25 u0_26 u0_27 u0_28 u0_29 u0_30 x0_thrown_1 y1_s)) rfl rfl rfl rfl rfl rfl (by decide) (c_X9_uprightBy l g _ r36 r39 hc) gX9_upright_X9_uprightBy rfl hs_X9_uprightBy ⟨nle rfl, nle rfl⟩ (rest := [.int v2]) rfl rfl hl.1 (nle rfl) dX9_upright_39 (fun H locs hP hD hS => ?_)
            refine lv_iload_n (pc := 42) hexec hb dX9_upright_42 rfl (lv_at hl 1 rfl) ?_
            refine ki_ne (pc := 43) hexec hb dX9_upright_43 (tgt := 52) rfl hf (fun hc hf => ?_) (fun hc hf => ?_)
            · exact hj52 _ _ _ _ hf hP hD hS (lv_sub hl [0, 1, 3] rfl)
            · refine lv_iconst (pc := 46) hexec hb dX9_upright_46 ki_1 ?_
              refine lv_iload_n (pc := 47) hexec hb dX9_upright_47 rfl (lv_at hl 3 rfl) ?_
              refine lv_ishl (pc := 48) hexec hb dX9_upright_48 ?_
              refine lv_goto (pc := 49) hexec hb dX9_upright_49 (tgt := 53) rfl ?_
              exact hj53 _ _ _ _ hf hP hD hS (lv_sub hl [0, 1, 3] rfl)
    exact hL14 n _ _ _ _ _ hz hP hD hS (lv_sub hl [2, 3, 1, 0] rfl)
  · refine lv_iconst (pc := 8) hexec hb dX9_upright_8 ki_0 ?_
    cases hf
    exact ke_i hQ hexec hb hr hP hD hS dX9_upright_9 hlocks
abbrev w_X9_turning (g : GE) (a0 a1 a2 : Nat) (u0_1 u0_2 u0_3 u0_4 u0_5 u0_6 u0_8 u0_9 u0_10 u0_12 u0_13 u0_14 u0_15 u0_16 u0_17 u0_18 u0_19 u0_20 u0_21 u0_22 u0_23 u0_24 u0_25 u0_26 u0_27 u0_28 u0_29 u0_30 : Value) (x0_thrown : Int32) (y1_s : Nat → Int32) (y2_ways : Nat → Int32) : va_W := [(a0, .inr (9, [.ref a1, u0_1, u0_2, u0_3, u0_4, u0_5, u0_6, .int x0_thrown, u0_8, u0_9, u0_10, .ref a2, u0_12, u0_13, u0_14, u0_15, u0_16, u0_17, u0_18, u0_19, u0_20, u0_21, u0_22, u0_23, u0_24, u0_25, u0_26, u0_27, u0_28, u0_29, u0_30])), (a1, .inl (g.2.1 0, 552, .inl y1_s)), (a2, .inl (g.2.1 0, 8, .inl y2_ways))]
set_option maxRecDepth 20000 in
theorem c_X9_turning (l : Launch) (g : GE) (a0 a1 a2 : Nat) (sz : Nat) (u0_1 u0_2 u0_3 u0_4 u0_5 u0_6 u0_8 u0_9 u0_10 u0_12 u0_13 u0_14 u0_15 u0_16 u0_17 u0_18 u0_19 u0_20 u0_21 u0_22 u0_23 u0_24 u0_25 u0_26 u0_27 u0_28 u0_29 u0_30 : Value) (x0_thrown : Int32) (y1_s : Nat → Int32) (y2_ways : Nat → Int32)   (r : Int32) (o_x0_thrown : Int32) (o_y2_ways : Nat → Int32) (hf : f_X9_turning x0_thrown y1_s y2_ways = some (r, o_x0_thrown, o_y2_ways)) : MI l g yX9_turning wsX9_turning 4 93 [.ref a0] (w_X9_turning g a0 a1 a2 u0_1 u0_2 u0_3 u0_4 u0_5 u0_6 u0_8 u0_9 u0_10 u0_12 u0_13 u0_14 u0_15 u0_16 u0_17 u0_18 u0_19 u0_20 u0_21 u0_22 u0_23 u0_24 u0_25 u0_26 u0_27 u0_28 u0_29 u0_30 x0_thrown y1_s y2_ways) sz (some (.int r)) (w_X9_turning g a0 a1 a2 u0_1 u0_2 u0_3 u0_4 u0_5 u0_6 u0_8 u0_9 u0_10 u0_12 u0_13 u0_14 u0_15 u0_16 u0_17 u0_18 u0_19 u0_20 u0_21 u0_22 u0_23 u0_24 u0_25 u0_26 u0_27 u0_28 u0_29 u0_30 o_x0_thrown y1_s o_y2_ways) := by
  refine MI.start (cc := cX9_turning) (maxL := 1) (ret := (some .int)) rfl rfl (nle rfl) ?_
  intro p e s m args below meth c A ls Q hQ hexec hb hr hts hown hlocks hml hA hP hD hG hS hl
  unfold f_X9_turning at hf
  have hWX9 : ∀ w ∈ wsX90, w.before args s = true := fun w h => hts w (List.mem_cons_of_mem _ (List.mem_append_right _ h))
  have hS : va_S A s.heap s.heap [] := hS
  refine lv_aload_n (pc := 0) hexec hb dX9_turning_0 rfl (lv_at hl 0 rfl) ?_
  refine lv_iconst (pc := 1) hexec hb dX9_turning_1 ki_0 ?_
  refine kp_put (pc := 2) hexec hb (own := RX9) hWX9 tyX9 tyX9_ok nmX9 hown hG hP hD hS 0 rfl rfl 7 (nle rfl) (hts _ (List.mem_cons_of_mem _ (List.mem_append_left _ (List.mem_append_left _ (List.mem_of_getElem? (i := 0) rfl))))) rfl rfl rfl rfl (nle rfl) dX9_turning_2 (fun H locs (hP : va_P g.1 vwCl (w_X9_turning g a0 a1 a2 u0_1 u0_2 u0_3 u0_4 u0_5 u0_6 u0_8 u0_9 u0_10 u0_12 u0_13 u0_14 u0_15 u0_16 u0_17 u0_18 u0_19 u0_20 u0_21 u0_22 u0_23 u0_24 u0_25 u0_26 u0_27 u0_28 u0_29 u0_30 0 y1_s y2_ways) H) (hD : va_D A (w_X9_turning g a0 a1 a2 u0_1 u0_2 u0_3 u0_4 u0_5 u0_6 u0_8 u0_9 u0_10 u0_12 u0_13 u0_14 u0_15 u0_16 u0_17 u0_18 u0_19 u0_20 u0_21 u0_22 u0_23 u0_24 u0_25 u0_26 u0_27 u0_28 u0_29 u0_30 0 y1_s y2_ways)) hS => ?_)
  refine lv_aload_n (pc := 5) hexec hb dX9_turning_5 rfl (lv_at hl 0 rfl) ?_
  refine lv_aload_n (pc := 6) hexec hb dX9_turning_6 rfl (lv_at hl 0 rfl) ?_
  refine kg_get (pc := 7) hexec hb (own := RX9) hWX9 hown hG hP 0 rfl rfl 0 (nle rfl) (hts _ (List.mem_cons_of_mem _ (List.mem_append_left _ (List.mem_append_left _ (List.mem_of_getElem? (i := 1) rfl))))) rfl rfl dX9_turning_7 ?_
  refine lv_iconst (pc := 10) hexec hb dX9_turning_10 ki_5 ?_
  refine kr_iald (pc := 11) hexec hb hG hP 1 rfl hf dX9_turning_11 (fun hf => ?_)
  obtain ⟨r12, y2_ways_1, hc, hf⟩ := bd2_e hf
  refine kVp (pc := 12) (S := ⟨hexec, hb, hml, hown, hts⟩) hP hD hG hA hS [0, 1, 2] [] [0, 1, 2] (w2 := (w_X9_turning g a0 a1 a2 u0_1 u0_2 u0_3 u0_4 u0_5 u0_6 u0_8 u0_9 u0_10 u0_12 u0_13 u0_14 u0_15 u0_16 u0_17 u0_18 u0_19 u0_20 u0_21 u0_22 u0_23 u0_24 u0_25 u0_26 u0_27 u0_28 u0_29 u0_30 0 y1_s y2_ways_1)) rfl rfl rfl rfl rfl rfl (by decide) (c_X9_turningNow l g a0 a1 a2 _ u0_1 u0_2 u0_3 u0_4 u0_5 u0_6 (.int 0) u0_8 u0_9 u0_10 u0_12 u0_13 u0_14 u0_15 u0_16 u0_17 u0_18 u0_19 u0_20 u0_21 u0_22 u0_23 u0_24 u0_25 u0_26 u0_27 u0_28 u0_29 u0_30 y1_s y2_ways (y1_s (5 : Int32).toNatClampNeg) r12 y2_ways_1 hc) gX9_turning_X9_turningNow rfl hv_X9_turningNow ⟨nle rfl, nle rfl⟩ 9 0 rfl rfl rfl (rest := []) rfl rfl hl.1 (nle rfl) dX9_turning_12 (fun H locs hP hD hS => ?_)
  cases hf
  exact ke_i hQ hexec hb hr hP hD hS dX9_turning_15 hlocks
abbrev w_X9_turningFrom (g : GE) (a0 a1 a2 : Nat) (u0_1 u0_2 u0_3 u0_4 u0_5 u0_6 u0_8 u0_9 u0_10 u0_12 u0_13 u0_14 u0_15 u0_16 u0_17 u0_18 u0_19 u0_20 u0_21 u0_22 u0_23 u0_24 u0_25 u0_26 u0_27 u0_28 u0_29 u0_30 : Value) (x0_thrown : Int32) (y1_s : Nat → Int32) (y2_ways : Nat → Int32) : va_W := [(a0, .inr (9, [.ref a1, u0_1, u0_2, u0_3, u0_4, u0_5, u0_6, .int x0_thrown, u0_8, u0_9, u0_10, .ref a2, u0_12, u0_13, u0_14, u0_15, u0_16, u0_17, u0_18, u0_19, u0_20, u0_21, u0_22, u0_23, u0_24, u0_25, u0_26, u0_27, u0_28, u0_29, u0_30])), (a1, .inl (g.2.1 0, 552, .inl y1_s)), (a2, .inl (g.2.1 0, 8, .inl y2_ways))]
set_option maxRecDepth 20000 in
theorem c_X9_turningFrom (l : Launch) (g : GE) (a0 a1 a2 : Nat) (sz : Nat) (u0_1 u0_2 u0_3 u0_4 u0_5 u0_6 u0_8 u0_9 u0_10 u0_12 u0_13 u0_14 u0_15 u0_16 u0_17 u0_18 u0_19 u0_20 u0_21 u0_22 u0_23 u0_24 u0_25 u0_26 u0_27 u0_28 u0_29 u0_30 : Value) (x0_thrown : Int32) (y1_s : Nat → Int32) (y2_ways : Nat → Int32) (p1 : Int32)  (r : Int32) (o_x0_thrown : Int32) (o_y2_ways : Nat → Int32) (hf : f_X9_turningFrom x0_thrown y1_s y2_ways p1 = some (r, o_x0_thrown, o_y2_ways)) : MI l g yX9_turningFrom wsX9_turningFrom 4 93 [.ref a0, .int p1] (w_X9_turningFrom g a0 a1 a2 u0_1 u0_2 u0_3 u0_4 u0_5 u0_6 u0_8 u0_9 u0_10 u0_12 u0_13 u0_14 u0_15 u0_16 u0_17 u0_18 u0_19 u0_20 u0_21 u0_22 u0_23 u0_24 u0_25 u0_26 u0_27 u0_28 u0_29 u0_30 x0_thrown y1_s y2_ways) sz (some (.int r)) (w_X9_turningFrom g a0 a1 a2 u0_1 u0_2 u0_3 u0_4 u0_5 u0_6 u0_8 u0_9 u0_10 u0_12 u0_13 u0_14 u0_15 u0_16 u0_17 u0_18 u0_19 u0_20 u0_21 u0_22 u0_23 u0_24 u0_25 u0_26 u0_27 u0_28 u0_29 u0_30 o_x0_thrown y1_s o_y2_ways) := by
  refine MI.start (cc := cX9_turningFrom) (maxL := 2) (ret := (some .int)) rfl rfl (nle rfl) ?_
  intro p e s m args below meth c A ls Q hQ hexec hb hr hts hown hlocks hml hA hP hD hG hS hl
  unfold f_X9_turningFrom at hf
  have hWX9 : ∀ w ∈ wsX90, w.before args s = true := fun w h => hts w (List.mem_cons_of_mem _ (List.mem_append_right _ h))
  have hS : va_S A s.heap s.heap [] := hS
  refine lv_aload_n (pc := 0) hexec hb dX9_turningFrom_0 rfl (lv_at hl 0 rfl) ?_
  refine lv_iload_n (pc := 1) hexec hb dX9_turningFrom_1 rfl (lv_at hl 1 rfl) ?_
  obtain ⟨r2, x0_thrown_1, hc, hf⟩ := bd2_e hf
  refine kVp (pc := 2) (S := ⟨hexec, hb, hml, hown, hts⟩) hP hD hG hA hS [0] [1, 2] [2, 0, 1] (w2 := (w_X9_turningFrom g a0 a1 a2 u0_1 u0_2 u0_3 u0_4 u0_5 u0_6 u0_8 u0_9 u0_10 u0_12 u0_13 u0_14 u0_15 u0_16 u0_17 u0_18 u0_19 u0_20 u0_21 u0_22 u0_23 u0_24 u0_25 u0_26 u0_27 u0_28 u0_29 u0_30 x0_thrown_1 y1_s y2_ways)) rfl rfl rfl rfl rfl rfl (by decide) (c_X9_mayTurn l g a0 _ (.ref a1) u0_1 u0_2 u0_3 u0_4 u0_5 u0_6 u0_8 u0_9 u0_10 (.ref a2) u0_12 u0_13 u0_14 u0_15 u0_16 u0_17 u0_18 u0_19 u0_20 u0_21 u0_22 u0_23 u0_24 u0_25 u0_26 u0_27 u0_28 u0_29 u0_30 x0_thrown p1 r2 x0_thrown_1 hc) gX9_turningFrom_X9_mayTurn rfl hv_X9_mayTurn ⟨nle rfl, nle rfl⟩ 9 0 rfl rfl rfl (rest := []) rfl rfl hl.1 (nle rfl) dX9_turningFrom_2 (fun H locs hP hD hS => ?_)
  refine kb_eq (pc := 5) hexec hb dX9_turningFrom_5 (tgt := 16) rfl hf (fun hc hf => ?_) (fun hc hf => ?_)
  · refine lv_iconst (pc := 16) hexec hb dX9_turningFrom_16 ki_0 ?_
    cases hf
    exact ke_i hQ hexec hb hr hP hD hS dX9_turningFrom_17 hlocks
  · refine lv_aload_n (pc := 8) hexec hb dX9_turningFrom_8 rfl (lv_at hl 0 rfl) ?_
    refine lv_iload_n (pc := 9) hexec hb dX9_turningFrom_9 rfl (lv_at hl 1 rfl) ?_
    obtain ⟨r10, y2_ways_1, hc, hf⟩ := bd2_e hf
    refine kVp (pc := 10) (S := ⟨hexec, hb, hml, hown, hts⟩) hP hD hG hA hS [0, 1, 2] [] [0, 1, 2] (w2 := (w_X9_turningFrom g a0 a1 a2 u0_1 u0_2 u0_3 u0_4 u0_5 u0_6 u0_8 u0_9 u0_10 u0_12 u0_13 u0_14 u0_15 u0_16 u0_17 u0_18 u0_19 u0_20 u0_21 u0_22 u0_23 u0_24 u0_25 u0_26 u0_27 u0_28 u0_29 u0_30 x0_thrown_1 y1_s y2_ways_1)) rfl rfl rfl rfl rfl rfl (by decide) (c_X9_turningNow l g a0 a1 a2 _ u0_1 u0_2 u0_3 u0_4 u0_5 u0_6 (.int x0_thrown_1) u0_8 u0_9 u0_10 u0_12 u0_13 u0_14 u0_15 u0_16 u0_17 u0_18 u0_19 u0_20 u0_21 u0_22 u0_23 u0_24 u0_25 u0_26 u0_27 u0_28 u0_29 u0_30 y1_s y2_ways p1 r10 y2_ways_1 hc) gX9_turningFrom_X9_turningNow rfl hv_X9_turningNow ⟨nle rfl, nle rfl⟩ 9 0 rfl rfl rfl (rest := []) rfl rfl hl.1 (nle rfl) dX9_turningFrom_10 (fun H locs hP hD hS => ?_)
    refine lv_goto (pc := 13) hexec hb dX9_turningFrom_13 (tgt := 17) rfl ?_
    cases hf
    exact ke_i hQ hexec hb hr hP hD hS dX9_turningFrom_17 hlocks
abbrev w_X9_bestTurn (g : GE) (a0 a1 a2 : Nat) (u0_1 u0_2 u0_3 u0_4 u0_5 u0_6 u0_8 u0_9 u0_10 u0_12 u0_13 u0_14 u0_15 u0_16 u0_17 u0_18 u0_19 u0_20 u0_21 u0_22 u0_23 u0_24 u0_25 u0_26 u0_27 u0_28 u0_29 u0_30 : Value) (x0_thrown : Int32) (y1_s : Nat → Int32) (y2_ways : Nat → Int32) : va_W := [(a0, .inr (9, [.ref a1, u0_1, u0_2, u0_3, u0_4, u0_5, u0_6, .int x0_thrown, u0_8, u0_9, u0_10, .ref a2, u0_12, u0_13, u0_14, u0_15, u0_16, u0_17, u0_18, u0_19, u0_20, u0_21, u0_22, u0_23, u0_24, u0_25, u0_26, u0_27, u0_28, u0_29, u0_30])), (a1, .inl (g.2.1 0, 552, .inl y1_s)), (a2, .inl (g.2.1 0, 8, .inl y2_ways))]
set_option maxRecDepth 20000 in
theorem c_X9_bestTurn (l : Launch) (g : GE) (a0 a1 a2 : Nat) (sz : Nat) (u0_1 u0_2 u0_3 u0_4 u0_5 u0_6 u0_8 u0_9 u0_10 u0_12 u0_13 u0_14 u0_15 u0_16 u0_17 u0_18 u0_19 u0_20 u0_21 u0_22 u0_23 u0_24 u0_25 u0_26 u0_27 u0_28 u0_29 u0_30 : Value) (x0_thrown : Int32) (y1_s : Nat → Int32) (y2_ways : Nat → Int32)   (r : Int32) (o_x0_thrown : Int32) (o_y2_ways : Nat → Int32) (hf : f_X9_bestTurn x0_thrown y1_s y2_ways = some (r, o_x0_thrown, o_y2_ways)) : MI l g yX9_bestTurn wsX9_bestTurn 4 93 [.ref a0] (w_X9_bestTurn g a0 a1 a2 u0_1 u0_2 u0_3 u0_4 u0_5 u0_6 u0_8 u0_9 u0_10 u0_12 u0_13 u0_14 u0_15 u0_16 u0_17 u0_18 u0_19 u0_20 u0_21 u0_22 u0_23 u0_24 u0_25 u0_26 u0_27 u0_28 u0_29 u0_30 x0_thrown y1_s y2_ways) sz (some (.int r)) (w_X9_bestTurn g a0 a1 a2 u0_1 u0_2 u0_3 u0_4 u0_5 u0_6 u0_8 u0_9 u0_10 u0_12 u0_13 u0_14 u0_15 u0_16 u0_17 u0_18 u0_19 u0_20 u0_21 u0_22 u0_23 u0_24 u0_25 u0_26 u0_27 u0_28 u0_29 u0_30 o_x0_thrown y1_s o_y2_ways) := by
  refine MI.start (cc := cX9_bestTurn) (maxL := 3) (ret := (some .int)) rfl rfl (nle rfl) ?_
  intro p e s m args below meth c A ls Q hQ hexec hb hr hts hown hlocks hml hA hP hD hG hS hl
  unfold f_X9_bestTurn at hf
  have hWX9 : ∀ w ∈ wsX90, w.before args s = true := fun w h => hts w (List.mem_cons_of_mem _ (List.mem_append_right _ h))
  have hS : va_S A s.heap s.heap [] := hS
  refine lv_aload_n (pc := 0) hexec hb dX9_bestTurn_0 rfl (lv_at hl 0 rfl) ?_
  refine lv_iconst (pc := 1) hexec hb dX9_bestTurn_1 ki_0 ?_
  refine kp_put (pc := 2) hexec hb (own := RX9) hWX9 tyX9 tyX9_ok nmX9 hown hG hP hD hS 0 rfl rfl 7 (nle rfl) (hts _ (List.mem_cons_of_mem _ (List.mem_append_left _ (List.mem_append_left _ (List.mem_of_getElem? (i := 0) rfl))))) rfl rfl rfl rfl (nle rfl) dX9_bestTurn_2 (fun H locs (hP : va_P g.1 vwCl (w_X9_bestTurn g a0 a1 a2 u0_1 u0_2 u0_3 u0_4 u0_5 u0_6 u0_8 u0_9 u0_10 u0_12 u0_13 u0_14 u0_15 u0_16 u0_17 u0_18 u0_19 u0_20 u0_21 u0_22 u0_23 u0_24 u0_25 u0_26 u0_27 u0_28 u0_29 u0_30 0 y1_s y2_ways) H) (hD : va_D A (w_X9_bestTurn g a0 a1 a2 u0_1 u0_2 u0_3 u0_4 u0_5 u0_6 u0_8 u0_9 u0_10 u0_12 u0_13 u0_14 u0_15 u0_16 u0_17 u0_18 u0_19 u0_20 u0_21 u0_22 u0_23 u0_24 u0_25 u0_26 u0_27 u0_28 u0_29 u0_30 0 y1_s y2_ways)) hS => ?_)
  refine lv_iconst (pc := 5) hexec hb dX9_bestTurn_5 ki_0 ?_
  refine lv_istore_n (pc := 6) hexec hb dX9_bestTurn_6 rfl hl (nle rfl) rfl (fun ls (hl : lv_has ls 3 [(1, .int 0), (0, .ref a0)]) => ?_)
  refine lv_iconst (pc := 7) hexec hb dX9_bestTurn_7 ki_1 ?_
  refine lv_istore_n (pc := 8) hexec hb dX9_bestTurn_8 rfl hl (nle rfl) rfl (fun ls (hl : lv_has ls 3 [(2, .int 1), (1, .int 0), (0, .ref a0)]) => ?_)
  obtain ⟨l9, el9, hf⟩ := bvf3 hf
  obtain ⟨v1_1, y2_ways_2, hz, hf⟩ := bd2_e hf
  have hE9 : ∀ (H : Heap) (locs : List Loc) (ls : Array Slot), va_P g.1 vwCl (w_X9_bestTurn g a0 a1 a2 u0_1 u0_2 u0_3 u0_4 u0_5 u0_6 u0_8 u0_9 u0_10 u0_12 u0_13 u0_14 u0_15 u0_16 u0_17 u0_18 u0_19 u0_20 u0_21 u0_22 u0_23 u0_24 u0_25 u0_26 u0_27 u0_28 u0_29 u0_30 0 y1_s y2_ways_2) H → va_D A (w_X9_bestTurn g a0 a1 a2 u0_1 u0_2 u0_3 u0_4 u0_5 u0_6 u0_8 u0_9 u0_10 u0_12 u0_13 u0_14 u0_15 u0_16 u0_17 u0_18 u0_19 u0_20 u0_21 u0_22 u0_23 u0_24 u0_25 u0_26 u0_27 u0_28 u0_29 u0_30 0 y1_s y2_ways_2) → va_S A s.heap H locs → lv_has ls 3 [(1, .int v1_1)] → W p l e (RM 4 93) s m args below meth c H locs 0 0 Q (F0 m 39 ls []) := by
    intro H locs ls hP hD hS hl
    refine lv_iload_n (pc := 39) hexec hb dX9_bestTurn_39 rfl (lv_at hl 0 rfl) ?_
    cases hf
    exact ke_i hQ hexec hb hr hP hD hS dX9_bestTurn_40 hlocks
  obtain ⟨n, hz⟩ := lq3_e hz
  have hL9 : ∀ (n : Nat) (v1 : Int32) (v2 : Int32) (y2_ways_1 : Nat → Int32) (H : Heap) (locs : List Loc) (ls : Array Slot), it3 l9 n v1 v2 y2_ways_1 = some (v1_1, y2_ways_2) → va_P g.1 vwCl (w_X9_bestTurn g a0 a1 a2 u0_1 u0_2 u0_3 u0_4 u0_5 u0_6 u0_8 u0_9 u0_10 u0_12 u0_13 u0_14 u0_15 u0_16 u0_17 u0_18 u0_19 u0_20 u0_21 u0_22 u0_23 u0_24 u0_25 u0_26 u0_27 u0_28 u0_29 u0_30 0 y1_s y2_ways_1) H → va_D A (w_X9_bestTurn g a0 a1 a2 u0_1 u0_2 u0_3 u0_4 u0_5 u0_6 u0_8 u0_9 u0_10 u0_12 u0_13 u0_14 u0_15 u0_16 u0_17 u0_18 u0_19 u0_20 u0_21 u0_22 u0_23 u0_24 u0_25 u0_26 u0_27 u0_28 u0_29 u0_30 0 y1_s y2_ways_1) → va_S A s.heap H locs → lv_has ls 3 [(0, .ref a0), (1, .int v1), (2, .int v2)] → W p l e (RM 4 93) s m args below meth c H locs 0 0 Q (F0 m 9 ls []) := by
    intro n
    induction n with
    | zero =>
      intro v1 v2 y2_ways_1 H locs ls hf hP hD hS hl
      exact it3_0 hf
    | succ n9 ih9 =>
      intro v1 v2 y2_ways_1 H locs ls hf hP hD hS hl
      obtain ⟨q9, hf, hk9⟩ := it3_e hf
      have hf := (el9 v1 v2 y2_ways_1).symm.trans hf
      refine lv_iload_n (pc := 9) hexec hb dX9_bestTurn_9 rfl (lv_at hl 2 rfl) ?_
      refine lv_iconst (pc := 10) hexec hb dX9_bestTurn_10 ki_4 ?_
      refine ki_ge (pc := 11) hexec hb dX9_bestTurn_11 (tgt := 39) rfl hf (fun hc hf => ?_) (fun hc hf => ?_)
      · cases sr3 hf hk9
        exact hE9 _ _ _ hP hD hS (lv_sub hl [1] rfl)
      · refine lv_aload_n (pc := 14) hexec hb dX9_bestTurn_14 rfl (lv_at hl 0 rfl) ?_
        refine lv_iload_n (pc := 15) hexec hb dX9_bestTurn_15 rfl (lv_at hl 2 rfl) ?_
        obtain ⟨r16, y2_ways_3, hc, hf⟩ := bd2_e hf
        refine kVp (pc := 16) (S := ⟨hexec, hb, hml, hown, hts⟩) hP hD hG hA hS [0, 1, 2] [] [0, 1, 2] (w2 := (w_X9_bestTurn g a0 a1 a2 u0_1 u0_2 u0_3 u0_4 u0_5 u0_6 u0_8 u0_9 u0_10 u0_12 u0_13 u0_14 u0_15 u0_16 u0_17 u0_18 u0_19 u0_20 u0_21 u0_22 u0_23 u0_24 u0_25 u0_26 u0_27 u0_28 u0_29 u0_30 0 y1_s y2_ways_3)) rfl rfl rfl rfl rfl rfl (by decide) (c_X9_turningNow l g a0 a1 a2 _ u0_1 u0_2 u0_3 u0_4 u0_5 u0_6 (.int 0) u0_8 u0_9 u0_10 u0_12 u0_13 u0_14 u0_15 u0_16 u0_17 u0_18 u0_19 u0_20 u0_21 u0_22 u0_23 u0_24 u0_25 u0_26 u0_27 u0_28 u0_29 u0_30 y1_s y2_ways_1 v2 r16 y2_ways_3 hc) gX9_bestTurn_X9_turningNow rfl hv_X9_turningNow ⟨nle rfl, nle rfl⟩ 9 0 rfl rfl rfl (rest := []) rfl rfl hl.1 (nle rfl) dX9_bestTurn_16 (fun H locs hP hD hS => ?_)
        refine lv_aload_n (pc := 19) hexec hb dX9_bestTurn_19 rfl (lv_at hl 0 rfl) ?_
        refine lv_iload_n (pc := 20) hexec hb dX9_bestTurn_20 rfl (lv_at hl 1 rfl) ?_
        obtain ⟨r21, y2_ways_4, hc, hf⟩ := bd2_e hf
        refine kVp (pc := 21) (S := ⟨hexec, hb, hml, hown, hts⟩) hP hD hG hA hS [0, 1, 2] [] [0, 1, 2] (w2 := (w_X9_bestTurn g a0 a1 a2 u0_1 u0_2 u0_3 u0_4 u0_5 u0_6 u0_8 u0_9 u0_10 u0_12 u0_13 u0_14 u0_15 u0_16 u0_17 u0_18 u0_19 u0_20 u0_21 u0_22 u0_23 u0_24 u0_25 u0_26 u0_27 u0_28 u0_29 u0_30 0 y1_s y2_ways_4)) rfl rfl rfl rfl rfl rfl (by decide) (c_X9_turningNow l g a0 a1 a2 _ u0_1 u0_2 u0_3 u0_4 u0_5 u0_6 (.int 0) u0_8 u0_9 u0_10 u0_12 u0_13 u0_14 u0_15 u0_16 u0_17 u0_18 u0_19 u0_20 u0_21 u0_22 u0_23 u0_24 u0_25 u0_26 u0_27 u0_28 u0_29 u0_30 y1_s y2_ways_3 v1 r21 y2_ways_4 hc) gX9_bestTurn_X9_turningNow rfl hv_X9_turningNow ⟨nle rfl, nle rfl⟩ 9 0 rfl rfl rfl (rest := [.int r16]) rfl rfl hl.1 (nle rfl) dX9_bestTurn_21 (fun H locs hP hD hS => ?_)
        obtain ⟨j32, ej32, hf⟩ := bvf1 hf
        have hj32 : ∀ (t32 : Int32) (H : Heap) (locs : List Loc) (ls : Array Slot), j32 t32 = some q9 → va_P g.1 vwCl (w_X9_bestTurn g a0 a1 a2 u0_1 u0_2 u0_3 u0_4 u0_5 u0_6 u0_8 u0_9 u0_10 u0_12 u0_13 u0_14 u0_15 u0_16 u0_17 u0_18 u0_19 u0_20 u0_21 u0_22 u0_23 u0_24 u0_25 u0_26 u0_27 u0_28 u0_29 u0_30 0 y1_s y2_ways_4) H → va_D A (w_X9_bestTurn g a0 a1 a2 u0_1 u0_2 u0_3 u0_4 u0_5 u0_6 u0_8 u0_9 u0_10 u0_12 u0_13 u0_14 u0_15 u0_16 u0_17 u0_18 u0_19 u0_20 u0_21 u0_22 u0_23 u0_24 u0_25 u0_26 u0_27 u0_28 u0_29 u0_30 0 y1_s y2_ways_4) → va_S A s.heap H locs → lv_has ls 3 [(0, .ref a0), (2, .int v2)] → W p l e (RM 4 93) s m args below meth c H locs 0 0 Q (F0 m 32 ls [.int t32]) := by
          intro t32 H locs ls hf hP hD hS hl
          have hf := (ej32 t32).symm.trans hf
          refine lv_istore_n (pc := 32) hexec hb dX9_bestTurn_32 rfl hl (nle rfl) rfl (fun ls (hl : lv_has ls 3 [(1, .int t32), (0, .ref a0), (2, .int v2)]) => ?_)
          obtain ⟨v2_1, ev2_1, hf⟩ := bv_e hf
          refine k_iinc (pc := 33) hexec hb dX9_bestTurn_33 kq_1 hl (k := 2) rfl ev2_1 (nle rfl) rfl (fun ls (hl : lv_has ls 3 [(2, .int v2_1), (1, .int t32), (0, .ref a0)]) => ?_)
          refine lv_goto (pc := 36) hexec hb dX9_bestTurn_36 (tgt := 9) rfl ?_
          exact ih9 _ _ _ _ _ _ (sl3 hf hk9) hP hD hS (lv_sub hl [2, 1, 0] rfl)
        refine ki_ge (pc := 24) hexec hb dX9_bestTurn_24 (tgt := 31) rfl hf (fun hc hf => ?_) (fun hc hf => ?_)
        · refine lv_iload_n (pc := 31) hexec hb dX9_bestTurn_31 rfl (lv_at hl 1 rfl) ?_
          exact hj32 _ _ _ _ hf hP hD hS (lv_sub hl [0, 2] rfl)
        · refine lv_iload_n (pc := 27) hexec hb dX9_bestTurn_27 rfl (lv_at hl 2 rfl) ?_
          refine lv_goto (pc := 28) hexec hb dX9_bestTurn_28 (tgt := 32) rfl ?_
          exact hj32 _ _ _ _ hf hP hD hS (lv_sub hl [0, 2] rfl)
  exact hL9 n _ _ _ _ _ _ hz hP hD hS (lv_sub hl [2, 1, 0] rfl)
abbrev w_X9_hardest (g : GE) (a0 a1 : Nat) (u0_1 u0_2 u0_3 u0_4 u0_5 u0_6 u0_8 u0_9 u0_10 u0_11 u0_12 u0_13 u0_14 u0_15 u0_16 u0_17 u0_18 u0_19 u0_20 u0_21 u0_22 u0_23 u0_24 u0_25 u0_26 u0_27 u0_28 u0_29 u0_30 : Value) (x0_thrown : Int32) (y1_s : Nat → Int32) : va_W := [(a0, .inr (9, [.ref a1, u0_1, u0_2, u0_3, u0_4, u0_5, u0_6, .int x0_thrown, u0_8, u0_9, u0_10, u0_11, u0_12, u0_13, u0_14, u0_15, u0_16, u0_17, u0_18, u0_19, u0_20, u0_21, u0_22, u0_23, u0_24, u0_25, u0_26, u0_27, u0_28, u0_29, u0_30])), (a1, .inl (g.2.1 0, 552, .inl y1_s))]
set_option maxRecDepth 20000 in
theorem c_X9_hardest (l : Launch) (g : GE) (a0 a1 : Nat) (sz : Nat) (u0_1 u0_2 u0_3 u0_4 u0_5 u0_6 u0_8 u0_9 u0_10 u0_11 u0_12 u0_13 u0_14 u0_15 u0_16 u0_17 u0_18 u0_19 u0_20 u0_21 u0_22 u0_23 u0_24 u0_25 u0_26 u0_27 u0_28 u0_29 u0_30 : Value) (x0_thrown : Int32) (y1_s : Nat → Int32)   (r : Int32) (o_x0_thrown : Int32) (hf : f_X9_hardest x0_thrown y1_s = some (r, o_x0_thrown)) : MI l g yX9_hardest wsX9_hardest 3 67 [.ref a0] (w_X9_hardest g a0 a1 u0_1 u0_2 u0_3 u0_4 u0_5 u0_6 u0_8 u0_9 u0_10 u0_11 u0_12 u0_13 u0_14 u0_15 u0_16 u0_17 u0_18 u0_19 u0_20 u0_21 u0_22 u0_23 u0_24 u0_25 u0_26 u0_27 u0_28 u0_29 u0_30 x0_thrown y1_s) sz (some (.int r)) (w_X9_hardest g a0 a1 u0_1 u0_2 u0_3 u0_4 u0_5 u0_6 u0_8 u0_9 u0_10 u0_11 u0_12 u0_13 u0_14 u0_15 u0_16 u0_17 u0_18 u0_19 u0_20 u0_21 u0_22 u0_23 u0_24 u0_25 u0_26 u0_27 u0_28 u0_29 u0_30 o_x0_thrown y1_s) := by
  refine MI.start (cc := cX9_hardest) (maxL := 7) (ret := (some .int)) rfl rfl (nle rfl) ?_
  intro p e s m args below meth c A ls Q hQ hexec hb hr hts hown hlocks hml hA hP hD hG hS hl
  unfold f_X9_hardest at hf
  have hWX9 : ∀ w ∈ wsX90, w.before args s = true := fun w h => hts w (List.mem_cons_of_mem _ (List.mem_append_right _ h))
  have hS : va_S A s.heap s.heap [] := hS
  refine lv_aload_n (pc := 0) hexec hb dX9_hardest_0 rfl (lv_at hl 0 rfl) ?_
  refine lv_iconst (pc := 1) hexec hb dX9_hardest_1 ki_0 ?_
  refine kp_put (pc := 2) hexec hb (own := RX9) hWX9 tyX9 tyX9_ok nmX9 hown hG hP hD hS 0 rfl rfl 7 (nle rfl) (hts _ (List.mem_cons_of_mem _ (List.mem_append_left _ (List.mem_append_left _ (List.mem_of_getElem? (i := 0) rfl))))) rfl rfl rfl rfl (nle rfl) dX9_hardest_2 (fun H locs (hP : va_P g.1 vwCl (w_X9_hardest g a0 a1 u0_1 u0_2 u0_3 u0_4 u0_5 u0_6 u0_8 u0_9 u0_10 u0_11 u0_12 u0_13 u0_14 u0_15 u0_16 u0_17 u0_18 u0_19 u0_20 u0_21 u0_22 u0_23 u0_24 u0_25 u0_26 u0_27 u0_28 u0_29 u0_30 0 y1_s) H) (hD : va_D A (w_X9_hardest g a0 a1 u0_1 u0_2 u0_3 u0_4 u0_5 u0_6 u0_8 u0_9 u0_10 u0_11 u0_12 u0_13 u0_14 u0_15 u0_16 u0_17 u0_18 u0_19 u0_20 u0_21 u0_22 u0_23 u0_24 u0_25 u0_26 u0_27 u0_28 u0_29 u0_30 0 y1_s)) hS => ?_)
  refine lv_iconst (pc := 5) hexec hb dX9_hardest_5 ki_m1 ?_
  refine lv_istore_n (pc := 6) hexec hb dX9_hardest_6 rfl hl (nle rfl) rfl (fun ls (hl : lv_has ls 7 [(1, .int (-1)), (0, .ref a0)]) => ?_)
  refine lv_iconst (pc := 7) hexec hb dX9_hardest_7 ki_0 ?_
  refine lv_istore_n (pc := 8) hexec hb dX9_hardest_8 rfl hl (nle rfl) rfl (fun ls (hl : lv_has ls 7 [(2, .int 0), (1, .int (-1)), (0, .ref a0)]) => ?_)
  refine lv_aload_n (pc := 9) hexec hb dX9_hardest_9 rfl (lv_at hl 2 rfl) ?_
  refine kg_get (pc := 10) hexec hb (own := RX9) hWX9 hown hG hP 0 rfl rfl 0 (nle rfl) (hts _ (List.mem_cons_of_mem _ (List.mem_append_left _ (List.mem_append_left _ (List.mem_of_getElem? (i := 1) rfl))))) rfl rfl dX9_hardest_10 ?_
  refine lv_iconst (pc := 13) hexec hb dX9_hardest_13 ki_5 ?_
  refine kr_iald (pc := 14) hexec hb hG hP 1 rfl hf dX9_hardest_14 (fun hf => ?_)
  obtain ⟨v3, ev3, hf⟩ := bv_e hf
  refine kn_i ev3 ?_
  refine lv_istore_n (pc := 15) hexec hb dX9_hardest_15 rfl hl (nle rfl) rfl (fun ls (hl : lv_has ls 7 [(3, .int v3), (2, .int 0), (1, .int (-1)), (0, .ref a0)]) => ?_)
  refine lv_iconst (pc := 16) hexec hb dX9_hardest_16 ki_0 ?_
  refine lv_istore (pc := 17) hexec hb dX9_hardest_17 hl (nle rfl) rfl (fun ls (hl : lv_has ls 7 [(4, .int 0), (3, .int v3), (2, .int 0), (1, .int (-1)), (0, .ref a0)]) => ?_)
  obtain ⟨l19, el19, hf⟩ := bvf4 hf
  obtain ⟨v1_1, hz, hf⟩ := bd1_e hf
  have hE19 : ∀ (H : Heap) (locs : List Loc) (ls : Array Slot), va_P g.1 vwCl (w_X9_hardest g a0 a1 u0_1 u0_2 u0_3 u0_4 u0_5 u0_6 u0_8 u0_9 u0_10 u0_11 u0_12 u0_13 u0_14 u0_15 u0_16 u0_17 u0_18 u0_19 u0_20 u0_21 u0_22 u0_23 u0_24 u0_25 u0_26 u0_27 u0_28 u0_29 u0_30 0 y1_s) H → va_D A (w_X9_hardest g a0 a1 u0_1 u0_2 u0_3 u0_4 u0_5 u0_6 u0_8 u0_9 u0_10 u0_11 u0_12 u0_13 u0_14 u0_15 u0_16 u0_17 u0_18 u0_19 u0_20 u0_21 u0_22 u0_23 u0_24 u0_25 u0_26 u0_27 u0_28 u0_29 u0_30 0 y1_s) → va_S A s.heap H locs → lv_has ls 7 [(1, .int v1_1)] → W p l e (RM 3 67) s m args below meth c H locs 0 0 Q (F0 m 108 ls []) := by
    intro H locs ls hP hD hS hl
    refine lv_iload_n (pc := 108) hexec hb dX9_hardest_108 rfl (lv_at hl 0 rfl) ?_
    cases hf
    exact ke_i hQ hexec hb hr hP hD hS dX9_hardest_109 hlocks
  obtain ⟨n, hz⟩ := lq4_e hz
  have hL19 : ∀ (n : Nat) (v1 : Int32) (v2 : Int32) (v3_1 : Int32) (v4 : Int32) (H : Heap) (locs : List Loc) (ls : Array Slot), it4 l19 n v1 v2 v3_1 v4 = some v1_1 → va_P g.1 vwCl (w_X9_hardest g a0 a1 u0_1 u0_2 u0_3 u0_4 u0_5 u0_6 u0_8 u0_9 u0_10 u0_11 u0_12 u0_13 u0_14 u0_15 u0_16 u0_17 u0_18 u0_19 u0_20 u0_21 u0_22 u0_23 u0_24 u0_25 u0_26 u0_27 u0_28 u0_29 u0_30 0 y1_s) H → va_D A (w_X9_hardest g a0 a1 u0_1 u0_2 u0_3 u0_4 u0_5 u0_6 u0_8 u0_9 u0_10 u0_11 u0_12 u0_13 u0_14 u0_15 u0_16 u0_17 u0_18 u0_19 u0_20 u0_21 u0_22 u0_23 u0_24 u0_25 u0_26 u0_27 u0_28 u0_29 u0_30 0 y1_s) → va_S A s.heap H locs → lv_has ls 7 [(0, .ref a0), (1, .int v1), (2, .int v2), (3, .int v3_1), (4, .int v4)] → W p l e (RM 3 67) s m args below meth c H locs 0 0 Q (F0 m 19 ls []) := by
    intro n
    induction n with
    | zero =>
      intro v1 v2 v3_1 v4 H locs ls hf hP hD hS hl
      exact it4_0 hf
    | succ n19 ih19 =>
      intro v1 v2 v3_1 v4 H locs ls hf hP hD hS hl
      obtain ⟨q19, hf, hk19⟩ := it4_e hf
      have hf := (el19 v1 v2 v3_1 v4).symm.trans hf
      refine lv_iload (pc := 19) hexec hb dX9_hardest_19 (lv_at hl 4 rfl) ?_
      refine lv_aload_n (pc := 21) hexec hb dX9_hardest_21 rfl (lv_at hl 0 rfl) ?_
      refine kg_get (pc := 22) hexec hb (own := RX9) hWX9 hown hG hP 0 rfl rfl 0 (nle rfl) (hts _ (List.mem_cons_of_mem _ (List.mem_append_left _ (List.mem_append_left _ (List.mem_of_getElem? (i := 1) rfl))))) rfl rfl dX9_hardest_22 ?_
      refine lv_iconst (pc := 25) hexec hb dX9_hardest_25 ki_4 ?_
      refine kr_iald (pc := 26) hexec hb hG hP 1 rfl hf dX9_hardest_26 (fun hf => ?_)
      refine ki_ge (pc := 27) hexec hb dX9_hardest_27 (tgt := 108) rfl hf (fun hc hf => ?_) (fun hc hf => ?_)
      · cases sr4 hf hk19
        exact hE19 _ _ _ hP hD hS (lv_sub hl [1] rfl)
      · refine lv_aload_n (pc := 30) hexec hb dX9_hardest_30 rfl (lv_at hl 0 rfl) ?_
        refine kg_get (pc := 31) hexec hb (own := RX9) hWX9 hown hG hP 0 rfl rfl 0 (nle rfl) (hts _ (List.mem_cons_of_mem _ (List.mem_append_left _ (List.mem_append_left _ (List.mem_of_getElem? (i := 1) rfl))))) rfl rfl dX9_hardest_31 ?_
        refine lv_sipush (pc := 34) hexec hb dX9_hardest_34 ks_536 ?_
        refine lv_iload (pc := 37) hexec hb dX9_hardest_37 (lv_at hl 4 rfl) ?_
        refine lv_iadd (pc := 39) hexec hb dX9_hardest_39 ?_
        refine kr_iald (pc := 40) hexec hb hG hP 1 rfl hf dX9_hardest_40 (fun hf => ?_)
        obtain ⟨v5, ev5, hf⟩ := bv_e hf
        refine kn_i ev5 ?_
        refine lv_istore (pc := 41) hexec hb dX9_hardest_41 hl (nle rfl) rfl (fun ls (hl : lv_has ls 7 [(5, .int v5), (0, .ref a0), (1, .int v1), (2, .int v2), (3, .int v3_1), (4, .int v4)]) => ?_)
        refine lv_aload_n (pc := 43) hexec hb dX9_hardest_43 rfl (lv_at hl 1 rfl) ?_
        refine lv_iload (pc := 44) hexec hb dX9_hardest_44 (lv_at hl 0 rfl) ?_
        obtain ⟨r46, hc, hf⟩ := bd1_e hf
        refine kVp (pc := 46) (S := ⟨hexec, hb, hml, hown, hts⟩) hP hD hG hA hS [0, 1] [] [0, 1] (w2 := (w_X9_hardest g a0 a1 u0_1 u0_2 u0_3 u0_4 u0_5 u0_6 u0_8 u0_9 u0_10 u0_11 u0_12 u0_13 u0_14 u0_15 u0_16 u0_17 u0_18 u0_19 u0_20 u0_21 u0_22 u0_23 u0_24 u0_25 u0_26 u0_27 u0_28 u0_29 u0_30 0 y1_s)) rfl rfl rfl rfl rfl rfl (by decide) (c_X9_isPlaced l g a0 a1 _ u0_1 u0_2 u0_3 u0_4 u0_5 u0_6 (.int 0) u0_8 u0_9 u0_10 u0_11 u0_12 u0_13 u0_14 u0_15 u0_16 u0_17 u0_18 u0_19 u0_20 u0_21 u0_22 u0_23 u0_24 u0_25 u0_26 u0_27 u0_28 u0_29 u0_30 y1_s v5 r46 hc) gX9_hardest_X9_isPlaced rfl hv_X9_isPlaced ⟨nle rfl, nle rfl⟩ 9 0 rfl rfl rfl (rest := []) rfl rfl hl.1 (nle rfl) dX9_hardest_46 (fun H locs hP hD hS => ?_)
        obtain ⟨j102, ej102, hf⟩ := bvf3 hf
        have hj102 : ∀ (v1_2 : Int32) (v2_1 : Int32) (v3_2 : Int32) (H : Heap) (locs : List Loc) (ls : Array Slot), j102 v1_2 v2_1 v3_2 = some q19 → va_P g.1 vwCl (w_X9_hardest g a0 a1 u0_1 u0_2 u0_3 u0_4 u0_5 u0_6 u0_8 u0_9 u0_10 u0_11 u0_12 u0_13 u0_14 u0_15 u0_16 u0_17 u0_18 u0_19 u0_20 u0_21 u0_22 u0_23 u0_24 u0_25 u0_26 u0_27 u0_28 u0_29 u0_30 0 y1_s) H → va_D A (w_X9_hardest g a0 a1 u0_1 u0_2 u0_3 u0_4 u0_5 u0_6 u0_8 u0_9 u0_10 u0_11 u0_12 u0_13 u0_14 u0_15 u0_16 u0_17 u0_18 u0_19 u0_20 u0_21 u0_22 u0_23 u0_24 u0_25 u0_26 u0_27 u0_28 u0_29 u0_30 0 y1_s) → va_S A s.heap H locs → lv_has ls 7 [(0, .ref a0), (1, .int v1_2), (2, .int v2_1), (3, .int v3_2), (4, .int v4)] → W p l e (RM 3 67) s m args below meth c H locs 0 0 Q (F0 m 102 ls []) := by
          intro v1_2 v2_1 v3_2 H locs ls hf hP hD hS hl
          have hf := (ej102 v1_2 v2_1 v3_2).symm.trans hf
          obtain ⟨v4_1, ev4_1, hf⟩ := bv_e hf
          refine k_iinc (pc := 102) hexec hb dX9_hardest_102 kq_1 hl (k := 4) rfl ev4_1 (nle rfl) rfl (fun ls (hl : lv_has ls 7 [(4, .int v4_1), (0, .ref a0), (1, .int v1_2), (2, .int v2_1), (3, .int v3_2)]) => ?_)
          refine lv_goto (pc := 105) hexec hb dX9_hardest_105 (tgt := 19) rfl ?_
          exact ih19 _ _ _ _ _ _ _ (sl4 hf hk19) hP hD hS (lv_sub hl [1, 2, 3, 4, 0] rfl)
        refine kb_ne (pc := 49) hexec hb dX9_hardest_49 (tgt := 55) rfl hf (fun hc hf => ?_) (fun hc hf => ?_)
        · refine lv_iload_n (pc := 55) hexec hb dX9_hardest_55 rfl (lv_at hl 4 rfl) ?_
          refine lv_aload_n (pc := 56) hexec hb dX9_hardest_56 rfl (lv_at hl 1 rfl) ?_
          refine lv_iload (pc := 57) hexec hb dX9_hardest_57 (lv_at hl 0 rfl) ?_
          refine lv_iconst (pc := 59) hexec hb dX9_hardest_59 ki_2 ?_
          obtain ⟨r60, hc, hf⟩ := bd1_e hf
          refine kVp (pc := 60) (S := ⟨hexec, hb, hml, hown, hts⟩) hP hD hG hA hS [0, 1] [] [0, 1] (w2 := (w_X9_hardest g a0 a1 u0_1 u0_2 u0_3 u0_4 u0_5 u0_6 u0_8 u0_9 u0_10 u0_11 u0_12 u0_13 u0_14 u0_15 u0_16 u0_17 u0_18 u0_19 u0_20 u0_21 u0_22 u0_23 u0_24 u0_25 u0_26 u0_27 u0_28 u0_29 u0_30 0 y1_s)) rfl rfl rfl rfl rfl rfl (by decide) (c_X9_of l g a0 a1 _ u0_1 u0_2 u0_3 u0_4 u0_5 u0_6 (.int 0) u0_8 u0_9 u0_10 u0_11 u0_12 u0_13 u0_14 u0_15 u0_16 u0_17 u0_18 u0_19 u0_20 u0_21 u0_22 u0_23 u0_24 u0_25 u0_26 u0_27 u0_28 u0_29 u0_30 y1_s v5 2 r60 hc) gX9_hardest_X9_of rfl hv_X9_of ⟨nle rfl, nle rfl⟩ 9 0 rfl rfl rfl (rest := [.int v3_1]) rfl rfl hl.1 (nle rfl) dX9_hardest_60 (fun H locs hP hD hS => ?_)
          obtain ⟨r63, hc, hf⟩ := bd1_e hf
          refine kSp (pc := 63) (S := ⟨hexec, hb, hml, hown, hts⟩) hP hD hG hA hS [] [0, 1] [0, 1] (w2 := (w_X9_hardest g a0 a1 u0_1 u0_2 u0_3 u0_4 u0_5 u0_6 u0_8 u0_9 u0_10 u0_11 u0_12 u0_13 u0_14 u0_15 u0_16 u0_17 u0_18 u0_19 u0_20 u0_21 u0_22 u0_23 u0_24 u0_25 u0_26 u0_27 u0_28 u0_29 u0_30 0 y1_s)) rfl rfl rfl rfl rfl rfl (by decide) (c_X9_uprightBy l g _ r60 r63 hc) gX9_hardest_X9_uprightBy rfl hs_X9_uprightBy ⟨nle rfl, nle rfl⟩ (rest := [.int v3_1]) rfl rfl hl.1 (nle rfl) dX9_hardest_63 (fun H locs hP hD hS => ?_)
          obtain ⟨r66, hc, hf⟩ := bd1_e hf
          refine kSp (pc := 66) (S := ⟨hexec, hb, hml, hown, hts⟩) hP hD hG hA hS [] [0, 1] [0, 1] (w2 := (w_X9_hardest g a0 a1 u0_1 u0_2 u0_3 u0_4 u0_5 u0_6 u0_8 u0_9 u0_10 u0_11 u0_12 u0_13 u0_14 u0_15 u0_16 u0_17 u0_18 u0_19 u0_20 u0_21 u0_22 u0_23 u0_24 u0_25 u0_26 u0_27 u0_28 u0_29 u0_30 0 y1_s)) rfl rfl rfl rfl rfl rfl (by decide) (c_X9_quarters l g _ v3_1 r63 r66 hc) gX9_hardest_X9_quarters rfl hs_X9_quarters ⟨nle rfl, nle rfl⟩ (rest := []) rfl rfl hl.1 (nle rfl) dX9_hardest_66 (fun H locs hP hD hS => ?_)
          refine lv_istore (pc := 69) hexec hb dX9_hardest_69 hl (nle rfl) rfl (fun ls (hl : lv_has ls 7 [(6, .int r66), (5, .int v5), (0, .ref a0), (1, .int v1), (2, .int v2), (3, .int v3_1), (4, .int v4)]) => ?_)
          refine lv_iload (pc := 71) hexec hb dX9_hardest_71 (lv_at hl 0 rfl) ?_
          refine lv_iload_n (pc := 73) hexec hb dX9_hardest_73 rfl (lv_at hl 4 rfl) ?_
          obtain ⟨j83, ej83, hf⟩ := bvf1 hf
          have hj83 : ∀ (t83 : Int32) (H : Heap) (locs : List Loc) (ls : Array Slot), j83 t83 = some q19 → va_P g.1 vwCl (w_X9_hardest g a0 a1 u0_1 u0_2 u0_3 u0_4 u0_5 u0_6 u0_8 u0_9 u0_10 u0_11 u0_12 u0_13 u0_14 u0_15 u0_16 u0_17 u0_18 u0_19 u0_20 u0_21 u0_22 u0_23 u0_24 u0_25 u0_26 u0_27 u0_28 u0_29 u0_30 0 y1_s) H → va_D A (w_X9_hardest g a0 a1 u0_1 u0_2 u0_3 u0_4 u0_5 u0_6 u0_8 u0_9 u0_10 u0_11 u0_12 u0_13 u0_14 u0_15 u0_16 u0_17 u0_18 u0_19 u0_20 u0_21 u0_22 u0_23 u0_24 u0_25 u0_26 u0_27 u0_28 u0_29 u0_30 0 y1_s) → va_S A s.heap H locs → lv_has ls 7 [(0, .ref a0), (2, .int v2), (4, .int v4), (5, .int v5), (6, .int r66)] → W p l e (RM 3 67) s m args below meth c H locs 0 0 Q (F0 m 83 ls [.int t83]) := by
            intro t83 H locs ls hf hP hD hS hl
            have hf := (ej83 t83).symm.trans hf
            refine lv_istore_n (pc := 83) hexec hb dX9_hardest_83 rfl hl (nle rfl) rfl (fun ls (hl : lv_has ls 7 [(1, .int t83), (0, .ref a0), (2, .int v2), (4, .int v4), (5, .int v5), (6, .int r66)]) => ?_)
            refine lv_iload_n (pc := 84) hexec hb dX9_hardest_84 rfl (lv_at hl 2 rfl) ?_
            refine lv_iload (pc := 85) hexec hb dX9_hardest_85 (lv_at hl 5 rfl) ?_
            refine va_mmax (pc := 87) hexec hb (hml.trans hl.1.symm) (own := RX9) hown (hts _ (List.mem_cons_of_mem _ (List.mem_append_left _ (List.mem_append_left _ (List.mem_of_getElem? (i := 2) rfl))))) (hts _ (List.mem_cons_of_mem _ (List.mem_append_left _ (List.mem_append_left _ (List.mem_of_getElem? (i := 3) rfl))))) (hts _ (List.mem_cons_of_mem _ (List.mem_append_left _ (List.mem_append_left _ (List.mem_of_getElem? (i := 4) rfl))))) (hts _ (List.mem_cons_of_mem _ (List.mem_append_left _ (List.mem_append_left _ (List.mem_of_getElem? (i := 5) rfl))))) (nle rfl) (nle rfl) (nle rfl) (nle rfl) dX9_hardest_87 ?_
            obtain ⟨v2_2, ev2_2, hf⟩ := bv_e hf
            refine kn_i ev2_2 ?_
            refine lv_istore_n (pc := 90) hexec hb dX9_hardest_90 rfl hl (nle rfl) rfl (fun ls (hl : lv_has ls 7 [(2, .int v2_2), (1, .int t83), (0, .ref a0), (4, .int v4), (5, .int v5), (6, .int r66)]) => ?_)
            refine lv_aload_n (pc := 91) hexec hb dX9_hardest_91 rfl (lv_at hl 2 rfl) ?_
            refine lv_iload (pc := 92) hexec hb dX9_hardest_92 (lv_at hl 4 rfl) ?_
            refine lv_iconst (pc := 94) hexec hb dX9_hardest_94 ki_2 ?_
            obtain ⟨r95, hc, hf⟩ := bd1_e hf
            refine kVp (pc := 95) (S := ⟨hexec, hb, hml, hown, hts⟩) hP hD hG hA hS [0, 1] [] [0, 1] (w2 := (w_X9_hardest g a0 a1 u0_1 u0_2 u0_3 u0_4 u0_5 u0_6 u0_8 u0_9 u0_10 u0_11 u0_12 u0_13 u0_14 u0_15 u0_16 u0_17 u0_18 u0_19 u0_20 u0_21 u0_22 u0_23 u0_24 u0_25 u0_26 u0_27 u0_28 u0_29 u0_30 0 y1_s)) rfl rfl rfl rfl rfl rfl (by decide) (c_X9_of l g a0 a1 _ u0_1 u0_2 u0_3 u0_4 u0_5 u0_6 (.int 0) u0_8 u0_9 u0_10 u0_11 u0_12 u0_13 u0_14 u0_15 u0_16 u0_17 u0_18 u0_19 u0_20 u0_21 u0_22 u0_23 u0_24 u0_25 u0_26 u0_27 u0_28 u0_29 u0_30 y1_s v5 2 r95 hc) gX9_hardest_X9_of rfl hv_X9_of ⟨nle rfl, nle rfl⟩ 9 0 rfl rfl rfl (rest := []) rfl rfl hl.1 (nle rfl) dX9_hardest_95 (fun H locs hP hD hS => ?_)
            obtain ⟨r98, hc, hf⟩ := bd1_e hf
            refine kSp (pc := 98) (S := ⟨hexec, hb, hml, hown, hts⟩) hP hD hG hA hS [] [0, 1] [0, 1] (w2 := (w_X9_hardest g a0 a1 u0_1 u0_2 u0_3 u0_4 u0_5 u0_6 u0_8 u0_9 u0_10 u0_11 u0_12 u0_13 u0_14 u0_15 u0_16 u0_17 u0_18 u0_19 u0_20 u0_21 u0_22 u0_23 u0_24 u0_25 u0_26 u0_27 u0_28 u0_29 u0_30 0 y1_s)) rfl rfl rfl rfl rfl rfl (by decide) (c_X9_uprightBy l g _ r95 r98 hc) gX9_hardest_X9_uprightBy rfl hs_X9_uprightBy ⟨nle rfl, nle rfl⟩ (rest := []) rfl rfl hl.1 (nle rfl) dX9_hardest_98 (fun H locs hP hD hS => ?_)
            refine lv_istore_n (pc := 101) hexec hb dX9_hardest_101 rfl hl (nle rfl) rfl (fun ls (hl : lv_has ls 7 [(3, .int r98), (2, .int v2_2), (1, .int t83), (0, .ref a0), (4, .int v4), (5, .int v5), (6, .int r66)]) => ?_)
            exact hj102 _ _ _ _ _ _ hf hP hD hS (lv_sub hl [3, 2, 1, 0, 4] rfl)
          refine ki_le (pc := 74) hexec hb dX9_hardest_74 (tgt := 82) rfl hf (fun hc hf => ?_) (fun hc hf => ?_)
          · refine lv_iload_n (pc := 82) hexec hb dX9_hardest_82 rfl (lv_at hl 3 rfl) ?_
            exact hj83 _ _ _ _ hf hP hD hS (lv_sub hl [2, 4, 6, 1, 0] rfl)
          · refine lv_iload (pc := 77) hexec hb dX9_hardest_77 (lv_at hl 6 rfl) ?_
            refine lv_goto (pc := 79) hexec hb dX9_hardest_79 (tgt := 83) rfl ?_
            exact hj83 _ _ _ _ hf hP hD hS (lv_sub hl [2, 4, 6, 1, 0] rfl)
        · refine lv_goto (pc := 52) hexec hb dX9_hardest_52 (tgt := 102) rfl ?_
          exact hj102 _ _ _ _ _ _ hf hP hD hS (lv_sub hl [1, 2, 3, 4, 5] rfl)
  exact hL19 n _ _ _ _ _ _ _ hz hP hD hS (lv_sub hl [4, 3, 2, 1, 0] rfl)
abbrev w_X9_least (g : GE) (a0 a1 a2 a3 a4 a5 a6 : Nat) (u0_1 u0_2 u0_3 u0_4 u0_5 u0_6 u0_8 u0_9 u0_10 u0_19 u0_20 u0_21 u0_22 u0_23 u0_24 u0_25 u0_26 u0_27 u0_28 u0_29 u0_30 : Value) (x0_thrown : Int32) (x0_bestReds : Int32) (x0_bestPlaced : Int32) (x0_bestTurning : Int32) (y1_against : Nat → Int32) (y2_best : Nat → Int32) (y3_may : Nat → Int32) (y4_redThen : Nat → Int32) (y5_s : Nat → Int32) (y6_ways : Nat → Int32) : va_W := [(a0, .inr (9, [.ref a5, u0_1, u0_2, u0_3, u0_4, u0_5, u0_6, .int x0_thrown, u0_8, u0_9, u0_10, .ref a6, .ref a2, .int x0_bestReds, .int x0_bestPlaced, .int x0_bestTurning, .ref a4, .ref a3, .ref a1, u0_19, u0_20, u0_21, u0_22, u0_23, u0_24, u0_25, u0_26, u0_27, u0_28, u0_29, u0_30])), (a1, .inl (g.2.1 1, 1024, .inl y1_against)), (a2, .inl (g.2.1 0, 8, .inl y2_best)), (a3, .inl (g.2.1 1, 32, .inl y3_may)), (a4, .inl (g.2.1 1, 8, .inl y4_redThen)), (a5, .inl (g.2.1 0, 552, .inl y5_s)), (a6, .inl (g.2.1 0, 8, .inl y6_ways))]
set_option maxRecDepth 20000 in
theorem c_X9_least (l : Launch) (g : GE) (a0 a1 a2 a3 a4 a5 a6 : Nat) (sz : Nat) (u0_1 u0_2 u0_3 u0_4 u0_5 u0_6 u0_8 u0_9 u0_10 u0_19 u0_20 u0_21 u0_22 u0_23 u0_24 u0_25 u0_26 u0_27 u0_28 u0_29 u0_30 : Value) (x0_thrown : Int32) (x0_bestReds : Int32) (x0_bestPlaced : Int32) (x0_bestTurning : Int32) (y1_against : Nat → Int32) (y2_best : Nat → Int32) (y3_may : Nat → Int32) (y4_redThen : Nat → Int32) (y5_s : Nat → Int32) (y6_ways : Nat → Int32)   (r : Int32) (o_x0_thrown : Int32) (o_x0_bestReds : Int32) (o_x0_bestPlaced : Int32) (o_x0_bestTurning : Int32) (o_y1_against : Nat → Int32) (o_y2_best : Nat → Int32) (o_y3_may : Nat → Int32) (o_y4_redThen : Nat → Int32) (o_y6_ways : Nat → Int32) (hf : f_X9_least x0_thrown x0_bestReds x0_bestPlaced x0_bestTurning y1_against y2_best y3_may y4_redThen y5_s y6_ways = some (r, o_x0_thrown, o_x0_bestReds, o_x0_bestPlaced, o_x0_bestTurning, o_y1_against, o_y2_best, o_y3_may, o_y4_redThen, o_y6_ways)) : MI l g yX9_least wsX9_least 17 401 [.ref a0] (w_X9_least g a0 a1 a2 a3 a4 a5 a6 u0_1 u0_2 u0_3 u0_4 u0_5 u0_6 u0_8 u0_9 u0_10 u0_19 u0_20 u0_21 u0_22 u0_23 u0_24 u0_25 u0_26 u0_27 u0_28 u0_29 u0_30 x0_thrown x0_bestReds x0_bestPlaced x0_bestTurning y1_against y2_best y3_may y4_redThen y5_s y6_ways) sz (some (.int r)) (w_X9_least g a0 a1 a2 a3 a4 a5 a6 u0_1 u0_2 u0_3 u0_4 u0_5 u0_6 u0_8 u0_9 u0_10 u0_19 u0_20 u0_21 u0_22 u0_23 u0_24 u0_25 u0_26 u0_27 u0_28 u0_29 u0_30 o_x0_thrown o_x0_bestReds o_x0_bestPlaced o_x0_bestTurning o_y1_against o_y2_best o_y3_may o_y4_redThen y5_s o_y6_ways) := by
  refine MI.start (cc := cX9_least) (maxL := 1) (ret := (some .int)) rfl rfl (nle rfl) ?_
  intro p e s m args below meth c A ls Q hQ hexec hb hr hts hown hlocks hml hA hP hD hG hS hl
  unfold f_X9_least at hf
  have hWX9 : ∀ w ∈ wsX90, w.before args s = true := fun w h => hts w (List.mem_cons_of_mem _ (List.mem_append_right _ h))
  have hS : va_S A s.heap s.heap [] := hS
  refine lv_aload_n (pc := 0) hexec hb dX9_least_0 rfl (lv_at hl 0 rfl) ?_
  refine lv_iconst (pc := 1) hexec hb dX9_least_1 ki_0 ?_
  refine kp_put (pc := 2) hexec hb (own := RX9) hWX9 tyX9 tyX9_ok nmX9 hown hG hP hD hS 0 rfl rfl 7 (nle rfl) (hts _ (List.mem_cons_of_mem _ (List.mem_append_left _ (List.mem_append_left _ (List.mem_of_getElem? (i := 0) rfl))))) rfl rfl rfl rfl (nle rfl) dX9_least_2 (fun H locs (hP : va_P g.1 vwCl (w_X9_least g a0 a1 a2 a3 a4 a5 a6 u0_1 u0_2 u0_3 u0_4 u0_5 u0_6 u0_8 u0_9 u0_10 u0_19 u0_20 u0_21 u0_22 u0_23 u0_24 u0_25 u0_26 u0_27 u0_28 u0_29 u0_30 0 x0_bestReds x0_bestPlaced x0_bestTurning y1_against y2_best y3_may y4_redThen y5_s y6_ways) H) (hD : va_D A (w_X9_least g a0 a1 a2 a3 a4 a5 a6 u0_1 u0_2 u0_3 u0_4 u0_5 u0_6 u0_8 u0_9 u0_10 u0_19 u0_20 u0_21 u0_22 u0_23 u0_24 u0_25 u0_26 u0_27 u0_28 u0_29 u0_30 0 x0_bestReds x0_bestPlaced x0_bestTurning y1_against y2_best y3_may y4_redThen y5_s y6_ways)) hS => ?_)
  refine lv_aload_n (pc := 5) hexec hb dX9_least_5 rfl (lv_at hl 0 rfl) ?_
  obtain ⟨x0_bestReds_1, x0_bestPlaced_1, x0_bestTurning_1, y1_against_1, y2_best_1, y3_may_1, y4_redThen_1, y6_ways_1, hc, hf⟩ := bd8_e hf
  refine kVp (pc := 6) (S := ⟨hexec, hb, hml, hown, hts⟩) hP hD hG hA hS [0, 1, 2, 3, 4, 5, 6] [] [0, 1, 2, 3, 4, 5, 6] (w2 := (w_X9_least g a0 a1 a2 a3 a4 a5 a6 u0_1 u0_2 u0_3 u0_4 u0_5 u0_6 u0_8 u0_9 u0_10 u0_19 u0_20 u0_21 u0_22 u0_23 u0_24 u0_25 u0_26 u0_27 u0_28 u0_29 u0_30 0 x0_bestReds_1 x0_bestPlaced_1 x0_bestTurning_1 y1_against_1 y2_best_1 y3_may_1 y4_redThen_1 y5_s y6_ways_1)) rfl rfl rfl rfl rfl rfl (by decide) (c_X9_arrangesNow l g a0 a1 a2 a3 a4 a5 a6 _ u0_1 u0_2 u0_3 u0_4 u0_5 u0_6 (.int 0) u0_8 u0_9 u0_10 u0_19 u0_20 u0_21 u0_22 u0_23 u0_24 u0_25 u0_26 u0_27 u0_28 u0_29 u0_30 x0_bestReds x0_bestPlaced x0_bestTurning y1_against y2_best y3_may y4_redThen y5_s y6_ways x0_bestReds_1 x0_bestPlaced_1 x0_bestTurning_1 y1_against_1 y2_best_1 y3_may_1 y4_redThen_1 y6_ways_1 hc) gX9_least_X9_arrangesNow rfl hv_X9_arrangesNow ⟨nle rfl, nle rfl⟩ 9 0 rfl rfl rfl (rest := []) rfl rfl hl.1 (nle rfl) dX9_least_6 (fun H locs hP hD hS => ?_)
  refine lv_aload_n (pc := 9) hexec hb dX9_least_9 rfl (lv_at hl 0 rfl) ?_
  refine kg_get (pc := 10) hexec hb (own := RX9) hWX9 hown hG hP 0 rfl rfl 15 (nle rfl) (hts _ (List.mem_cons_of_mem _ (List.mem_append_left _ (List.mem_append_left _ (List.mem_of_getElem? (i := 1) rfl))))) rfl rfl dX9_least_10 ?_
  cases hf
  exact ke_i hQ hexec hb hr hP hD hS dX9_least_13 hlocks
