abbrev w_X9_restoreSnapshot (g : GE) (a0 a1 a2 a3 : Nat) (u0_1 u0_2 u0_3 u0_8 u0_9 u0_10 u0_11 u0_12 u0_13 u0_14 u0_15 u0_16 u0_17 u0_18 u0_19 u0_20 u0_21 u0_22 u0_23 u0_24 u0_25 u0_26 u0_27 u0_28 u0_29 u0_30 : Value) (x0_acts : Int32) (x0_thrown : Int32) (y1_isKept : Nat → Int32) (y2_kept : Nat → Int32) (y3_s : Nat → Int32) : va_W := [(a0, .inr (9, [.ref a3, u0_1, u0_2, u0_3, .ref a2, .ref a1, .int x0_acts, .int x0_thrown, u0_8, u0_9, u0_10, u0_11, u0_12, u0_13, u0_14, u0_15, u0_16, u0_17, u0_18, u0_19, u0_20, u0_21, u0_22, u0_23, u0_24, u0_25, u0_26, u0_27, u0_28, u0_29, u0_30])), (a1, .inl (g.2.1 1, 2, .inl y1_isKept)), (a2, .inl (g.2.1 0, 1104, .inl y2_kept)), (a3, .inl (g.2.1 0, 552, .inl y3_s))]
noncomputable def f_X9_restoreSnapshot (x0_acts : Int32) (x0_thrown : Int32) (y1_isKept : Nat → Int32) (y2_kept : Nat → Int32) (y3_s : Nat → Int32) (p1 : Int32) : Option (Int32 × Int32 × Int32 × (Nat → Int32)) :=
  bd1 (f_X9_isIn (p1.toInt64) 0 1) fun (r5 : Int32) =>
  bd2 (f_X9_passes x0_thrown r5 1) fun (r9 : Int32) (x0_thrown_1 : Int32) =>
  (if r9 = 0 then (
    some (0, x0_acts, x0_thrown_1, y3_s)
  ) else (
    ar p1 2 <|
    (if (y1_isKept p1.toNatClampNeg) = 0 then (
      some ((-1), x0_acts, x0_thrown_1, y3_s)
    ) else (
      bd1 (f_X9_copies 1104 552 y2_kept y3_s (552 * p1) 0) fun (y3_s_1 : Nat → Int32) =>
      ar 2 552 <|
      some ((y3_s_1 (2 : Int32).toNatClampNeg), 0, x0_thrown_1, y3_s_1)
    ))
  ))
set_option maxRecDepth 20000 in
theorem c_X9_restoreSnapshot (l : Launch) (g : GE) (a0 a1 a2 a3 : Nat) (sz : Nat) (u0_1 u0_2 u0_3 u0_8 u0_9 u0_10 u0_11 u0_12 u0_13 u0_14 u0_15 u0_16 u0_17 u0_18 u0_19 u0_20 u0_21 u0_22 u0_23 u0_24 u0_25 u0_26 u0_27 u0_28 u0_29 u0_30 : Value) (x0_acts : Int32) (x0_thrown : Int32) (y1_isKept : Nat → Int32) (y2_kept : Nat → Int32) (y3_s : Nat → Int32) (p1 : Int32)  (r : Int32) (o_x0_acts : Int32) (o_x0_thrown : Int32) (o_y3_s : Nat → Int32) (hf : f_X9_restoreSnapshot x0_acts x0_thrown y1_isKept y2_kept y3_s p1 = some (r, o_x0_acts, o_x0_thrown, o_y3_s)) : MI l g yX9_restoreSnapshot wsX9_restoreSnapshot 2 49 [.ref a0, .int p1] (w_X9_restoreSnapshot g a0 a1 a2 a3 u0_1 u0_2 u0_3 u0_8 u0_9 u0_10 u0_11 u0_12 u0_13 u0_14 u0_15 u0_16 u0_17 u0_18 u0_19 u0_20 u0_21 u0_22 u0_23 u0_24 u0_25 u0_26 u0_27 u0_28 u0_29 u0_30 x0_acts x0_thrown y1_isKept y2_kept y3_s) sz (some (.int r)) (w_X9_restoreSnapshot g a0 a1 a2 a3 u0_1 u0_2 u0_3 u0_8 u0_9 u0_10 u0_11 u0_12 u0_13 u0_14 u0_15 u0_16 u0_17 u0_18 u0_19 u0_20 u0_21 u0_22 u0_23 u0_24 u0_25 u0_26 u0_27 u0_28 u0_29 u0_30 o_x0_acts o_x0_thrown y1_isKept y2_kept o_y3_s) := by
  refine MI.start (cc := cX9_restoreSnapshot) (maxL := 2) (ret := (some .int)) rfl rfl (nle rfl) ?_
  intro p e s m args below meth c A ls Q hQ hexec hb hr hts hown hlocks hml hA hP hD hG hS hl
  unfold f_X9_restoreSnapshot at hf
  have hWX9 : ∀ w ∈ wsX90, w.before args s = true := fun w h => hts w (List.mem_cons_of_mem _ (List.mem_append_right _ h))
  have hS : va_S A s.heap s.heap [] := hS
  refine lv_aload_n (pc := 0) hexec hb dX9_restoreSnapshot_0 rfl (lv_at hl 0 rfl) ?_
  refine lv_iload_n (pc := 1) hexec hb dX9_restoreSnapshot_1 rfl (lv_at hl 1 rfl) ?_
  refine lv_i2l (pc := 2) hexec hb dX9_restoreSnapshot_2 rfl ?_
  refine lv_lconst (pc := 3) hexec hb dX9_restoreSnapshot_3 kl_0 ?_
  refine lv_lconst (pc := 4) hexec hb dX9_restoreSnapshot_4 kl_1 ?_
  obtain ⟨r5, hc, hf⟩ := bd1_e hf
  refine kSp (pc := 5) (S := ⟨hexec, hb, hml, hown, hts⟩) hP hD hG hA hS [] [0, 1, 2, 3] [0, 1, 2, 3] (w2 := (w_X9_restoreSnapshot g a0 a1 a2 a3 u0_1 u0_2 u0_3 u0_8 u0_9 u0_10 u0_11 u0_12 u0_13 u0_14 u0_15 u0_16 u0_17 u0_18 u0_19 u0_20 u0_21 u0_22 u0_23 u0_24 u0_25 u0_26 u0_27 u0_28 u0_29 u0_30 x0_acts x0_thrown y1_isKept y2_kept y3_s)) rfl rfl rfl rfl rfl rfl (by decide) (c_X9_isIn l g _ (p1.toInt64) 0 1 r5 hc) gX9_restoreSnapshot_X9_isIn rfl hs_X9_isIn ⟨nle rfl, nle rfl⟩ (rest := [.ref a0]) rfl rfl hl.1 (nle rfl) dX9_restoreSnapshot_5 (fun H locs hP hD hS => ?_)
  refine lv_iconst (pc := 8) hexec hb dX9_restoreSnapshot_8 ki_1 ?_
  obtain ⟨r9, x0_thrown_1, hc, hf⟩ := bd2_e hf
  refine kVp (pc := 9) (S := ⟨hexec, hb, hml, hown, hts⟩) hP hD hG hA hS [0] [1, 2, 3] [3, 0, 1, 2] (w2 := (w_X9_restoreSnapshot g a0 a1 a2 a3 u0_1 u0_2 u0_3 u0_8 u0_9 u0_10 u0_11 u0_12 u0_13 u0_14 u0_15 u0_16 u0_17 u0_18 u0_19 u0_20 u0_21 u0_22 u0_23 u0_24 u0_25 u0_26 u0_27 u0_28 u0_29 u0_30 x0_acts x0_thrown_1 y1_isKept y2_kept y3_s)) rfl rfl rfl rfl rfl rfl (by decide) (c_X9_passes l g a0 _ (.ref a3) u0_1 u0_2 u0_3 (.ref a2) (.ref a1) (.int x0_acts) u0_8 u0_9 u0_10 u0_11 u0_12 u0_13 u0_14 u0_15 u0_16 u0_17 u0_18 u0_19 u0_20 u0_21 u0_22 u0_23 u0_24 u0_25 u0_26 u0_27 u0_28 u0_29 u0_30 x0_thrown r5 1 r9 x0_thrown_1 hc) gX9_restoreSnapshot_X9_passes rfl hv_X9_passes ⟨nle rfl, nle rfl⟩ 9 0 rfl rfl rfl (rest := []) rfl rfl hl.1 (nle rfl) dX9_restoreSnapshot_9 (fun H locs hP hD hS => ?_)
  refine kb_ne (pc := 12) hexec hb dX9_restoreSnapshot_12 (tgt := 17) rfl hf (fun hc hf => ?_) (fun hc hf => ?_)
  · refine lv_aload_n (pc := 17) hexec hb dX9_restoreSnapshot_17 rfl (lv_at hl 0 rfl) ?_
    refine kg_get (pc := 18) hexec hb (own := RX9) hWX9 hown hG hP 0 rfl rfl 5 (nle rfl) (hts _ (List.mem_cons_of_mem _ (List.mem_append_left _ (List.mem_of_getElem? (i := 0) rfl)))) rfl rfl dX9_restoreSnapshot_18 ?_
    refine lv_iload_n (pc := 21) hexec hb dX9_restoreSnapshot_21 rfl (lv_at hl 1 rfl) ?_
    refine kr_zald (pc := 22) hexec hb hG hP 1 rfl hf dX9_restoreSnapshot_22 (fun hf => ?_)
    refine kb_ne (pc := 23) hexec hb dX9_restoreSnapshot_23 (tgt := 28) rfl hf (fun hc hf => ?_) (fun hc hf => ?_)
    · refine lv_aload_n (pc := 28) hexec hb dX9_restoreSnapshot_28 rfl (lv_at hl 0 rfl) ?_
      refine kg_get (pc := 29) hexec hb (own := RX9) hWX9 hown hG hP 0 rfl rfl 4 (nle rfl) (hts _ (List.mem_cons_of_mem _ (List.mem_append_left _ (List.mem_of_getElem? (i := 1) rfl)))) rfl rfl dX9_restoreSnapshot_29 ?_
      refine lv_sipush (pc := 32) hexec hb dX9_restoreSnapshot_32 ks_552 ?_
      refine lv_iload_n (pc := 35) hexec hb dX9_restoreSnapshot_35 rfl (lv_at hl 1 rfl) ?_
      refine lv_imul (pc := 36) hexec hb dX9_restoreSnapshot_36 ?_
      refine lv_aload_n (pc := 37) hexec hb dX9_restoreSnapshot_37 rfl (lv_at hl 0 rfl) ?_
      refine kg_get (pc := 38) hexec hb (own := RX9) hWX9 hown hG hP 0 rfl rfl 0 (nle rfl) (hts _ (List.mem_cons_of_mem _ (List.mem_append_left _ (List.mem_of_getElem? (i := 2) rfl)))) rfl rfl dX9_restoreSnapshot_38 ?_
      refine lv_iconst (pc := 41) hexec hb dX9_restoreSnapshot_41 ki_0 ?_
      obtain ⟨y3_s_1, hc, hf⟩ := bd1_e hf
      refine kSp (pc := 42) (S := ⟨hexec, hb, hml, hown, hts⟩) hP hD hG hA hS [2, 3] [0, 1] [0, 1, 2, 3] (w2 := (w_X9_restoreSnapshot g a0 a1 a2 a3 u0_1 u0_2 u0_3 u0_8 u0_9 u0_10 u0_11 u0_12 u0_13 u0_14 u0_15 u0_16 u0_17 u0_18 u0_19 u0_20 u0_21 u0_22 u0_23 u0_24 u0_25 u0_26 u0_27 u0_28 u0_29 u0_30 x0_acts x0_thrown_1 y1_isKept y2_kept y3_s_1)) rfl rfl rfl rfl rfl rfl (by decide) (c_X9_copies l g a2 a3 _ 1104 552 y2_kept y3_s (552 * p1) 0 y3_s_1 hc) gX9_restoreSnapshot_X9_copies rfl hs_X9_copies ⟨nle rfl, nle rfl⟩ (rest := []) rfl rfl hl.1 (nle rfl) dX9_restoreSnapshot_42 (fun H locs hP hD hS => ?_)
      refine lv_aload_n (pc := 45) hexec hb dX9_restoreSnapshot_45 rfl (lv_at hl 0 rfl) ?_
      refine lv_iconst (pc := 46) hexec hb dX9_restoreSnapshot_46 ki_0 ?_
      refine kp_put (pc := 47) hexec hb (own := RX9) hWX9 tyX9 tyX9_ok nmX9 hown hG hP hD hS 0 rfl rfl 6 (nle rfl) (hts _ (List.mem_cons_of_mem _ (List.mem_append_left _ (List.mem_of_getElem? (i := 3) rfl)))) rfl rfl rfl rfl (nle rfl) dX9_restoreSnapshot_47 (fun H locs (hP : va_P g.1 vwCl (w_X9_restoreSnapshot g a0 a1 a2 a3 u0_1 u0_2 u0_3 u0_8 u0_9 u0_10 u0_11 u0_12 u0_13 u0_14 u0_15 u0_16 u0_17 u0_18 u0_19 u0_20 u0_21 u0_22 u0_23 u0_24 u0_25 u0_26 u0_27 u0_28 u0_29 u0_30 0 x0_thrown_1 y1_isKept y2_kept y3_s_1) H) (hD : va_D A (w_X9_restoreSnapshot g a0 a1 a2 a3 u0_1 u0_2 u0_3 u0_8 u0_9 u0_10 u0_11 u0_12 u0_13 u0_14 u0_15 u0_16 u0_17 u0_18 u0_19 u0_20 u0_21 u0_22 u0_23 u0_24 u0_25 u0_26 u0_27 u0_28 u0_29 u0_30 0 x0_thrown_1 y1_isKept y2_kept y3_s_1)) hS => ?_)
      refine lv_aload_n (pc := 50) hexec hb dX9_restoreSnapshot_50 rfl (lv_at hl 0 rfl) ?_
      refine kg_get (pc := 51) hexec hb (own := RX9) hWX9 hown hG hP 0 rfl rfl 0 (nle rfl) (hts _ (List.mem_cons_of_mem _ (List.mem_append_left _ (List.mem_of_getElem? (i := 2) rfl)))) rfl rfl dX9_restoreSnapshot_51 ?_
      refine lv_iconst (pc := 54) hexec hb dX9_restoreSnapshot_54 ki_2 ?_
      refine kr_iald (pc := 55) hexec hb hG hP 3 rfl hf dX9_restoreSnapshot_55 (fun hf => ?_)
      cases hf
      exact ke_i hQ hexec hb hr hP hD hS dX9_restoreSnapshot_56 hlocks
    · refine lv_iconst (pc := 26) hexec hb dX9_restoreSnapshot_26 ki_m1 ?_
      cases hf
      exact ke_i hQ hexec hb hr hP hD hS dX9_restoreSnapshot_27 hlocks
  · refine lv_iconst (pc := 15) hexec hb dX9_restoreSnapshot_15 ki_0 ?_
    cases hf
    exact ke_i hQ hexec hb hr hP hD hS dX9_restoreSnapshot_16 hlocks
