theorem exN_fit : ∀ n ∈ exNs, Bundle.fit n = true := by decide +kernel
theorem ex_in_a : ∀ w ∈ (vx_atS RX8 158 "java/lang/IllegalArgumentException" exNs).filter (fun w => !goodWord w), w ∈ exW := fun w h => List.mem_append_right _ h
theorem ex_gd_a_154 : ∀ w ∈ Cond.classLink RX8 154 "java/lang/IllegalArgumentException" :: Cond.initialized "java/lang/IllegalArgumentException" :: vx_atS RX8 158 "java/lang/IllegalArgumentException" exNs, vx_ot w = true := by decide +kernel
theorem ex_in_o : ∀ w ∈ (vx_atS RX8 326 "java/lang/IndexOutOfBoundsException" exNs).filter (fun w => !goodWord w), w ∈ exW := fun w h => List.mem_append_left _ h
theorem ex_gd_o_322 : ∀ w ∈ Cond.classLink RX8 322 "java/lang/IndexOutOfBoundsException" :: Cond.initialized "java/lang/IndexOutOfBoundsException" :: vx_atS RX8 326 "java/lang/IndexOutOfBoundsException" exNs, vx_ot w = true := by decide +kernel
set_option maxRecDepth 20000 in
theorem x_X8_size (l : Launch) (hlt : l.stackTraces = false) (g : GE) (a0 a1 a2 a3 a4 a5 a6 a7 : Nat) (sz : Nat) (u0_2 u0_3 u0_4 u0_5 u0_6 u0_7 u0_8 u0_9 u1_0 u1_1 u2_3 u2_4 u3_4 u3_5 u4_2 u4_4 u4_5 u5_4 : Value) (x1_count : Int32) (x3_rows : Int32) (x3_columns : Int32) (x3_rivers : Int32) (x4_count : Int32) (x4_reds : Int32) (x5_count : Int32) (x5_next : Int32) (x5_turn : Int32) (x5_quarters : Int32) (y6_land : Nat → Int32) (y7_direction : Nat → Int32) (p1 : Int32) (cls : String) (hf : t_X8_size x1_count x3_rows x3_columns x3_rivers x4_count x4_reds x5_count x5_next x5_turn x5_quarters y6_land y7_direction p1 = some cls) : MX l g yX8_size wsX8_size 6 100 [.ref a0, .int p1] (w_X8_size g a0 a1 a2 a3 a4 a5 a6 a7 u0_2 u0_3 u0_4 u0_5 u0_6 u0_7 u0_8 u0_9 u1_0 u1_1 u2_3 u2_4 u3_4 u3_5 u4_2 u4_4 u4_5 u5_4 x1_count x3_rows x3_columns x3_rivers x4_count x4_reds x5_count x5_next x5_turn x5_quarters y6_land y7_direction) sz cls := by
  refine MX.start (cc := cX8_size) (maxL := 2) (ret := (some .int)) rfl rfl (nle rfl) ?_
  intro p e s m args below meth c A ls Q hQ hexec hb hr hts hown hlocks hml hex hA hP hD hG hS hl
  unfold t_X8_size at hf
  have hWX1 : ∀ w ∈ wsX10, w.before args s = true := fun w h => hts w (List.mem_cons_of_mem _ (List.mem_append_left _ (List.mem_append_left _ (List.mem_append_left _ (List.mem_append_left _ (List.mem_append_right _ h))))))
  have hWX2 : ∀ w ∈ wsX20, w.before args s = true := fun w h => hts w (List.mem_cons_of_mem _ (List.mem_append_left _ (List.mem_append_left _ (List.mem_append_left _ (List.mem_append_right _ h)))))
  have hWX3 : ∀ w ∈ wsX30, w.before args s = true := fun w h => hts w (List.mem_cons_of_mem _ (List.mem_append_left _ (List.mem_append_right _ h)))
  have hWX4 : ∀ w ∈ wsX40, w.before args s = true := fun w h => hts w (List.mem_cons_of_mem _ (List.mem_append_left _ (List.mem_append_left _ (List.mem_append_right _ h))))
  have hWX6 : ∀ w ∈ wsX60, w.before args s = true := fun w h => hts w (List.mem_cons_of_mem _ (List.mem_append_left _ (List.mem_append_left _ (List.mem_append_left _ (List.mem_append_left _ (List.mem_append_left _ (List.mem_append_right _ h)))))))
  have hWX8 : ∀ w ∈ wsX80, w.before args s = true := fun w h => hts w (List.mem_cons_of_mem _ (List.mem_append_left _ (List.mem_append_left _ (List.mem_append_left _ (List.mem_append_left _ (List.mem_append_left _ (List.mem_append_left _ (List.mem_append_right _ h))))))))
  refine lv_iload_n (pc := 0) hexec hb dX8_size_0 rfl (lv_at hl 1 rfl) ?_
  rcases ite_or hf with ⟨hc0, hf⟩ | ⟨hc0, hf⟩
  · refine lv_tableIn (pc := 1) hexec hb dX8_size_1 (by rw [hc0]; decide) (by rw [hc0]; decide) (by rw [hc0]; rfl) (tgt := 64) rfl ?_
    cases hf
  rcases ite_or hf with ⟨hc1, hf⟩ | ⟨hc1, hf⟩
  · refine lv_tableIn (pc := 1) hexec hb dX8_size_1 (by rw [hc1]; decide) (by rw [hc1]; decide) (by rw [hc1]; rfl) (tgt := 75) rfl ?_
    cases hf
  rcases ite_or hf with ⟨hc2, hf⟩ | ⟨hc2, hf⟩
  · refine lv_tableIn (pc := 1) hexec hb dX8_size_1 (by rw [hc2]; decide) (by rw [hc2]; decide) (by rw [hc2]; rfl) (tgt := 86) rfl ?_
    cases hf
  rcases ite_or hf with ⟨hc3, hf⟩ | ⟨hc3, hf⟩
  · refine lv_tableIn (pc := 1) hexec hb dX8_size_1 (by rw [hc3]; decide) (by rw [hc3]; decide) (by rw [hc3]; rfl) (tgt := 97) rfl ?_
    cases hf
  rcases ite_or hf with ⟨hc4, hf⟩ | ⟨hc4, hf⟩
  · refine lv_tableIn (pc := 1) hexec hb dX8_size_1 (by rw [hc4]; decide) (by rw [hc4]; decide) (by rw [hc4]; rfl) (tgt := 108) rfl ?_
    cases hf
  rcases ite_or hf with ⟨hc5, hf⟩ | ⟨hc5, hf⟩
  · refine lv_tableIn (pc := 1) hexec hb dX8_size_1 (by rw [hc5]; decide) (by rw [hc5]; decide) (by rw [hc5]; rfl) (tgt := 119) rfl ?_
    cases hf
  rcases ite_or hf with ⟨hc6, hf⟩ | ⟨hc6, hf⟩
  · refine lv_tableIn (pc := 1) hexec hb dX8_size_1 (by rw [hc6]; decide) (by rw [hc6]; decide) (by rw [hc6]; rfl) (tgt := 133) rfl ?_
    cases hf
  rcases ite_or hf with ⟨hc7, hf⟩ | ⟨hc7, hf⟩
  · refine lv_tableIn (pc := 1) hexec hb dX8_size_1 (by rw [hc7]; decide) (by rw [hc7]; decide) (by rw [hc7]; rfl) (tgt := 158) rfl ?_
    cases hf
  rcases ite_or hf with ⟨hc8, hf⟩ | ⟨hc8, hf⟩
  · refine lv_tableIn (pc := 1) hexec hb dX8_size_1 (by rw [hc8]; decide) (by rw [hc8]; decide) (by rw [hc8]; rfl) (tgt := 169) rfl ?_
    cases hf
  rcases ite_or hf with ⟨hc9, hf⟩ | ⟨hc9, hf⟩
  · refine lv_tableIn (pc := 1) hexec hb dX8_size_1 (by rw [hc9]; decide) (by rw [hc9]; decide) (by rw [hc9]; rfl) (tgt := 180) rfl ?_
    cases hf
  rcases ite_or hf with ⟨hc10, hf⟩ | ⟨hc10, hf⟩
  · refine lv_tableIn (pc := 1) hexec hb dX8_size_1 (by rw [hc10]; decide) (by rw [hc10]; decide) (by rw [hc10]; rfl) (tgt := 191) rfl ?_
    cases hf
  rcases ite_or hf with ⟨hc11, hf⟩ | ⟨hc11, hf⟩
  · refine lv_tableIn (pc := 1) hexec hb dX8_size_1 (by rw [hc11]; decide) (by rw [hc11]; decide) (by rw [hc11]; rfl) (tgt := 202) rfl ?_
    cases hf
  refine lv_tableOut (pc := 1) hexec hb dX8_size_1 (by have h0 : ¬ (p1).toInt = 0 := fun h => hc0 (Int32.toInt_inj.mp (h.trans (by decide))); have h1 : ¬ (p1).toInt = 1 := fun h => hc1 (Int32.toInt_inj.mp (h.trans (by decide))); have h2 : ¬ (p1).toInt = 2 := fun h => hc2 (Int32.toInt_inj.mp (h.trans (by decide))); have h3 : ¬ (p1).toInt = 3 := fun h => hc3 (Int32.toInt_inj.mp (h.trans (by decide))); have h4 : ¬ (p1).toInt = 4 := fun h => hc4 (Int32.toInt_inj.mp (h.trans (by decide))); have h5 : ¬ (p1).toInt = 5 := fun h => hc5 (Int32.toInt_inj.mp (h.trans (by decide))); have h6 : ¬ (p1).toInt = 6 := fun h => hc6 (Int32.toInt_inj.mp (h.trans (by decide))); have h7 : ¬ (p1).toInt = 7 := fun h => hc7 (Int32.toInt_inj.mp (h.trans (by decide))); have h8 : ¬ (p1).toInt = 8 := fun h => hc8 (Int32.toInt_inj.mp (h.trans (by decide))); have h9 : ¬ (p1).toInt = 9 := fun h => hc9 (Int32.toInt_inj.mp (h.trans (by decide))); have h10 : ¬ (p1).toInt = 10 := fun h => hc10 (Int32.toInt_inj.mp (h.trans (by decide))); have h11 : ¬ (p1).toInt = 11 := fun h => hc11 (Int32.toInt_inj.mp (h.trans (by decide))); omega) (tgt := 210) rfl ?_
  cases hf
  exact kx_throw (pc := 210) (own := RX8) hQ hexec hb hlt hown (by decide +kernel) exN_fit (hts _ (List.mem_cons_of_mem _ (List.mem_append_left _ (List.mem_append_left _ (List.mem_append_left _ (List.mem_append_left _ (List.mem_append_left _ (List.mem_append_left _ (List.mem_append_left _ (List.mem_append_left _ (List.mem_of_getElem? (i := 0) rfl))))))))))) (hts _ (List.mem_cons_of_mem _ (List.mem_append_left _ (List.mem_append_left _ (List.mem_append_left _ (List.mem_append_left _ (List.mem_append_left _ (List.mem_append_left _ (List.mem_append_left _ (List.mem_append_left _ (List.mem_of_getElem? (i := 1) rfl))))))))))) hG 12 12 rfl (fun w h => hts w (List.mem_cons_of_mem _ (List.mem_append_right _ h))) ex_in_a (ex_gd_a_154) hP hD hS (hl.1.trans hml.symm) hex dX8_size_210 dX8_size_213 dX8_size_214 dX8_size_216 dX8_size_219 ⟨nle rfl, nle rfl, nle rfl, nle rfl⟩ rfl hlocks
set_option maxRecDepth 20000 in
theorem x_X8_needCell (l : Launch) (hlt : l.stackTraces = false) (g : GE) (a0 a1 a2 : Nat) (sz : Nat) (u0_1 u0_2 u0_3 u0_4 u0_5 u0_6 u0_7 u0_8 u0_9 u1_1 u1_2 u1_3 u1_4 u2_2 u2_3 u2_4 u2_5 : Value) (x2_rows : Int32) (x2_columns : Int32) (p1 : Int32) (cls : String) (hf : t_X8_needCell x2_rows x2_columns p1 = some cls) : MX l g yX8_needCell wsX8_needCell 6 100 [.ref a0, .int p1] (w_X8_needCell g a0 a1 a2 u0_1 u0_2 u0_3 u0_4 u0_5 u0_6 u0_7 u0_8 u0_9 u1_1 u1_2 u1_3 u1_4 u2_2 u2_3 u2_4 u2_5 x2_rows x2_columns) sz cls := by
  refine MX.start (cc := cX8_needCell) (maxL := 2) (ret := none) rfl rfl (nle rfl) ?_
  intro p e s m args below meth c A ls Q hQ hexec hb hr hts hown hlocks hml hex hA hP hD hG hS hl
  unfold t_X8_needCell at hf
  have hWX1 : ∀ w ∈ wsX10, w.before args s = true := fun w h => hts w (List.mem_cons_of_mem _ (List.mem_append_left _ (List.mem_append_right _ h)))
  have hWX6 : ∀ w ∈ wsX60, w.before args s = true := fun w h => hts w (List.mem_cons_of_mem _ (List.mem_append_left _ (List.mem_append_left _ (List.mem_append_right _ h))))
  have hWX8 : ∀ w ∈ wsX80, w.before args s = true := fun w h => hts w (List.mem_cons_of_mem _ (List.mem_append_left _ (List.mem_append_left _ (List.mem_append_left _ (List.mem_append_right _ h)))))
  refine lv_iload_n (pc := 0) hexec hb dX8_needCell_0 rfl (lv_at hl 1 rfl) ?_
  obtain ⟨j18, ej18, hf⟩ := bvf1 hf
  have hj18 : ∀ (u : Unit) (H : Heap) (locs : List Loc) (ls : Array Slot), j18 u = some cls → va_P g.1 vwCl (w_X8_needCell g a0 a1 a2 u0_1 u0_2 u0_3 u0_4 u0_5 u0_6 u0_7 u0_8 u0_9 u1_1 u1_2 u1_3 u1_4 u2_2 u2_3 u2_4 u2_5 x2_rows x2_columns) H → va_D A (w_X8_needCell g a0 a1 a2 u0_1 u0_2 u0_3 u0_4 u0_5 u0_6 u0_7 u0_8 u0_9 u1_1 u1_2 u1_3 u1_4 u2_2 u2_3 u2_4 u2_5 x2_rows x2_columns) → va_S A s.heap H locs → lv_has ls 2 [] → W p l e (RXh 6 100) s m args below meth c H locs 0 0 Q (F0 m 18 ls []) := by
    intro u H locs ls hf hP hD hS hl
    have hf := (ej18 u).symm.trans hf
    cases hf
    exact kx_throww (pc := 18) (own := RX8) hQ hexec hb hlt hown (by decide +kernel) exN_fit (hts _ (List.mem_cons_of_mem _ (List.mem_append_left _ (List.mem_append_left _ (List.mem_append_left _ (List.mem_append_left _ (List.mem_of_getElem? (i := 0) rfl))))))) (hts _ (List.mem_cons_of_mem _ (List.mem_append_left _ (List.mem_append_left _ (List.mem_append_left _ (List.mem_append_left _ (List.mem_of_getElem? (i := 1) rfl))))))) hG 13 13 rfl (fun w h => hts w (List.mem_cons_of_mem _ (List.mem_append_right _ h))) ex_in_o (ex_gd_o_322) hP hD hS (hl.1.trans hml.symm) hex dX8_needCell_18 dX8_needCell_21 dX8_needCell_22 dX8_needCell_25 dX8_needCell_28 ⟨nle rfl, nle rfl, nle rfl, nle rfl⟩ rfl hlocks
  refine kb_lt (pc := 1) hexec hb dX8_needCell_1 (tgt := 18) rfl hf (fun hc hf => ?_) (fun hc hf => ?_)
  · exact hj18 _ _ _ _ hf hP hD hS (lv_sub hl [] rfl)
  · refine lv_iload_n (pc := 4) hexec hb dX8_needCell_4 rfl (lv_at hl 1 rfl) ?_
    refine lv_aload_n (pc := 5) hexec hb dX8_needCell_5 rfl (lv_at hl 0 rfl) ?_
    refine kg_get (pc := 6) hexec hb (own := RX8) hWX8 hown hG hP 0 rfl rfl 0 (nle rfl) (hts _ (List.mem_cons_of_mem _ (List.mem_append_left _ (List.mem_append_left _ (List.mem_append_left _ (List.mem_append_left _ (List.mem_of_getElem? (i := 2) rfl))))))) rfl rfl dX8_needCell_6 ?_
    refine kg_getN (pc := 9) hexec hb (own := RX8) hWX6 hown hG hP 1 rfl rfl 0 (nle rfl) 21 rfl rfl rfl dX8_needCell_9 ?_
    obtain ⟨r12, hc, hf⟩ := bd1_e hf
    refine kVp (pc := 12) (S := ⟨hexec, hb, hml, hown, hts⟩) hP hD hG hA hS [2] [0, 1] [0, 1, 2] (w2 := (w_X8_needCell g a0 a1 a2 u0_1 u0_2 u0_3 u0_4 u0_5 u0_6 u0_7 u0_8 u0_9 u1_1 u1_2 u1_3 u1_4 u2_2 u2_3 u2_4 u2_5 x2_rows x2_columns)) rfl rfl rfl rfl rfl rfl (by decide) (c_X1_cells l g a2 _ u2_2 u2_3 u2_4 u2_5 x2_rows x2_columns r12 hc) gX8_needCell_X1_cells rfl hv_X1_cells ⟨nle rfl, nle rfl⟩ 1 0 rfl rfl rfl (rest := [.int p1]) rfl rfl hl.1 (nle rfl) dX8_needCell_12 (fun H locs hP hD hS => ?_)
    refine ki_lt (pc := 15) hexec hb dX8_needCell_15 (tgt := 29) rfl hf (fun hc hf => ?_) (fun hc hf => ?_)
    · cases hf
    · exact hj18 _ _ _ _ hf hP hD hS (lv_sub hl [] rfl)
set_option maxRecDepth 20000 in
theorem x_X8_cell (l : Launch) (hlt : l.stackTraces = false) (g : GE) (a0 a1 a2 a3 a4 a5 a6 a7 a8 : Nat) (sz : Nat) (u0_1 u0_2 u0_3 u0_4 u0_5 u0_6 u0_7 u0_8 u0_9 u1_2 u2_2 u2_5 u3_1 u3_3 u3_4 u3_5 : Value) (x2_rows : Int32) (x2_columns : Int32) (x3_count : Int32) (y4_letterOn : Nat → Int32) (y5_namesOn : Nat → Int32) (y6_land : Nat → Int32) (y7_riverOf : Nat → Int32) (y8_home : Nat → Int32) (p1 : Int32) (p2 : Int32) (cls : String) (hf : t_X8_cell x2_rows x2_columns x3_count y4_letterOn y5_namesOn y6_land y7_riverOf y8_home p1 p2 = some cls) : MX l g yX8_cell wsX8_cell 7 121 [.ref a0, .int p1, .int p2] (w_X8_cell g a0 a1 a2 a3 a4 a5 a6 a7 a8 u0_1 u0_2 u0_3 u0_4 u0_5 u0_6 u0_7 u0_8 u0_9 u1_2 u2_2 u2_5 u3_1 u3_3 u3_4 u3_5 x2_rows x2_columns x3_count y4_letterOn y5_namesOn y6_land y7_riverOf y8_home) sz cls := by
  refine MX.start (cc := cX8_cell) (maxL := 3) (ret := (some .int)) rfl rfl (nle rfl) ?_
  intro p e s m args below meth c A ls Q hQ hexec hb hr hts hown hlocks hml hex hA hP hD hG hS hl
  unfold t_X8_cell at hf
  have hWX1 : ∀ w ∈ wsX10, w.before args s = true := fun w h => hts w (List.mem_cons_of_mem _ (List.mem_append_left _ (List.mem_append_left _ (List.mem_append_left _ (List.mem_append_right _ h)))))
  have hWX2 : ∀ w ∈ wsX20, w.before args s = true := fun w h => hts w (List.mem_cons_of_mem _ (List.mem_append_left _ (List.mem_append_left _ (List.mem_append_right _ h))))
  have hWX6 : ∀ w ∈ wsX60, w.before args s = true := fun w h => hts w (List.mem_cons_of_mem _ (List.mem_append_left _ (List.mem_append_left _ (List.mem_append_left _ (List.mem_append_left _ (List.mem_append_right _ h))))))
  have hWX8 : ∀ w ∈ wsX80, w.before args s = true := fun w h => hts w (List.mem_cons_of_mem _ (List.mem_append_left _ (List.mem_append_left _ (List.mem_append_left _ (List.mem_append_left _ (List.mem_append_left _ (List.mem_append_right _ h)))))))
  refine lv_aload_n (pc := 0) hexec hb dX8_cell_0 rfl (lv_at hl 0 rfl) ?_
  refine lv_iload_n (pc := 1) hexec hb dX8_cell_1 rfl (lv_at hl 1 rfl) ?_
  rcases tx_e hf with hc | ⟨-, hf⟩
  · exact kVx (pc := 2) (S := ⟨hexec, hb, hml, hown, hts⟩) hP hD hG hA hS [0, 1, 2] [3, 4, 5, 6, 7, 8] [6, 7, 8, 0, 1, 2, 3, 4, 5] rfl rfl rfl rfl rfl rfl (by decide) (x_X8_needCell l hlt g a0 a1 a2 _ u0_1 u0_2 u0_3 u0_4 u0_5 u0_6 u0_7 u0_8 u0_9 (.ref a3) u1_2 (.ref a5) (.ref a4) u2_2 (.ref a6) (.ref a7) u2_5 x2_rows x2_columns p1 _ hc) gX8_cell_X8_needCell rfl hv_X8_needCell ⟨nle rfl, nle rfl⟩ 8 0 rfl rfl rfl (rest := []) rfl rfl hl.1 (nle rfl) dX8_cell_2 ⟨nle rfl, nle rfl⟩ (fun H locs q ce hP hD hS hce hcv hcl => kx_out hQ hex hlocks hP hD hS hce hcv hcl)
  obtain ⟨_, hc, hf⟩ := bd1_e hf
  refine kVp (pc := 2) (S := ⟨hexec, hb, hml, hown, hts⟩) hP hD hG hA hS [0, 1, 2] [3, 4, 5, 6, 7, 8] [6, 7, 8, 0, 1, 2, 3, 4, 5] (w2 := (w_X8_cell g a0 a1 a2 a3 a4 a5 a6 a7 a8 u0_1 u0_2 u0_3 u0_4 u0_5 u0_6 u0_7 u0_8 u0_9 u1_2 u2_2 u2_5 u3_1 u3_3 u3_4 u3_5 x2_rows x2_columns x3_count y4_letterOn y5_namesOn y6_land y7_riverOf y8_home)) rfl rfl rfl rfl rfl rfl (by decide) (c_X8_needCell l g a0 a1 a2 _ u0_1 u0_2 u0_3 u0_4 u0_5 u0_6 u0_7 u0_8 u0_9 (.ref a3) u1_2 (.ref a5) (.ref a4) u2_2 (.ref a6) (.ref a7) u2_5 x2_rows x2_columns p1 hc) gX8_cell_X8_needCell rfl hv_X8_needCell ⟨nle rfl, nle rfl⟩ 8 0 rfl rfl rfl (rest := []) rfl rfl hl.1 (nle rfl) dX8_cell_2 (fun H locs hP hD hS => ?_)
  refine lv_iload_n (pc := 5) hexec hb dX8_cell_5 rfl (lv_at hl 2 rfl) ?_
  rcases ite_or hf with ⟨hc0, hf⟩ | ⟨hc0, hf⟩
  · refine lv_tableIn (pc := 6) hexec hb dX8_cell_6 (by rw [hc0]; decide) (by rw [hc0]; decide) (by rw [hc0]; rfl) (tgt := 44) rfl ?_
    cases hf
  rcases ite_or hf with ⟨hc1, hf⟩ | ⟨hc1, hf⟩
  · refine lv_tableIn (pc := 6) hexec hb dX8_cell_6 (by rw [hc1]; decide) (by rw [hc1]; decide) (by rw [hc1]; rfl) (tgt := 82) rfl ?_
    cases hf
  rcases ite_or hf with ⟨hc2, hf⟩ | ⟨hc2, hf⟩
  · refine lv_tableIn (pc := 6) hexec hb dX8_cell_6 (by rw [hc2]; decide) (by rw [hc2]; decide) (by rw [hc2]; rfl) (tgt := 94) rfl ?_
    cases hf
  rcases ite_or hf with ⟨hc3, hf⟩ | ⟨hc3, hf⟩
  · refine lv_tableIn (pc := 6) hexec hb dX8_cell_6 (by rw [hc3]; decide) (by rw [hc3]; decide) (by rw [hc3]; rfl) (tgt := 106) rfl ?_
    cases hf
  rcases ite_or hf with ⟨hc4, hf⟩ | ⟨hc4, hf⟩
  · refine lv_tableIn (pc := 6) hexec hb dX8_cell_6 (by rw [hc4]; decide) (by rw [hc4]; decide) (by rw [hc4]; rfl) (tgt := 115) rfl ?_
    cases hf
  rcases ite_or hf with ⟨hc5, hf⟩ | ⟨hc5, hf⟩
  · refine lv_tableIn (pc := 6) hexec hb dX8_cell_6 (by rw [hc5]; decide) (by rw [hc5]; decide) (by rw [hc5]; rfl) (tgt := 124) rfl ?_
    cases hf
  refine lv_tableOut (pc := 6) hexec hb dX8_cell_6 (by have h0 : ¬ (p2).toInt = 0 := fun h => hc0 (Int32.toInt_inj.mp (h.trans (by decide))); have h1 : ¬ (p2).toInt = 1 := fun h => hc1 (Int32.toInt_inj.mp (h.trans (by decide))); have h2 : ¬ (p2).toInt = 2 := fun h => hc2 (Int32.toInt_inj.mp (h.trans (by decide))); have h3 : ¬ (p2).toInt = 3 := fun h => hc3 (Int32.toInt_inj.mp (h.trans (by decide))); have h4 : ¬ (p2).toInt = 4 := fun h => hc4 (Int32.toInt_inj.mp (h.trans (by decide))); have h5 : ¬ (p2).toInt = 5 := fun h => hc5 (Int32.toInt_inj.mp (h.trans (by decide))); omega) (tgt := 136) rfl ?_
  cases hf
  exact kx_throw (pc := 136) (own := RX8) hQ hexec hb hlt hown (by decide +kernel) exN_fit (hts _ (List.mem_cons_of_mem _ (List.mem_append_left _ (List.mem_append_left _ (List.mem_append_left _ (List.mem_append_left _ (List.mem_append_left _ (List.mem_append_left _ (List.mem_append_left _ (List.mem_of_getElem? (i := 0) rfl)))))))))) (hts _ (List.mem_cons_of_mem _ (List.mem_append_left _ (List.mem_append_left _ (List.mem_append_left _ (List.mem_append_left _ (List.mem_append_left _ (List.mem_append_left _ (List.mem_append_left _ (List.mem_of_getElem? (i := 1) rfl)))))))))) hG 14 14 rfl (fun w h => hts w (List.mem_cons_of_mem _ (List.mem_append_left _ (List.mem_append_right _ h)))) ex_in_a (ex_gd_a_154) hP hD hS (hl.1.trans hml.symm) hex dX8_cell_136 dX8_cell_139 dX8_cell_140 dX8_cell_142 dX8_cell_145 ⟨nle rfl, nle rfl, nle rfl, nle rfl⟩ rfl hlocks
set_option maxRecDepth 20000 in
theorem x_X8_needHarbour (l : Launch) (hlt : l.stackTraces = false) (g : GE) (a0 a1 a2 : Nat) (sz : Nat) (u0_1 u0_2 u0_3 u0_4 u0_5 u0_6 u0_7 u0_8 u0_9 u1_0 u1_2 u1_3 u1_4 u2_1 u2_2 u2_3 u2_4 u2_5 : Value) (x2_count : Int32) (p1 : Int32) (cls : String) (hf : t_X8_needHarbour x2_count p1 = some cls) : MX l g yX8_needHarbour wsX8_needHarbour 6 100 [.ref a0, .int p1] (w_X8_needHarbour g a0 a1 a2 u0_1 u0_2 u0_3 u0_4 u0_5 u0_6 u0_7 u0_8 u0_9 u1_0 u1_2 u1_3 u1_4 u2_1 u2_2 u2_3 u2_4 u2_5 x2_count) sz cls := by
  refine MX.start (cc := cX8_needHarbour) (maxL := 2) (ret := none) rfl rfl (nle rfl) ?_
  intro p e s m args below meth c A ls Q hQ hexec hb hr hts hown hlocks hml hex hA hP hD hG hS hl
  unfold t_X8_needHarbour at hf
  have hWX2 : ∀ w ∈ wsX20, w.before args s = true := fun w h => hts w (List.mem_cons_of_mem _ (List.mem_append_left _ (List.mem_append_right _ h)))
  have hWX6 : ∀ w ∈ wsX60, w.before args s = true := fun w h => hts w (List.mem_cons_of_mem _ (List.mem_append_left _ (List.mem_append_left _ (List.mem_append_right _ h))))
  have hWX8 : ∀ w ∈ wsX80, w.before args s = true := fun w h => hts w (List.mem_cons_of_mem _ (List.mem_append_left _ (List.mem_append_left _ (List.mem_append_left _ (List.mem_append_right _ h)))))
  refine lv_iload_n (pc := 0) hexec hb dX8_needHarbour_0 rfl (lv_at hl 1 rfl) ?_
  obtain ⟨j18, ej18, hf⟩ := bvf1 hf
  have hj18 : ∀ (u : Unit) (H : Heap) (locs : List Loc) (ls : Array Slot), j18 u = some cls → va_P g.1 vwCl (w_X8_needHarbour g a0 a1 a2 u0_1 u0_2 u0_3 u0_4 u0_5 u0_6 u0_7 u0_8 u0_9 u1_0 u1_2 u1_3 u1_4 u2_1 u2_2 u2_3 u2_4 u2_5 x2_count) H → va_D A (w_X8_needHarbour g a0 a1 a2 u0_1 u0_2 u0_3 u0_4 u0_5 u0_6 u0_7 u0_8 u0_9 u1_0 u1_2 u1_3 u1_4 u2_1 u2_2 u2_3 u2_4 u2_5 x2_count) → va_S A s.heap H locs → lv_has ls 2 [] → W p l e (RXh 6 100) s m args below meth c H locs 0 0 Q (F0 m 18 ls []) := by
    intro u H locs ls hf hP hD hS hl
    have hf := (ej18 u).symm.trans hf
    cases hf
    exact kx_throww (pc := 18) (own := RX8) hQ hexec hb hlt hown (by decide +kernel) exN_fit (hts _ (List.mem_cons_of_mem _ (List.mem_append_left _ (List.mem_append_left _ (List.mem_append_left _ (List.mem_append_left _ (List.mem_of_getElem? (i := 0) rfl))))))) (hts _ (List.mem_cons_of_mem _ (List.mem_append_left _ (List.mem_append_left _ (List.mem_append_left _ (List.mem_append_left _ (List.mem_of_getElem? (i := 1) rfl))))))) hG 15 15 rfl (fun w h => hts w (List.mem_cons_of_mem _ (List.mem_append_right _ h))) ex_in_o (ex_gd_o_322) hP hD hS (hl.1.trans hml.symm) hex dX8_needHarbour_18 dX8_needHarbour_21 dX8_needHarbour_22 dX8_needHarbour_25 dX8_needHarbour_28 ⟨nle rfl, nle rfl, nle rfl, nle rfl⟩ rfl hlocks
  refine kb_lt (pc := 1) hexec hb dX8_needHarbour_1 (tgt := 18) rfl hf (fun hc hf => ?_) (fun hc hf => ?_)
  · exact hj18 _ _ _ _ hf hP hD hS (lv_sub hl [] rfl)
  · refine lv_iload_n (pc := 4) hexec hb dX8_needHarbour_4 rfl (lv_at hl 1 rfl) ?_
    refine lv_aload_n (pc := 5) hexec hb dX8_needHarbour_5 rfl (lv_at hl 0 rfl) ?_
    refine kg_get (pc := 6) hexec hb (own := RX8) hWX8 hown hG hP 0 rfl rfl 0 (nle rfl) (hts _ (List.mem_cons_of_mem _ (List.mem_append_left _ (List.mem_append_left _ (List.mem_append_left _ (List.mem_append_left _ (List.mem_of_getElem? (i := 2) rfl))))))) rfl rfl dX8_needHarbour_6 ?_
    refine kg_getN (pc := 9) hexec hb (own := RX8) hWX6 hown hG hP 1 rfl rfl 1 (nle rfl) 24 rfl rfl rfl dX8_needHarbour_9 ?_
    refine kg_getN (pc := 12) hexec hb (own := RX8) hWX2 hown hG hP 2 rfl rfl 0 (nle rfl) 6 rfl rfl rfl dX8_needHarbour_12 ?_
    refine ki_lt (pc := 15) hexec hb dX8_needHarbour_15 (tgt := 29) rfl hf (fun hc hf => ?_) (fun hc hf => ?_)
    · cases hf
    · exact hj18 _ _ _ _ hf hP hD hS (lv_sub hl [] rfl)
set_option maxRecDepth 20000 in
theorem x_X8_harbour (l : Launch) (hlt : l.stackTraces = false) (g : GE) (a0 a1 a2 a3 a4 a5 a6 a7 : Nat) (sz : Nat) (u0_1 u0_2 u0_3 u0_4 u0_5 u0_6 u0_7 u0_8 u0_9 u1_0 u1_3 u1_4 u2_5 u3_1 u3_2 u3_3 : Value) (x2_count : Int32) (x2_reds : Int32) (x3_count : Int32) (y4_direction : Nat → Int32) (y5_home : Nat → Int32) (y6_length : Nat → Int32) (y7_stops : Nat → Int32) (p1 : Int32) (p2 : Int32) (cls : String) (hf : t_X8_harbour x2_count x2_reds x3_count y4_direction y5_home y6_length y7_stops p1 p2 = some cls) : MX l g yX8_harbour wsX8_harbour 7 121 [.ref a0, .int p1, .int p2] (w_X8_harbour g a0 a1 a2 a3 a4 a5 a6 a7 u0_1 u0_2 u0_3 u0_4 u0_5 u0_6 u0_7 u0_8 u0_9 u1_0 u1_3 u1_4 u2_5 u3_1 u3_2 u3_3 x2_count x2_reds x3_count y4_direction y5_home y6_length y7_stops) sz cls := by
  refine MX.start (cc := cX8_harbour) (maxL := 3) (ret := (some .int)) rfl rfl (nle rfl) ?_
  intro p e s m args below meth c A ls Q hQ hexec hb hr hts hown hlocks hml hex hA hP hD hG hS hl
  unfold t_X8_harbour at hf
  have hWX2 : ∀ w ∈ wsX20, w.before args s = true := fun w h => hts w (List.mem_cons_of_mem _ (List.mem_append_left _ (List.mem_append_left _ (List.mem_append_left _ (List.mem_append_right _ h)))))
  have hWX4 : ∀ w ∈ wsX40, w.before args s = true := fun w h => hts w (List.mem_cons_of_mem _ (List.mem_append_left _ (List.mem_append_left _ (List.mem_append_right _ h))))
  have hWX6 : ∀ w ∈ wsX60, w.before args s = true := fun w h => hts w (List.mem_cons_of_mem _ (List.mem_append_left _ (List.mem_append_left _ (List.mem_append_left _ (List.mem_append_left _ (List.mem_append_right _ h))))))
  have hWX8 : ∀ w ∈ wsX80, w.before args s = true := fun w h => hts w (List.mem_cons_of_mem _ (List.mem_append_left _ (List.mem_append_left _ (List.mem_append_left _ (List.mem_append_left _ (List.mem_append_left _ (List.mem_append_right _ h)))))))
  refine lv_aload_n (pc := 0) hexec hb dX8_harbour_0 rfl (lv_at hl 0 rfl) ?_
  refine lv_iload_n (pc := 1) hexec hb dX8_harbour_1 rfl (lv_at hl 1 rfl) ?_
  rcases tx_e hf with hc | ⟨-, hf⟩
  · exact kVx (pc := 2) (S := ⟨hexec, hb, hml, hown, hts⟩) hP hD hG hA hS [0, 1, 2] [3, 4, 5, 6, 7] [5, 6, 7, 0, 1, 2, 3, 4] rfl rfl rfl rfl rfl rfl (by decide) (x_X8_needHarbour l hlt g a0 a1 a2 _ u0_1 u0_2 u0_3 u0_4 u0_5 u0_6 u0_7 u0_8 u0_9 u1_0 (.ref a3) u1_3 u1_4 (.int x2_reds) (.ref a5) (.ref a4) (.ref a6) u2_5 x2_count p1 _ hc) gX8_harbour_X8_needHarbour rfl hv_X8_needHarbour ⟨nle rfl, nle rfl⟩ 8 0 rfl rfl rfl (rest := []) rfl rfl hl.1 (nle rfl) dX8_harbour_2 ⟨nle rfl, nle rfl⟩ (fun H locs q ce hP hD hS hce hcv hcl => kx_out hQ hex hlocks hP hD hS hce hcv hcl)
  obtain ⟨_, hc, hf⟩ := bd1_e hf
  refine kVp (pc := 2) (S := ⟨hexec, hb, hml, hown, hts⟩) hP hD hG hA hS [0, 1, 2] [3, 4, 5, 6, 7] [5, 6, 7, 0, 1, 2, 3, 4] (w2 := (w_X8_harbour g a0 a1 a2 a3 a4 a5 a6 a7 u0_1 u0_2 u0_3 u0_4 u0_5 u0_6 u0_7 u0_8 u0_9 u1_0 u1_3 u1_4 u2_5 u3_1 u3_2 u3_3 x2_count x2_reds x3_count y4_direction y5_home y6_length y7_stops)) rfl rfl rfl rfl rfl rfl (by decide) (c_X8_needHarbour l g a0 a1 a2 _ u0_1 u0_2 u0_3 u0_4 u0_5 u0_6 u0_7 u0_8 u0_9 u1_0 (.ref a3) u1_3 u1_4 (.int x2_reds) (.ref a5) (.ref a4) (.ref a6) u2_5 x2_count p1 hc) gX8_harbour_X8_needHarbour rfl hv_X8_needHarbour ⟨nle rfl, nle rfl⟩ 8 0 rfl rfl rfl (rest := []) rfl rfl hl.1 (nle rfl) dX8_harbour_2 (fun H locs hP hD hS => ?_)
  refine lv_iload_n (pc := 5) hexec hb dX8_harbour_5 rfl (lv_at hl 2 rfl) ?_
  rcases ite_or hf with ⟨hc0, hf⟩ | ⟨hc0, hf⟩
  · refine lv_tableIn (pc := 6) hexec hb dX8_harbour_6 (by rw [hc0]; decide) (by rw [hc0]; decide) (by rw [hc0]; rfl) (tgt := 40) rfl ?_
    cases hf
  rcases ite_or hf with ⟨hc1, hf⟩ | ⟨hc1, hf⟩
  · refine lv_tableIn (pc := 6) hexec hb dX8_harbour_6 (by rw [hc1]; decide) (by rw [hc1]; decide) (by rw [hc1]; rfl) (tgt := 52) rfl ?_
    cases hf
  rcases ite_or hf with ⟨hc2, hf⟩ | ⟨hc2, hf⟩
  · refine lv_tableIn (pc := 6) hexec hb dX8_harbour_6 (by rw [hc2]; decide) (by rw [hc2]; decide) (by rw [hc2]; rfl) (tgt := 72) rfl ?_
    cases hf
  rcases ite_or hf with ⟨hc3, hf⟩ | ⟨hc3, hf⟩
  · refine lv_tableIn (pc := 6) hexec hb dX8_harbour_6 (by rw [hc3]; decide) (by rw [hc3]; decide) (by rw [hc3]; rfl) (tgt := 84) rfl ?_
    cases hf
  rcases ite_or hf with ⟨hc4, hf⟩ | ⟨hc4, hf⟩
  · refine lv_tableIn (pc := 6) hexec hb dX8_harbour_6 (by rw [hc4]; decide) (by rw [hc4]; decide) (by rw [hc4]; rfl) (tgt := 96) rfl ?_
    cases hf
  refine lv_tableOut (pc := 6) hexec hb dX8_harbour_6 (by have h0 : ¬ (p2).toInt = 0 := fun h => hc0 (Int32.toInt_inj.mp (h.trans (by decide))); have h1 : ¬ (p2).toInt = 1 := fun h => hc1 (Int32.toInt_inj.mp (h.trans (by decide))); have h2 : ¬ (p2).toInt = 2 := fun h => hc2 (Int32.toInt_inj.mp (h.trans (by decide))); have h3 : ¬ (p2).toInt = 3 := fun h => hc3 (Int32.toInt_inj.mp (h.trans (by decide))); have h4 : ¬ (p2).toInt = 4 := fun h => hc4 (Int32.toInt_inj.mp (h.trans (by decide))); omega) (tgt := 108) rfl ?_
  cases hf
  exact kx_throw (pc := 108) (own := RX8) hQ hexec hb hlt hown (by decide +kernel) exN_fit (hts _ (List.mem_cons_of_mem _ (List.mem_append_left _ (List.mem_append_left _ (List.mem_append_left _ (List.mem_append_left _ (List.mem_append_left _ (List.mem_append_left _ (List.mem_append_left _ (List.mem_of_getElem? (i := 0) rfl)))))))))) (hts _ (List.mem_cons_of_mem _ (List.mem_append_left _ (List.mem_append_left _ (List.mem_append_left _ (List.mem_append_left _ (List.mem_append_left _ (List.mem_append_left _ (List.mem_append_left _ (List.mem_of_getElem? (i := 1) rfl)))))))))) hG 16 16 rfl (fun w h => hts w (List.mem_cons_of_mem _ (List.mem_append_left _ (List.mem_append_right _ h)))) ex_in_a (ex_gd_a_154) hP hD hS (hl.1.trans hml.symm) hex dX8_harbour_108 dX8_harbour_111 dX8_harbour_112 dX8_harbour_114 dX8_harbour_117 ⟨nle rfl, nle rfl, nle rfl, nle rfl⟩ rfl hlocks
set_option maxRecDepth 20000 in
theorem x_X8_letter (l : Launch) (hlt : l.stackTraces = false) (g : GE) (a0 a1 a2 a3 a4 : Nat) (sz : Nat) (u0_1 u0_2 u0_3 u0_4 u0_5 u0_6 u0_7 u0_8 u0_9 u1_0 u1_2 u1_3 u1_4 u2_1 u2_2 u2_3 : Value) (x2_count : Int32) (y3_length : Nat → Int32) (y4_letters : Nat → Int32) (p1 : Int32) (p2 : Int32) (cls : String) (hf : t_X8_letter x2_count y3_length y4_letters p1 p2 = some cls) : MX l g yX8_letter wsX8_letter 7 121 [.ref a0, .int p1, .int p2] (w_X8_letter g a0 a1 a2 a3 a4 u0_1 u0_2 u0_3 u0_4 u0_5 u0_6 u0_7 u0_8 u0_9 u1_0 u1_2 u1_3 u1_4 u2_1 u2_2 u2_3 x2_count y3_length y4_letters) sz cls := by
  refine MX.start (cc := cX8_letter) (maxL := 3) (ret := (some .int)) rfl rfl (nle rfl) ?_
  intro p e s m args below meth c A ls Q hQ hexec hb hr hts hown hlocks hml hex hA hP hD hG hS hl
  unfold t_X8_letter at hf
  have hWX2 : ∀ w ∈ wsX20, w.before args s = true := fun w h => hts w (List.mem_cons_of_mem _ (List.mem_append_left _ (List.mem_append_right _ h)))
  have hWX6 : ∀ w ∈ wsX60, w.before args s = true := fun w h => hts w (List.mem_cons_of_mem _ (List.mem_append_left _ (List.mem_append_left _ (List.mem_append_right _ h))))
  have hWX8 : ∀ w ∈ wsX80, w.before args s = true := fun w h => hts w (List.mem_cons_of_mem _ (List.mem_append_left _ (List.mem_append_left _ (List.mem_append_left _ (List.mem_append_right _ h)))))
  refine lv_aload_n (pc := 0) hexec hb dX8_letter_0 rfl (lv_at hl 0 rfl) ?_
  refine lv_iload_n (pc := 1) hexec hb dX8_letter_1 rfl (lv_at hl 1 rfl) ?_
  rcases tx_e hf with hc | ⟨-, hf⟩
  · exact kVx (pc := 2) (S := ⟨hexec, hb, hml, hown, hts⟩) hP hD hG hA hS [0, 1, 2] [3, 4] [2, 3, 4, 0, 1] rfl rfl rfl rfl rfl rfl (by decide) (x_X8_needHarbour l hlt g a0 a1 a2 _ u0_1 u0_2 u0_3 u0_4 u0_5 u0_6 u0_7 u0_8 u0_9 u1_0 u1_2 u1_3 u1_4 u2_1 u2_2 u2_3 (.ref a3) (.ref a4) x2_count p1 _ hc) gX8_letter_X8_needHarbour rfl hv_X8_needHarbour ⟨nle rfl, nle rfl⟩ 8 0 rfl rfl rfl (rest := []) rfl rfl hl.1 (nle rfl) dX8_letter_2 ⟨nle rfl, nle rfl⟩ (fun H locs q ce hP hD hS hce hcv hcl => kx_out hQ hex hlocks hP hD hS hce hcv hcl)
  cases hf
set_option maxRecDepth 20000 in
theorem x_X8_needRiver (l : Launch) (hlt : l.stackTraces = false) (g : GE) (a0 a1 a2 : Nat) (sz : Nat) (u0_1 u0_2 u0_3 u0_4 u0_5 u0_6 u0_7 u0_8 u0_9 u1_1 u1_2 u1_3 u1_4 u2_0 u2_1 u2_3 u2_4 u2_5 : Value) (x2_rivers : Int32) (p1 : Int32) (cls : String) (hf : t_X8_needRiver x2_rivers p1 = some cls) : MX l g yX8_needRiver wsX8_needRiver 6 100 [.ref a0, .int p1] (w_X8_needRiver g a0 a1 a2 u0_1 u0_2 u0_3 u0_4 u0_5 u0_6 u0_7 u0_8 u0_9 u1_1 u1_2 u1_3 u1_4 u2_0 u2_1 u2_3 u2_4 u2_5 x2_rivers) sz cls := by
  refine MX.start (cc := cX8_needRiver) (maxL := 2) (ret := none) rfl rfl (nle rfl) ?_
  intro p e s m args below meth c A ls Q hQ hexec hb hr hts hown hlocks hml hex hA hP hD hG hS hl
  unfold t_X8_needRiver at hf
  have hWX1 : ∀ w ∈ wsX10, w.before args s = true := fun w h => hts w (List.mem_cons_of_mem _ (List.mem_append_left _ (List.mem_append_right _ h)))
  have hWX6 : ∀ w ∈ wsX60, w.before args s = true := fun w h => hts w (List.mem_cons_of_mem _ (List.mem_append_left _ (List.mem_append_left _ (List.mem_append_right _ h))))
  have hWX8 : ∀ w ∈ wsX80, w.before args s = true := fun w h => hts w (List.mem_cons_of_mem _ (List.mem_append_left _ (List.mem_append_left _ (List.mem_append_left _ (List.mem_append_right _ h)))))
  refine lv_iload_n (pc := 0) hexec hb dX8_needRiver_0 rfl (lv_at hl 1 rfl) ?_
  obtain ⟨j18, ej18, hf⟩ := bvf1 hf
  have hj18 : ∀ (u : Unit) (H : Heap) (locs : List Loc) (ls : Array Slot), j18 u = some cls → va_P g.1 vwCl (w_X8_needRiver g a0 a1 a2 u0_1 u0_2 u0_3 u0_4 u0_5 u0_6 u0_7 u0_8 u0_9 u1_1 u1_2 u1_3 u1_4 u2_0 u2_1 u2_3 u2_4 u2_5 x2_rivers) H → va_D A (w_X8_needRiver g a0 a1 a2 u0_1 u0_2 u0_3 u0_4 u0_5 u0_6 u0_7 u0_8 u0_9 u1_1 u1_2 u1_3 u1_4 u2_0 u2_1 u2_3 u2_4 u2_5 x2_rivers) → va_S A s.heap H locs → lv_has ls 2 [] → W p l e (RXh 6 100) s m args below meth c H locs 0 0 Q (F0 m 18 ls []) := by
    intro u H locs ls hf hP hD hS hl
    have hf := (ej18 u).symm.trans hf
    cases hf
    exact kx_throww (pc := 18) (own := RX8) hQ hexec hb hlt hown (by decide +kernel) exN_fit (hts _ (List.mem_cons_of_mem _ (List.mem_append_left _ (List.mem_append_left _ (List.mem_append_left _ (List.mem_append_left _ (List.mem_of_getElem? (i := 0) rfl))))))) (hts _ (List.mem_cons_of_mem _ (List.mem_append_left _ (List.mem_append_left _ (List.mem_append_left _ (List.mem_append_left _ (List.mem_of_getElem? (i := 1) rfl))))))) hG 17 17 rfl (fun w h => hts w (List.mem_cons_of_mem _ (List.mem_append_right _ h))) ex_in_o (ex_gd_o_322) hP hD hS (hl.1.trans hml.symm) hex dX8_needRiver_18 dX8_needRiver_21 dX8_needRiver_22 dX8_needRiver_25 dX8_needRiver_28 ⟨nle rfl, nle rfl, nle rfl, nle rfl⟩ rfl hlocks
  refine kb_lt (pc := 1) hexec hb dX8_needRiver_1 (tgt := 18) rfl hf (fun hc hf => ?_) (fun hc hf => ?_)
  · exact hj18 _ _ _ _ hf hP hD hS (lv_sub hl [] rfl)
  · refine lv_iload_n (pc := 4) hexec hb dX8_needRiver_4 rfl (lv_at hl 1 rfl) ?_
    refine lv_aload_n (pc := 5) hexec hb dX8_needRiver_5 rfl (lv_at hl 0 rfl) ?_
    refine kg_get (pc := 6) hexec hb (own := RX8) hWX8 hown hG hP 0 rfl rfl 0 (nle rfl) (hts _ (List.mem_cons_of_mem _ (List.mem_append_left _ (List.mem_append_left _ (List.mem_append_left _ (List.mem_append_left _ (List.mem_of_getElem? (i := 2) rfl))))))) rfl rfl dX8_needRiver_6 ?_
    refine kg_getN (pc := 9) hexec hb (own := RX8) hWX6 hown hG hP 1 rfl rfl 0 (nle rfl) 21 rfl rfl rfl dX8_needRiver_9 ?_
    refine kg_getN (pc := 12) hexec hb (own := RX8) hWX1 hown hG hP 2 rfl rfl 2 (nle rfl) 4 rfl rfl rfl dX8_needRiver_12 ?_
    refine ki_lt (pc := 15) hexec hb dX8_needRiver_15 (tgt := 29) rfl hf (fun hc hf => ?_) (fun hc hf => ?_)
    · cases hf
    · exact hj18 _ _ _ _ hf hP hD hS (lv_sub hl [] rfl)
set_option maxRecDepth 20000 in
theorem x_X8_needDirection (l : Launch) (hlt : l.stackTraces = false) (g : GE) (sz : Nat)  (p0 : Int32) (cls : String) (hf : t_X8_needDirection p0 = some cls) : MX l g yX8_needDirection wsX8_needDirection 6 100 [.int p0] (w_X8_needDirection g ) sz cls := by
  refine MX.start (cc := cX8_needDirection) (maxL := 1) (ret := none) rfl rfl (nle rfl) ?_
  intro p e s m args below meth c A ls Q hQ hexec hb hr hts hown hlocks hml hex hA hP hD hG hS hl
  unfold t_X8_needDirection at hf
  refine lv_iload_n (pc := 0) hexec hb dX8_needDirection_0 rfl (lv_at hl 0 rfl) ?_
  obtain ⟨j9, ej9, hf⟩ := bvf1 hf
  have hj9 : ∀ (u : Unit) (H : Heap) (locs : List Loc) (ls : Array Slot), j9 u = some cls → va_P g.1 vwCl (w_X8_needDirection g ) H → va_D A (w_X8_needDirection g ) → va_S A s.heap H locs → lv_has ls 1 [] → W p l e (RXh 6 100) s m args below meth c H locs 0 0 Q (F0 m 9 ls []) := by
    intro u H locs ls hf hP hD hS hl
    have hf := (ej9 u).symm.trans hf
    cases hf
    exact kx_throww (pc := 9) (own := RX8) hQ hexec hb hlt hown (by decide +kernel) exN_fit (hts _ (List.mem_cons_of_mem _ (List.mem_append_left _ (List.mem_of_getElem? (i := 0) rfl)))) (hts _ (List.mem_cons_of_mem _ (List.mem_append_left _ (List.mem_of_getElem? (i := 1) rfl)))) hG 18 18 rfl (fun w h => hts w (List.mem_cons_of_mem _ (List.mem_append_right _ h))) ex_in_a (ex_gd_a_154) hP hD hS (hl.1.trans hml.symm) hex dX8_needDirection_9 dX8_needDirection_12 dX8_needDirection_13 dX8_needDirection_16 dX8_needDirection_19 ⟨nle rfl, nle rfl, nle rfl, nle rfl⟩ rfl hlocks
  refine kb_lt (pc := 1) hexec hb dX8_needDirection_1 (tgt := 9) rfl hf (fun hc hf => ?_) (fun hc hf => ?_)
  · exact hj9 _ _ _ _ hf hP hD hS (lv_sub hl [] rfl)
  · refine lv_iload_n (pc := 4) hexec hb dX8_needDirection_4 rfl (lv_at hl 0 rfl) ?_
    refine lv_iconst (pc := 5) hexec hb dX8_needDirection_5 ki_4 ?_
    refine ki_lt (pc := 6) hexec hb dX8_needDirection_6 (tgt := 20) rfl hf (fun hc hf => ?_) (fun hc hf => ?_)
    · cases hf
    · exact hj9 _ _ _ _ hf hP hD hS (lv_sub hl [] rfl)
set_option maxRecDepth 20000 in
theorem x_X8_why (l : Launch) (hlt : l.stackTraces = false) (g : GE) (a0 a1 a2 a3 a4 a5 a6 a7 a8 a9 a10 : Nat) (sz : Nat) (u0_1 u0_2 u0_3 u0_4 u0_5 u0_6 u0_7 u0_8 u0_9 u1_2 u2_2 u2_5 u3_3 : Value) (x2_rows : Int32) (x2_columns : Int32) (x3_count : Int32) (x3_reds : Int32) (y4_letterOn : Nat → Int32) (y5_namesOn : Nat → Int32) (y6_land : Nat → Int32) (y7_riverOf : Nat → Int32) (y8_home : Nat → Int32) (y9_length : Nat → Int32) (y10_letters : Nat → Int32) (p1 : Int32) (p2 : Int32) (cls : String) (hf : t_X8_why x2_rows x2_columns x3_count x3_reds y4_letterOn y5_namesOn y6_land y7_riverOf y8_home y9_length y10_letters p1 p2 = some cls) : MX l g yX8_why wsX8_why 7 121 [.ref a0, .int p1, .int p2] (w_X8_why g a0 a1 a2 a3 a4 a5 a6 a7 a8 a9 a10 u0_1 u0_2 u0_3 u0_4 u0_5 u0_6 u0_7 u0_8 u0_9 u1_2 u2_2 u2_5 u3_3 x2_rows x2_columns x3_count x3_reds y4_letterOn y5_namesOn y6_land y7_riverOf y8_home y9_length y10_letters) sz cls := by
  refine MX.start (cc := cX8_why) (maxL := 3) (ret := (some .int)) rfl rfl (nle rfl) ?_
  intro p e s m args below meth c A ls Q hQ hexec hb hr hts hown hlocks hml hex hA hP hD hG hS hl
  unfold t_X8_why at hf
  have hWX1 : ∀ w ∈ wsX10, w.before args s = true := fun w h => hts w (List.mem_cons_of_mem _ (List.mem_append_left _ (List.mem_append_left _ (List.mem_append_right _ h))))
  have hWX2 : ∀ w ∈ wsX20, w.before args s = true := fun w h => hts w (List.mem_cons_of_mem _ (List.mem_append_left _ (List.mem_append_left _ (List.mem_append_left _ (List.mem_append_right _ h)))))
  have hWX6 : ∀ w ∈ wsX60, w.before args s = true := fun w h => hts w (List.mem_cons_of_mem _ (List.mem_append_left _ (List.mem_append_left _ (List.mem_append_left _ (List.mem_append_left _ (List.mem_append_right _ h))))))
  have hWX8 : ∀ w ∈ wsX80, w.before args s = true := fun w h => hts w (List.mem_cons_of_mem _ (List.mem_append_left _ (List.mem_append_left _ (List.mem_append_left _ (List.mem_append_left _ (List.mem_append_left _ (List.mem_append_right _ h)))))))
  refine lv_aload_n (pc := 0) hexec hb dX8_why_0 rfl (lv_at hl 0 rfl) ?_
  refine lv_iload_n (pc := 1) hexec hb dX8_why_1 rfl (lv_at hl 1 rfl) ?_
  rcases tx_e hf with hc | ⟨-, hf⟩
  · exact kVx (pc := 2) (S := ⟨hexec, hb, hml, hown, hts⟩) hP hD hG hA hS [0, 1, 3] [2, 4, 5, 6, 7, 8, 9, 10] [8, 9, 0, 10, 1, 2, 3, 4, 5, 6, 7] rfl rfl rfl rfl rfl rfl (by decide) (x_X8_needHarbour l hlt g a0 a1 a3 _ u0_1 u0_2 u0_3 u0_4 u0_5 u0_6 u0_7 u0_8 u0_9 (.ref a2) u1_2 (.ref a5) (.ref a4) (.int x3_reds) (.ref a8) u3_3 (.ref a9) (.ref a10) x3_count p1 _ hc) gX8_why_X8_needHarbour rfl hv_X8_needHarbour ⟨nle rfl, nle rfl⟩ 8 0 rfl rfl rfl (rest := []) rfl rfl hl.1 (nle rfl) dX8_why_2 ⟨nle rfl, nle rfl⟩ (fun H locs q ce hP hD hS hce hcv hcl => kx_out hQ hex hlocks hP hD hS hce hcv hcl)
  obtain ⟨_, hc, hf⟩ := bd1_e hf
  refine kVp (pc := 2) (S := ⟨hexec, hb, hml, hown, hts⟩) hP hD hG hA hS [0, 1, 3] [2, 4, 5, 6, 7, 8, 9, 10] [8, 9, 0, 10, 1, 2, 3, 4, 5, 6, 7] (w2 := (w_X8_why g a0 a1 a2 a3 a4 a5 a6 a7 a8 a9 a10 u0_1 u0_2 u0_3 u0_4 u0_5 u0_6 u0_7 u0_8 u0_9 u1_2 u2_2 u2_5 u3_3 x2_rows x2_columns x3_count x3_reds y4_letterOn y5_namesOn y6_land y7_riverOf y8_home y9_length y10_letters)) rfl rfl rfl rfl rfl rfl (by decide) (c_X8_needHarbour l g a0 a1 a3 _ u0_1 u0_2 u0_3 u0_4 u0_5 u0_6 u0_7 u0_8 u0_9 (.ref a2) u1_2 (.ref a5) (.ref a4) (.int x3_reds) (.ref a8) u3_3 (.ref a9) (.ref a10) x3_count p1 hc) gX8_why_X8_needHarbour rfl hv_X8_needHarbour ⟨nle rfl, nle rfl⟩ 8 0 rfl rfl rfl (rest := []) rfl rfl hl.1 (nle rfl) dX8_why_2 (fun H locs hP hD hS => ?_)
  refine lv_iload_n (pc := 5) hexec hb dX8_why_5 rfl (lv_at hl 2 rfl) ?_
  rcases tx_e hf with hc | ⟨-, hf⟩
  · exact kSx (pc := 6) (S := ⟨hexec, hb, hml, hown, hts⟩) hP hD hG hA hS [] [0, 1, 2, 3, 4, 5, 6, 7, 8, 9, 10] [0, 1, 2, 3, 4, 5, 6, 7, 8, 9, 10] rfl rfl rfl rfl rfl rfl (by decide) (x_X8_needDirection l hlt g _ p2 _ hc) gX8_why_X8_needDirection rfl hs_X8_needDirection ⟨nle rfl, nle rfl⟩ (rest := []) rfl rfl hl.1 (nle rfl) dX8_why_6 ⟨nle rfl, nle rfl⟩ (fun H locs q ce hP hD hS hce hcv hcl => kx_out hQ hex hlocks hP hD hS hce hcv hcl)
  cases hf
set_option maxRecDepth 20000 in
theorem x_X8_ways (l : Launch) (hlt : l.stackTraces = false) (g : GE) (a0 a1 a2 a3 a4 a5 a6 a7 a8 a9 a10 : Nat) (sz : Nat) (u0_1 u0_2 u0_3 u0_4 u0_5 u0_6 u0_7 u0_8 u0_9 u1_2 u2_2 u2_5 u3_3 : Value) (x2_rows : Int32) (x2_columns : Int32) (x3_count : Int32) (x3_reds : Int32) (y4_letterOn : Nat → Int32) (y5_namesOn : Nat → Int32) (y6_land : Nat → Int32) (y7_riverOf : Nat → Int32) (y8_home : Nat → Int32) (y9_length : Nat → Int32) (y10_letters : Nat → Int32) (p1 : Int32) (cls : String) (hf : t_X8_ways x2_rows x2_columns x3_count x3_reds y4_letterOn y5_namesOn y6_land y7_riverOf y8_home y9_length y10_letters p1 = some cls) : MX l g yX8_ways wsX8_ways 7 121 [.ref a0, .int p1] (w_X8_ways g a0 a1 a2 a3 a4 a5 a6 a7 a8 a9 a10 u0_1 u0_2 u0_3 u0_4 u0_5 u0_6 u0_7 u0_8 u0_9 u1_2 u2_2 u2_5 u3_3 x2_rows x2_columns x3_count x3_reds y4_letterOn y5_namesOn y6_land y7_riverOf y8_home y9_length y10_letters) sz cls := by
  refine MX.start (cc := cX8_ways) (maxL := 4) (ret := (some .int)) rfl rfl (nle rfl) ?_
  intro p e s m args below meth c A ls Q hQ hexec hb hr hts hown hlocks hml hex hA hP hD hG hS hl
  unfold t_X8_ways at hf
  have hWX1 : ∀ w ∈ wsX10, w.before args s = true := fun w h => hts w (List.mem_cons_of_mem _ (List.mem_append_left _ (List.mem_append_right _ h)))
  have hWX2 : ∀ w ∈ wsX20, w.before args s = true := fun w h => hts w (List.mem_cons_of_mem _ (List.mem_append_left _ (List.mem_append_left _ (List.mem_append_right _ h))))
  have hWX6 : ∀ w ∈ wsX60, w.before args s = true := fun w h => hts w (List.mem_cons_of_mem _ (List.mem_append_left _ (List.mem_append_left _ (List.mem_append_left _ (List.mem_append_right _ h)))))
  have hWX8 : ∀ w ∈ wsX80, w.before args s = true := fun w h => hts w (List.mem_cons_of_mem _ (List.mem_append_left _ (List.mem_append_left _ (List.mem_append_left _ (List.mem_append_left _ (List.mem_append_right _ h))))))
  refine lv_aload_n (pc := 0) hexec hb dX8_ways_0 rfl (lv_at hl 0 rfl) ?_
  refine lv_iload_n (pc := 1) hexec hb dX8_ways_1 rfl (lv_at hl 1 rfl) ?_
  rcases tx_e hf with hc | ⟨-, hf⟩
  · exact kVx (pc := 2) (S := ⟨hexec, hb, hml, hown, hts⟩) hP hD hG hA hS [0, 1, 3] [2, 4, 5, 6, 7, 8, 9, 10] [8, 9, 0, 10, 1, 2, 3, 4, 5, 6, 7] rfl rfl rfl rfl rfl rfl (by decide) (x_X8_needHarbour l hlt g a0 a1 a3 _ u0_1 u0_2 u0_3 u0_4 u0_5 u0_6 u0_7 u0_8 u0_9 (.ref a2) u1_2 (.ref a5) (.ref a4) (.int x3_reds) (.ref a8) u3_3 (.ref a9) (.ref a10) x3_count p1 _ hc) gX8_ways_X8_needHarbour rfl hv_X8_needHarbour ⟨nle rfl, nle rfl⟩ 8 0 rfl rfl rfl (rest := []) rfl rfl hl.1 (nle rfl) dX8_ways_2 ⟨nle rfl, nle rfl⟩ (fun H locs q ce hP hD hS hce hcv hcl => kx_out hQ hex hlocks hP hD hS hce hcv hcl)
  cases hf
set_option maxRecDepth 20000 in
theorem x_X8_room (l : Launch) (hlt : l.stackTraces = false) (g : GE) (a0 a1 a2 a3 a4 a5 a6 : Nat) (sz : Nat) (u0_1 u0_2 u0_3 u0_4 u0_5 u0_6 u0_7 u0_8 u0_9 u1_2 u1_3 u1_4 u2_2 u2_5 u3_1 u3_3 u3_4 u3_5 : Value) (x2_rows : Int32) (x2_columns : Int32) (x3_count : Int32) (y4_land : Nat → Int32) (y5_riverOf : Nat → Int32) (y6_home : Nat → Int32) (p1 : Int32) (p2 : Int32) (cls : String) (hf : t_X8_room x2_rows x2_columns x3_count y4_land y5_riverOf y6_home p1 p2 = some cls) : MX l g yX8_room wsX8_room 7 121 [.ref a0, .int p1, .int p2] (w_X8_room g a0 a1 a2 a3 a4 a5 a6 u0_1 u0_2 u0_3 u0_4 u0_5 u0_6 u0_7 u0_8 u0_9 u1_2 u1_3 u1_4 u2_2 u2_5 u3_1 u3_3 u3_4 u3_5 x2_rows x2_columns x3_count y4_land y5_riverOf y6_home) sz cls := by
  refine MX.start (cc := cX8_room) (maxL := 5) (ret := (some .int)) rfl rfl (nle rfl) ?_
  intro p e s m args below meth c A ls Q hQ hexec hb hr hts hown hlocks hml hex hA hP hD hG hS hl
  unfold t_X8_room at hf
  have hWX1 : ∀ w ∈ wsX10, w.before args s = true := fun w h => hts w (List.mem_cons_of_mem _ (List.mem_append_left _ (List.mem_append_left _ (List.mem_append_right _ h))))
  have hWX2 : ∀ w ∈ wsX20, w.before args s = true := fun w h => hts w (List.mem_cons_of_mem _ (List.mem_append_left _ (List.mem_append_left _ (List.mem_append_left _ (List.mem_append_right _ h)))))
  have hWX6 : ∀ w ∈ wsX60, w.before args s = true := fun w h => hts w (List.mem_cons_of_mem _ (List.mem_append_left _ (List.mem_append_left _ (List.mem_append_left _ (List.mem_append_left _ (List.mem_append_right _ h))))))
  have hWX8 : ∀ w ∈ wsX80, w.before args s = true := fun w h => hts w (List.mem_cons_of_mem _ (List.mem_append_left _ (List.mem_append_left _ (List.mem_append_left _ (List.mem_append_left _ (List.mem_append_left _ (List.mem_append_right _ h)))))))
  refine lv_aload_n (pc := 0) hexec hb dX8_room_0 rfl (lv_at hl 0 rfl) ?_
  refine lv_iload_n (pc := 1) hexec hb dX8_room_1 rfl (lv_at hl 1 rfl) ?_
  rcases tx_e hf with hc | ⟨-, hf⟩
  · exact kVx (pc := 2) (S := ⟨hexec, hb, hml, hown, hts⟩) hP hD hG hA hS [0, 1, 3] [2, 4, 5, 6] [4, 5, 0, 6, 1, 2, 3] rfl rfl rfl rfl rfl rfl (by decide) (x_X8_needHarbour l hlt g a0 a1 a3 _ u0_1 u0_2 u0_3 u0_4 u0_5 u0_6 u0_7 u0_8 u0_9 (.ref a2) u1_2 u1_3 u1_4 u3_1 (.ref a6) u3_3 u3_4 u3_5 x3_count p1 _ hc) gX8_room_X8_needHarbour rfl hv_X8_needHarbour ⟨nle rfl, nle rfl⟩ 8 0 rfl rfl rfl (rest := []) rfl rfl hl.1 (nle rfl) dX8_room_2 ⟨nle rfl, nle rfl⟩ (fun H locs q ce hP hD hS hce hcv hcl => kx_out hQ hex hlocks hP hD hS hce hcv hcl)
  obtain ⟨_, hc, hf⟩ := bd1_e hf
  refine kVp (pc := 2) (S := ⟨hexec, hb, hml, hown, hts⟩) hP hD hG hA hS [0, 1, 3] [2, 4, 5, 6] [4, 5, 0, 6, 1, 2, 3] (w2 := (w_X8_room g a0 a1 a2 a3 a4 a5 a6 u0_1 u0_2 u0_3 u0_4 u0_5 u0_6 u0_7 u0_8 u0_9 u1_2 u1_3 u1_4 u2_2 u2_5 u3_1 u3_3 u3_4 u3_5 x2_rows x2_columns x3_count y4_land y5_riverOf y6_home)) rfl rfl rfl rfl rfl rfl (by decide) (c_X8_needHarbour l g a0 a1 a3 _ u0_1 u0_2 u0_3 u0_4 u0_5 u0_6 u0_7 u0_8 u0_9 (.ref a2) u1_2 u1_3 u1_4 u3_1 (.ref a6) u3_3 u3_4 u3_5 x3_count p1 hc) gX8_room_X8_needHarbour rfl hv_X8_needHarbour ⟨nle rfl, nle rfl⟩ 8 0 rfl rfl rfl (rest := []) rfl rfl hl.1 (nle rfl) dX8_room_2 (fun H locs hP hD hS => ?_)
  refine lv_iload_n (pc := 5) hexec hb dX8_room_5 rfl (lv_at hl 2 rfl) ?_
  rcases tx_e hf with hc | ⟨-, hf⟩
  · exact kSx (pc := 6) (S := ⟨hexec, hb, hml, hown, hts⟩) hP hD hG hA hS [] [0, 1, 2, 3, 4, 5, 6] [0, 1, 2, 3, 4, 5, 6] rfl rfl rfl rfl rfl rfl (by decide) (x_X8_needDirection l hlt g _ p2 _ hc) gX8_room_X8_needDirection rfl hs_X8_needDirection ⟨nle rfl, nle rfl⟩ (rest := []) rfl rfl hl.1 (nle rfl) dX8_room_6 ⟨nle rfl, nle rfl⟩ (fun H locs q ce hP hD hS hce hcv hcl => kx_out hQ hex hlocks hP hD hS hce hcv hcl)
  cases hf
set_option maxRecDepth 20000 in
theorem x_X8_crossed (l : Launch) (hlt : l.stackTraces = false) (g : GE) (a0 a1 a2 a3 a4 a5 a6 a7 : Nat) (sz : Nat) (u0_1 u0_2 u0_3 u0_4 u0_5 u0_6 u0_7 u0_8 u0_9 u1_2 u1_4 u2_2 u2_3 u2_4 u2_5 u3_1 u3_5 : Value) (x2_rows : Int32) (x2_columns : Int32) (x3_count : Int32) (y4_namesOn : Nat → Int32) (y5_direction : Nat → Int32) (y6_home : Nat → Int32) (y7_length : Nat → Int32) (p1 : Int32) (cls : String) (hf : t_X8_crossed x2_rows x2_columns x3_count y4_namesOn y5_direction y6_home y7_length p1 = some cls) : MX l g yX8_crossed wsX8_crossed 7 121 [.ref a0, .int p1] (w_X8_crossed g a0 a1 a2 a3 a4 a5 a6 a7 u0_1 u0_2 u0_3 u0_4 u0_5 u0_6 u0_7 u0_8 u0_9 u1_2 u1_4 u2_2 u2_3 u2_4 u2_5 u3_1 u3_5 x2_rows x2_columns x3_count y4_namesOn y5_direction y6_home y7_length) sz cls := by
  refine MX.start (cc := cX8_crossed) (maxL := 2) (ret := (some .int)) rfl rfl (nle rfl) ?_
  intro p e s m args below meth c A ls Q hQ hexec hb hr hts hown hlocks hml hex hA hP hD hG hS hl
  unfold t_X8_crossed at hf
  have hWX1 : ∀ w ∈ wsX10, w.before args s = true := fun w h => hts w (List.mem_cons_of_mem _ (List.mem_append_left _ (List.mem_append_right _ h)))
  have hWX2 : ∀ w ∈ wsX20, w.before args s = true := fun w h => hts w (List.mem_cons_of_mem _ (List.mem_append_left _ (List.mem_append_left _ (List.mem_append_right _ h))))
  have hWX6 : ∀ w ∈ wsX60, w.before args s = true := fun w h => hts w (List.mem_cons_of_mem _ (List.mem_append_left _ (List.mem_append_left _ (List.mem_append_left _ (List.mem_append_right _ h)))))
  have hWX8 : ∀ w ∈ wsX80, w.before args s = true := fun w h => hts w (List.mem_cons_of_mem _ (List.mem_append_left _ (List.mem_append_left _ (List.mem_append_left _ (List.mem_append_left _ (List.mem_append_right _ h))))))
  refine lv_aload_n (pc := 0) hexec hb dX8_crossed_0 rfl (lv_at hl 0 rfl) ?_
  refine lv_iload_n (pc := 1) hexec hb dX8_crossed_1 rfl (lv_at hl 1 rfl) ?_
  rcases tx_e hf with hc | ⟨-, hf⟩
  · exact kVx (pc := 2) (S := ⟨hexec, hb, hml, hown, hts⟩) hP hD hG hA hS [0, 1, 3] [2, 4, 5, 6, 7] [5, 6, 0, 7, 1, 2, 3, 4] rfl rfl rfl rfl rfl rfl (by decide) (x_X8_needHarbour l hlt g a0 a1 a3 _ u0_1 u0_2 u0_3 u0_4 u0_5 u0_6 u0_7 u0_8 u0_9 (.ref a2) u1_2 (.ref a4) u1_4 u3_1 (.ref a6) (.ref a5) (.ref a7) u3_5 x3_count p1 _ hc) gX8_crossed_X8_needHarbour rfl hv_X8_needHarbour ⟨nle rfl, nle rfl⟩ 8 0 rfl rfl rfl (rest := []) rfl rfl hl.1 (nle rfl) dX8_crossed_2 ⟨nle rfl, nle rfl⟩ (fun H locs q ce hP hD hS hce hcv hcl => kx_out hQ hex hlocks hP hD hS hce hcv hcl)
  cases hf
set_option maxRecDepth 20000 in
theorem x_X8_needTurn (l : Launch) (hlt : l.stackTraces = false) (g : GE) (sz : Nat)  (p0 : Int32) (cls : String) (hf : t_X8_needTurn p0 = some cls) : MX l g yX8_needTurn wsX8_needTurn 6 100 [.int p0] (w_X8_needTurn g ) sz cls := by
  refine MX.start (cc := cX8_needTurn) (maxL := 1) (ret := none) rfl rfl (nle rfl) ?_
  intro p e s m args below meth c A ls Q hQ hexec hb hr hts hown hlocks hml hex hA hP hD hG hS hl
  unfold t_X8_needTurn at hf
  refine lv_iload_n (pc := 0) hexec hb dX8_needTurn_0 rfl (lv_at hl 0 rfl) ?_
  obtain ⟨j9, ej9, hf⟩ := bvf1 hf
  have hj9 : ∀ (u : Unit) (H : Heap) (locs : List Loc) (ls : Array Slot), j9 u = some cls → va_P g.1 vwCl (w_X8_needTurn g ) H → va_D A (w_X8_needTurn g ) → va_S A s.heap H locs → lv_has ls 1 [] → W p l e (RXh 6 100) s m args below meth c H locs 0 0 Q (F0 m 9 ls []) := by
    intro u H locs ls hf hP hD hS hl
    have hf := (ej9 u).symm.trans hf
    cases hf
    exact kx_throww (pc := 9) (own := RX8) hQ hexec hb hlt hown (by decide +kernel) exN_fit (hts _ (List.mem_cons_of_mem _ (List.mem_append_left _ (List.mem_of_getElem? (i := 0) rfl)))) (hts _ (List.mem_cons_of_mem _ (List.mem_append_left _ (List.mem_of_getElem? (i := 1) rfl)))) hG 19 19 rfl (fun w h => hts w (List.mem_cons_of_mem _ (List.mem_append_right _ h))) ex_in_a (ex_gd_a_154) hP hD hS (hl.1.trans hml.symm) hex dX8_needTurn_9 dX8_needTurn_12 dX8_needTurn_13 dX8_needTurn_16 dX8_needTurn_19 ⟨nle rfl, nle rfl, nle rfl, nle rfl⟩ rfl hlocks
  refine kb_lt (pc := 1) hexec hb dX8_needTurn_1 (tgt := 9) rfl hf (fun hc hf => ?_) (fun hc hf => ?_)
  · exact hj9 _ _ _ _ hf hP hD hS (lv_sub hl [] rfl)
  · refine lv_iload_n (pc := 4) hexec hb dX8_needTurn_4 rfl (lv_at hl 0 rfl) ?_
    refine lv_iconst (pc := 5) hexec hb dX8_needTurn_5 ki_4 ?_
    refine ki_lt (pc := 6) hexec hb dX8_needTurn_6 (tgt := 20) rfl hf (fun hc hf => ?_) (fun hc hf => ?_)
    · cases hf
    · exact hj9 _ _ _ _ hf hP hD hS (lv_sub hl [] rfl)
set_option maxRecDepth 20000 in
theorem x_X8_turningFrom (l : Launch) (hlt : l.stackTraces = false) (g : GE) (a0 a1 a2 a3 a4 a5 : Nat) (sz : Nat) (u0_1 u0_2 u0_3 u0_4 u0_5 u0_6 u0_7 u0_8 u0_9 u1_0 u1_3 u1_4 u2_0 u2_1 u2_2 u2_4 u2_5 u3_1 u3_2 u3_3 : Value) (x3_count : Int32) (y4_direction : Nat → Int32) (y5_stops : Nat → Int32) (p1 : Int32) (cls : String) (hf : t_X8_turningFrom x3_count y4_direction y5_stops p1 = some cls) : MX l g yX8_turningFrom wsX8_turningFrom 7 120 [.ref a0, .int p1] (w_X8_turningFrom g a0 a1 a2 a3 a4 a5 u0_1 u0_2 u0_3 u0_4 u0_5 u0_6 u0_7 u0_8 u0_9 u1_0 u1_3 u1_4 u2_0 u2_1 u2_2 u2_4 u2_5 u3_1 u3_2 u3_3 x3_count y4_direction y5_stops) sz cls := by
  refine MX.start (cc := cX8_turningFrom) (maxL := 2) (ret := (some .int)) rfl rfl (nle rfl) ?_
  intro p e s m args below meth c A ls Q hQ hexec hb hr hts hown hlocks hml hex hA hP hD hG hS hl
  unfold t_X8_turningFrom at hf
  have hWX2 : ∀ w ∈ wsX20, w.before args s = true := fun w h => hts w (List.mem_cons_of_mem _ (List.mem_append_left _ (List.mem_append_left _ (List.mem_append_right _ h))))
  have hWX4 : ∀ w ∈ wsX40, w.before args s = true := fun w h => hts w (List.mem_cons_of_mem _ (List.mem_append_left _ (List.mem_append_right _ h)))
  have hWX6 : ∀ w ∈ wsX60, w.before args s = true := fun w h => hts w (List.mem_cons_of_mem _ (List.mem_append_left _ (List.mem_append_left _ (List.mem_append_left _ (List.mem_append_right _ h)))))
  have hWX8 : ∀ w ∈ wsX80, w.before args s = true := fun w h => hts w (List.mem_cons_of_mem _ (List.mem_append_left _ (List.mem_append_left _ (List.mem_append_left _ (List.mem_append_left _ (List.mem_append_right _ h))))))
  refine lv_iload_n (pc := 0) hexec hb dX8_turningFrom_0 rfl (lv_at hl 1 rfl) ?_
  rcases tx_e hf with hc | ⟨-, hf⟩
  · exact kSx (pc := 1) (S := ⟨hexec, hb, hml, hown, hts⟩) hP hD hG hA hS [] [0, 1, 2, 3, 4, 5] [0, 1, 2, 3, 4, 5] rfl rfl rfl rfl rfl rfl (by decide) (x_X8_needTurn l hlt g _ p1 _ hc) gX8_turningFrom_X8_needTurn rfl hs_X8_needTurn ⟨nle rfl, nle rfl⟩ (rest := []) rfl rfl hl.1 (nle rfl) dX8_turningFrom_1 ⟨nle rfl, nle rfl⟩ (fun H locs q ce hP hD hS hce hcv hcl => kx_out hQ hex hlocks hP hD hS hce hcv hcl)
  cases hf
set_option maxRecDepth 20000 in
theorem x_X8_arranged (l : Launch) (hlt : l.stackTraces = false) (g : GE) (a0 a1 a2 a3 a4 a5 a6 a7 a8 a9 a10 a11 a12 a13 a14 a15 a16 a17 : Nat) (sz : Nat) (u0_1 u0_2 u0_4 u0_5 u0_6 u0_7 u0_8 u0_9 u2_3 u2_4 u9_2 u9_5 u10_3 u11_1 u11_3 : Value) (x1_reds : Int32) (x1_bestReds : Int32) (x1_bestCount : Int32) (x1_bestTurning : Int32) (y3_allowed : Nat → Int32) (y4_best : Nat → Int32) (y5_foes : Nat → Int32) (y6_namesLeft : Nat → Int32) (y7_redsLeft : Nat → Int32) (y8_trial : Nat → Int32) (x9_rows : Int32) (x9_columns : Int32) (x10_count : Int32) (x10_reds : Int32) (x11_count : Int32) (x11_turn : Int32) (y12_land : Nat → Int32) (y13_riverOf : Nat → Int32) (y14_home : Nat → Int32) (y15_length : Nat → Int32) (y16_letters : Nat → Int32) (y17_stops : Nat → Int32) (p1 : Int32) (cls : String) (hf : t_X8_arranged x1_reds x1_bestReds x1_bestCount x1_bestTurning y3_allowed y4_best y5_foes y6_namesLeft y7_redsLeft y8_trial x9_rows x9_columns x10_count x10_reds x11_count x11_turn y12_land y13_riverOf y14_home y15_length y16_letters y17_stops p1 = some cls) : MX l g yX8_arranged wsX8_arranged 16 432 [.ref a0, .int p1] (w_X8_arranged g a0 a1 a2 a3 a4 a5 a6 a7 a8 a9 a10 a11 a12 a13 a14 a15 a16 a17 u0_1 u0_2 u0_4 u0_5 u0_6 u0_7 u0_8 u0_9 u2_3 u2_4 u9_2 u9_5 u10_3 u11_1 u11_3 x1_reds x1_bestReds x1_bestCount x1_bestTurning y3_allowed y4_best y5_foes y6_namesLeft y7_redsLeft y8_trial x9_rows x9_columns x10_count x10_reds x11_count x11_turn y12_land y13_riverOf y14_home y15_length y16_letters y17_stops) sz cls := by
  refine MX.start (cc := cX8_arranged) (maxL := 2) (ret := (some .int)) rfl rfl (nle rfl) ?_
  intro p e s m args below meth c A ls Q hQ hexec hb hr hts hown hlocks hml hex hA hP hD hG hS hl
  unfold t_X8_arranged at hf
  have hWX0 : ∀ w ∈ wsX00, w.before args s = true := fun w h => hts w (List.mem_cons_of_mem _ (List.mem_append_left _ (List.mem_append_left _ (List.mem_append_left _ (List.mem_append_right _ h)))))
  have hWX1 : ∀ w ∈ wsX10, w.before args s = true := fun w h => hts w (List.mem_cons_of_mem _ (List.mem_append_left _ (List.mem_append_left _ (List.mem_append_right _ h))))
  have hWX2 : ∀ w ∈ wsX20, w.before args s = true := fun w h => hts w (List.mem_cons_of_mem _ (List.mem_append_left _ (List.mem_append_left _ (List.mem_append_left _ (List.mem_append_left _ (List.mem_append_right _ h))))))
  have hWX4 : ∀ w ∈ wsX40, w.before args s = true := fun w h => hts w (List.mem_cons_of_mem _ (List.mem_append_left _ (List.mem_append_right _ h)))
  have hWX6 : ∀ w ∈ wsX60, w.before args s = true := fun w h => hts w (List.mem_cons_of_mem _ (List.mem_append_left _ (List.mem_append_left _ (List.mem_append_left _ (List.mem_append_left _ (List.mem_append_left _ (List.mem_append_right _ h)))))))
  have hWX8 : ∀ w ∈ wsX80, w.before args s = true := fun w h => hts w (List.mem_cons_of_mem _ (List.mem_append_left _ (List.mem_append_left _ (List.mem_append_left _ (List.mem_append_left _ (List.mem_append_left _ (List.mem_append_left _ (List.mem_append_right _ h))))))))
  refine lv_aload_n (pc := 0) hexec hb dX8_arranged_0 rfl (lv_at hl 0 rfl) ?_
  refine lv_iload_n (pc := 1) hexec hb dX8_arranged_1 rfl (lv_at hl 1 rfl) ?_
  rcases tx_e hf with hc | ⟨-, hf⟩
  · exact kVx (pc := 2) (S := ⟨hexec, hb, hml, hown, hts⟩) hP hD hG hA hS [0, 2, 10] [1, 3, 4, 5, 6, 7, 8, 9, 11, 12, 13, 14, 15, 16, 17] [15, 0, 16, 1, 2, 3, 4, 5, 6, 7, 17, 8, 9, 10, 11, 12, 13, 14] rfl rfl rfl rfl rfl rfl (by decide) (x_X8_needHarbour l hlt g a0 a2 a10 _ u0_1 u0_2 (.ref a1) u0_4 u0_5 u0_6 u0_7 u0_8 u0_9 (.ref a9) (.ref a11) u2_3 u2_4 (.int x10_reds) (.ref a14) u10_3 (.ref a15) (.ref a16) x10_count p1 _ hc) gX8_arranged_X8_needHarbour rfl hv_X8_needHarbour ⟨nle rfl, nle rfl⟩ 8 0 rfl rfl rfl (rest := []) rfl rfl hl.1 (nle rfl) dX8_arranged_2 ⟨nle rfl, nle rfl⟩ (fun H locs q ce hP hD hS hce hcv hcl => kx_out hQ hex hlocks hP hD hS hce hcv hcl)
  cases hf
set_option maxRecDepth 20000 in
theorem x_X8_leastIf (l : Launch) (hlt : l.stackTraces = false) (g : GE) (a0 a1 a2 a3 a4 a5 a6 a7 a8 a9 a10 a11 a12 a13 a14 a15 a16 a17 : Nat) (sz : Nat) (u0_1 u0_2 u0_4 u0_5 u0_6 u0_7 u0_8 u0_9 u2_3 u2_4 u9_2 u9_5 u10_3 u11_1 u11_3 : Value) (x1_reds : Int32) (x1_bestReds : Int32) (x1_bestCount : Int32) (x1_bestTurning : Int32) (y3_allowed : Nat → Int32) (y4_best : Nat → Int32) (y5_foes : Nat → Int32) (y6_namesLeft : Nat → Int32) (y7_redsLeft : Nat → Int32) (y8_trial : Nat → Int32) (x9_rows : Int32) (x9_columns : Int32) (x10_count : Int32) (x10_reds : Int32) (x11_count : Int32) (x11_turn : Int32) (y12_land : Nat → Int32) (y13_riverOf : Nat → Int32) (y14_home : Nat → Int32) (y15_length : Nat → Int32) (y16_letters : Nat → Int32) (y17_stops : Nat → Int32) (p1 : Int32) (p2 : Int32) (cls : String) (hf : t_X8_leastIf x1_reds x1_bestReds x1_bestCount x1_bestTurning y3_allowed y4_best y5_foes y6_namesLeft y7_redsLeft y8_trial x9_rows x9_columns x10_count x10_reds x11_count x11_turn y12_land y13_riverOf y14_home y15_length y16_letters y17_stops p1 p2 = some cls) : MX l g yX8_leastIf wsX8_leastIf 16 432 [.ref a0, .int p1, .int p2] (w_X8_leastIf g a0 a1 a2 a3 a4 a5 a6 a7 a8 a9 a10 a11 a12 a13 a14 a15 a16 a17 u0_1 u0_2 u0_4 u0_5 u0_6 u0_7 u0_8 u0_9 u2_3 u2_4 u9_2 u9_5 u10_3 u11_1 u11_3 x1_reds x1_bestReds x1_bestCount x1_bestTurning y3_allowed y4_best y5_foes y6_namesLeft y7_redsLeft y8_trial x9_rows x9_columns x10_count x10_reds x11_count x11_turn y12_land y13_riverOf y14_home y15_length y16_letters y17_stops) sz cls := by
  refine MX.start (cc := cX8_leastIf) (maxL := 3) (ret := (some .int)) rfl rfl (nle rfl) ?_
  intro p e s m args below meth c A ls Q hQ hexec hb hr hts hown hlocks hml hex hA hP hD hG hS hl
  unfold t_X8_leastIf at hf
  have hWX0 : ∀ w ∈ wsX00, w.before args s = true := fun w h => hts w (List.mem_cons_of_mem _ (List.mem_append_left _ (List.mem_append_left _ (List.mem_append_left _ (List.mem_append_left _ (List.mem_append_right _ h))))))
  have hWX1 : ∀ w ∈ wsX10, w.before args s = true := fun w h => hts w (List.mem_cons_of_mem _ (List.mem_append_left _ (List.mem_append_left _ (List.mem_append_right _ h))))
  have hWX2 : ∀ w ∈ wsX20, w.before args s = true := fun w h => hts w (List.mem_cons_of_mem _ (List.mem_append_left _ (List.mem_append_left _ (List.mem_append_left _ (List.mem_append_right _ h)))))
  have hWX4 : ∀ w ∈ wsX40, w.before args s = true := fun w h => hts w (List.mem_cons_of_mem _ (List.mem_append_left _ (List.mem_append_right _ h)))
  have hWX6 : ∀ w ∈ wsX60, w.before args s = true := fun w h => hts w (List.mem_cons_of_mem _ (List.mem_append_left _ (List.mem_append_left _ (List.mem_append_left _ (List.mem_append_left _ (List.mem_append_left _ (List.mem_append_right _ h)))))))
  have hWX8 : ∀ w ∈ wsX80, w.before args s = true := fun w h => hts w (List.mem_cons_of_mem _ (List.mem_append_left _ (List.mem_append_left _ (List.mem_append_left _ (List.mem_append_left _ (List.mem_append_left _ (List.mem_append_left _ (List.mem_append_right _ h))))))))
  refine lv_aload_n (pc := 0) hexec hb dX8_leastIf_0 rfl (lv_at hl 0 rfl) ?_
  refine lv_iload_n (pc := 1) hexec hb dX8_leastIf_1 rfl (lv_at hl 1 rfl) ?_
  rcases tx_e hf with hc | ⟨-, hf⟩
  · exact kVx (pc := 2) (S := ⟨hexec, hb, hml, hown, hts⟩) hP hD hG hA hS [0, 2, 10] [1, 3, 4, 5, 6, 7, 8, 9, 11, 12, 13, 14, 15, 16, 17] [15, 0, 16, 1, 2, 3, 4, 5, 6, 7, 17, 8, 9, 10, 11, 12, 13, 14] rfl rfl rfl rfl rfl rfl (by decide) (x_X8_needHarbour l hlt g a0 a2 a10 _ u0_1 u0_2 (.ref a1) u0_4 u0_5 u0_6 u0_7 u0_8 u0_9 (.ref a9) (.ref a11) u2_3 u2_4 (.int x10_reds) (.ref a14) u10_3 (.ref a15) (.ref a16) x10_count p1 _ hc) gX8_leastIf_X8_needHarbour rfl hv_X8_needHarbour ⟨nle rfl, nle rfl⟩ 8 0 rfl rfl rfl (rest := []) rfl rfl hl.1 (nle rfl) dX8_leastIf_2 ⟨nle rfl, nle rfl⟩ (fun H locs q ce hP hD hS hce hcv hcl => kx_out hQ hex hlocks hP hD hS hce hcv hcl)
  cases hf
set_option maxRecDepth 20000 in
theorem x_X8_placedIf (l : Launch) (hlt : l.stackTraces = false) (g : GE) (a0 a1 a2 a3 a4 a5 a6 a7 a8 a9 a10 a11 a12 a13 a14 a15 a16 a17 : Nat) (sz : Nat) (u0_1 u0_2 u0_4 u0_5 u0_6 u0_7 u0_8 u0_9 u2_3 u2_4 u9_2 u9_5 u10_3 u11_1 u11_3 : Value) (x1_reds : Int32) (x1_bestReds : Int32) (x1_bestCount : Int32) (x1_bestTurning : Int32) (y3_allowed : Nat → Int32) (y4_best : Nat → Int32) (y5_foes : Nat → Int32) (y6_namesLeft : Nat → Int32) (y7_redsLeft : Nat → Int32) (y8_trial : Nat → Int32) (x9_rows : Int32) (x9_columns : Int32) (x10_count : Int32) (x10_reds : Int32) (x11_count : Int32) (x11_turn : Int32) (y12_land : Nat → Int32) (y13_riverOf : Nat → Int32) (y14_home : Nat → Int32) (y15_length : Nat → Int32) (y16_letters : Nat → Int32) (y17_stops : Nat → Int32) (p1 : Int32) (p2 : Int32) (cls : String) (hf : t_X8_placedIf x1_reds x1_bestReds x1_bestCount x1_bestTurning y3_allowed y4_best y5_foes y6_namesLeft y7_redsLeft y8_trial x9_rows x9_columns x10_count x10_reds x11_count x11_turn y12_land y13_riverOf y14_home y15_length y16_letters y17_stops p1 p2 = some cls) : MX l g yX8_placedIf wsX8_placedIf 16 432 [.ref a0, .int p1, .int p2] (w_X8_placedIf g a0 a1 a2 a3 a4 a5 a6 a7 a8 a9 a10 a11 a12 a13 a14 a15 a16 a17 u0_1 u0_2 u0_4 u0_5 u0_6 u0_7 u0_8 u0_9 u2_3 u2_4 u9_2 u9_5 u10_3 u11_1 u11_3 x1_reds x1_bestReds x1_bestCount x1_bestTurning y3_allowed y4_best y5_foes y6_namesLeft y7_redsLeft y8_trial x9_rows x9_columns x10_count x10_reds x11_count x11_turn y12_land y13_riverOf y14_home y15_length y16_letters y17_stops) sz cls := by
  refine MX.start (cc := cX8_placedIf) (maxL := 3) (ret := (some .int)) rfl rfl (nle rfl) ?_
  intro p e s m args below meth c A ls Q hQ hexec hb hr hts hown hlocks hml hex hA hP hD hG hS hl
  unfold t_X8_placedIf at hf
  have hWX0 : ∀ w ∈ wsX00, w.before args s = true := fun w h => hts w (List.mem_cons_of_mem _ (List.mem_append_left _ (List.mem_append_left _ (List.mem_append_left _ (List.mem_append_left _ (List.mem_append_right _ h))))))
  have hWX1 : ∀ w ∈ wsX10, w.before args s = true := fun w h => hts w (List.mem_cons_of_mem _ (List.mem_append_left _ (List.mem_append_left _ (List.mem_append_right _ h))))
  have hWX2 : ∀ w ∈ wsX20, w.before args s = true := fun w h => hts w (List.mem_cons_of_mem _ (List.mem_append_left _ (List.mem_append_left _ (List.mem_append_left _ (List.mem_append_right _ h)))))
  have hWX4 : ∀ w ∈ wsX40, w.before args s = true := fun w h => hts w (List.mem_cons_of_mem _ (List.mem_append_left _ (List.mem_append_right _ h)))
  have hWX6 : ∀ w ∈ wsX60, w.before args s = true := fun w h => hts w (List.mem_cons_of_mem _ (List.mem_append_left _ (List.mem_append_left _ (List.mem_append_left _ (List.mem_append_left _ (List.mem_append_left _ (List.mem_append_right _ h)))))))
  have hWX8 : ∀ w ∈ wsX80, w.before args s = true := fun w h => hts w (List.mem_cons_of_mem _ (List.mem_append_left _ (List.mem_append_left _ (List.mem_append_left _ (List.mem_append_left _ (List.mem_append_left _ (List.mem_append_left _ (List.mem_append_right _ h))))))))
  refine lv_aload_n (pc := 0) hexec hb dX8_placedIf_0 rfl (lv_at hl 0 rfl) ?_
  refine lv_iload_n (pc := 1) hexec hb dX8_placedIf_1 rfl (lv_at hl 1 rfl) ?_
  rcases tx_e hf with hc | ⟨-, hf⟩
  · exact kVx (pc := 2) (S := ⟨hexec, hb, hml, hown, hts⟩) hP hD hG hA hS [0, 2, 10] [1, 3, 4, 5, 6, 7, 8, 9, 11, 12, 13, 14, 15, 16, 17] [15, 0, 16, 1, 2, 3, 4, 5, 6, 7, 17, 8, 9, 10, 11, 12, 13, 14] rfl rfl rfl rfl rfl rfl (by decide) (x_X8_needHarbour l hlt g a0 a2 a10 _ u0_1 u0_2 (.ref a1) u0_4 u0_5 u0_6 u0_7 u0_8 u0_9 (.ref a9) (.ref a11) u2_3 u2_4 (.int x10_reds) (.ref a14) u10_3 (.ref a15) (.ref a16) x10_count p1 _ hc) gX8_placedIf_X8_needHarbour rfl hv_X8_needHarbour ⟨nle rfl, nle rfl⟩ 8 0 rfl rfl rfl (rest := []) rfl rfl hl.1 (nle rfl) dX8_placedIf_2 ⟨nle rfl, nle rfl⟩ (fun H locs q ce hP hD hS hce hcv hcl => kx_out hQ hex hlocks hP hD hS hce hcv hcl)
  cases hf
set_option maxRecDepth 20000 in
theorem x_X8_wayLength (l : Launch) (hlt : l.stackTraces = false) (g : GE) (a0 a1 a2 a3 a4 a5 a6 a7 a8 a9 a10 a11 : Nat) (sz : Nat) (u0_1 u0_3 u0_4 u0_5 u0_6 u0_7 u0_8 u0_9 u1_2 u1_4 u3_2 u3_5 u4_1 u4_3 u4_4 u4_5 : Value) (x2_length : Int32) (x3_rows : Int32) (x3_columns : Int32) (x4_count : Int32) (y5_namesOn : Nat → Int32) (y6_costs : Nat → Int32) (y7_sums : Nat → Int32) (y8_way : Nat → Int32) (y9_land : Nat → Int32) (y10_riverOf : Nat → Int32) (y11_home : Nat → Int32) (p1 : Int32) (cls : String) (hf : t_X8_wayLength x2_length x3_rows x3_columns x4_count y5_namesOn y6_costs y7_sums y8_way y9_land y10_riverOf y11_home p1 = some cls) : MX l g yX8_wayLength wsX8_wayLength 7 121 [.ref a0, .int p1] (w_X8_wayLength g a0 a1 a2 a3 a4 a5 a6 a7 a8 a9 a10 a11 u0_1 u0_3 u0_4 u0_5 u0_6 u0_7 u0_8 u0_9 u1_2 u1_4 u3_2 u3_5 u4_1 u4_3 u4_4 u4_5 x2_length x3_rows x3_columns x4_count y5_namesOn y6_costs y7_sums y8_way y9_land y10_riverOf y11_home) sz cls := by
  refine MX.start (cc := cX8_wayLength) (maxL := 3) (ret := (some .int)) rfl rfl (nle rfl) ?_
  intro p e s m args below meth c A ls Q hQ hexec hb hr hts hown hlocks hml hex hA hP hD hG hS hl
  unfold t_X8_wayLength at hf
  have hWX1 : ∀ w ∈ wsX10, w.before args s = true := fun w h => hts w (List.mem_cons_of_mem _ (List.mem_append_left _ (List.mem_append_left _ (List.mem_append_left _ (List.mem_append_right _ h)))))
  have hWX2 : ∀ w ∈ wsX20, w.before args s = true := fun w h => hts w (List.mem_cons_of_mem _ (List.mem_append_left _ (List.mem_append_right _ h)))
  have hWX6 : ∀ w ∈ wsX60, w.before args s = true := fun w h => hts w (List.mem_cons_of_mem _ (List.mem_append_left _ (List.mem_append_left _ (List.mem_append_left _ (List.mem_append_left _ (List.mem_append_right _ h))))))
  have hWX7 : ∀ w ∈ wsX70, w.before args s = true := fun w h => hts w (List.mem_cons_of_mem _ (List.mem_append_left _ (List.mem_append_left _ (List.mem_append_right _ h))))
  have hWX8 : ∀ w ∈ wsX80, w.before args s = true := fun w h => hts w (List.mem_cons_of_mem _ (List.mem_append_left _ (List.mem_append_left _ (List.mem_append_left _ (List.mem_append_left _ (List.mem_append_left _ (List.mem_append_right _ h)))))))
  refine lv_aload_n (pc := 0) hexec hb dX8_wayLength_0 rfl (lv_at hl 0 rfl) ?_
  refine lv_iload_n (pc := 1) hexec hb dX8_wayLength_1 rfl (lv_at hl 1 rfl) ?_
  rcases tx_e hf with hc | ⟨-, hf⟩
  · exact kVx (pc := 2) (S := ⟨hexec, hb, hml, hown, hts⟩) hP hD hG hA hS [0, 1, 3] [2, 4, 5, 6, 7, 8, 9, 10, 11] [9, 10, 0, 11, 1, 2, 3, 4, 5, 6, 7, 8] rfl rfl rfl rfl rfl rfl (by decide) (x_X8_needCell l hlt g a0 a1 a3 _ u0_1 (.ref a2) u0_3 u0_4 u0_5 u0_6 u0_7 u0_8 u0_9 (.ref a4) u1_2 (.ref a5) u1_4 u3_2 (.ref a9) (.ref a10) u3_5 x3_rows x3_columns p1 _ hc) gX8_wayLength_X8_needCell rfl hv_X8_needCell ⟨nle rfl, nle rfl⟩ 8 0 rfl rfl rfl (rest := []) rfl rfl hl.1 (nle rfl) dX8_wayLength_2 ⟨nle rfl, nle rfl⟩ (fun H locs q ce hP hD hS hce hcv hcl => kx_out hQ hex hlocks hP hD hS hce hcv hcl)
  cases hf
set_option maxRecDepth 20000 in
theorem x_X8_wayCell (l : Launch) (hlt : l.stackTraces = false) (g : GE) (a0 a1 a2 a3 a4 a5 a6 a7 a8 a9 a10 a11 : Nat) (sz : Nat) (u0_1 u0_3 u0_4 u0_5 u0_6 u0_7 u0_8 u0_9 u1_2 u1_4 u3_2 u3_5 u4_1 u4_3 u4_4 u4_5 : Value) (x2_length : Int32) (x3_rows : Int32) (x3_columns : Int32) (x4_count : Int32) (y5_namesOn : Nat → Int32) (y6_costs : Nat → Int32) (y7_sums : Nat → Int32) (y8_way : Nat → Int32) (y9_land : Nat → Int32) (y10_riverOf : Nat → Int32) (y11_home : Nat → Int32) (p1 : Int32) (p2 : Int32) (cls : String) (hf : t_X8_wayCell x2_length x3_rows x3_columns x4_count y5_namesOn y6_costs y7_sums y8_way y9_land y10_riverOf y11_home p1 p2 = some cls) : MX l g yX8_wayCell wsX8_wayCell 7 121 [.ref a0, .int p1, .int p2] (w_X8_wayCell g a0 a1 a2 a3 a4 a5 a6 a7 a8 a9 a10 a11 u0_1 u0_3 u0_4 u0_5 u0_6 u0_7 u0_8 u0_9 u1_2 u1_4 u3_2 u3_5 u4_1 u4_3 u4_4 u4_5 x2_length x3_rows x3_columns x4_count y5_namesOn y6_costs y7_sums y8_way y9_land y10_riverOf y11_home) sz cls := by
  refine MX.start (cc := cX8_wayCell) (maxL := 3) (ret := (some .int)) rfl rfl (nle rfl) ?_
  intro p e s m args below meth c A ls Q hQ hexec hb hr hts hown hlocks hml hex hA hP hD hG hS hl
  unfold t_X8_wayCell at hf
  have hWX1 : ∀ w ∈ wsX10, w.before args s = true := fun w h => hts w (List.mem_cons_of_mem _ (List.mem_append_left _ (List.mem_append_left _ (List.mem_append_left _ (List.mem_append_right _ h)))))
  have hWX2 : ∀ w ∈ wsX20, w.before args s = true := fun w h => hts w (List.mem_cons_of_mem _ (List.mem_append_left _ (List.mem_append_right _ h)))
  have hWX6 : ∀ w ∈ wsX60, w.before args s = true := fun w h => hts w (List.mem_cons_of_mem _ (List.mem_append_left _ (List.mem_append_left _ (List.mem_append_left _ (List.mem_append_left _ (List.mem_append_right _ h))))))
  have hWX7 : ∀ w ∈ wsX70, w.before args s = true := fun w h => hts w (List.mem_cons_of_mem _ (List.mem_append_left _ (List.mem_append_left _ (List.mem_append_right _ h))))
  have hWX8 : ∀ w ∈ wsX80, w.before args s = true := fun w h => hts w (List.mem_cons_of_mem _ (List.mem_append_left _ (List.mem_append_left _ (List.mem_append_left _ (List.mem_append_left _ (List.mem_append_left _ (List.mem_append_right _ h)))))))
  refine lv_aload_n (pc := 0) hexec hb dX8_wayCell_0 rfl (lv_at hl 0 rfl) ?_
  refine lv_iload_n (pc := 1) hexec hb dX8_wayCell_1 rfl (lv_at hl 1 rfl) ?_
  rcases tx_e hf with hc | ⟨-, hf⟩
  · exact kVx (pc := 2) (S := ⟨hexec, hb, hml, hown, hts⟩) hP hD hG hA hS [0, 1, 3] [2, 4, 5, 6, 7, 8, 9, 10, 11] [9, 10, 0, 11, 1, 2, 3, 4, 5, 6, 7, 8] rfl rfl rfl rfl rfl rfl (by decide) (x_X8_needCell l hlt g a0 a1 a3 _ u0_1 (.ref a2) u0_3 u0_4 u0_5 u0_6 u0_7 u0_8 u0_9 (.ref a4) u1_2 (.ref a5) u1_4 u3_2 (.ref a9) (.ref a10) u3_5 x3_rows x3_columns p1 _ hc) gX8_wayCell_X8_needCell rfl hv_X8_needCell ⟨nle rfl, nle rfl⟩ 8 0 rfl rfl rfl (rest := []) rfl rfl hl.1 (nle rfl) dX8_wayCell_2 ⟨nle rfl, nle rfl⟩ (fun H locs q ce hP hD hS hce hcv hcl => kx_out hQ hex hlocks hP hD hS hce hcv hcl)
  cases hf
set_option maxRecDepth 20000 in
theorem x_X8_washes (l : Launch) (hlt : l.stackTraces = false) (g : GE) (a0 a1 a2 a3 a4 a5 a6 a7 a8 a9 a10 a11 : Nat) (sz : Nat) (u0_1 u0_3 u0_4 u0_5 u0_6 u0_7 u0_8 u0_9 u1_2 u1_4 u3_2 u3_5 u4_1 u4_3 u4_4 u4_5 : Value) (x2_length : Int32) (x3_rows : Int32) (x3_columns : Int32) (x4_count : Int32) (y5_namesOn : Nat → Int32) (y6_costs : Nat → Int32) (y7_sums : Nat → Int32) (y8_way : Nat → Int32) (y9_land : Nat → Int32) (y10_riverOf : Nat → Int32) (y11_home : Nat → Int32) (p1 : Int32) (cls : String) (hf : t_X8_washes x2_length x3_rows x3_columns x4_count y5_namesOn y6_costs y7_sums y8_way y9_land y10_riverOf y11_home p1 = some cls) : MX l g yX8_washes wsX8_washes 7 121 [.ref a0, .int p1] (w_X8_washes g a0 a1 a2 a3 a4 a5 a6 a7 a8 a9 a10 a11 u0_1 u0_3 u0_4 u0_5 u0_6 u0_7 u0_8 u0_9 u1_2 u1_4 u3_2 u3_5 u4_1 u4_3 u4_4 u4_5 x2_length x3_rows x3_columns x4_count y5_namesOn y6_costs y7_sums y8_way y9_land y10_riverOf y11_home) sz cls := by
  refine MX.start (cc := cX8_washes) (maxL := 2) (ret := (some .int)) rfl rfl (nle rfl) ?_
  intro p e s m args below meth c A ls Q hQ hexec hb hr hts hown hlocks hml hex hA hP hD hG hS hl
  unfold t_X8_washes at hf
  have hWX1 : ∀ w ∈ wsX10, w.before args s = true := fun w h => hts w (List.mem_cons_of_mem _ (List.mem_append_left _ (List.mem_append_left _ (List.mem_append_left _ (List.mem_append_right _ h)))))
  have hWX2 : ∀ w ∈ wsX20, w.before args s = true := fun w h => hts w (List.mem_cons_of_mem _ (List.mem_append_left _ (List.mem_append_right _ h)))
  have hWX6 : ∀ w ∈ wsX60, w.before args s = true := fun w h => hts w (List.mem_cons_of_mem _ (List.mem_append_left _ (List.mem_append_left _ (List.mem_append_left _ (List.mem_append_left _ (List.mem_append_right _ h))))))
  have hWX7 : ∀ w ∈ wsX70, w.before args s = true := fun w h => hts w (List.mem_cons_of_mem _ (List.mem_append_left _ (List.mem_append_left _ (List.mem_append_right _ h))))
  have hWX8 : ∀ w ∈ wsX80, w.before args s = true := fun w h => hts w (List.mem_cons_of_mem _ (List.mem_append_left _ (List.mem_append_left _ (List.mem_append_left _ (List.mem_append_left _ (List.mem_append_left _ (List.mem_append_right _ h)))))))
  refine lv_aload_n (pc := 0) hexec hb dX8_washes_0 rfl (lv_at hl 0 rfl) ?_
  refine lv_iload_n (pc := 1) hexec hb dX8_washes_1 rfl (lv_at hl 1 rfl) ?_
  rcases tx_e hf with hc | ⟨-, hf⟩
  · exact kVx (pc := 2) (S := ⟨hexec, hb, hml, hown, hts⟩) hP hD hG hA hS [0, 1, 3] [2, 4, 5, 6, 7, 8, 9, 10, 11] [9, 10, 0, 11, 1, 2, 3, 4, 5, 6, 7, 8] rfl rfl rfl rfl rfl rfl (by decide) (x_X8_needCell l hlt g a0 a1 a3 _ u0_1 (.ref a2) u0_3 u0_4 u0_5 u0_6 u0_7 u0_8 u0_9 (.ref a4) u1_2 (.ref a5) u1_4 u3_2 (.ref a9) (.ref a10) u3_5 x3_rows x3_columns p1 _ hc) gX8_washes_X8_needCell rfl hv_X8_needCell ⟨nle rfl, nle rfl⟩ 8 0 rfl rfl rfl (rest := []) rfl rfl hl.1 (nle rfl) dX8_washes_2 ⟨nle rfl, nle rfl⟩ (fun H locs q ce hP hD hS hce hcv hcl => kx_out hQ hex hlocks hP hD hS hce hcv hcl)
  cases hf
set_option maxRecDepth 20000 in
theorem x_X8_drowns (l : Launch) (hlt : l.stackTraces = false) (g : GE) (a0 a1 a2 a3 : Nat) (sz : Nat) (u0_1 u0_2 u0_3 u0_4 u0_5 u0_6 u0_7 u0_8 u0_9 u1_1 u1_2 u1_4 u2_2 u2_3 u2_4 u2_5 : Value) (x2_rows : Int32) (x2_columns : Int32) (y3_namesOn : Nat → Int32) (p1 : Int32) (cls : String) (hf : t_X8_drowns x2_rows x2_columns y3_namesOn p1 = some cls) : MX l g yX8_drowns wsX8_drowns 7 121 [.ref a0, .int p1] (w_X8_drowns g a0 a1 a2 a3 u0_1 u0_2 u0_3 u0_4 u0_5 u0_6 u0_7 u0_8 u0_9 u1_1 u1_2 u1_4 u2_2 u2_3 u2_4 u2_5 x2_rows x2_columns y3_namesOn) sz cls := by
  refine MX.start (cc := cX8_drowns) (maxL := 2) (ret := (some .int)) rfl rfl (nle rfl) ?_
  intro p e s m args below meth c A ls Q hQ hexec hb hr hts hown hlocks hml hex hA hP hD hG hS hl
  unfold t_X8_drowns at hf
  have hWX1 : ∀ w ∈ wsX10, w.before args s = true := fun w h => hts w (List.mem_cons_of_mem _ (List.mem_append_left _ (List.mem_append_right _ h)))
  have hWX6 : ∀ w ∈ wsX60, w.before args s = true := fun w h => hts w (List.mem_cons_of_mem _ (List.mem_append_left _ (List.mem_append_left _ (List.mem_append_right _ h))))
  have hWX8 : ∀ w ∈ wsX80, w.before args s = true := fun w h => hts w (List.mem_cons_of_mem _ (List.mem_append_left _ (List.mem_append_left _ (List.mem_append_left _ (List.mem_append_right _ h)))))
  refine lv_aload_n (pc := 0) hexec hb dX8_drowns_0 rfl (lv_at hl 0 rfl) ?_
  refine lv_iload_n (pc := 1) hexec hb dX8_drowns_1 rfl (lv_at hl 1 rfl) ?_
  rcases tx_e hf with hc | ⟨-, hf⟩
  · exact kVx (pc := 2) (S := ⟨hexec, hb, hml, hown, hts⟩) hP hD hG hA hS [0, 1, 2] [3] [1, 2, 3, 0] rfl rfl rfl rfl rfl rfl (by decide) (x_X8_needCell l hlt g a0 a1 a2 _ u0_1 u0_2 u0_3 u0_4 u0_5 u0_6 u0_7 u0_8 u0_9 u1_1 u1_2 (.ref a3) u1_4 u2_2 u2_3 u2_4 u2_5 x2_rows x2_columns p1 _ hc) gX8_drowns_X8_needCell rfl hv_X8_needCell ⟨nle rfl, nle rfl⟩ 8 0 rfl rfl rfl (rest := []) rfl rfl hl.1 (nle rfl) dX8_drowns_2 ⟨nle rfl, nle rfl⟩ (fun H locs q ce hP hD hS hce hcv hcl => kx_out hQ hex hlocks hP hD hS hce hcv hcl)
  cases hf
abbrev w_xX8_place (g : GE) (a0 a1 a2 a3 a4 a5 a6 a7 a8 a9 a10 b0_history : Nat) (u0_2 u0_3 u0_4 u0_5 u0_6 u0_7 u0_8 u0_9 u1_2 u2_2 u2_5 u3_3 : Value) (x2_rows : Int32) (x2_columns : Int32) (x3_count : Int32) (x3_reds : Int32) (y4_letterOn : Nat → Int32) (y5_namesOn : Nat → Int32) (y6_land : Nat → Int32) (y7_riverOf : Nat → Int32) (y8_home : Nat → Int32) (y9_length : Nat → Int32) (y10_letters : Nat → Int32) : va_W := [(a0, .inr (8, [.ref a1, .ref b0_history, u0_2, u0_3, u0_4, u0_5, u0_6, u0_7, u0_8, u0_9])), (a1, .inr (6, [.ref a2, .ref a3, u1_2, .ref a5, .ref a4])), (a2, .inr (1, [.int x2_rows, .int x2_columns, u2_2, .ref a6, .ref a7, u2_5])), (a3, .inr (2, [.int x3_count, .int x3_reds, .ref a8, u3_3, .ref a9, .ref a10])), (a4, .inl (g.2.1 0, 144, .inl y4_letterOn)), (a5, .inl (g.2.1 0, 144, .inl y5_namesOn)), (a6, .inl (g.2.1 1, 144, .inl y6_land)), (a7, .inl (g.2.1 0, 144, .inl y7_riverOf)), (a8, .inl (g.2.1 0, 8, .inl y8_home)), (a9, .inl (g.2.1 0, 8, .inl y9_length)), (a10, .inl (g.2.1 0, 64, .inl y10_letters))]
set_option maxRecDepth 20000 in
theorem x_X8_place (l : Launch) (hlt : l.stackTraces = false) (g : GE) (a0 a1 a2 a3 a4 a5 a6 a7 a8 a9 a10 b0_history : Nat) (sz : Nat) (u0_2 u0_3 u0_4 u0_5 u0_6 u0_7 u0_8 u0_9 u1_2 u2_2 u2_5 u3_3 : Value) (x2_rows : Int32) (x2_columns : Int32) (x3_count : Int32) (x3_reds : Int32) (y4_letterOn : Nat → Int32) (y5_namesOn : Nat → Int32) (y6_land : Nat → Int32) (y7_riverOf : Nat → Int32) (y8_home : Nat → Int32) (y9_length : Nat → Int32) (y10_letters : Nat → Int32) (p1 : Int32) (p2 : Int32) (cls : String) (hf : t_X8_place x2_rows x2_columns x3_count x3_reds y4_letterOn y5_namesOn y6_land y7_riverOf y8_home y9_length y10_letters p1 p2 = some cls) : MX l g yX8_place wsX8_place 7 121 [.ref a0, .int p1, .int p2] (w_xX8_place g a0 a1 a2 a3 a4 a5 a6 a7 a8 a9 a10 b0_history u0_2 u0_3 u0_4 u0_5 u0_6 u0_7 u0_8 u0_9 u1_2 u2_2 u2_5 u3_3 x2_rows x2_columns x3_count x3_reds y4_letterOn y5_namesOn y6_land y7_riverOf y8_home y9_length y10_letters) sz cls := by
  refine MX.start (cc := cX8_place) (maxL := 4) (ret := (some .int)) rfl rfl (nle rfl) ?_
  intro p e s m args below meth c A ls Q hQ hexec hb hr hts hown hlocks hml hex hA hP hD hG hS hl
  unfold t_X8_place at hf
  have hWX1 : ∀ w ∈ wsX10, w.before args s = true := fun w h => hts w (List.mem_cons_of_mem _ (List.mem_append_left _ (List.mem_append_left _ (List.mem_append_left _ (List.mem_append_left _ (List.mem_append_right _ h))))))
  have hWX2 : ∀ w ∈ wsX20, w.before args s = true := fun w h => hts w (List.mem_cons_of_mem _ (List.mem_append_left _ (List.mem_append_left _ (List.mem_append_left _ (List.mem_append_left _ (List.mem_append_left _ (List.mem_append_right _ h)))))))
  have hWX6 : ∀ w ∈ wsX60, w.before args s = true := fun w h => hts w (List.mem_cons_of_mem _ (List.mem_append_left _ (List.mem_append_left _ (List.mem_append_left _ (List.mem_append_left _ (List.mem_append_left _ (List.mem_append_left _ (List.mem_append_right _ h))))))))
  have hWX8 : ∀ w ∈ wsX80, w.before args s = true := fun w h => hts w (List.mem_cons_of_mem _ (List.mem_append_left _ (List.mem_append_left _ (List.mem_append_left _ (List.mem_append_left _ (List.mem_append_left _ (List.mem_append_left _ (List.mem_append_left _ (List.mem_append_right _ h)))))))))
  refine lv_aload_n (pc := 0) hexec hb dX8_place_0 rfl (lv_at hl 0 rfl) ?_
  refine lv_iload_n (pc := 1) hexec hb dX8_place_1 rfl (lv_at hl 1 rfl) ?_
  rcases tx_e hf with hc | ⟨-, hf⟩
  · exact kVx (pc := 2) (S := ⟨hexec, hb, hml, hown, hts⟩) hP hD hG hA hS [0, 1, 3] [2, 4, 5, 6, 7, 8, 9, 10] [8, 9, 0, 10, 1, 2, 3, 4, 5, 6, 7] rfl rfl rfl rfl rfl rfl (by decide) (x_X8_needHarbour l hlt g a0 a1 a3 _ (.ref b0_history) u0_2 u0_3 u0_4 u0_5 u0_6 u0_7 u0_8 u0_9 (.ref a2) u1_2 (.ref a5) (.ref a4) (.int x3_reds) (.ref a8) u3_3 (.ref a9) (.ref a10) x3_count p1 _ hc) gX8_place_X8_needHarbour rfl hv_X8_needHarbour ⟨nle rfl, nle rfl⟩ 8 0 rfl rfl rfl (rest := []) rfl rfl hl.1 (nle rfl) dX8_place_2 ⟨nle rfl, nle rfl⟩ (fun H locs q ce hP hD hS hce hcv hcl => kx_out hQ hex hlocks hP hD hS hce hcv hcl)
  obtain ⟨_, hc, hf⟩ := bd1_e hf
  refine kVp (pc := 2) (S := ⟨hexec, hb, hml, hown, hts⟩) hP hD hG hA hS [0, 1, 3] [2, 4, 5, 6, 7, 8, 9, 10] [8, 9, 0, 10, 1, 2, 3, 4, 5, 6, 7] (w2 := (w_xX8_place g a0 a1 a2 a3 a4 a5 a6 a7 a8 a9 a10 b0_history u0_2 u0_3 u0_4 u0_5 u0_6 u0_7 u0_8 u0_9 u1_2 u2_2 u2_5 u3_3 x2_rows x2_columns x3_count x3_reds y4_letterOn y5_namesOn y6_land y7_riverOf y8_home y9_length y10_letters)) rfl rfl rfl rfl rfl rfl (by decide) (c_X8_needHarbour l g a0 a1 a3 _ (.ref b0_history) u0_2 u0_3 u0_4 u0_5 u0_6 u0_7 u0_8 u0_9 (.ref a2) u1_2 (.ref a5) (.ref a4) (.int x3_reds) (.ref a8) u3_3 (.ref a9) (.ref a10) x3_count p1 hc) gX8_place_X8_needHarbour rfl hv_X8_needHarbour ⟨nle rfl, nle rfl⟩ 8 0 rfl rfl rfl (rest := []) rfl rfl hl.1 (nle rfl) dX8_place_2 (fun H locs hP hD hS => ?_)
  refine lv_iload_n (pc := 5) hexec hb dX8_place_5 rfl (lv_at hl 2 rfl) ?_
  rcases tx_e hf with hc | ⟨-, hf⟩
  · exact kSx (pc := 6) (S := ⟨hexec, hb, hml, hown, hts⟩) hP hD hG hA hS [] [0, 1, 2, 3, 4, 5, 6, 7, 8, 9, 10] [0, 1, 2, 3, 4, 5, 6, 7, 8, 9, 10] rfl rfl rfl rfl rfl rfl (by decide) (x_X8_needDirection l hlt g _ p2 _ hc) gX8_place_X8_needDirection rfl hs_X8_needDirection ⟨nle rfl, nle rfl⟩ (rest := []) rfl rfl hl.1 (nle rfl) dX8_place_6 ⟨nle rfl, nle rfl⟩ (fun H locs q ce hP hD hS hce hcv hcl => kx_out hQ hex hlocks hP hD hS hce hcv hcl)
  cases hf
abbrev w_xX8_lift (g : GE) (a0 a1 a2 a3 b0_history : Nat) (u0_2 u0_3 u0_4 u0_5 u0_6 u0_7 u0_8 u0_9 u1_0 u1_2 u1_3 u1_4 u2_1 u2_2 u2_4 u2_5 : Value) (x2_count : Int32) (y3_direction : Nat → Int32) : va_W := [(a0, .inr (8, [.ref a1, .ref b0_history, u0_2, u0_3, u0_4, u0_5, u0_6, u0_7, u0_8, u0_9])), (a1, .inr (6, [u1_0, .ref a2, u1_2, u1_3, u1_4])), (a2, .inr (2, [.int x2_count, u2_1, u2_2, .ref a3, u2_4, u2_5])), (a3, .inl (g.2.1 0, 8, .inl y3_direction))]
set_option maxRecDepth 20000 in
theorem x_X8_lift (l : Launch) (hlt : l.stackTraces = false) (g : GE) (a0 a1 a2 a3 b0_history : Nat) (sz : Nat) (u0_2 u0_3 u0_4 u0_5 u0_6 u0_7 u0_8 u0_9 u1_0 u1_2 u1_3 u1_4 u2_1 u2_2 u2_4 u2_5 : Value) (x2_count : Int32) (y3_direction : Nat → Int32) (p1 : Int32) (cls : String) (hf : t_X8_lift x2_count y3_direction p1 = some cls) : MX l g yX8_lift wsX8_lift 7 121 [.ref a0, .int p1] (w_xX8_lift g a0 a1 a2 a3 b0_history u0_2 u0_3 u0_4 u0_5 u0_6 u0_7 u0_8 u0_9 u1_0 u1_2 u1_3 u1_4 u2_1 u2_2 u2_4 u2_5 x2_count y3_direction) sz cls := by
  refine MX.start (cc := cX8_lift) (maxL := 3) (ret := (some .int)) rfl rfl (nle rfl) ?_
  intro p e s m args below meth c A ls Q hQ hexec hb hr hts hown hlocks hml hex hA hP hD hG hS hl
  unfold t_X8_lift at hf
  have hWX2 : ∀ w ∈ wsX20, w.before args s = true := fun w h => hts w (List.mem_cons_of_mem _ (List.mem_append_left _ (List.mem_append_left _ (List.mem_append_left _ (List.mem_append_left _ (List.mem_append_right _ h))))))
  have hWX6 : ∀ w ∈ wsX60, w.before args s = true := fun w h => hts w (List.mem_cons_of_mem _ (List.mem_append_left _ (List.mem_append_left _ (List.mem_append_left _ (List.mem_append_left _ (List.mem_append_left _ (List.mem_append_right _ h)))))))
  have hWX8 : ∀ w ∈ wsX80, w.before args s = true := fun w h => hts w (List.mem_cons_of_mem _ (List.mem_append_left _ (List.mem_append_left _ (List.mem_append_left _ (List.mem_append_left _ (List.mem_append_left _ (List.mem_append_left _ (List.mem_append_right _ h))))))))
  refine lv_aload_n (pc := 0) hexec hb dX8_lift_0 rfl (lv_at hl 0 rfl) ?_
  refine lv_iload_n (pc := 1) hexec hb dX8_lift_1 rfl (lv_at hl 1 rfl) ?_
  rcases tx_e hf with hc | ⟨-, hf⟩
  · exact kVx (pc := 2) (S := ⟨hexec, hb, hml, hown, hts⟩) hP hD hG hA hS [0, 1, 2] [3] [1, 2, 3, 0] rfl rfl rfl rfl rfl rfl (by decide) (x_X8_needHarbour l hlt g a0 a1 a2 _ (.ref b0_history) u0_2 u0_3 u0_4 u0_5 u0_6 u0_7 u0_8 u0_9 u1_0 u1_2 u1_3 u1_4 u2_1 u2_2 (.ref a3) u2_4 u2_5 x2_count p1 _ hc) gX8_lift_X8_needHarbour rfl hv_X8_needHarbour ⟨nle rfl, nle rfl⟩ 8 0 rfl rfl rfl (rest := []) rfl rfl hl.1 (nle rfl) dX8_lift_2 ⟨nle rfl, nle rfl⟩ (fun H locs q ce hP hD hS hce hcv hcl => kx_out hQ hex hlocks hP hD hS hce hcv hcl)
  cases hf
abbrev w_xX8_setRed (g : GE) (a0 a1 a2 b0_history : Nat) (u0_2 u0_3 u0_4 u0_5 u0_6 u0_7 u0_8 u0_9 u1_0 u1_2 u1_3 u1_4 u2_1 u2_2 u2_3 u2_4 u2_5 : Value) (x2_count : Int32) : va_W := [(a0, .inr (8, [.ref a1, .ref b0_history, u0_2, u0_3, u0_4, u0_5, u0_6, u0_7, u0_8, u0_9])), (a1, .inr (6, [u1_0, .ref a2, u1_2, u1_3, u1_4])), (a2, .inr (2, [.int x2_count, u2_1, u2_2, u2_3, u2_4, u2_5]))]
set_option maxRecDepth 20000 in
theorem x_X8_setRed (l : Launch) (hlt : l.stackTraces = false) (g : GE) (a0 a1 a2 b0_history : Nat) (sz : Nat) (u0_2 u0_3 u0_4 u0_5 u0_6 u0_7 u0_8 u0_9 u1_0 u1_2 u1_3 u1_4 u2_1 u2_2 u2_3 u2_4 u2_5 : Value) (x2_count : Int32) (p1 : Int32) (p2 : Int32) (cls : String) (hf : t_X8_setRed x2_count p1 p2 = some cls) : MX l g yX8_setRed wsX8_setRed 7 121 [.ref a0, .int p1, .int p2] (w_xX8_setRed g a0 a1 a2 b0_history u0_2 u0_3 u0_4 u0_5 u0_6 u0_7 u0_8 u0_9 u1_0 u1_2 u1_3 u1_4 u2_1 u2_2 u2_3 u2_4 u2_5 x2_count) sz cls := by
  refine MX.start (cc := cX8_setRed) (maxL := 4) (ret := (some .boolean)) rfl rfl (nle rfl) ?_
  intro p e s m args below meth c A ls Q hQ hexec hb hr hts hown hlocks hml hex hA hP hD hG hS hl
  unfold t_X8_setRed at hf
  have hWX2 : ∀ w ∈ wsX20, w.before args s = true := fun w h => hts w (List.mem_cons_of_mem _ (List.mem_append_left _ (List.mem_append_left _ (List.mem_append_left _ (List.mem_append_left _ (List.mem_append_right _ h))))))
  have hWX6 : ∀ w ∈ wsX60, w.before args s = true := fun w h => hts w (List.mem_cons_of_mem _ (List.mem_append_left _ (List.mem_append_left _ (List.mem_append_left _ (List.mem_append_left _ (List.mem_append_left _ (List.mem_append_right _ h)))))))
  have hWX8 : ∀ w ∈ wsX80, w.before args s = true := fun w h => hts w (List.mem_cons_of_mem _ (List.mem_append_left _ (List.mem_append_left _ (List.mem_append_left _ (List.mem_append_left _ (List.mem_append_left _ (List.mem_append_left _ (List.mem_append_right _ h))))))))
  refine lv_aload_n (pc := 0) hexec hb dX8_setRed_0 rfl (lv_at hl 0 rfl) ?_
  refine lv_iload_n (pc := 1) hexec hb dX8_setRed_1 rfl (lv_at hl 1 rfl) ?_
  rcases tx_e hf with hc | ⟨-, hf⟩
  · exact kVx (pc := 2) (S := ⟨hexec, hb, hml, hown, hts⟩) hP hD hG hA hS [0, 1, 2] [] [0, 1, 2] rfl rfl rfl rfl rfl rfl (by decide) (x_X8_needHarbour l hlt g a0 a1 a2 _ (.ref b0_history) u0_2 u0_3 u0_4 u0_5 u0_6 u0_7 u0_8 u0_9 u1_0 u1_2 u1_3 u1_4 u2_1 u2_2 u2_3 u2_4 u2_5 x2_count p1 _ hc) gX8_setRed_X8_needHarbour rfl hv_X8_needHarbour ⟨nle rfl, nle rfl⟩ 8 0 rfl rfl rfl (rest := []) rfl rfl hl.1 (nle rfl) dX8_setRed_2 ⟨nle rfl, nle rfl⟩ (fun H locs q ce hP hD hS hce hcv hcl => kx_out hQ hex hlocks hP hD hS hce hcv hcl)
  cases hf
abbrev w_xX8_addRiver (g : GE) (a0 a1 a2 a3 a4 a5 a6 a7 a8 a9 a10 a11 b0_history : Nat) (u0_3 u0_4 u0_5 u0_6 u0_7 u0_8 u0_9 u1_2 u1_4 u3_5 u4_1 u4_3 u4_4 u4_5 : Value) (x2_length : Int32) (x3_rows : Int32) (x3_columns : Int32) (x3_rivers : Int32) (x4_count : Int32) (y5_namesOn : Nat → Int32) (y6_costs : Nat → Int32) (y7_sums : Nat → Int32) (y8_way : Nat → Int32) (y9_land : Nat → Int32) (y10_riverOf : Nat → Int32) (y11_home : Nat → Int32) : va_W := [(a0, .inr (8, [.ref a1, .ref b0_history, .ref a2, u0_3, u0_4, u0_5, u0_6, u0_7, u0_8, u0_9])), (a1, .inr (6, [.ref a3, .ref a4, u1_2, .ref a5, u1_4])), (a2, .inr (7, [.ref a6, .ref a7, .ref a8, .int x2_length])), (a3, .inr (1, [.int x3_rows, .int x3_columns, .int x3_rivers, .ref a9, .ref a10, u3_5])), (a4, .inr (2, [.int x4_count, u4_1, .ref a11, u4_3, u4_4, u4_5])), (a5, .inl (g.2.1 0, 144, .inl y5_namesOn)), (a6, .inl (g.2.1 0, 144, .inl y6_costs)), (a7, .inl (g.2.1 0, 144, .inl y7_sums)), (a8, .inl (g.2.1 0, 144, .inl y8_way)), (a9, .inl (g.2.1 1, 144, .inl y9_land)), (a10, .inl (g.2.1 0, 144, .inl y10_riverOf)), (a11, .inl (g.2.1 0, 8, .inl y11_home))]
set_option maxRecDepth 20000 in
theorem x_X8_addRiver (l : Launch) (hlt : l.stackTraces = false) (g : GE) (a0 a1 a2 a3 a4 a5 a6 a7 a8 a9 a10 a11 b0_history : Nat) (sz : Nat) (u0_3 u0_4 u0_5 u0_6 u0_7 u0_8 u0_9 u1_2 u1_4 u3_5 u4_1 u4_3 u4_4 u4_5 : Value) (x2_length : Int32) (x3_rows : Int32) (x3_columns : Int32) (x3_rivers : Int32) (x4_count : Int32) (y5_namesOn : Nat → Int32) (y6_costs : Nat → Int32) (y7_sums : Nat → Int32) (y8_way : Nat → Int32) (y9_land : Nat → Int32) (y10_riverOf : Nat → Int32) (y11_home : Nat → Int32) (p1 : Int32) (cls : String) (hf : t_X8_addRiver x2_length x3_rows x3_columns x3_rivers x4_count y5_namesOn y6_costs y7_sums y8_way y9_land y10_riverOf y11_home p1 = some cls) : MX l g yX8_addRiver wsX8_addRiver 7 121 [.ref a0, .int p1] (w_xX8_addRiver g a0 a1 a2 a3 a4 a5 a6 a7 a8 a9 a10 a11 b0_history u0_3 u0_4 u0_5 u0_6 u0_7 u0_8 u0_9 u1_2 u1_4 u3_5 u4_1 u4_3 u4_4 u4_5 x2_length x3_rows x3_columns x3_rivers x4_count y5_namesOn y6_costs y7_sums y8_way y9_land y10_riverOf y11_home) sz cls := by
  refine MX.start (cc := cX8_addRiver) (maxL := 2) (ret := (some .int)) rfl rfl (nle rfl) ?_
  intro p e s m args below meth c A ls Q hQ hexec hb hr hts hown hlocks hml hex hA hP hD hG hS hl
  unfold t_X8_addRiver at hf
  have hWX1 : ∀ w ∈ wsX10, w.before args s = true := fun w h => hts w (List.mem_cons_of_mem _ (List.mem_append_left _ (List.mem_append_left _ (List.mem_append_left _ (List.mem_append_left _ (List.mem_append_left _ (List.mem_append_right _ h)))))))
  have hWX2 : ∀ w ∈ wsX20, w.before args s = true := fun w h => hts w (List.mem_cons_of_mem _ (List.mem_append_left _ (List.mem_append_left _ (List.mem_append_left _ (List.mem_append_right _ h)))))
  have hWX6 : ∀ w ∈ wsX60, w.before args s = true := fun w h => hts w (List.mem_cons_of_mem _ (List.mem_append_left _ (List.mem_append_left _ (List.mem_append_left _ (List.mem_append_left _ (List.mem_append_left _ (List.mem_append_left _ (List.mem_append_right _ h))))))))
  have hWX7 : ∀ w ∈ wsX70, w.before args s = true := fun w h => hts w (List.mem_cons_of_mem _ (List.mem_append_left _ (List.mem_append_left _ (List.mem_append_left _ (List.mem_append_left _ (List.mem_append_right _ h))))))
  have hWX8 : ∀ w ∈ wsX80, w.before args s = true := fun w h => hts w (List.mem_cons_of_mem _ (List.mem_append_left _ (List.mem_append_left _ (List.mem_append_left _ (List.mem_append_left _ (List.mem_append_left _ (List.mem_append_left _ (List.mem_append_left _ (List.mem_append_right _ h)))))))))
  refine lv_aload_n (pc := 0) hexec hb dX8_addRiver_0 rfl (lv_at hl 0 rfl) ?_
  refine lv_iload_n (pc := 1) hexec hb dX8_addRiver_1 rfl (lv_at hl 1 rfl) ?_
  rcases tx_e hf with hc | ⟨-, hf⟩
  · exact kVx (pc := 2) (S := ⟨hexec, hb, hml, hown, hts⟩) hP hD hG hA hS [0, 1, 3] [2, 4, 5, 6, 7, 8, 9, 10, 11] [9, 10, 0, 11, 1, 2, 3, 4, 5, 6, 7, 8] rfl rfl rfl rfl rfl rfl (by decide) (x_X8_needCell l hlt g a0 a1 a3 _ (.ref b0_history) (.ref a2) u0_3 u0_4 u0_5 u0_6 u0_7 u0_8 u0_9 (.ref a4) u1_2 (.ref a5) u1_4 (.int x3_rivers) (.ref a9) (.ref a10) u3_5 x3_rows x3_columns p1 _ hc) gX8_addRiver_X8_needCell rfl hv_X8_needCell ⟨nle rfl, nle rfl⟩ 8 0 rfl rfl rfl (rest := []) rfl rfl hl.1 (nle rfl) dX8_addRiver_2 ⟨nle rfl, nle rfl⟩ (fun H locs q ce hP hD hS hce hcv hcl => kx_out hQ hex hlocks hP hD hS hce hcv hcl)
  cases hf
abbrev w_xX8_dropRiver (g : GE) (a0 a1 a2 b0_history : Nat) (u0_2 u0_3 u0_4 u0_5 u0_6 u0_7 u0_8 u0_9 u1_1 u1_2 u1_3 u1_4 u2_0 u2_1 u2_3 u2_4 u2_5 : Value) (x2_rivers : Int32) : va_W := [(a0, .inr (8, [.ref a1, .ref b0_history, u0_2, u0_3, u0_4, u0_5, u0_6, u0_7, u0_8, u0_9])), (a1, .inr (6, [.ref a2, u1_1, u1_2, u1_3, u1_4])), (a2, .inr (1, [u2_0, u2_1, .int x2_rivers, u2_3, u2_4, u2_5]))]
set_option maxRecDepth 20000 in
theorem x_X8_dropRiver (l : Launch) (hlt : l.stackTraces = false) (g : GE) (a0 a1 a2 b0_history : Nat) (sz : Nat) (u0_2 u0_3 u0_4 u0_5 u0_6 u0_7 u0_8 u0_9 u1_1 u1_2 u1_3 u1_4 u2_0 u2_1 u2_3 u2_4 u2_5 : Value) (x2_rivers : Int32) (p1 : Int32) (cls : String) (hf : t_X8_dropRiver x2_rivers p1 = some cls) : MX l g yX8_dropRiver wsX8_dropRiver 7 121 [.ref a0, .int p1] (w_xX8_dropRiver g a0 a1 a2 b0_history u0_2 u0_3 u0_4 u0_5 u0_6 u0_7 u0_8 u0_9 u1_1 u1_2 u1_3 u1_4 u2_0 u2_1 u2_3 u2_4 u2_5 x2_rivers) sz cls := by
  refine MX.start (cc := cX8_dropRiver) (maxL := 2) (ret := (some .int)) rfl rfl (nle rfl) ?_
  intro p e s m args below meth c A ls Q hQ hexec hb hr hts hown hlocks hml hex hA hP hD hG hS hl
  unfold t_X8_dropRiver at hf
  have hWX1 : ∀ w ∈ wsX10, w.before args s = true := fun w h => hts w (List.mem_cons_of_mem _ (List.mem_append_left _ (List.mem_append_left _ (List.mem_append_left _ (List.mem_append_left _ (List.mem_append_right _ h))))))
  have hWX6 : ∀ w ∈ wsX60, w.before args s = true := fun w h => hts w (List.mem_cons_of_mem _ (List.mem_append_left _ (List.mem_append_left _ (List.mem_append_left _ (List.mem_append_left _ (List.mem_append_left _ (List.mem_append_right _ h)))))))
  have hWX8 : ∀ w ∈ wsX80, w.before args s = true := fun w h => hts w (List.mem_cons_of_mem _ (List.mem_append_left _ (List.mem_append_left _ (List.mem_append_left _ (List.mem_append_left _ (List.mem_append_left _ (List.mem_append_left _ (List.mem_append_right _ h))))))))
  refine lv_aload_n (pc := 0) hexec hb dX8_dropRiver_0 rfl (lv_at hl 0 rfl) ?_
  refine lv_iload_n (pc := 1) hexec hb dX8_dropRiver_1 rfl (lv_at hl 1 rfl) ?_
  rcases tx_e hf with hc | ⟨-, hf⟩
  · exact kVx (pc := 2) (S := ⟨hexec, hb, hml, hown, hts⟩) hP hD hG hA hS [0, 1, 2] [] [0, 1, 2] rfl rfl rfl rfl rfl rfl (by decide) (x_X8_needRiver l hlt g a0 a1 a2 _ (.ref b0_history) u0_2 u0_3 u0_4 u0_5 u0_6 u0_7 u0_8 u0_9 u1_1 u1_2 u1_3 u1_4 u2_0 u2_1 u2_3 u2_4 u2_5 x2_rivers p1 _ hc) gX8_dropRiver_X8_needRiver rfl hv_X8_needRiver ⟨nle rfl, nle rfl⟩ 8 0 rfl rfl rfl (rest := []) rfl rfl hl.1 (nle rfl) dX8_dropRiver_2 ⟨nle rfl, nle rfl⟩ (fun H locs q ce hP hD hS hce hcv hcl => kx_out hQ hex hlocks hP hD hS hce hcv hcl)
  cases hf
abbrev w_xX8_erode (g : GE) (a0 a1 a2 a3 a4 a5 a6 b0_history : Nat) (u0_2 u0_3 u0_4 u0_5 u0_6 u0_7 u0_8 u0_9 u1_2 u1_3 u1_4 u2_2 u2_5 u3_1 u3_3 u3_4 u3_5 : Value) (x2_rows : Int32) (x2_columns : Int32) (x3_count : Int32) (y4_land : Nat → Int32) (y5_riverOf : Nat → Int32) (y6_home : Nat → Int32) : va_W := [(a0, .inr (8, [.ref a1, .ref b0_history, u0_2, u0_3, u0_4, u0_5, u0_6, u0_7, u0_8, u0_9])), (a1, .inr (6, [.ref a2, .ref a3, u1_2, u1_3, u1_4])), (a2, .inr (1, [.int x2_rows, .int x2_columns, u2_2, .ref a4, .ref a5, u2_5])), (a3, .inr (2, [.int x3_count, u3_1, .ref a6, u3_3, u3_4, u3_5])), (a4, .inl (g.2.1 1, 144, .inl y4_land)), (a5, .inl (g.2.1 0, 144, .inl y5_riverOf)), (a6, .inl (g.2.1 0, 8, .inl y6_home))]
set_option maxRecDepth 20000 in
theorem x_X8_erode (l : Launch) (hlt : l.stackTraces = false) (g : GE) (a0 a1 a2 a3 a4 a5 a6 b0_history : Nat) (sz : Nat) (u0_2 u0_3 u0_4 u0_5 u0_6 u0_7 u0_8 u0_9 u1_2 u1_3 u1_4 u2_2 u2_5 u3_1 u3_3 u3_4 u3_5 : Value) (x2_rows : Int32) (x2_columns : Int32) (x3_count : Int32) (y4_land : Nat → Int32) (y5_riverOf : Nat → Int32) (y6_home : Nat → Int32) (p1 : Int32) (cls : String) (hf : t_X8_erode x2_rows x2_columns x3_count y4_land y5_riverOf y6_home p1 = some cls) : MX l g yX8_erode wsX8_erode 7 121 [.ref a0, .int p1] (w_xX8_erode g a0 a1 a2 a3 a4 a5 a6 b0_history u0_2 u0_3 u0_4 u0_5 u0_6 u0_7 u0_8 u0_9 u1_2 u1_3 u1_4 u2_2 u2_5 u3_1 u3_3 u3_4 u3_5 x2_rows x2_columns x3_count y4_land y5_riverOf y6_home) sz cls := by
  refine MX.start (cc := cX8_erode) (maxL := 3) (ret := (some .int)) rfl rfl (nle rfl) ?_
  intro p e s m args below meth c A ls Q hQ hexec hb hr hts hown hlocks hml hex hA hP hD hG hS hl
  unfold t_X8_erode at hf
  have hWX1 : ∀ w ∈ wsX10, w.before args s = true := fun w h => hts w (List.mem_cons_of_mem _ (List.mem_append_left _ (List.mem_append_left _ (List.mem_append_left _ (List.mem_append_left _ (List.mem_append_right _ h))))))
  have hWX2 : ∀ w ∈ wsX20, w.before args s = true := fun w h => hts w (List.mem_cons_of_mem _ (List.mem_append_left _ (List.mem_append_left _ (List.mem_append_left _ (List.mem_append_right _ h)))))
  have hWX6 : ∀ w ∈ wsX60, w.before args s = true := fun w h => hts w (List.mem_cons_of_mem _ (List.mem_append_left _ (List.mem_append_left _ (List.mem_append_left _ (List.mem_append_left _ (List.mem_append_left _ (List.mem_append_right _ h)))))))
  have hWX8 : ∀ w ∈ wsX80, w.before args s = true := fun w h => hts w (List.mem_cons_of_mem _ (List.mem_append_left _ (List.mem_append_left _ (List.mem_append_left _ (List.mem_append_left _ (List.mem_append_left _ (List.mem_append_left _ (List.mem_append_right _ h))))))))
  refine lv_aload_n (pc := 0) hexec hb dX8_erode_0 rfl (lv_at hl 0 rfl) ?_
  refine lv_iload_n (pc := 1) hexec hb dX8_erode_1 rfl (lv_at hl 1 rfl) ?_
  rcases tx_e hf with hc | ⟨-, hf⟩
  · exact kVx (pc := 2) (S := ⟨hexec, hb, hml, hown, hts⟩) hP hD hG hA hS [0, 1, 2] [3, 4, 5, 6] [4, 5, 6, 0, 1, 2, 3] rfl rfl rfl rfl rfl rfl (by decide) (x_X8_needCell l hlt g a0 a1 a2 _ (.ref b0_history) u0_2 u0_3 u0_4 u0_5 u0_6 u0_7 u0_8 u0_9 (.ref a3) u1_2 u1_3 u1_4 u2_2 (.ref a4) (.ref a5) u2_5 x2_rows x2_columns p1 _ hc) gX8_erode_X8_needCell rfl hv_X8_needCell ⟨nle rfl, nle rfl⟩ 8 0 rfl rfl rfl (rest := []) rfl rfl hl.1 (nle rfl) dX8_erode_2 ⟨nle rfl, nle rfl⟩ (fun H locs q ce hP hD hS hce hcv hcl => kx_out hQ hex hlocks hP hD hS hce hcv hcl)
  cases hf
abbrev w_xX8_raise (g : GE) (a0 a1 a2 a3 a4 a5 b0_history : Nat) (u0_2 u0_3 u0_4 u0_5 u0_6 u0_7 u0_8 u0_9 u1_2 u1_3 u1_4 u2_2 u2_4 u2_5 u3_1 u3_3 u3_4 u3_5 : Value) (x2_rows : Int32) (x2_columns : Int32) (x3_count : Int32) (y4_land : Nat → Int32) (y5_home : Nat → Int32) : va_W := [(a0, .inr (8, [.ref a1, .ref b0_history, u0_2, u0_3, u0_4, u0_5, u0_6, u0_7, u0_8, u0_9])), (a1, .inr (6, [.ref a2, .ref a3, u1_2, u1_3, u1_4])), (a2, .inr (1, [.int x2_rows, .int x2_columns, u2_2, .ref a4, u2_4, u2_5])), (a3, .inr (2, [.int x3_count, u3_1, .ref a5, u3_3, u3_4, u3_5])), (a4, .inl (g.2.1 1, 144, .inl y4_land)), (a5, .inl (g.2.1 0, 8, .inl y5_home))]
set_option maxRecDepth 20000 in
theorem x_X8_raise (l : Launch) (hlt : l.stackTraces = false) (g : GE) (a0 a1 a2 a3 a4 a5 b0_history : Nat) (sz : Nat) (u0_2 u0_3 u0_4 u0_5 u0_6 u0_7 u0_8 u0_9 u1_2 u1_3 u1_4 u2_2 u2_4 u2_5 u3_1 u3_3 u3_4 u3_5 : Value) (x2_rows : Int32) (x2_columns : Int32) (x3_count : Int32) (y4_land : Nat → Int32) (y5_home : Nat → Int32) (p1 : Int32) (cls : String) (hf : t_X8_raise x2_rows x2_columns x3_count y4_land y5_home p1 = some cls) : MX l g yX8_raise wsX8_raise 7 121 [.ref a0, .int p1] (w_xX8_raise g a0 a1 a2 a3 a4 a5 b0_history u0_2 u0_3 u0_4 u0_5 u0_6 u0_7 u0_8 u0_9 u1_2 u1_3 u1_4 u2_2 u2_4 u2_5 u3_1 u3_3 u3_4 u3_5 x2_rows x2_columns x3_count y4_land y5_home) sz cls := by
  refine MX.start (cc := cX8_raise) (maxL := 3) (ret := (some .int)) rfl rfl (nle rfl) ?_
  intro p e s m args below meth c A ls Q hQ hexec hb hr hts hown hlocks hml hex hA hP hD hG hS hl
  unfold t_X8_raise at hf
  have hWX1 : ∀ w ∈ wsX10, w.before args s = true := fun w h => hts w (List.mem_cons_of_mem _ (List.mem_append_left _ (List.mem_append_left _ (List.mem_append_left _ (List.mem_append_left _ (List.mem_append_right _ h))))))
  have hWX2 : ∀ w ∈ wsX20, w.before args s = true := fun w h => hts w (List.mem_cons_of_mem _ (List.mem_append_left _ (List.mem_append_left _ (List.mem_append_left _ (List.mem_append_right _ h)))))
  have hWX6 : ∀ w ∈ wsX60, w.before args s = true := fun w h => hts w (List.mem_cons_of_mem _ (List.mem_append_left _ (List.mem_append_left _ (List.mem_append_left _ (List.mem_append_left _ (List.mem_append_left _ (List.mem_append_right _ h)))))))
  have hWX8 : ∀ w ∈ wsX80, w.before args s = true := fun w h => hts w (List.mem_cons_of_mem _ (List.mem_append_left _ (List.mem_append_left _ (List.mem_append_left _ (List.mem_append_left _ (List.mem_append_left _ (List.mem_append_left _ (List.mem_append_right _ h))))))))
  refine lv_aload_n (pc := 0) hexec hb dX8_raise_0 rfl (lv_at hl 0 rfl) ?_
  refine lv_iload_n (pc := 1) hexec hb dX8_raise_1 rfl (lv_at hl 1 rfl) ?_
  rcases tx_e hf with hc | ⟨-, hf⟩
  · exact kVx (pc := 2) (S := ⟨hexec, hb, hml, hown, hts⟩) hP hD hG hA hS [0, 1, 2] [3, 4, 5] [3, 4, 5, 0, 1, 2] rfl rfl rfl rfl rfl rfl (by decide) (x_X8_needCell l hlt g a0 a1 a2 _ (.ref b0_history) u0_2 u0_3 u0_4 u0_5 u0_6 u0_7 u0_8 u0_9 (.ref a3) u1_2 u1_3 u1_4 u2_2 (.ref a4) u2_4 u2_5 x2_rows x2_columns p1 _ hc) gX8_raise_X8_needCell rfl hv_X8_needCell ⟨nle rfl, nle rfl⟩ 8 0 rfl rfl rfl (rest := []) rfl rfl hl.1 (nle rfl) dX8_raise_2 ⟨nle rfl, nle rfl⟩ (fun H locs q ce hP hD hS hce hcv hcl => kx_out hQ hex hlocks hP hD hS hce hcv hcl)
  cases hf
abbrev w_xX8_sail (g : GE) (a0 a1 a2 a3 b0_history : Nat) (u0_2 u0_3 u0_4 u0_5 u0_6 u0_7 u0_8 u0_9 u1_0 u1_3 u1_4 u2_1 u2_2 u2_3 u2_4 u2_5 u3_1 u3_2 u3_3 u3_4 : Value) (x2_count : Int32) (x3_count : Int32) : va_W := [(a0, .inr (8, [.ref a1, .ref b0_history, u0_2, u0_3, u0_4, u0_5, u0_6, u0_7, u0_8, u0_9])), (a1, .inr (6, [u1_0, .ref a2, .ref a3, u1_3, u1_4])), (a2, .inr (2, [.int x2_count, u2_1, u2_2, u2_3, u2_4, u2_5])), (a3, .inr (4, [.int x3_count, u3_1, u3_2, u3_3, u3_4]))]
set_option maxRecDepth 20000 in
theorem x_X8_sail (l : Launch) (hlt : l.stackTraces = false) (g : GE) (a0 a1 a2 a3 b0_history : Nat) (sz : Nat) (u0_2 u0_3 u0_4 u0_5 u0_6 u0_7 u0_8 u0_9 u1_0 u1_3 u1_4 u2_1 u2_2 u2_3 u2_4 u2_5 u3_1 u3_2 u3_3 u3_4 : Value) (x2_count : Int32) (x3_count : Int32) (p1 : Int32) (cls : String) (hf : t_X8_sail x2_count x3_count p1 = some cls) : MX l g yX8_sail wsX8_sail 7 121 [.ref a0, .int p1] (w_xX8_sail g a0 a1 a2 a3 b0_history u0_2 u0_3 u0_4 u0_5 u0_6 u0_7 u0_8 u0_9 u1_0 u1_3 u1_4 u2_1 u2_2 u2_3 u2_4 u2_5 u3_1 u3_2 u3_3 u3_4 x2_count x3_count) sz cls := by
  refine MX.start (cc := cX8_sail) (maxL := 2) (ret := (some .int)) rfl rfl (nle rfl) ?_
  intro p e s m args below meth c A ls Q hQ hexec hb hr hts hown hlocks hml hex hA hP hD hG hS hl
  unfold t_X8_sail at hf
  have hWX2 : ∀ w ∈ wsX20, w.before args s = true := fun w h => hts w (List.mem_cons_of_mem _ (List.mem_append_left _ (List.mem_append_left _ (List.mem_append_left _ (List.mem_append_right _ h)))))
  have hWX4 : ∀ w ∈ wsX40, w.before args s = true := fun w h => hts w (List.mem_cons_of_mem _ (List.mem_append_left _ (List.mem_append_left _ (List.mem_append_left _ (List.mem_append_left _ (List.mem_append_right _ h))))))
  have hWX6 : ∀ w ∈ wsX60, w.before args s = true := fun w h => hts w (List.mem_cons_of_mem _ (List.mem_append_left _ (List.mem_append_left _ (List.mem_append_left _ (List.mem_append_left _ (List.mem_append_left _ (List.mem_append_right _ h)))))))
  have hWX8 : ∀ w ∈ wsX80, w.before args s = true := fun w h => hts w (List.mem_cons_of_mem _ (List.mem_append_left _ (List.mem_append_left _ (List.mem_append_left _ (List.mem_append_left _ (List.mem_append_left _ (List.mem_append_left _ (List.mem_append_right _ h))))))))
  refine lv_aload_n (pc := 0) hexec hb dX8_sail_0 rfl (lv_at hl 0 rfl) ?_
  refine lv_iload_n (pc := 1) hexec hb dX8_sail_1 rfl (lv_at hl 1 rfl) ?_
  rcases tx_e hf with hc | ⟨-, hf⟩
  · exact kVx (pc := 2) (S := ⟨hexec, hb, hml, hown, hts⟩) hP hD hG hA hS [0, 1, 2] [3] [1, 2, 3, 0] rfl rfl rfl rfl rfl rfl (by decide) (x_X8_needHarbour l hlt g a0 a1 a2 _ (.ref b0_history) u0_2 u0_3 u0_4 u0_5 u0_6 u0_7 u0_8 u0_9 u1_0 (.ref a3) u1_3 u1_4 u2_1 u2_2 u2_3 u2_4 u2_5 x2_count p1 _ hc) gX8_sail_X8_needHarbour rfl hv_X8_needHarbour ⟨nle rfl, nle rfl⟩ 8 0 rfl rfl rfl (rest := []) rfl rfl hl.1 (nle rfl) dX8_sail_2 ⟨nle rfl, nle rfl⟩ (fun H locs q ce hP hD hS hce hcv hcl => kx_out hQ hex hlocks hP hD hS hce hcv hcl)
  cases hf
abbrev w_xX8_cut (g : GE) (a0 a1 a2 b0_history : Nat) (u0_2 u0_3 u0_4 u0_5 u0_6 u0_7 u0_8 u0_9 u1_0 u1_1 u1_3 u1_4 u2_1 u2_2 u2_3 u2_4 : Value) (x2_count : Int32) : va_W := [(a0, .inr (8, [.ref a1, .ref b0_history, u0_2, u0_3, u0_4, u0_5, u0_6, u0_7, u0_8, u0_9])), (a1, .inr (6, [u1_0, u1_1, .ref a2, u1_3, u1_4])), (a2, .inr (4, [.int x2_count, u2_1, u2_2, u2_3, u2_4]))]
set_option maxRecDepth 20000 in
theorem x_X8_cut (l : Launch) (hlt : l.stackTraces = false) (g : GE) (a0 a1 a2 b0_history : Nat) (sz : Nat) (u0_2 u0_3 u0_4 u0_5 u0_6 u0_7 u0_8 u0_9 u1_0 u1_1 u1_3 u1_4 u2_1 u2_2 u2_3 u2_4 : Value) (x2_count : Int32) (p1 : Int32) (cls : String) (hf : t_X8_cut x2_count p1 = some cls) : MX l g yX8_cut wsX8_cut 6 100 [.ref a0, .int p1] (w_xX8_cut g a0 a1 a2 b0_history u0_2 u0_3 u0_4 u0_5 u0_6 u0_7 u0_8 u0_9 u1_0 u1_1 u1_3 u1_4 u2_1 u2_2 u2_3 u2_4 x2_count) sz cls := by
  refine MX.start (cc := cX8_cut) (maxL := 3) (ret := (some .int)) rfl rfl (nle rfl) ?_
  intro p e s m args below meth c A ls Q hQ hexec hb hr hts hown hlocks hml hex hA hP hD hG hS hl
  unfold t_X8_cut at hf
  have hWX4 : ∀ w ∈ wsX40, w.before args s = true := fun w h => hts w (List.mem_cons_of_mem _ (List.mem_append_left _ (List.mem_append_left _ (List.mem_append_left _ (List.mem_append_left _ (List.mem_append_right _ h))))))
  have hWX6 : ∀ w ∈ wsX60, w.before args s = true := fun w h => hts w (List.mem_cons_of_mem _ (List.mem_append_left _ (List.mem_append_left _ (List.mem_append_left _ (List.mem_append_left _ (List.mem_append_left _ (List.mem_append_right _ h)))))))
  have hWX8 : ∀ w ∈ wsX80, w.before args s = true := fun w h => hts w (List.mem_cons_of_mem _ (List.mem_append_left _ (List.mem_append_left _ (List.mem_append_left _ (List.mem_append_left _ (List.mem_append_left _ (List.mem_append_left _ (List.mem_append_right _ h))))))))
  refine lv_iload_n (pc := 0) hexec hb dX8_cut_0 rfl (lv_at hl 1 rfl) ?_
  obtain ⟨j18, ej18, hf⟩ := bvf1 hf
  have hj18 : ∀ (u : Unit) (H : Heap) (locs : List Loc) (ls : Array Slot), j18 u = some cls → va_P g.1 vwCl (w_xX8_cut g a0 a1 a2 b0_history u0_2 u0_3 u0_4 u0_5 u0_6 u0_7 u0_8 u0_9 u1_0 u1_1 u1_3 u1_4 u2_1 u2_2 u2_3 u2_4 x2_count) H → va_D A (w_xX8_cut g a0 a1 a2 b0_history u0_2 u0_3 u0_4 u0_5 u0_6 u0_7 u0_8 u0_9 u1_0 u1_1 u1_3 u1_4 u2_1 u2_2 u2_3 u2_4 x2_count) → va_S A s.heap H locs → lv_has ls 3 [] → W p l e (RXh 6 100) s m args below meth c H locs 0 0 Q (F0 m 18 ls []) := by
    intro u H locs ls hf hP hD hS hl
    have hf := (ej18 u).symm.trans hf
    cases hf
    exact kx_throww (pc := 18) (own := RX8) hQ hexec hb hlt hown (by decide +kernel) exN_fit (hts _ (List.mem_cons_of_mem _ (List.mem_append_left _ (List.mem_append_left _ (List.mem_append_left _ (List.mem_append_left _ (List.mem_append_left _ (List.mem_append_left _ (List.mem_append_left _ (List.mem_append_left _ (List.mem_of_getElem? (i := 0) rfl))))))))))) (hts _ (List.mem_cons_of_mem _ (List.mem_append_left _ (List.mem_append_left _ (List.mem_append_left _ (List.mem_append_left _ (List.mem_append_left _ (List.mem_append_left _ (List.mem_append_left _ (List.mem_append_left _ (List.mem_of_getElem? (i := 1) rfl))))))))))) hG 20 20 rfl (fun w h => hts w (List.mem_cons_of_mem _ (List.mem_append_right _ h))) ex_in_o (ex_gd_o_322) hP hD hS (hl.1.trans hml.symm) hex dX8_cut_18 dX8_cut_21 dX8_cut_22 dX8_cut_25 dX8_cut_28 ⟨nle rfl, nle rfl, nle rfl, nle rfl⟩ rfl hlocks
  refine kb_lt (pc := 1) hexec hb dX8_cut_1 (tgt := 18) rfl hf (fun hc hf => ?_) (fun hc hf => ?_)
  · exact hj18 _ _ _ _ hf hP hD hS (lv_sub hl [] rfl)
  · refine lv_iload_n (pc := 4) hexec hb dX8_cut_4 rfl (lv_at hl 1 rfl) ?_
    refine lv_aload_n (pc := 5) hexec hb dX8_cut_5 rfl (lv_at hl 0 rfl) ?_
    refine kg_get (pc := 6) hexec hb (own := RX8) hWX8 hown hG hP 0 rfl rfl 0 (nle rfl) (hts _ (List.mem_cons_of_mem _ (List.mem_append_left _ (List.mem_append_left _ (List.mem_append_left _ (List.mem_append_left _ (List.mem_append_left _ (List.mem_append_left _ (List.mem_append_left _ (List.mem_append_left _ (List.mem_of_getElem? (i := 2) rfl))))))))))) rfl rfl dX8_cut_6 ?_
    refine kg_getN (pc := 9) hexec hb (own := RX8) hWX6 hown hG hP 1 rfl rfl 2 (nle rfl) 27 rfl rfl rfl dX8_cut_9 ?_
    refine kg_getN (pc := 12) hexec hb (own := RX8) hWX4 hown hG hP 2 rfl rfl 0 (nle rfl) 14 rfl rfl rfl dX8_cut_12 ?_
    refine ki_lt (pc := 15) hexec hb dX8_cut_15 (tgt := 29) rfl hf (fun hc hf => ?_) (fun hc hf => ?_)
    · cases hf
    · exact hj18 _ _ _ _ hf hP hD hS (lv_sub hl [] rfl)
abbrev w_xX8_turnPage (g : GE) (a0 b0_history b0_sheet : Nat) (u0_2 u0_3 u0_4 u0_5 u0_6 u0_7 u0_8 u0_9 : Value) : va_W := [(a0, .inr (8, [.ref b0_sheet, .ref b0_history, u0_2, u0_3, u0_4, u0_5, u0_6, u0_7, u0_8, u0_9]))]
set_option maxRecDepth 20000 in
theorem x_X8_turnPage (l : Launch) (hlt : l.stackTraces = false) (g : GE) (a0 b0_history b0_sheet : Nat) (sz : Nat) (u0_2 u0_3 u0_4 u0_5 u0_6 u0_7 u0_8 u0_9 : Value)  (p1 : Int32) (cls : String) (hf : t_X8_turnPage p1 = some cls) : MX l g yX8_turnPage wsX8_turnPage 7 120 [.ref a0, .int p1] (w_xX8_turnPage g a0 b0_history b0_sheet u0_2 u0_3 u0_4 u0_5 u0_6 u0_7 u0_8 u0_9) sz cls := by
  refine MX.start (cc := cX8_turnPage) (maxL := 2) (ret := (some .int)) rfl rfl (nle rfl) ?_
  intro p e s m args below meth c A ls Q hQ hexec hb hr hts hown hlocks hml hex hA hP hD hG hS hl
  unfold t_X8_turnPage at hf
  have hWX8 : ∀ w ∈ wsX80, w.before args s = true := fun w h => hts w (List.mem_cons_of_mem _ (List.mem_append_left _ (List.mem_append_left _ (List.mem_append_left _ (List.mem_append_left _ (List.mem_append_left _ (List.mem_append_left _ (List.mem_append_right _ h))))))))
  refine lv_iload_n (pc := 0) hexec hb dX8_turnPage_0 rfl (lv_at hl 1 rfl) ?_
  rcases tx_e hf with hc | ⟨-, hf⟩
  · exact kSx (pc := 1) (S := ⟨hexec, hb, hml, hown, hts⟩) hP hD hG hA hS [] [0] [0] rfl rfl rfl rfl rfl rfl (by decide) (x_X8_needTurn l hlt g _ p1 _ hc) gX8_turnPage_X8_needTurn rfl hs_X8_needTurn ⟨nle rfl, nle rfl⟩ (rest := []) rfl rfl hl.1 (nle rfl) dX8_turnPage_1 ⟨nle rfl, nle rfl⟩ (fun H locs q ce hP hD hS hce hcv hcl => kx_out hQ hex hlocks hP hD hS hce hcv hcl)
  cases hf
set_option maxRecDepth 20000 in
theorem x_X8_writeRow (l : Launch) (hlt : l.stackTraces = false) (g : GE) (a0 a1 a2 a3 a4 a5 a6 a7 a8 a9 : Nat) (sz : Nat) (u0_1 u0_2 u0_3 u0_4 u0_5 u0_6 u0_9 u2_2 u3_2 u3_5 u4_3 u4_4 u4_5 : Value) (x0_outputLength : Int32) (y1_output : Nat → Int32) (x3_rows : Int32) (x3_columns : Int32) (x4_count : Int32) (x4_reds : Int32) (y5_letterOn : Nat → Int32) (y6_namesOn : Nat → Int32) (y7_land : Nat → Int32) (y8_riverOf : Nat → Int32) (y9_home : Nat → Int32) (p1 : Int32) (cls : String) (hf : t_X8_writeRow x0_outputLength y1_output x3_rows x3_columns x4_count x4_reds y5_letterOn y6_namesOn y7_land y8_riverOf y9_home p1 = some cls) : MX l g yX8_writeRow wsX8_writeRow 6 100 [.ref a0, .int p1] (w_X8_writeRow g a0 a1 a2 a3 a4 a5 a6 a7 a8 a9 u0_1 u0_2 u0_3 u0_4 u0_5 u0_6 u0_9 u2_2 u3_2 u3_5 u4_3 u4_4 u4_5 x0_outputLength y1_output x3_rows x3_columns x4_count x4_reds y5_letterOn y6_namesOn y7_land y8_riverOf y9_home) sz cls := by
  refine MX.start (cc := cX8_writeRow) (maxL := 4) (ret := (some .int)) rfl rfl (nle rfl) ?_
  intro p e s m args below meth c A ls Q hQ hexec hb hr hts hown hlocks hml hex hA hP hD hG hS hl
  unfold t_X8_writeRow at hf
  have hWX1 : ∀ w ∈ wsX10, w.before args s = true := fun w h => hts w (List.mem_cons_of_mem _ (List.mem_append_left _ (List.mem_append_left _ (List.mem_append_right _ h))))
  have hWX2 : ∀ w ∈ wsX20, w.before args s = true := fun w h => hts w (List.mem_cons_of_mem _ (List.mem_append_left _ (List.mem_append_right _ h)))
  have hWX6 : ∀ w ∈ wsX60, w.before args s = true := fun w h => hts w (List.mem_cons_of_mem _ (List.mem_append_left _ (List.mem_append_left _ (List.mem_append_left _ (List.mem_append_right _ h)))))
  have hWX8 : ∀ w ∈ wsX80, w.before args s = true := fun w h => hts w (List.mem_cons_of_mem _ (List.mem_append_left _ (List.mem_append_left _ (List.mem_append_left _ (List.mem_append_left _ (List.mem_append_right _ h))))))
  refine lv_iload_n (pc := 0) hexec hb dX8_writeRow_0 rfl (lv_at hl 1 rfl) ?_
  obtain ⟨j18, ej18, hf⟩ := bvf1 hf
  have hj18 : ∀ (u : Unit) (H : Heap) (locs : List Loc) (ls : Array Slot), j18 u = some cls → va_P g.1 vwCl (w_X8_writeRow g a0 a1 a2 a3 a4 a5 a6 a7 a8 a9 u0_1 u0_2 u0_3 u0_4 u0_5 u0_6 u0_9 u2_2 u3_2 u3_5 u4_3 u4_4 u4_5 x0_outputLength y1_output x3_rows x3_columns x4_count x4_reds y5_letterOn y6_namesOn y7_land y8_riverOf y9_home) H → va_D A (w_X8_writeRow g a0 a1 a2 a3 a4 a5 a6 a7 a8 a9 u0_1 u0_2 u0_3 u0_4 u0_5 u0_6 u0_9 u2_2 u3_2 u3_5 u4_3 u4_4 u4_5 x0_outputLength y1_output x3_rows x3_columns x4_count x4_reds y5_letterOn y6_namesOn y7_land y8_riverOf y9_home) → va_S A s.heap H locs → lv_has ls 4 [] → W p l e (RXh 6 100) s m args below meth c H locs 0 0 Q (F0 m 18 ls []) := by
    intro u H locs ls hf hP hD hS hl
    have hf := (ej18 u).symm.trans hf
    cases hf
    exact kx_throww (pc := 18) (own := RX8) hQ hexec hb hlt hown (by decide +kernel) exN_fit (hts _ (List.mem_cons_of_mem _ (List.mem_append_left _ (List.mem_append_left _ (List.mem_append_left _ (List.mem_append_left _ (List.mem_append_left _ (List.mem_append_left _ (List.mem_of_getElem? (i := 0) rfl))))))))) (hts _ (List.mem_cons_of_mem _ (List.mem_append_left _ (List.mem_append_left _ (List.mem_append_left _ (List.mem_append_left _ (List.mem_append_left _ (List.mem_append_left _ (List.mem_of_getElem? (i := 1) rfl))))))))) hG 21 21 rfl (fun w h => hts w (List.mem_cons_of_mem _ (List.mem_append_right _ h))) ex_in_o (ex_gd_o_322) hP hD hS (hl.1.trans hml.symm) hex dX8_writeRow_18 dX8_writeRow_21 dX8_writeRow_22 dX8_writeRow_25 dX8_writeRow_28 ⟨nle rfl, nle rfl, nle rfl, nle rfl⟩ rfl hlocks
  refine kb_lt (pc := 1) hexec hb dX8_writeRow_1 (tgt := 18) rfl hf (fun hc hf => ?_) (fun hc hf => ?_)
  · exact hj18 _ _ _ _ hf hP hD hS (lv_sub hl [] rfl)
  · refine lv_iload_n (pc := 4) hexec hb dX8_writeRow_4 rfl (lv_at hl 1 rfl) ?_
    refine lv_aload_n (pc := 5) hexec hb dX8_writeRow_5 rfl (lv_at hl 0 rfl) ?_
    refine kg_get (pc := 6) hexec hb (own := RX8) hWX8 hown hG hP 0 rfl rfl 0 (nle rfl) (hts _ (List.mem_cons_of_mem _ (List.mem_append_left _ (List.mem_append_left _ (List.mem_append_left _ (List.mem_append_left _ (List.mem_append_left _ (List.mem_append_left _ (List.mem_of_getElem? (i := 2) rfl))))))))) rfl rfl dX8_writeRow_6 ?_
    refine kg_getN (pc := 9) hexec hb (own := RX8) hWX6 hown hG hP 2 rfl rfl 0 (nle rfl) 21 rfl rfl rfl dX8_writeRow_9 ?_
    refine kg_getN (pc := 12) hexec hb (own := RX8) hWX1 hown hG hP 3 rfl rfl 0 (nle rfl) 0 rfl rfl rfl dX8_writeRow_12 ?_
    refine ki_lt (pc := 15) hexec hb dX8_writeRow_15 (tgt := 29) rfl hf (fun hc hf => ?_) (fun hc hf => ?_)
    · cases hf
    · exact hj18 _ _ _ _ hf hP hD hS (lv_sub hl [] rfl)
set_option maxRecDepth 20000 in
theorem x_X8_needSlot (l : Launch) (hlt : l.stackTraces = false) (g : GE) (sz : Nat)  (p0 : Int32) (cls : String) (hf : t_X8_needSlot p0 = some cls) : MX l g yX8_needSlot wsX8_needSlot 6 100 [.int p0] (w_X8_needSlot g ) sz cls := by
  refine MX.start (cc := cX8_needSlot) (maxL := 1) (ret := none) rfl rfl (nle rfl) ?_
  intro p e s m args below meth c A ls Q hQ hexec hb hr hts hown hlocks hml hex hA hP hD hG hS hl
  unfold t_X8_needSlot at hf
  refine lv_iload_n (pc := 0) hexec hb dX8_needSlot_0 rfl (lv_at hl 0 rfl) ?_
  obtain ⟨j9, ej9, hf⟩ := bvf1 hf
  have hj9 : ∀ (u : Unit) (H : Heap) (locs : List Loc) (ls : Array Slot), j9 u = some cls → va_P g.1 vwCl (w_X8_needSlot g ) H → va_D A (w_X8_needSlot g ) → va_S A s.heap H locs → lv_has ls 1 [] → W p l e (RXh 6 100) s m args below meth c H locs 0 0 Q (F0 m 9 ls []) := by
    intro u H locs ls hf hP hD hS hl
    have hf := (ej9 u).symm.trans hf
    cases hf
    exact kx_throww (pc := 9) (own := RX8) hQ hexec hb hlt hown (by decide +kernel) exN_fit (hts _ (List.mem_cons_of_mem _ (List.mem_append_left _ (List.mem_of_getElem? (i := 0) rfl)))) (hts _ (List.mem_cons_of_mem _ (List.mem_append_left _ (List.mem_of_getElem? (i := 1) rfl)))) hG 22 22 rfl (fun w h => hts w (List.mem_cons_of_mem _ (List.mem_append_right _ h))) ex_in_a (ex_gd_a_154) hP hD hS (hl.1.trans hml.symm) hex dX8_needSlot_9 dX8_needSlot_12 dX8_needSlot_13 dX8_needSlot_16 dX8_needSlot_19 ⟨nle rfl, nle rfl, nle rfl, nle rfl⟩ rfl hlocks
  refine kb_lt (pc := 1) hexec hb dX8_needSlot_1 (tgt := 9) rfl hf (fun hc hf => ?_) (fun hc hf => ?_)
  · exact hj9 _ _ _ _ hf hP hD hS (lv_sub hl [] rfl)
  · refine lv_iload_n (pc := 4) hexec hb dX8_needSlot_4 rfl (lv_at hl 0 rfl) ?_
    refine lv_iconst (pc := 5) hexec hb dX8_needSlot_5 ki_2 ?_
    refine ki_lt (pc := 6) hexec hb dX8_needSlot_6 (tgt := 20) rfl hf (fun hc hf => ?_) (fun hc hf => ?_)
    · cases hf
    · exact hj9 _ _ _ _ hf hP hD hS (lv_sub hl [] rfl)
set_option maxRecDepth 20000 in
theorem x_X8_river (l : Launch) (hlt : l.stackTraces = false) (g : GE) (a0 a1 a2 a3 a4 : Nat) (sz : Nat) (u0_1 u0_2 u0_3 u0_4 u0_5 u0_6 u0_7 u0_8 u0_9 u1_1 u1_2 u1_3 u1_4 u2_0 u2_1 u2_3 : Value) (x2_rivers : Int32) (y3_riverOf : Nat → Int32) (y4_riverPlace : Nat → Int32) (p1 : Int32) (p2 : Int32) (cls : String) (hf : t_X8_river x2_rivers y3_riverOf y4_riverPlace p1 p2 = some cls) : MX l g yX8_river wsX8_river 7 121 [.ref a0, .int p1, .int p2] (w_X8_river g a0 a1 a2 a3 a4 u0_1 u0_2 u0_3 u0_4 u0_5 u0_6 u0_7 u0_8 u0_9 u1_1 u1_2 u1_3 u1_4 u2_0 u2_1 u2_3 x2_rivers y3_riverOf y4_riverPlace) sz cls := by
  refine MX.start (cc := cX8_river) (maxL := 3) (ret := (some .int)) rfl rfl (nle rfl) ?_
  intro p e s m args below meth c A ls Q hQ hexec hb hr hts hown hlocks hml hex hA hP hD hG hS hl
  unfold t_X8_river at hf
  have hWX1 : ∀ w ∈ wsX10, w.before args s = true := fun w h => hts w (List.mem_cons_of_mem _ (List.mem_append_left _ (List.mem_append_right _ h)))
  have hWX6 : ∀ w ∈ wsX60, w.before args s = true := fun w h => hts w (List.mem_cons_of_mem _ (List.mem_append_left _ (List.mem_append_left _ (List.mem_append_right _ h))))
  have hWX8 : ∀ w ∈ wsX80, w.before args s = true := fun w h => hts w (List.mem_cons_of_mem _ (List.mem_append_left _ (List.mem_append_left _ (List.mem_append_left _ (List.mem_append_right _ h)))))
  refine lv_aload_n (pc := 0) hexec hb dX8_river_0 rfl (lv_at hl 0 rfl) ?_
  refine lv_iload_n (pc := 1) hexec hb dX8_river_1 rfl (lv_at hl 1 rfl) ?_
  rcases tx_e hf with hc | ⟨-, hf⟩
  · exact kVx (pc := 2) (S := ⟨hexec, hb, hml, hown, hts⟩) hP hD hG hA hS [0, 1, 2] [3, 4] [2, 3, 4, 0, 1] rfl rfl rfl rfl rfl rfl (by decide) (x_X8_needRiver l hlt g a0 a1 a2 _ u0_1 u0_2 u0_3 u0_4 u0_5 u0_6 u0_7 u0_8 u0_9 u1_1 u1_2 u1_3 u1_4 u2_0 u2_1 u2_3 (.ref a3) (.ref a4) x2_rivers p1 _ hc) gX8_river_X8_needRiver rfl hv_X8_needRiver ⟨nle rfl, nle rfl⟩ 8 0 rfl rfl rfl (rest := []) rfl rfl hl.1 (nle rfl) dX8_river_2 ⟨nle rfl, nle rfl⟩ (fun H locs q ce hP hD hS hce hcv hcl => kx_out hQ hex hlocks hP hD hS hce hcv hcl)
  cases hf
set_option maxRecDepth 20000 in
theorem x_X8_upright (l : Launch) (hlt : l.stackTraces = false) (g : GE) (a0 a1 a2 a3 : Nat) (sz : Nat) (u0_1 u0_2 u0_3 u0_4 u0_5 u0_6 u0_7 u0_8 u0_9 u1_0 u1_2 u1_3 u1_4 u2_1 u2_2 u2_4 u2_5 : Value) (x2_count : Int32) (y3_direction : Nat → Int32) (p1 : Int32) (cls : String) (hf : t_X8_upright x2_count y3_direction p1 = some cls) : MX l g yX8_upright wsX8_upright 7 120 [.ref a0, .int p1] (w_X8_upright g a0 a1 a2 a3 u0_1 u0_2 u0_3 u0_4 u0_5 u0_6 u0_7 u0_8 u0_9 u1_0 u1_2 u1_3 u1_4 u2_1 u2_2 u2_4 u2_5 x2_count y3_direction) sz cls := by
  refine MX.start (cc := cX8_upright) (maxL := 5) (ret := (some .int)) rfl rfl (nle rfl) ?_
  intro p e s m args below meth c A ls Q hQ hexec hb hr hts hown hlocks hml hex hA hP hD hG hS hl
  unfold t_X8_upright at hf
  have hWX2 : ∀ w ∈ wsX20, w.before args s = true := fun w h => hts w (List.mem_cons_of_mem _ (List.mem_append_left _ (List.mem_append_right _ h)))
  have hWX6 : ∀ w ∈ wsX60, w.before args s = true := fun w h => hts w (List.mem_cons_of_mem _ (List.mem_append_left _ (List.mem_append_left _ (List.mem_append_right _ h))))
  have hWX8 : ∀ w ∈ wsX80, w.before args s = true := fun w h => hts w (List.mem_cons_of_mem _ (List.mem_append_left _ (List.mem_append_left _ (List.mem_append_left _ (List.mem_append_right _ h)))))
  refine lv_iload_n (pc := 0) hexec hb dX8_upright_0 rfl (lv_at hl 1 rfl) ?_
  rcases tx_e hf with hc | ⟨-, hf⟩
  · exact kSx (pc := 1) (S := ⟨hexec, hb, hml, hown, hts⟩) hP hD hG hA hS [] [0, 1, 2, 3] [0, 1, 2, 3] rfl rfl rfl rfl rfl rfl (by decide) (x_X8_needTurn l hlt g _ p1 _ hc) gX8_upright_X8_needTurn rfl hs_X8_needTurn ⟨nle rfl, nle rfl⟩ (rest := []) rfl rfl hl.1 (nle rfl) dX8_upright_1 ⟨nle rfl, nle rfl⟩ (fun H locs q ce hP hD hS hce hcv hcl => kx_out hQ hex hlocks hP hD hS hce hcv hcl)
  cases hf
abbrev w_xX8_saveSnapshot (g : GE) (a0 b0_snapshots : Nat) (u0_0 u0_1 u0_2 u0_3 u0_4 u0_5 u0_6 u0_7 u0_8 : Value) : va_W := [(a0, .inr (8, [u0_0, u0_1, u0_2, u0_3, u0_4, u0_5, u0_6, u0_7, u0_8, .ref b0_snapshots]))]
set_option maxRecDepth 20000 in
theorem x_X8_saveSnapshot (l : Launch) (hlt : l.stackTraces = false) (g : GE) (a0 b0_snapshots : Nat) (sz : Nat) (u0_0 u0_1 u0_2 u0_3 u0_4 u0_5 u0_6 u0_7 u0_8 : Value)  (p1 : Int32) (cls : String) (hf : t_X8_saveSnapshot p1 = some cls) : MX l g yX8_saveSnapshot wsX8_saveSnapshot 7 120 [.ref a0, .int p1] (w_xX8_saveSnapshot g a0 b0_snapshots u0_0 u0_1 u0_2 u0_3 u0_4 u0_5 u0_6 u0_7 u0_8) sz cls := by
  refine MX.start (cc := cX8_saveSnapshot) (maxL := 3) (ret := (some .int)) rfl rfl (nle rfl) ?_
  intro p e s m args below meth c A ls Q hQ hexec hb hr hts hown hlocks hml hex hA hP hD hG hS hl
  unfold t_X8_saveSnapshot at hf
  have hWX8 : ∀ w ∈ wsX80, w.before args s = true := fun w h => hts w (List.mem_cons_of_mem _ (List.mem_append_left _ (List.mem_append_left _ (List.mem_append_left _ (List.mem_append_left _ (List.mem_append_left _ (List.mem_append_right _ h)))))))
  refine lv_iload_n (pc := 0) hexec hb dX8_saveSnapshot_0 rfl (lv_at hl 1 rfl) ?_
  rcases tx_e hf with hc | ⟨-, hf⟩
  · exact kSx (pc := 1) (S := ⟨hexec, hb, hml, hown, hts⟩) hP hD hG hA hS [] [0] [0] rfl rfl rfl rfl rfl rfl (by decide) (x_X8_needSlot l hlt g _ p1 _ hc) gX8_saveSnapshot_X8_needSlot rfl hs_X8_needSlot ⟨nle rfl, nle rfl⟩ (rest := []) rfl rfl hl.1 (nle rfl) dX8_saveSnapshot_1 ⟨nle rfl, nle rfl⟩ (fun H locs q ce hP hD hS hce hcv hcl => kx_out hQ hex hlocks hP hD hS hce hcv hcl)
  cases hf
abbrev w_xX8_restoreSnapshot (g : GE) (a0 b0_snapshots : Nat) (u0_0 u0_1 u0_2 u0_3 u0_4 u0_5 u0_6 u0_7 u0_8 : Value) : va_W := [(a0, .inr (8, [u0_0, u0_1, u0_2, u0_3, u0_4, u0_5, u0_6, u0_7, u0_8, .ref b0_snapshots]))]
set_option maxRecDepth 20000 in
theorem x_X8_restoreSnapshot (l : Launch) (hlt : l.stackTraces = false) (g : GE) (a0 b0_snapshots : Nat) (sz : Nat) (u0_0 u0_1 u0_2 u0_3 u0_4 u0_5 u0_6 u0_7 u0_8 : Value)  (p1 : Int32) (cls : String) (hf : t_X8_restoreSnapshot p1 = some cls) : MX l g yX8_restoreSnapshot wsX8_restoreSnapshot 7 120 [.ref a0, .int p1] (w_xX8_restoreSnapshot g a0 b0_snapshots u0_0 u0_1 u0_2 u0_3 u0_4 u0_5 u0_6 u0_7 u0_8) sz cls := by
  refine MX.start (cc := cX8_restoreSnapshot) (maxL := 3) (ret := (some .int)) rfl rfl (nle rfl) ?_
  intro p e s m args below meth c A ls Q hQ hexec hb hr hts hown hlocks hml hex hA hP hD hG hS hl
  unfold t_X8_restoreSnapshot at hf
  have hWX8 : ∀ w ∈ wsX80, w.before args s = true := fun w h => hts w (List.mem_cons_of_mem _ (List.mem_append_left _ (List.mem_append_left _ (List.mem_append_left _ (List.mem_append_left _ (List.mem_append_left _ (List.mem_append_left _ (List.mem_append_right _ h))))))))
  refine lv_iload_n (pc := 0) hexec hb dX8_restoreSnapshot_0 rfl (lv_at hl 1 rfl) ?_
  rcases tx_e hf with hc | ⟨-, hf⟩
  · exact kSx (pc := 1) (S := ⟨hexec, hb, hml, hown, hts⟩) hP hD hG hA hS [] [0] [0] rfl rfl rfl rfl rfl rfl (by decide) (x_X8_needSlot l hlt g _ p1 _ hc) gX8_restoreSnapshot_X8_needSlot rfl hs_X8_needSlot ⟨nle rfl, nle rfl⟩ (rest := []) rfl rfl hl.1 (nle rfl) dX8_restoreSnapshot_1 ⟨nle rfl, nle rfl⟩ (fun H locs q ce hP hD hS hce hcv hcl => kx_out hQ hex hlocks hP hD hS hce hcv hcl)
  cases hf
