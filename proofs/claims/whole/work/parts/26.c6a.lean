abbrev w_X6_beginSea (g : GE) (a0 a1 a2 a3 a4 a5 a6 a7 a8 : Nat) (u2_2 u2_3 u2_4 u2_5 u3_4 : Value) (x1_rows : Int32) (x1_columns : Int32) (x1_rivers : Int32) (x2_count : Int32) (x2_reds : Int32) (x3_count : Int32) (x3_next : Int32) (x3_turn : Int32) (x3_quarters : Int32) (y4_letterOn : Nat → Int32) (y5_namesOn : Nat → Int32) (y6_land : Nat → Int32) (y7_riverOf : Nat → Int32) (y8_riverPlace : Nat → Int32) : va_W := [(a0, .inr (6, [.ref a1, .ref a2, .ref a3, .ref a5, .ref a4])), (a1, .inr (1, [.int x1_rows, .int x1_columns, .int x1_rivers, .ref a6, .ref a7, .ref a8])), (a2, .inr (2, [.int x2_count, .int x2_reds, u2_2, u2_3, u2_4, u2_5])), (a3, .inr (4, [.int x3_count, .int x3_next, .int x3_turn, .int x3_quarters, u3_4])), (a4, .inl (g.2.1 0, 144, .inl y4_letterOn)), (a5, .inl (g.2.1 0, 144, .inl y5_namesOn)), (a6, .inl (g.2.1 1, 144, .inl y6_land)), (a7, .inl (g.2.1 0, 144, .inl y7_riverOf)), (a8, .inl (g.2.1 0, 144, .inl y8_riverPlace))]
set_option maxRecDepth 20000 in
theorem c_X6_beginSea (l : Launch) (g : GE) (a0 a1 a2 a3 a4 a5 a6 a7 a8 : Nat) (sz : Nat) (u2_2 u2_3 u2_4 u2_5 u3_4 : Value) (x1_rows : Int32) (x1_columns : Int32) (x1_rivers : Int32) (x2_count : Int32) (x2_reds : Int32) (x3_count : Int32) (x3_next : Int32) (x3_turn : Int32) (x3_quarters : Int32) (y4_letterOn : Nat → Int32) (y5_namesOn : Nat → Int32) (y6_land : Nat → Int32) (y7_riverOf : Nat → Int32) (y8_riverPlace : Nat → Int32) (p1 : Int32) (p2 : Int32)  (o_x1_rows : Int32) (o_x1_columns : Int32) (o_x1_rivers : Int32) (o_x2_count : Int32) (o_x2_reds : Int32) (o_x3_count : Int32) (o_x3_next : Int32) (o_x3_turn : Int32) (o_x3_quarters : Int32) (o_y4_letterOn : Nat → Int32) (o_y5_namesOn : Nat → Int32) (o_y6_land : Nat → Int32) (o_y7_riverOf : Nat → Int32) (o_y8_riverPlace : Nat → Int32) (hf : f_X6_beginSea x1_rows x1_columns x1_rivers x2_count x2_reds x3_count x3_next x3_turn x3_quarters y4_letterOn y5_namesOn y6_land y7_riverOf y8_riverPlace p1 p2 = some (o_x1_rows, o_x1_columns, o_x1_rivers, o_x2_count, o_x2_reds, o_x3_count, o_x3_next, o_x3_turn, o_x3_quarters, o_y4_letterOn, o_y5_namesOn, o_y6_land, o_y7_riverOf, o_y8_riverPlace)) : MI l g yX6_beginSea wsX6_beginSea 2 47 [.ref a0, .int p1, .int p2] (w_X6_beginSea g a0 a1 a2 a3 a4 a5 a6 a7 a8 u2_2 u2_3 u2_4 u2_5 u3_4 x1_rows x1_columns x1_rivers x2_count x2_reds x3_count x3_next x3_turn x3_quarters y4_letterOn y5_namesOn y6_land y7_riverOf y8_riverPlace) sz none (w_X6_beginSea g a0 a1 a2 a3 a4 a5 a6 a7 a8 u2_2 u2_3 u2_4 u2_5 u3_4 o_x1_rows o_x1_columns o_x1_rivers o_x2_count o_x2_reds o_x3_count o_x3_next o_x3_turn o_x3_quarters o_y4_letterOn o_y5_namesOn o_y6_land o_y7_riverOf o_y8_riverPlace) := by
  refine MI.start (cc := cX6_beginSea) (maxL := 4) (ret := none) rfl rfl (nle rfl) ?_
  intro p e s m args below meth c A ls Q hQ hexec hb hr hts hown hlocks hml hA hP hD hG hS hl
  unfold f_X6_beginSea at hf
  have hWX1 : ∀ w ∈ wsX10, w.before args s = true := fun w h => hts w (List.mem_cons_of_mem _ (List.mem_append_left _ (List.mem_append_left _ (List.mem_append_right _ h))))
  have hWX2 : ∀ w ∈ wsX20, w.before args s = true := fun w h => hts w (List.mem_cons_of_mem _ (List.mem_append_left _ (List.mem_append_right _ h)))
  have hWX4 : ∀ w ∈ wsX40, w.before args s = true := fun w h => hts w (List.mem_cons_of_mem _ (List.mem_append_right _ h))
  have hWX6 : ∀ w ∈ wsX60, w.before args s = true := fun w h => hts w (List.mem_cons_of_mem _ (List.mem_append_left _ (List.mem_append_left _ (List.mem_append_left _ (List.mem_append_right _ h)))))
  have hS : va_S A s.heap s.heap [] := hS
  refine lv_aload_n (pc := 0) hexec hb dX6_beginSea_0 rfl (lv_at hl 0 rfl) ?_
  refine kg_get (pc := 1) hexec hb (own := RX6) hWX6 hown hG hP 0 rfl rfl 0 (nle rfl) (hts _ (List.mem_cons_of_mem _ (List.mem_append_left _ (List.mem_append_left _ (List.mem_append_left _ (List.mem_append_left _ (List.mem_append_left _ (List.mem_of_getElem? (i := 0) rfl)))))))) rfl rfl dX6_beginSea_1 ?_
  refine lv_iload_n (pc := 4) hexec hb dX6_beginSea_4 rfl (lv_at hl 1 rfl) ?_
  refine lv_iload_n (pc := 5) hexec hb dX6_beginSea_5 rfl (lv_at hl 2 rfl) ?_
  obtain ⟨x1_rows_1, x1_columns_1, x1_rivers_1, y6_land_1, y7_riverOf_1, y8_riverPlace_1, hc, hf⟩ := bd6_e hf
  refine kVp (pc := 6) (S := ⟨hexec, hb, hml, hown, hts⟩) hP hD hG hA hS [1, 6, 7, 8] [0, 2, 3, 4, 5] [0, 5, 1, 2, 3, 4, 6, 7, 8] (w2 := (w_X6_beginSea g a0 a1 a2 a3 a4 a5 a6 a7 a8 u2_2 u2_3 u2_4 u2_5 u3_4 x1_rows_1 x1_columns_1 x1_rivers_1 x2_count x2_reds x3_count x3_next x3_turn x3_quarters y4_letterOn y5_namesOn y6_land_1 y7_riverOf_1 y8_riverPlace_1)) rfl rfl rfl rfl rfl rfl (by decide) (c_X1_beginSea l g a1 a6 a7 a8 _ x1_rows x1_columns x1_rivers y6_land y7_riverOf y8_riverPlace p1 p2 x1_rows_1 x1_columns_1 x1_rivers_1 y6_land_1 y7_riverOf_1 y8_riverPlace_1 hc) gX6_beginSea_X1_beginSea rfl hv_X1_beginSea ⟨nle rfl, nle rfl⟩ 1 0 rfl rfl rfl (rest := []) rfl rfl hl.1 (nle rfl) dX6_beginSea_6 (fun H locs hP hD hS => ?_)
  refine lv_aload_n (pc := 9) hexec hb dX6_beginSea_9 rfl (lv_at hl 0 rfl) ?_
  refine kg_get (pc := 10) hexec hb (own := RX6) hWX6 hown hG hP 0 rfl rfl 1 (nle rfl) (hts _ (List.mem_cons_of_mem _ (List.mem_append_left _ (List.mem_append_left _ (List.mem_append_left _ (List.mem_append_left _ (List.mem_append_left _ (List.mem_of_getElem? (i := 1) rfl)))))))) rfl rfl dX6_beginSea_10 ?_
  obtain ⟨x2_count_1, x2_reds_1, hc, hf⟩ := bd2_e hf
  refine kVp (pc := 13) (S := ⟨hexec, hb, hml, hown, hts⟩) hP hD hG hA hS [2] [0, 1, 3, 4, 5, 6, 7, 8] [0, 1, 8, 2, 3, 4, 5, 6, 7] (w2 := (w_X6_beginSea g a0 a1 a2 a3 a4 a5 a6 a7 a8 u2_2 u2_3 u2_4 u2_5 u3_4 x1_rows_1 x1_columns_1 x1_rivers_1 x2_count_1 x2_reds_1 x3_count x3_next x3_turn x3_quarters y4_letterOn y5_namesOn y6_land_1 y7_riverOf_1 y8_riverPlace_1)) rfl rfl rfl rfl rfl rfl (by decide) (c_X2_beginEmpty l g a2 _ u2_2 u2_3 u2_4 u2_5 x2_count x2_reds x2_count_1 x2_reds_1 hc) gX6_beginSea_X2_beginEmpty rfl hv_X2_beginEmpty ⟨nle rfl, nle rfl⟩ 2 0 rfl rfl rfl (rest := []) rfl rfl hl.1 (nle rfl) dX6_beginSea_13 (fun H locs hP hD hS => ?_)
  refine lv_aload_n (pc := 16) hexec hb dX6_beginSea_16 rfl (lv_at hl 0 rfl) ?_
  refine kg_get (pc := 17) hexec hb (own := RX6) hWX6 hown hG hP 0 rfl rfl 2 (nle rfl) (hts _ (List.mem_cons_of_mem _ (List.mem_append_left _ (List.mem_append_left _ (List.mem_append_left _ (List.mem_append_left _ (List.mem_append_left _ (List.mem_of_getElem? (i := 2) rfl)))))))) rfl rfl dX6_beginSea_17 ?_
  obtain ⟨x3_count_1, x3_next_1, x3_turn_1, x3_quarters_1, hc, hf⟩ := bd4_e hf
  refine kVp (pc := 20) (S := ⟨hexec, hb, hml, hown, hts⟩) hP hD hG hA hS [3] [0, 1, 2, 4, 5, 6, 7, 8] [0, 1, 2, 8, 3, 4, 5, 6, 7] (w2 := (w_X6_beginSea g a0 a1 a2 a3 a4 a5 a6 a7 a8 u2_2 u2_3 u2_4 u2_5 u3_4 x1_rows_1 x1_columns_1 x1_rivers_1 x2_count_1 x2_reds_1 x3_count_1 x3_next_1 x3_turn_1 x3_quarters_1 y4_letterOn y5_namesOn y6_land_1 y7_riverOf_1 y8_riverPlace_1)) rfl rfl rfl rfl rfl rfl (by decide) (c_X4_beginEmpty l g a3 _ u3_4 x3_count x3_next x3_turn x3_quarters x3_count_1 x3_next_1 x3_turn_1 x3_quarters_1 hc) gX6_beginSea_X4_beginEmpty rfl hv_X4_beginEmpty ⟨nle rfl, nle rfl⟩ 4 0 rfl rfl rfl (rest := []) rfl rfl hl.1 (nle rfl) dX6_beginSea_20 (fun H locs hP hD hS => ?_)
  refine lv_iconst (pc := 23) hexec hb dX6_beginSea_23 ki_0 ?_
  refine lv_istore_n (pc := 24) hexec hb dX6_beginSea_24 rfl hl (nle rfl) rfl (fun ls (hl : lv_has ls 4 [(3, .int 0), (0, .ref a0), (1, .int p1), (2, .int p2)]) => ?_)
  obtain ⟨l25, el25, hf⟩ := bvf3 hf
  obtain ⟨y4_letterOn_2, y5_namesOn_2, hz, hf⟩ := bd2_e hf
  have hE25 : ∀ (H : Heap) (locs : List Loc) (ls : Array Slot), va_P g.1 vwCl (w_X6_beginSea g a0 a1 a2 a3 a4 a5 a6 a7 a8 u2_2 u2_3 u2_4 u2_5 u3_4 x1_rows_1 x1_columns_1 x1_rivers_1 x2_count_1 x2_reds_1 x3_count_1 x3_next_1 x3_turn_1 x3_quarters_1 y4_letterOn_2 y5_namesOn_2 y6_land_1 y7_riverOf_1 y8_riverPlace_1) H → va_D A (w_X6_beginSea g a0 a1 a2 a3 a4 a5 a6 a7 a8 u2_2 u2_3 u2_4 u2_5 u3_4 x1_rows_1 x1_columns_1 x1_rivers_1 x2_count_1 x2_reds_1 x3_count_1 x3_next_1 x3_turn_1 x3_quarters_1 y4_letterOn_2 y5_namesOn_2 y6_land_1 y7_riverOf_1 y8_riverPlace_1) → va_S A s.heap H locs → lv_has ls 4 [] → W p l e (RM 2 47) s m args below meth c H locs 0 0 Q (F0 m 52 ls []) := by
    intro H locs ls hP hD hS hl
    simp only [Option.some.injEq, Prod.mk.injEq] at hf
    obtain ⟨rfl, rfl, rfl, rfl, rfl, rfl, rfl, rfl, rfl, rfl, rfl, rfl, rfl, rfl⟩ := hf
    exact ke_v hQ hexec hb hr hP hD hS dX6_beginSea_52 hlocks
  obtain ⟨n, hz⟩ := lq3_e hz
  have hL25 : ∀ (n : Nat) (v3 : Int32) (y4_letterOn_1 : Nat → Int32) (y5_namesOn_1 : Nat → Int32) (H : Heap) (locs : List Loc) (ls : Array Slot), it3 l25 n v3 y4_letterOn_1 y5_namesOn_1 = some (y4_letterOn_2, y5_namesOn_2) → va_P g.1 vwCl (w_X6_beginSea g a0 a1 a2 a3 a4 a5 a6 a7 a8 u2_2 u2_3 u2_4 u2_5 u3_4 x1_rows_1 x1_columns_1 x1_rivers_1 x2_count_1 x2_reds_1 x3_count_1 x3_next_1 x3_turn_1 x3_quarters_1 y4_letterOn_1 y5_namesOn_1 y6_land_1 y7_riverOf_1 y8_riverPlace_1) H → va_D A (w_X6_beginSea g a0 a1 a2 a3 a4 a5 a6 a7 a8 u2_2 u2_3 u2_4 u2_5 u3_4 x1_rows_1 x1_columns_1 x1_rivers_1 x2_count_1 x2_reds_1 x3_count_1 x3_next_1 x3_turn_1 x3_quarters_1 y4_letterOn_1 y5_namesOn_1 y6_land_1 y7_riverOf_1 y8_riverPlace_1) → va_S A s.heap H locs → lv_has ls 4 [(0, .ref a0), (3, .int v3)] → W p l e (RM 2 47) s m args below meth c H locs 0 0 Q (F0 m 25 ls []) := by
    intro n
    induction n with
    | zero =>
      intro v3 y4_letterOn_1 y5_namesOn_1 H locs ls hf hP hD hS hl
      exact it3_0 hf
    | succ n25 ih25 =>
      intro v3 y4_letterOn_1 y5_namesOn_1 H locs ls hf hP hD hS hl
      obtain ⟨q25, hf, hk25⟩ := it3_e hf
      have hf := (el25 v3 y4_letterOn_1 y5_namesOn_1).symm.trans hf
      refine lv_iload_n (pc := 25) hexec hb dX6_beginSea_25 rfl (lv_at hl 1 rfl) ?_
      refine lv_sipush (pc := 26) hexec hb dX6_beginSea_26 ks_144 ?_
      refine ki_ge (pc := 29) hexec hb dX6_beginSea_29 (tgt := 52) rfl hf (fun hc hf => ?_) (fun hc hf => ?_)
      · cases sr3 hf hk25
        exact hE25 _ _ _ hP hD hS (lv_sub hl [] rfl)
      · refine lv_aload_n (pc := 32) hexec hb dX6_beginSea_32 rfl (lv_at hl 0 rfl) ?_
        refine kg_get (pc := 33) hexec hb (own := RX6) hWX6 hown hG hP 0 rfl rfl 3 (nle rfl) (hts _ (List.mem_cons_of_mem _ (List.mem_append_left _ (List.mem_append_left _ (List.mem_append_left _ (List.mem_append_left _ (List.mem_append_left _ (List.mem_of_getElem? (i := 3) rfl)))))))) rfl rfl dX6_beginSea_33 ?_
        refine lv_iload_n (pc := 36) hexec hb dX6_beginSea_36 rfl (lv_at hl 1 rfl) ?_
        refine lv_iconst (pc := 37) hexec hb dX6_beginSea_37 ki_0 ?_
        refine kw_iast (pc := 38) hexec hb hG hP hD hS 5 rfl hf dX6_beginSea_38 (fun y5_namesOn_3 H locs hf (hP : va_P g.1 vwCl (w_X6_beginSea g a0 a1 a2 a3 a4 a5 a6 a7 a8 u2_2 u2_3 u2_4 u2_5 u3_4 x1_rows_1 x1_columns_1 x1_rivers_1 x2_count_1 x2_reds_1 x3_count_1 x3_next_1 x3_turn_1 x3_quarters_1 y4_letterOn_1 y5_namesOn_3 y6_land_1 y7_riverOf_1 y8_riverPlace_1) H) (hD : va_D A (w_X6_beginSea g a0 a1 a2 a3 a4 a5 a6 a7 a8 u2_2 u2_3 u2_4 u2_5 u3_4 x1_rows_1 x1_columns_1 x1_rivers_1 x2_count_1 x2_reds_1 x3_count_1 x3_next_1 x3_turn_1 x3_quarters_1 y4_letterOn_1 y5_namesOn_3 y6_land_1 y7_riverOf_1 y8_riverPlace_1)) hS => ?_)
        refine lv_aload_n (pc := 39) hexec hb dX6_beginSea_39 rfl (lv_at hl 0 rfl) ?_
        refine kg_get (pc := 40) hexec hb (own := RX6) hWX6 hown hG hP 0 rfl rfl 4 (nle rfl) (hts _ (List.mem_cons_of_mem _ (List.mem_append_left _ (List.mem_append_left _ (List.mem_append_left _ (List.mem_append_left _ (List.mem_append_left _ (List.mem_of_getElem? (i := 4) rfl)))))))) rfl rfl dX6_beginSea_40 ?_
        refine lv_iload_n (pc := 43) hexec hb dX6_beginSea_43 rfl (lv_at hl 1 rfl) ?_
        refine lv_iconst (pc := 44) hexec hb dX6_beginSea_44 ki_m1 ?_
        refine kw_iast (pc := 45) hexec hb hG hP hD hS 4 rfl hf dX6_beginSea_45 (fun y4_letterOn_3 H locs hf (hP : va_P g.1 vwCl (w_X6_beginSea g a0 a1 a2 a3 a4 a5 a6 a7 a8 u2_2 u2_3 u2_4 u2_5 u3_4 x1_rows_1 x1_columns_1 x1_rivers_1 x2_count_1 x2_reds_1 x3_count_1 x3_next_1 x3_turn_1 x3_quarters_1 y4_letterOn_3 y5_namesOn_3 y6_land_1 y7_riverOf_1 y8_riverPlace_1) H) (hD : va_D A (w_X6_beginSea g a0 a1 a2 a3 a4 a5 a6 a7 a8 u2_2 u2_3 u2_4 u2_5 u3_4 x1_rows_1 x1_columns_1 x1_rivers_1 x2_count_1 x2_reds_1 x3_count_1 x3_next_1 x3_turn_1 x3_quarters_1 y4_letterOn_3 y5_namesOn_3 y6_land_1 y7_riverOf_1 y8_riverPlace_1)) hS => ?_)
        obtain ⟨v3_1, ev3_1, hf⟩ := bv_e hf
        refine k_iinc (pc := 46) hexec hb dX6_beginSea_46 kq_1 hl (k := 1) rfl ev3_1 (nle rfl) rfl (fun ls (hl : lv_has ls 4 [(3, .int v3_1), (0, .ref a0)]) => ?_)
        refine lv_goto (pc := 49) hexec hb dX6_beginSea_49 (tgt := 25) rfl ?_
        exact ih25 _ _ _ _ _ _ (sl3 hf hk25) hP hD hS (lv_sub hl [1, 0] rfl)
  exact hL25 n _ _ _ _ _ _ hz hP hD hS (lv_sub hl [1, 0] rfl)
abbrev w_X6_copyFrom (g : GE) (a0 a1 a2 a3 a4 a5 a6 a7 a8 a9 a10 a11 a12 a13 a14 a15 a16 a17 a18 a19 a20 a21 a22 a23 a24 a25 a26 a27 : Nat) (x1_rows : Int32) (x1_columns : Int32) (x1_rivers : Int32) (x2_count : Int32) (x2_reds : Int32) (x3_count : Int32) (x3_next : Int32) (x3_turn : Int32) (x3_quarters : Int32) (y4_letterOn : Nat → Int32) (y5_namesOn : Nat → Int32) (y6_land : Nat → Int32) (y7_riverOf : Nat → Int32) (y8_riverPlace : Nat → Int32) (y9_direction : Nat → Int32) (y10_home : Nat → Int32) (y11_length : Nat → Int32) (y12_letters : Nat → Int32) (y13_stops : Nat → Int32) (x15_rows : Int32) (x15_columns : Int32) (x15_rivers : Int32) (x16_count : Int32) (x16_reds : Int32) (x17_count : Int32) (x17_next : Int32) (x17_turn : Int32) (x17_quarters : Int32) (y18_letterOn : Nat → Int32) (y19_namesOn : Nat → Int32) (y20_land : Nat → Int32) (y21_riverOf : Nat → Int32) (y22_riverPlace : Nat → Int32) (y23_direction : Nat → Int32) (y24_home : Nat → Int32) (y25_length : Nat → Int32) (y26_letters : Nat → Int32) (y27_stops : Nat → Int32) : va_W := [(a0, .inr (6, [.ref a1, .ref a2, .ref a3, .ref a5, .ref a4])), (a1, .inr (1, [.int x1_rows, .int x1_columns, .int x1_rivers, .ref a6, .ref a7, .ref a8])), (a2, .inr (2, [.int x2_count, .int x2_reds, .ref a10, .ref a9, .ref a11, .ref a12])), (a3, .inr (4, [.int x3_count, .int x3_next, .int x3_turn, .int x3_quarters, .ref a13])), (a4, .inl (g.2.1 0, 144, .inl y4_letterOn)), (a5, .inl (g.2.1 0, 144, .inl y5_namesOn)), (a6, .inl (g.2.1 1, 144, .inl y6_land)), (a7, .inl (g.2.1 0, 144, .inl y7_riverOf)), (a8, .inl (g.2.1 0, 144, .inl y8_riverPlace)), (a9, .inl (g.2.1 0, 8, .inl y9_direction)), (a10, .inl (g.2.1 0, 8, .inl y10_home)), (a11, .inl (g.2.1 0, 8, .inl y11_length)), (a12, .inl (g.2.1 0, 64, .inl y12_letters)), (a13, .inl (g.2.1 0, 16, .inl y13_stops)), (a14, .inr (6, [.ref a15, .ref a16, .ref a17, .ref a19, .ref a18])), (a15, .inr (1, [.int x15_rows, .int x15_columns, .int x15_rivers, .ref a20, .ref a21, .ref a22])), (a16, .inr (2, [.int x16_count, .int x16_reds, .ref a24, .ref a23, .ref a25, .ref a26])), (a17, .inr (4, [.int x17_count, .int x17_next, .int x17_turn, .int x17_quarters, .ref a27])), (a18, .inl (g.2.1 0, 144, .inl y18_letterOn)), (a19, .inl (g.2.1 0, 144, .inl y19_namesOn)), (a20, .inl (g.2.1 1, 144, .inl y20_land)), (a21, .inl (g.2.1 0, 144, .inl y21_riverOf)), (a22, .inl (g.2.1 0, 144, .inl y22_riverPlace)), (a23, .inl (g.2.1 0, 8, .inl y23_direction)), (a24, .inl (g.2.1 0, 8, .inl y24_home)), (a25, .inl (g.2.1 0, 8, .inl y25_length)), (a26, .inl (g.2.1 0, 64, .inl y26_letters)), (a27, .inl (g.2.1 0, 16, .inl y27_stops))]
set_option maxRecDepth 20000 in
theorem c_X6_copyFrom (l : Launch) (g : GE) (a0 a1 a2 a3 a4 a5 a6 a7 a8 a9 a10 a11 a12 a13 a14 a15 a16 a17 a18 a19 a20 a21 a22 a23 a24 a25 a26 a27 : Nat) (sz : Nat) (x1_rows : Int32) (x1_columns : Int32) (x1_rivers : Int32) (x2_count : Int32) (x2_reds : Int32) (x3_count : Int32) (x3_next : Int32) (x3_turn : Int32) (x3_quarters : Int32) (y4_letterOn : Nat → Int32) (y5_namesOn : Nat → Int32) (y6_land : Nat → Int32) (y7_riverOf : Nat → Int32) (y8_riverPlace : Nat → Int32) (y9_direction : Nat → Int32) (y10_home : Nat → Int32) (y11_length : Nat → Int32) (y12_letters : Nat → Int32) (y13_stops : Nat → Int32) (x15_rows : Int32) (x15_columns : Int32) (x15_rivers : Int32) (x16_count : Int32) (x16_reds : Int32) (x17_count : Int32) (x17_next : Int32) (x17_turn : Int32) (x17_quarters : Int32) (y18_letterOn : Nat → Int32) (y19_namesOn : Nat → Int32) (y20_land : Nat → Int32) (y21_riverOf : Nat → Int32) (y22_riverPlace : Nat → Int32) (y23_direction : Nat → Int32) (y24_home : Nat → Int32) (y25_length : Nat → Int32) (y26_letters : Nat → Int32) (y27_stops : Nat → Int32)   (o_x1_rows : Int32) (o_x1_columns : Int32) (o_x1_rivers : Int32) (o_x2_count : Int32) (o_x2_reds : Int32) (o_x3_count : Int32) (o_x3_next : Int32) (o_x3_turn : Int32) (o_x3_quarters : Int32) (o_y4_letterOn : Nat → Int32) (o_y5_namesOn : Nat → Int32) (o_y6_land : Nat → Int32) (o_y7_riverOf : Nat → Int32) (o_y8_riverPlace : Nat → Int32) (o_y9_direction : Nat → Int32) (o_y10_home : Nat → Int32) (o_y11_length : Nat → Int32) (o_y12_letters : Nat → Int32) (o_y13_stops : Nat → Int32) (hf : f_X6_copyFrom x1_rows x1_columns x1_rivers x2_count x2_reds x3_count x3_next x3_turn x3_quarters y4_letterOn y5_namesOn y6_land y7_riverOf y8_riverPlace y9_direction y10_home y11_length y12_letters y13_stops x15_rows x15_columns x15_rivers x16_count x16_reds x17_count x17_next x17_turn x17_quarters y18_letterOn y19_namesOn y20_land y21_riverOf y22_riverPlace y23_direction y24_home y25_length y26_letters y27_stops = some (o_x1_rows, o_x1_columns, o_x1_rivers, o_x2_count, o_x2_reds, o_x3_count, o_x3_next, o_x3_turn, o_x3_quarters, o_y4_letterOn, o_y5_namesOn, o_y6_land, o_y7_riverOf, o_y8_riverPlace, o_y9_direction, o_y10_home, o_y11_length, o_y12_letters, o_y13_stops)) : MI l g yX6_copyFrom wsX6_copyFrom 2 46 [.ref a0, .ref a14] (w_X6_copyFrom g a0 a1 a2 a3 a4 a5 a6 a7 a8 a9 a10 a11 a12 a13 a14 a15 a16 a17 a18 a19 a20 a21 a22 a23 a24 a25 a26 a27 x1_rows x1_columns x1_rivers x2_count x2_reds x3_count x3_next x3_turn x3_quarters y4_letterOn y5_namesOn y6_land y7_riverOf y8_riverPlace y9_direction y10_home y11_length y12_letters y13_stops x15_rows x15_columns x15_rivers x16_count x16_reds x17_count x17_next x17_turn x17_quarters y18_letterOn y19_namesOn y20_land y21_riverOf y22_riverPlace y23_direction y24_home y25_length y26_letters y27_stops) sz none (w_X6_copyFrom g a0 a1 a2 a3 a4 a5 a6 a7 a8 a9 a10 a11 a12 a13 a14 a15 a16 a17 a18 a19 a20 a21 a22 a23 a24 a25 a26 a27 o_x1_rows o_x1_columns o_x1_rivers o_x2_count o_x2_reds o_x3_count o_x3_next o_x3_turn o_x3_quarters o_y4_letterOn o_y5_namesOn o_y6_land o_y7_riverOf o_y8_riverPlace o_y9_direction o_y10_home o_y11_length o_y12_letters o_y13_stops x15_rows x15_columns x15_rivers x16_count x16_reds x17_count x17_next x17_turn x17_quarters y18_letterOn y19_namesOn y20_land y21_riverOf y22_riverPlace y23_direction y24_home y25_length y26_letters y27_stops) := by
  refine MI.start (cc := cX6_copyFrom) (maxL := 3) (ret := none) rfl rfl (nle rfl) ?_
  intro p e s m args below meth c A ls Q hQ hexec hb hr hts hown hlocks hml hA hP hD hG hS hl
  unfold f_X6_copyFrom at hf
  have hWX1 : ∀ w ∈ wsX10, w.before args s = true := fun w h => hts w (List.mem_cons_of_mem _ (List.mem_append_left _ (List.mem_append_left _ (List.mem_append_right _ h))))
  have hWX2 : ∀ w ∈ wsX20, w.before args s = true := fun w h => hts w (List.mem_cons_of_mem _ (List.mem_append_left _ (List.mem_append_right _ h)))
  have hWX4 : ∀ w ∈ wsX40, w.before args s = true := fun w h => hts w (List.mem_cons_of_mem _ (List.mem_append_right _ h))
  have hWX6 : ∀ w ∈ wsX60, w.before args s = true := fun w h => hts w (List.mem_cons_of_mem _ (List.mem_append_left _ (List.mem_append_left _ (List.mem_append_left _ (List.mem_append_right _ h)))))
  have hS : va_S A s.heap s.heap [] := hS
  refine lv_aload_n (pc := 0) hexec hb dX6_copyFrom_0 rfl (lv_at hl 0 rfl) ?_
  refine kg_get (pc := 1) hexec hb (own := RX6) hWX6 hown hG hP 0 rfl rfl 0 (nle rfl) (hts _ (List.mem_cons_of_mem _ (List.mem_append_left _ (List.mem_append_left _ (List.mem_append_left _ (List.mem_append_left _ (List.mem_append_left _ (List.mem_of_getElem? (i := 0) rfl)))))))) rfl rfl dX6_copyFrom_1 ?_
  refine lv_aload_n (pc := 4) hexec hb dX6_copyFrom_4 rfl (lv_at hl 1 rfl) ?_
  refine kg_get (pc := 5) hexec hb (own := RX6) hWX6 hown hG hP 14 rfl rfl 0 (nle rfl) (hts _ (List.mem_cons_of_mem _ (List.mem_append_left _ (List.mem_append_left _ (List.mem_append_left _ (List.mem_append_left _ (List.mem_append_left _ (List.mem_of_getElem? (i := 0) rfl)))))))) rfl rfl dX6_copyFrom_5 ?_
  obtain ⟨x1_rows_1, x1_columns_1, x1_rivers_1, y6_land_1, y7_riverOf_1, y8_riverPlace_1, hc, hf⟩ := bd6_e hf
  refine kVp (pc := 8) (S := ⟨hexec, hb, hml, hown, hts⟩) hP hD hG hA hS [1, 6, 7, 8, 15, 20, 21, 22] [0, 2, 3, 4, 5, 9, 10, 11, 12, 13, 14, 16, 17, 18, 19, 23, 24, 25, 26, 27] [0, 20, 1, 2, 3, 4, 21, 22, 23, 5, 6, 7, 8, 9, 10, 24, 11, 12, 13, 14, 25, 26, 27, 15, 16, 17, 18, 19] (w2 := (w_X6_copyFrom g a0 a1 a2 a3 a4 a5 a6 a7 a8 a9 a10 a11 a12 a13 a14 a15 a16 a17 a18 a19 a20 a21 a22 a23 a24 a25 a26 a27 x1_rows_1 x1_columns_1 x1_rivers_1 x2_count x2_reds x3_count x3_next x3_turn x3_quarters y4_letterOn y5_namesOn y6_land_1 y7_riverOf_1 y8_riverPlace_1 y9_direction y10_home y11_length y12_letters y13_stops x15_rows x15_columns x15_rivers x16_count x16_reds x17_count x17_next x17_turn x17_quarters y18_letterOn y19_namesOn y20_land y21_riverOf y22_riverPlace y23_direction y24_home y25_length y26_letters y27_stops)) rfl rfl rfl rfl rfl rfl (by decide) (c_X1_copyFrom l g a1 a6 a7 a8 a15 a20 a21 a22 _ x1_rows x1_columns x1_rivers y6_land y7_riverOf y8_riverPlace x15_rows x15_columns x15_rivers y20_land y21_riverOf y22_riverPlace x1_rows_1 x1_columns_1 x1_rivers_1 y6_land_1 y7_riverOf_1 y8_riverPlace_1 hc) gX6_copyFrom_X1_copyFrom rfl hv_X1_copyFrom ⟨nle rfl, nle rfl⟩ 1 0 rfl rfl rfl (rest := []) rfl rfl hl.1 (nle rfl) dX6_copyFrom_8 (fun H locs hP hD hS => ?_)
  refine lv_aload_n (pc := 11) hexec hb dX6_copyFrom_11 rfl (lv_at hl 0 rfl) ?_
  refine kg_get (pc := 12) hexec hb (own := RX6) hWX6 hown hG hP 0 rfl rfl 1 (nle rfl) (hts _ (List.mem_cons_of_mem _ (List.mem_append_left _ (List.mem_append_left _ (List.mem_append_left _ (List.mem_append_left _ (List.mem_append_left _ (List.mem_of_getElem? (i := 1) rfl)))))))) rfl rfl dX6_copyFrom_12 ?_
  refine lv_aload_n (pc := 15) hexec hb dX6_copyFrom_15 rfl (lv_at hl 1 rfl) ?_
  refine kg_get (pc := 16) hexec hb (own := RX6) hWX6 hown hG hP 14 rfl rfl 1 (nle rfl) (hts _ (List.mem_cons_of_mem _ (List.mem_append_left _ (List.mem_append_left _ (List.mem_append_left _ (List.mem_append_left _ (List.mem_append_left _ (List.mem_of_getElem? (i := 1) rfl)))))))) rfl rfl dX6_copyFrom_16 ?_
  obtain ⟨x2_count_1, x2_reds_1, y9_direction_1, y10_home_1, y11_length_1, y12_letters_1, hc, hf⟩ := bd6_e hf
  refine kVp (pc := 19) (S := ⟨hexec, hb, hml, hown, hts⟩) hP hD hG hA hS [2, 9, 10, 11, 12, 16, 23, 24, 25, 26] [0, 1, 3, 4, 5, 6, 7, 8, 13, 14, 15, 17, 18, 19, 20, 21, 22, 27] [0, 1, 18, 2, 3, 4, 5, 6, 7, 19, 20, 21, 22, 8, 9, 10, 23, 11, 12, 13, 14, 15, 16, 24, 25, 26, 27, 17] (w2 := (w_X6_copyFrom g a0 a1 a2 a3 a4 a5 a6 a7 a8 a9 a10 a11 a12 a13 a14 a15 a16 a17 a18 a19 a20 a21 a22 a23 a24 a25 a26 a27 x1_rows_1 x1_columns_1 x1_rivers_1 x2_count_1 x2_reds_1 x3_count x3_next x3_turn x3_quarters y4_letterOn y5_namesOn y6_land_1 y7_riverOf_1 y8_riverPlace_1 y9_direction_1 y10_home_1 y11_length_1 y12_letters_1 y13_stops x15_rows x15_columns x15_rivers x16_count x16_reds x17_count x17_next x17_turn x17_quarters y18_letterOn y19_namesOn y20_land y21_riverOf y22_riverPlace y23_direction y24_home y25_length y26_letters y27_stops)) rfl rfl rfl rfl rfl rfl (by decide) (c_X2_copyFrom l g a2 a9 a10 a11 a12 a16 a23 a24 a25 a26 _ x2_count x2_reds y9_direction y10_home y11_length y12_letters x16_count x16_reds y23_direction y24_home y25_length y26_letters x2_count_1 x2_reds_1 y9_direction_1 y10_home_1 y11_length_1 y12_letters_1 hc) gX6_copyFrom_X2_copyFrom rfl hv_X2_copyFrom ⟨nle rfl, nle rfl⟩ 2 0 rfl rfl rfl (rest := []) rfl rfl hl.1 (nle rfl) dX6_copyFrom_19 (fun H locs hP hD hS => ?_)
  refine lv_aload_n (pc := 22) hexec hb dX6_copyFrom_22 rfl (lv_at hl 0 rfl) ?_
  refine kg_get (pc := 23) hexec hb (own := RX6) hWX6 hown hG hP 0 rfl rfl 2 (nle rfl) (hts _ (List.mem_cons_of_mem _ (List.mem_append_left _ (List.mem_append_left _ (List.mem_append_left _ (List.mem_append_left _ (List.mem_append_left _ (List.mem_of_getElem? (i := 2) rfl)))))))) rfl rfl dX6_copyFrom_23 ?_
  refine lv_aload_n (pc := 26) hexec hb dX6_copyFrom_26 rfl (lv_at hl 1 rfl) ?_
  refine kg_get (pc := 27) hexec hb (own := RX6) hWX6 hown hG hP 14 rfl rfl 2 (nle rfl) (hts _ (List.mem_cons_of_mem _ (List.mem_append_left _ (List.mem_append_left _ (List.mem_append_left _ (List.mem_append_left _ (List.mem_append_left _ (List.mem_of_getElem? (i := 2) rfl)))))))) rfl rfl dX6_copyFrom_27 ?_
  obtain ⟨x3_count_1, x3_next_1, x3_turn_1, x3_quarters_1, y13_stops_1, hc, hf⟩ := bd5_e hf
  refine kVp (pc := 30) (S := ⟨hexec, hb, hml, hown, hts⟩) hP hD hG hA hS [3, 13, 17, 27] [0, 1, 2, 4, 5, 6, 7, 8, 9, 10, 11, 12, 14, 15, 16, 18, 19, 20, 21, 22, 23, 24, 25, 26] [0, 1, 2, 24, 3, 4, 5, 6, 7, 8, 9, 10, 11, 25, 12, 13, 14, 26, 15, 16, 17, 18, 19, 20, 21, 22, 23, 27] (w2 := (w_X6_copyFrom g a0 a1 a2 a3 a4 a5 a6 a7 a8 a9 a10 a11 a12 a13 a14 a15 a16 a17 a18 a19 a20 a21 a22 a23 a24 a25 a26 a27 x1_rows_1 x1_columns_1 x1_rivers_1 x2_count_1 x2_reds_1 x3_count_1 x3_next_1 x3_turn_1 x3_quarters_1 y4_letterOn y5_namesOn y6_land_1 y7_riverOf_1 y8_riverPlace_1 y9_direction_1 y10_home_1 y11_length_1 y12_letters_1 y13_stops_1 x15_rows x15_columns x15_rivers x16_count x16_reds x17_count x17_next x17_turn x17_quarters y18_letterOn y19_namesOn y20_land y21_riverOf y22_riverPlace y23_direction y24_home y25_length y26_letters y27_stops)) rfl rfl rfl rfl rfl rfl (by decide) (c_X4_copyFrom l g a3 a13 a17 a27 _ x3_count x3_next x3_turn x3_quarters y13_stops x17_count x17_next x17_turn x17_quarters y27_stops x3_count_1 x3_next_1 x3_turn_1 x3_quarters_1 y13_stops_1 hc) gX6_copyFrom_X4_copyFrom rfl hv_X4_copyFrom ⟨nle rfl, nle rfl⟩ 4 0 rfl rfl rfl (rest := []) rfl rfl hl.1 (nle rfl) dX6_copyFrom_30 (fun H locs hP hD hS => ?_)
  refine lv_iconst (pc := 33) hexec hb dX6_copyFrom_33 ki_0 ?_
  refine lv_istore_n (pc := 34) hexec hb dX6_copyFrom_34 rfl hl (nle rfl) rfl (fun ls (hl : lv_has ls 3 [(2, .int 0), (0, .ref a0), (1, .ref a14)]) => ?_)
  obtain ⟨l35, el35, hf⟩ := bvf3 hf
  obtain ⟨y4_letterOn_2, y5_namesOn_2, hz, hf⟩ := bd2_e hf
  have hE35 : ∀ (H : Heap) (locs : List Loc) (ls : Array Slot), va_P g.1 vwCl (w_X6_copyFrom g a0 a1 a2 a3 a4 a5 a6 a7 a8 a9 a10 a11 a12 a13 a14 a15 a16 a17 a18 a19 a20 a21 a22 a23 a24 a25 a26 a27 x1_rows_1 x1_columns_1 x1_rivers_1 x2_count_1 x2_reds_1 x3_count_1 x3_next_1 x3_turn_1 x3_quarters_1 y4_letterOn_2 y5_namesOn_2 y6_land_1 y7_riverOf_1 y8_riverPlace_1 y9_direction_1 y10_home_1 y11_length_1 y12_letters_1 y13_stops_1 x15_rows x15_columns x15_rivers x16_count x16_reds x17_count x17_next x17_turn x17_quarters y18_letterOn y19_namesOn y20_land y21_riverOf y22_riverPlace y23_direction y24_home y25_length y26_letters y27_stops) H → va_D A (w_X6_copyFrom g a0 a1 a2 a3 a4 a5 a6 a7 a8 a9 a10 a11 a12 a13 a14 a15 a16 a17 a18 a19 a20 a21 a22 a23 a24 a25 a26 a27 x1_rows_1 x1_columns_1 x1_rivers_1 x2_count_1 x2_reds_1 x3_count_1 x3_next_1 x3_turn_1 x3_quarters_1 y4_letterOn_2 y5_namesOn_2 y6_land_1 y7_riverOf_1 y8_riverPlace_1 y9_direction_1 y10_home_1 y11_length_1 y12_letters_1 y13_stops_1 x15_rows x15_columns x15_rivers x16_count x16_reds x17_count x17_next x17_turn x17_quarters y18_letterOn y19_namesOn y20_land y21_riverOf y22_riverPlace y23_direction y24_home y25_length y26_letters y27_stops) → va_S A s.heap H locs → lv_has ls 3 [] → W p l e (RM 2 46) s m args below meth c H locs 0 0 Q (F0 m 72 ls []) := by
    intro H locs ls hP hD hS hl
    simp only [Option.some.injEq, Prod.mk.injEq] at hf
    obtain ⟨rfl, rfl, rfl, rfl, rfl, rfl, rfl, rfl, rfl, rfl, rfl, rfl, rfl, rfl, rfl, rfl, rfl, rfl, rfl⟩ := hf
    exact ke_v hQ hexec hb hr hP hD hS dX6_copyFrom_72 hlocks
  obtain ⟨n, hz⟩ := lq3_e hz
  have hL35 : ∀ (n : Nat) (v2 : Int32) (y4_letterOn_1 : Nat → Int32) (y5_namesOn_1 : Nat → Int32) (H : Heap) (locs : List Loc) (ls : Array Slot), it3 l35 n v2 y4_letterOn_1 y5_namesOn_1 = some (y4_letterOn_2, y5_namesOn_2) → va_P g.1 vwCl (w_X6_copyFrom g a0 a1 a2 a3 a4 a5 a6 a7 a8 a9 a10 a11 a12 a13 a14 a15 a16 a17 a18 a19 a20 a21 a22 a23 a24 a25 a26 a27 x1_rows_1 x1_columns_1 x1_rivers_1 x2_count_1 x2_reds_1 x3_count_1 x3_next_1 x3_turn_1 x3_quarters_1 y4_letterOn_1 y5_namesOn_1 y6_land_1 y7_riverOf_1 y8_riverPlace_1 y9_direction_1 y10_home_1 y11_length_1 y12_letters_1 y13_stops_1 x15_rows x15_columns x15_rivers x16_count x16_reds x17_count x17_next x17_turn x17_quarters y18_letterOn y19_namesOn y20_land y21_riverOf y22_riverPlace y23_direction y24_home y25_length y26_letters y27_stops) H → va_D A (w_X6_copyFrom g a0 a1 a2 a3 a4 a5 a6 a7 a8 a9 a10 a11 a12 a13 a14 a15 a16 a17 a18 a19 a20 a21 a22 a23 a24 a25 a26 a27 x1_rows_1 x1_columns_1 x1_rivers_1 x2_count_1 x2_reds_1 x3_count_1 x3_next_1 x3_turn_1 x3_quarters_1 y4_letterOn_1 y5_namesOn_1 y6_land_1 y7_riverOf_1 y8_riverPlace_1 y9_direction_1 y10_home_1 y11_length_1 y12_letters_1 y13_stops_1 x15_rows x15_columns x15_rivers x16_count x16_reds x17_count x17_next x17_turn x17_quarters y18_letterOn y19_namesOn y20_land y21_riverOf y22_riverPlace y23_direction y24_home y25_length y26_letters y27_stops) → va_S A s.heap H locs → lv_has ls 3 [(0, .ref a0), (1, .ref a14), (2, .int v2)] → W p l e (RM 2 46) s m args below meth c H locs 0 0 Q (F0 m 35 ls []) := by
    intro n
    induction n with
    | zero =>
      intro v2 y4_letterOn_1 y5_namesOn_1 H locs ls hf hP hD hS hl
      exact it3_0 hf
    | succ n35 ih35 =>
      intro v2 y4_letterOn_1 y5_namesOn_1 H locs ls hf hP hD hS hl
      obtain ⟨q35, hf, hk35⟩ := it3_e hf
      have hf := (el35 v2 y4_letterOn_1 y5_namesOn_1).symm.trans hf
      refine lv_iload_n (pc := 35) hexec hb dX6_copyFrom_35 rfl (lv_at hl 2 rfl) ?_
      refine lv_sipush (pc := 36) hexec hb dX6_copyFrom_36 ks_144 ?_
      refine ki_ge (pc := 39) hexec hb dX6_copyFrom_39 (tgt := 72) rfl hf (fun hc hf => ?_) (fun hc hf => ?_)
      · cases sr3 hf hk35
        exact hE35 _ _ _ hP hD hS (lv_sub hl [] rfl)
      · refine lv_aload_n (pc := 42) hexec hb dX6_copyFrom_42 rfl (lv_at hl 0 rfl) ?_
        refine kg_get (pc := 43) hexec hb (own := RX6) hWX6 hown hG hP 0 rfl rfl 3 (nle rfl) (hts _ (List.mem_cons_of_mem _ (List.mem_append_left _ (List.mem_append_left _ (List.mem_append_left _ (List.mem_append_left _ (List.mem_append_left _ (List.mem_of_getElem? (i := 3) rfl)))))))) rfl rfl dX6_copyFrom_43 ?_
        refine lv_iload_n (pc := 46) hexec hb dX6_copyFrom_46 rfl (lv_at hl 2 rfl) ?_
        refine lv_aload_n (pc := 47) hexec hb dX6_copyFrom_47 rfl (lv_at hl 1 rfl) ?_
        refine kg_get (pc := 48) hexec hb (own := RX6) hWX6 hown hG hP 14 rfl rfl 3 (nle rfl) (hts _ (List.mem_cons_of_mem _ (List.mem_append_left _ (List.mem_append_left _ (List.mem_append_left _ (List.mem_append_left _ (List.mem_append_left _ (List.mem_of_getElem? (i := 3) rfl)))))))) rfl rfl dX6_copyFrom_48 ?_
        refine lv_iload_n (pc := 51) hexec hb dX6_copyFrom_51 rfl (lv_at hl 2 rfl) ?_
        refine kr_iald (pc := 52) hexec hb hG hP 19 rfl hf dX6_copyFrom_52 (fun hf => ?_)
        refine kw_iast (pc := 53) hexec hb hG hP hD hS 5 rfl hf dX6_copyFrom_53 (fun y5_namesOn_3 H locs hf (hP : va_P g.1 vwCl (w_X6_copyFrom g a0 a1 a2 a3 a4 a5 a6 a7 a8 a9 a10 a11 a12 a13 a14 a15 a16 a17 a18 a19 a20 a21 a22 a23 a24 a25 a26 a27 x1_rows_1 x1_columns_1 x1_rivers_1 x2_count_1 x2_reds_1 x3_count_1 x3_next_1 x3_turn_1 x3_quarters_1 y4_letterOn_1 y5_namesOn_3 y6_land_1 y7_riverOf_1 y8_riverPlace_1 y9_direction_1 y10_home_1 y11_length_1 y12_letters_1 y13_stops_1 x15_rows x15_columns x15_rivers x16_count x16_reds x17_count x17_next x17_turn x17_quarters y18_letterOn y19_namesOn y20_land y21_riverOf y22_riverPlace y23_direction y24_home y25_length y26_letters y27_stops) H) (hD : va_D A (w_X6_copyFrom g a0 a1 a2 a3 a4 a5 a6 a7 a8 a9 a10 a11 a12 a13 a14 a15 a16 a17 a18 a19 a20 a21 a22 a23 a24 a25 a26 a27 x1_rows_1 x1_columns_1 x1_rivers_1 x2_count_1 x2_reds_1 x3_count_1 x3_next_1 x3_turn_1 x3_quarters_1 y4_letterOn_1 y5_namesOn_3 y6_land_1 y7_riverOf_1 y8_riverPlace_1 y9_direction_1 y10_home_1 y11_length_1 y12_letters_1 y13_stops_1 x15_rows x15_columns x15_rivers x16_count x16_reds x17_count x17_next x17_turn x17_quarters y18_letterOn y19_namesOn y20_land y21_riverOf y22_riverPlace y23_direction y24_home y25_length y26_letters y27_stops)) hS => ?_)
        refine lv_aload_n (pc := 54) hexec hb dX6_copyFrom_54 rfl (lv_at hl 0 rfl) ?_
        refine kg_get (pc := 55) hexec hb (own := RX6) hWX6 hown hG hP 0 rfl rfl 4 (nle rfl) (hts _ (List.mem_cons_of_mem _ (List.mem_append_left _ (List.mem_append_left _ (List.mem_append_left _ (List.mem_append_left _ (List.mem_append_left _ (List.mem_of_getElem? (i := 4) rfl)))))))) rfl rfl dX6_copyFrom_55 ?_
        refine lv_iload_n (pc := 58) hexec hb dX6_copyFrom_58 rfl (lv_at hl 2 rfl) ?_
        refine lv_aload_n (pc := 59) hexec hb dX6_copyFrom_59 rfl (lv_at hl 1 rfl) ?_
        refine kg_get (pc := 60) hexec hb (own := RX6) hWX6 hown hG hP 14 rfl rfl 4 (nle rfl) (hts _ (List.mem_cons_of_mem _ (List.mem_append_left _ (List.mem_append_left _ (List.mem_append_left _ (List.mem_append_left _ (List.mem_append_left _ (List.mem_of_getElem? (i := 4) rfl)))))))) rfl rfl dX6_copyFrom_60 ?_
        refine lv_iload_n (pc := 63) hexec hb dX6_copyFrom_63 rfl (lv_at hl 2 rfl) ?_
        refine kr_iald (pc := 64) hexec hb hG hP 18 rfl hf dX6_copyFrom_64 (fun hf => ?_)
        refine kw_iast (pc := 65) hexec hb hG hP hD hS 4 rfl hf dX6_copyFrom_65 (fun y4_letterOn_3 H locs hf (hP : va_P g.1 vwCl (w_X6_copyFrom g a0 a1 a2 a3 a4 a5 a6 a7 a8 a9 a10 a11 a12 a13 a14 a15 a16 a17 a18 a19 a20 a21 a22 a23 a24 a25 a26 a27 x1_rows_1 x1_columns_1 x1_rivers_1 x2_count_1 x2_reds_1 x3_count_1 x3_next_1 x3_turn_1 x3_quarters_1 y4_letterOn_3 y5_namesOn_3 y6_land_1 y7_riverOf_1 y8_riverPlace_1 y9_direction_1 y10_home_1 y11_length_1 y12_letters_1 y13_stops_1 x15_rows x15_columns x15_rivers x16_count x16_reds x17_count x17_next x17_turn x17_quarters y18_letterOn y19_namesOn y20_land y21_riverOf y22_riverPlace y23_direction y24_home y25_length y26_letters y27_stops) H) (hD : va_D A (w_X6_copyFrom g a0 a1 a2 a3 a4 a5 a6 a7 a8 a9 a10 a11 a12 a13 a14 a15 a16 a17 a18 a19 a20 a21 a22 a23 a24 a25 a26 a27 x1_rows_1 x1_columns_1 x1_rivers_1 x2_count_1 x2_reds_1 x3_count_1 x3_next_1 x3_turn_1 x3_quarters_1 y4_letterOn_3 y5_namesOn_3 y6_land_1 y7_riverOf_1 y8_riverPlace_1 y9_direction_1 y10_home_1 y11_length_1 y12_letters_1 y13_stops_1 x15_rows x15_columns x15_rivers x16_count x16_reds x17_count x17_next x17_turn x17_quarters y18_letterOn y19_namesOn y20_land y21_riverOf y22_riverPlace y23_direction y24_home y25_length y26_letters y27_stops)) hS => ?_)
        obtain ⟨v2_1, ev2_1, hf⟩ := bv_e hf
        refine k_iinc (pc := 66) hexec hb dX6_copyFrom_66 kq_1 hl (k := 2) rfl ev2_1 (nle rfl) rfl (fun ls (hl : lv_has ls 3 [(2, .int v2_1), (0, .ref a0), (1, .ref a14)]) => ?_)
        refine lv_goto (pc := 69) hexec hb dX6_copyFrom_69 (tgt := 35) rfl ?_
        exact ih35 _ _ _ _ _ _ (sl3 hf hk35) hP hD hS (lv_sub hl [1, 2, 0] rfl)
  exact hL35 n _ _ _ _ _ _ hz hP hD hS (lv_sub hl [1, 2, 0] rfl)
abbrev w_X6_namesIn (g : GE) (a0 a1 : Nat) (u0_0 u0_1 u0_2 u0_4 : Value) (y1_namesOn : Nat → Int32) : va_W := [(a0, .inr (6, [u0_0, u0_1, u0_2, .ref a1, u0_4])), (a1, .inl (g.2.1 0, 144, .inl y1_namesOn))]
set_option maxRecDepth 20000 in
theorem c_X6_namesIn (l : Launch) (g : GE) (a0 a1 : Nat) (sz : Nat) (u0_0 u0_1 u0_2 u0_4 : Value) (y1_namesOn : Nat → Int32) (p1 : Int32)  (r : Int32) (hf : f_X6_namesIn y1_namesOn p1 = some r) : MI l g yX6_namesIn wsX6_namesIn 1 24 [.ref a0, .int p1] (w_X6_namesIn g a0 a1 u0_0 u0_1 u0_2 u0_4 y1_namesOn) sz (some (.int r)) (w_X6_namesIn g a0 a1 u0_0 u0_1 u0_2 u0_4 y1_namesOn) := by
  refine MI.start (cc := cX6_namesIn) (maxL := 2) (ret := (some .int)) rfl rfl (nle rfl) ?_
  intro p e s m args below meth c A ls Q hQ hexec hb hr hts hown hlocks hml hA hP hD hG hS hl
  unfold f_X6_namesIn at hf
  have hWX6 : ∀ w ∈ wsX60, w.before args s = true := fun w h => hts w (List.mem_cons_of_mem _ (List.mem_append_right _ h))
  have hS : va_S A s.heap s.heap [] := hS
  refine lv_iload_n (pc := 0) hexec hb dX6_namesIn_0 rfl (lv_at hl 1 rfl) ?_
  obtain ⟨j20, ej20, hf⟩ := bvf1 hf
  have hj20 : ∀ (u : Unit) (H : Heap) (locs : List Loc) (ls : Array Slot), j20 u = some r → va_P g.1 vwCl (w_X6_namesIn g a0 a1 u0_0 u0_1 u0_2 u0_4 y1_namesOn) H → va_D A (w_X6_namesIn g a0 a1 u0_0 u0_1 u0_2 u0_4 y1_namesOn) → va_S A s.heap H locs → lv_has ls 2 [] → W p l e (RM 1 24) s m args below meth c H locs 0 0 Q (F0 m 20 ls []) := by
    intro u H locs ls hf hP hD hS hl
    have hf := (ej20 u).symm.trans hf
    refine lv_iconst (pc := 20) hexec hb dX6_namesIn_20 ki_0 ?_
    cases hf
    exact ke_i hQ hexec hb hr hP hD hS dX6_namesIn_21 hlocks
  refine kb_lt (pc := 1) hexec hb dX6_namesIn_1 (tgt := 20) rfl hf (fun hc hf => ?_) (fun hc hf => ?_)
  · exact hj20 _ _ _ _ hf hP hD hS (lv_sub hl [] rfl)
  · refine lv_iload_n (pc := 4) hexec hb dX6_namesIn_4 rfl (lv_at hl 1 rfl) ?_
    refine lv_sipush (pc := 5) hexec hb dX6_namesIn_5 ks_144 ?_
    refine ki_ge (pc := 8) hexec hb dX6_namesIn_8 (tgt := 20) rfl hf (fun hc hf => ?_) (fun hc hf => ?_)
    · exact hj20 _ _ _ _ hf hP hD hS (lv_sub hl [] rfl)
    · refine lv_aload_n (pc := 11) hexec hb dX6_namesIn_11 rfl (lv_at hl 0 rfl) ?_
      refine kg_get (pc := 12) hexec hb (own := RX6) hWX6 hown hG hP 0 rfl rfl 3 (nle rfl) (hts _ (List.mem_cons_of_mem _ (List.mem_append_left _ (List.mem_of_getElem? (i := 0) rfl)))) rfl rfl dX6_namesIn_12 ?_
      refine lv_iload_n (pc := 15) hexec hb dX6_namesIn_15 rfl (lv_at hl 1 rfl) ?_
      refine kr_iald (pc := 16) hexec hb hG hP 1 rfl hf dX6_namesIn_16 (fun hf => ?_)
      refine lv_goto (pc := 17) hexec hb dX6_namesIn_17 (tgt := 21) rfl ?_
      cases hf
      exact ke_i hQ hexec hb hr hP hD hS dX6_namesIn_21 hlocks
abbrev w_X6_letterIn (g : GE) (a0 a1 a2 : Nat) (u0_0 u0_1 u0_2 : Value) (y1_letterOn : Nat → Int32) (y2_namesOn : Nat → Int32) : va_W := [(a0, .inr (6, [u0_0, u0_1, u0_2, .ref a2, .ref a1])), (a1, .inl (g.2.1 0, 144, .inl y1_letterOn)), (a2, .inl (g.2.1 0, 144, .inl y2_namesOn))]
set_option maxRecDepth 20000 in
theorem c_X6_letterIn (l : Launch) (g : GE) (a0 a1 a2 : Nat) (sz : Nat) (u0_0 u0_1 u0_2 : Value) (y1_letterOn : Nat → Int32) (y2_namesOn : Nat → Int32) (p1 : Int32)  (r : Int32) (hf : f_X6_letterIn y1_letterOn y2_namesOn p1 = some r) : MI l g yX6_letterIn wsX6_letterIn 2 45 [.ref a0, .int p1] (w_X6_letterIn g a0 a1 a2 u0_0 u0_1 u0_2 y1_letterOn y2_namesOn) sz (some (.int r)) (w_X6_letterIn g a0 a1 a2 u0_0 u0_1 u0_2 y1_letterOn y2_namesOn) := by
  refine MI.start (cc := cX6_letterIn) (maxL := 2) (ret := (some .int)) rfl rfl (nle rfl) ?_
  intro p e s m args below meth c A ls Q hQ hexec hb hr hts hown hlocks hml hA hP hD hG hS hl
  unfold f_X6_letterIn at hf
  have hWX6 : ∀ w ∈ wsX60, w.before args s = true := fun w h => hts w (List.mem_cons_of_mem _ (List.mem_append_right _ h))
  have hS : va_S A s.heap s.heap [] := hS
  refine lv_aload_n (pc := 0) hexec hb dX6_letterIn_0 rfl (lv_at hl 0 rfl) ?_
  refine lv_iload_n (pc := 1) hexec hb dX6_letterIn_1 rfl (lv_at hl 1 rfl) ?_
  obtain ⟨r2, hc, hf⟩ := bd1_e hf
  refine kVp (pc := 2) (S := ⟨hexec, hb, hml, hown, hts⟩) hP hD hG hA hS [0, 2] [1] [1, 0, 2] (w2 := (w_X6_letterIn g a0 a1 a2 u0_0 u0_1 u0_2 y1_letterOn y2_namesOn)) rfl rfl rfl rfl rfl rfl (by decide) (c_X6_namesIn l g a0 a2 _ u0_0 u0_1 u0_2 (.ref a1) y2_namesOn p1 r2 hc) gX6_letterIn_X6_namesIn rfl hv_X6_namesIn ⟨nle rfl, nle rfl⟩ 6 0 rfl rfl rfl (rest := []) rfl rfl hl.1 (nle rfl) dX6_letterIn_2 (fun H locs hP hD hS => ?_)
  refine kb_eq (pc := 5) hexec hb dX6_letterIn_5 (tgt := 17) rfl hf (fun hc hf => ?_) (fun hc hf => ?_)
  · refine lv_iconst (pc := 17) hexec hb dX6_letterIn_17 ki_m1 ?_
    cases hf
    exact ke_i hQ hexec hb hr hP hD hS dX6_letterIn_18 hlocks
  · refine lv_aload_n (pc := 8) hexec hb dX6_letterIn_8 rfl (lv_at hl 0 rfl) ?_
    refine kg_get (pc := 9) hexec hb (own := RX6) hWX6 hown hG hP 0 rfl rfl 4 (nle rfl) (hts _ (List.mem_cons_of_mem _ (List.mem_append_left _ (List.mem_of_getElem? (i := 0) rfl)))) rfl rfl dX6_letterIn_9 ?_
    refine lv_iload_n (pc := 12) hexec hb dX6_letterIn_12 rfl (lv_at hl 1 rfl) ?_
    refine kr_iald (pc := 13) hexec hb hG hP 1 rfl hf dX6_letterIn_13 (fun hf => ?_)
    refine lv_goto (pc := 14) hexec hb dX6_letterIn_14 (tgt := 18) rfl ?_
    cases hf
    exact ke_i hQ hexec hb hr hP hD hS dX6_letterIn_18 hlocks
abbrev w_X6_isOpen (g : GE) (a0 a1 a2 a3 a4 a5 : Nat) (u0_2 u0_3 u0_4 u1_0 u1_1 u1_2 u1_5 u2_1 u2_3 u2_4 u2_5 : Value) (x2_count : Int32) (y3_land : Nat → Int32) (y4_riverOf : Nat → Int32) (y5_home : Nat → Int32) : va_W := [(a0, .inr (6, [.ref a1, .ref a2, u0_2, u0_3, u0_4])), (a1, .inr (1, [u1_0, u1_1, u1_2, .ref a3, .ref a4, u1_5])), (a2, .inr (2, [.int x2_count, u2_1, .ref a5, u2_3, u2_4, u2_5])), (a3, .inl (g.2.1 1, 144, .inl y3_land)), (a4, .inl (g.2.1 0, 144, .inl y4_riverOf)), (a5, .inl (g.2.1 0, 8, .inl y5_home))]
set_option maxRecDepth 20000 in
theorem c_X6_isOpen (l : Launch) (g : GE) (a0 a1 a2 a3 a4 a5 : Nat) (sz : Nat) (u0_2 u0_3 u0_4 u1_0 u1_1 u1_2 u1_5 u2_1 u2_3 u2_4 u2_5 : Value) (x2_count : Int32) (y3_land : Nat → Int32) (y4_riverOf : Nat → Int32) (y5_home : Nat → Int32) (p1 : Int32)  (r : Int32) (hf : f_X6_isOpen x2_count y3_land y4_riverOf y5_home p1 = some r) : MI l g yX6_isOpen wsX6_isOpen 2 46 [.ref a0, .int p1] (w_X6_isOpen g a0 a1 a2 a3 a4 a5 u0_2 u0_3 u0_4 u1_0 u1_1 u1_2 u1_5 u2_1 u2_3 u2_4 u2_5 x2_count y3_land y4_riverOf y5_home) sz (some (.int r)) (w_X6_isOpen g a0 a1 a2 a3 a4 a5 u0_2 u0_3 u0_4 u1_0 u1_1 u1_2 u1_5 u2_1 u2_3 u2_4 u2_5 x2_count y3_land y4_riverOf y5_home) := by
  refine MI.start (cc := cX6_isOpen) (maxL := 2) (ret := (some .boolean)) rfl rfl (nle rfl) ?_
  intro p e s m args below meth c A ls Q hQ hexec hb hr hts hown hlocks hml hA hP hD hG hS hl
  unfold f_X6_isOpen at hf
  have hWX1 : ∀ w ∈ wsX10, w.before args s = true := fun w h => hts w (List.mem_cons_of_mem _ (List.mem_append_left _ (List.mem_append_right _ h)))
  have hWX2 : ∀ w ∈ wsX20, w.before args s = true := fun w h => hts w (List.mem_cons_of_mem _ (List.mem_append_right _ h))
  have hWX6 : ∀ w ∈ wsX60, w.before args s = true := fun w h => hts w (List.mem_cons_of_mem _ (List.mem_append_left _ (List.mem_append_left _ (List.mem_append_right _ h))))
  have hS : va_S A s.heap s.heap [] := hS
  refine lv_aload_n (pc := 0) hexec hb dX6_isOpen_0 rfl (lv_at hl 0 rfl) ?_
  refine kg_get (pc := 1) hexec hb (own := RX6) hWX6 hown hG hP 0 rfl rfl 0 (nle rfl) (hts _ (List.mem_cons_of_mem _ (List.mem_append_left _ (List.mem_append_left _ (List.mem_append_left _ (List.mem_of_getElem? (i := 0) rfl)))))) rfl rfl dX6_isOpen_1 ?_
  refine lv_iload_n (pc := 4) hexec hb dX6_isOpen_4 rfl (lv_at hl 1 rfl) ?_
  obtain ⟨r5, hc, hf⟩ := bd1_e hf
  refine kVp (pc := 5) (S := ⟨hexec, hb, hml, hown, hts⟩) hP hD hG hA hS [1, 3] [0, 2, 4, 5] [0, 4, 1, 5, 2, 3] (w2 := (w_X6_isOpen g a0 a1 a2 a3 a4 a5 u0_2 u0_3 u0_4 u1_0 u1_1 u1_2 u1_5 u2_1 u2_3 u2_4 u2_5 x2_count y3_land y4_riverOf y5_home)) rfl rfl rfl rfl rfl rfl (by decide) (c_X1_isLand l g a1 a3 _ u1_0 u1_1 u1_2 (.ref a4) u1_5 y3_land p1 r5 hc) gX6_isOpen_X1_isLand rfl hv_X1_isLand ⟨nle rfl, nle rfl⟩ 1 0 rfl rfl rfl (rest := []) rfl rfl hl.1 (nle rfl) dX6_isOpen_5 (fun H locs hP hD hS => ?_)
  obtain ⟨j38, ej38, hf⟩ := bvf1 hf
  have hj38 : ∀ (u : Unit) (H : Heap) (locs : List Loc) (ls : Array Slot), j38 u = some r → va_P g.1 vwCl (w_X6_isOpen g a0 a1 a2 a3 a4 a5 u0_2 u0_3 u0_4 u1_0 u1_1 u1_2 u1_5 u2_1 u2_3 u2_4 u2_5 x2_count y3_land y4_riverOf y5_home) H → va_D A (w_X6_isOpen g a0 a1 a2 a3 a4 a5 u0_2 u0_3 u0_4 u1_0 u1_1 u1_2 u1_5 u2_1 u2_3 u2_4 u2_5 x2_count y3_land y4_riverOf y5_home) → va_S A s.heap H locs → lv_has ls 2 [] → W p l e (RM 2 46) s m args below meth c H locs 0 0 Q (F0 m 38 ls []) := by
    intro u H locs ls hf hP hD hS hl
    have hf := (ej38 u).symm.trans hf
    refine lv_iconst (pc := 38) hexec hb dX6_isOpen_38 ki_0 ?_
    cases hf
    exact ke_z hQ hexec hb hr (.inl rfl) hP hD hS dX6_isOpen_39 hlocks
  refine kb_eq (pc := 8) hexec hb dX6_isOpen_8 (tgt := 38) rfl hf (fun hc hf => ?_) (fun hc hf => ?_)
  · exact hj38 _ _ _ _ hf hP hD hS (lv_sub hl [] rfl)
  · refine lv_aload_n (pc := 11) hexec hb dX6_isOpen_11 rfl (lv_at hl 0 rfl) ?_
    refine kg_get (pc := 12) hexec hb (own := RX6) hWX6 hown hG hP 0 rfl rfl 0 (nle rfl) (hts _ (List.mem_cons_of_mem _ (List.mem_append_left _ (List.mem_append_left _ (List.mem_append_left _ (List.mem_of_getElem? (i := 0) rfl)))))) rfl rfl dX6_isOpen_12 ?_
    refine lv_iload_n (pc := 15) hexec hb dX6_isOpen_15 rfl (lv_at hl 1 rfl) ?_
    obtain ⟨r16, hc, hf⟩ := bd1_e hf
    refine kVp (pc := 16) (S := ⟨hexec, hb, hml, hown, hts⟩) hP hD hG hA hS [1, 4] [0, 2, 3, 5] [0, 4, 1, 2, 5, 3] (w2 := (w_X6_isOpen g a0 a1 a2 a3 a4 a5 u0_2 u0_3 u0_4 u1_0 u1_1 u1_2 u1_5 u2_1 u2_3 u2_4 u2_5 x2_count y3_land y4_riverOf y5_home)) rfl rfl rfl rfl rfl rfl (by decide) (c_X1_isRiver l g a1 a4 _ u1_0 u1_1 u1_2 (.ref a3) u1_5 y4_riverOf p1 r16 hc) gX6_isOpen_X1_isRiver rfl hv_X1_isRiver ⟨nle rfl, nle rfl⟩ 1 0 rfl rfl rfl (rest := []) rfl rfl hl.1 (nle rfl) dX6_isOpen_16 (fun H locs hP hD hS => ?_)
    refine kb_ne (pc := 19) hexec hb dX6_isOpen_19 (tgt := 38) rfl hf (fun hc hf => ?_) (fun hc hf => ?_)
    · exact hj38 _ _ _ _ hf hP hD hS (lv_sub hl [] rfl)
    · refine lv_aload_n (pc := 22) hexec hb dX6_isOpen_22 rfl (lv_at hl 0 rfl) ?_
      refine kg_get (pc := 23) hexec hb (own := RX6) hWX6 hown hG hP 0 rfl rfl 1 (nle rfl) (hts _ (List.mem_cons_of_mem _ (List.mem_append_left _ (List.mem_append_left _ (List.mem_append_left _ (List.mem_of_getElem? (i := 1) rfl)))))) rfl rfl dX6_isOpen_23 ?_
      refine lv_iload_n (pc := 26) hexec hb dX6_isOpen_26 rfl (lv_at hl 1 rfl) ?_
      obtain ⟨r27, hc, hf⟩ := bd1_e hf
      refine kVp (pc := 27) (S := ⟨hexec, hb, hml, hown, hts⟩) hP hD hG hA hS [2, 5] [0, 1, 3, 4] [0, 1, 4, 2, 3, 5] (w2 := (w_X6_isOpen g a0 a1 a2 a3 a4 a5 u0_2 u0_3 u0_4 u1_0 u1_1 u1_2 u1_5 u2_1 u2_3 u2_4 u2_5 x2_count y3_land y4_riverOf y5_home)) rfl rfl rfl rfl rfl rfl (by decide) (c_X2_inCell l g a2 a5 _ u2_1 u2_3 u2_4 u2_5 x2_count y5_home p1 r27 hc) gX6_isOpen_X2_inCell rfl hv_X2_inCell ⟨nle rfl, nle rfl⟩ 2 0 rfl rfl rfl (rest := []) rfl rfl hl.1 (nle rfl) dX6_isOpen_27 (fun H locs hP hD hS => ?_)
      refine lv_iconst (pc := 30) hexec hb dX6_isOpen_30 ki_m1 ?_
      refine ki_ne (pc := 31) hexec hb dX6_isOpen_31 (tgt := 38) rfl hf (fun hc hf => ?_) (fun hc hf => ?_)
      · exact hj38 _ _ _ _ hf hP hD hS (lv_sub hl [] rfl)
      · refine lv_iconst (pc := 34) hexec hb dX6_isOpen_34 ki_1 ?_
        refine lv_goto (pc := 35) hexec hb dX6_isOpen_35 (tgt := 39) rfl ?_
        cases hf
        exact ke_z hQ hexec hb hr (.inr rfl) hP hD hS dX6_isOpen_39 hlocks
abbrev w_X6_cellReason (g : GE) (a0 a1 a2 a3 a4 a5 : Nat) (u0_2 u0_3 u0_4 u1_0 u1_1 u1_2 u1_5 u2_1 u2_3 u2_4 u2_5 : Value) (x2_count : Int32) (y3_land : Nat → Int32) (y4_riverOf : Nat → Int32) (y5_home : Nat → Int32) : va_W := [(a0, .inr (6, [.ref a1, .ref a2, u0_2, u0_3, u0_4])), (a1, .inr (1, [u1_0, u1_1, u1_2, .ref a3, .ref a4, u1_5])), (a2, .inr (2, [.int x2_count, u2_1, .ref a5, u2_3, u2_4, u2_5])), (a3, .inl (g.2.1 1, 144, .inl y3_land)), (a4, .inl (g.2.1 0, 144, .inl y4_riverOf)), (a5, .inl (g.2.1 0, 8, .inl y5_home))]
set_option maxRecDepth 20000 in
theorem c_X6_cellReason (l : Launch) (g : GE) (a0 a1 a2 a3 a4 a5 : Nat) (sz : Nat) (u0_2 u0_3 u0_4 u1_0 u1_1 u1_2 u1_5 u2_1 u2_3 u2_4 u2_5 : Value) (x2_count : Int32) (y3_land : Nat → Int32) (y4_riverOf : Nat → Int32) (y5_home : Nat → Int32) (p1 : Int32) (p2 : Int32)  (r : Int32) (hf : f_X6_cellReason x2_count y3_land y4_riverOf y5_home p1 p2 = some r) : MI l g yX6_cellReason wsX6_cellReason 2 46 [.ref a0, .int p1, .int p2] (w_X6_cellReason g a0 a1 a2 a3 a4 a5 u0_2 u0_3 u0_4 u1_0 u1_1 u1_2 u1_5 u2_1 u2_3 u2_4 u2_5 x2_count y3_land y4_riverOf y5_home) sz (some (.int r)) (w_X6_cellReason g a0 a1 a2 a3 a4 a5 u0_2 u0_3 u0_4 u1_0 u1_1 u1_2 u1_5 u2_1 u2_3 u2_4 u2_5 x2_count y3_land y4_riverOf y5_home) := by
  refine MI.start (cc := cX6_cellReason) (maxL := 4) (ret := (some .int)) rfl rfl (nle rfl) ?_
  intro p e s m args below meth c A ls Q hQ hexec hb hr hts hown hlocks hml hA hP hD hG hS hl
  unfold f_X6_cellReason at hf
  have hWX1 : ∀ w ∈ wsX10, w.before args s = true := fun w h => hts w (List.mem_cons_of_mem _ (List.mem_append_left _ (List.mem_append_right _ h)))
  have hWX2 : ∀ w ∈ wsX20, w.before args s = true := fun w h => hts w (List.mem_cons_of_mem _ (List.mem_append_right _ h))
  have hWX6 : ∀ w ∈ wsX60, w.before args s = true := fun w h => hts w (List.mem_cons_of_mem _ (List.mem_append_left _ (List.mem_append_left _ (List.mem_append_right _ h))))
  have hS : va_S A s.heap s.heap [] := hS
  refine lv_iload_n (pc := 0) hexec hb dX6_cellReason_0 rfl (lv_at hl 1 rfl) ?_
  refine lv_iconst (pc := 1) hexec hb dX6_cellReason_1 ki_m1 ?_
  refine ki_ne (pc := 2) hexec hb dX6_cellReason_2 (tgt := 7) rfl hf (fun hc hf => ?_) (fun hc hf => ?_)
  · refine lv_aload_n (pc := 7) hexec hb dX6_cellReason_7 rfl (lv_at hl 0 rfl) ?_
    refine kg_get (pc := 8) hexec hb (own := RX6) hWX6 hown hG hP 0 rfl rfl 0 (nle rfl) (hts _ (List.mem_cons_of_mem _ (List.mem_append_left _ (List.mem_append_left _ (List.mem_append_left _ (List.mem_of_getElem? (i := 0) rfl)))))) rfl rfl dX6_cellReason_8 ?_
    refine lv_iload_n (pc := 11) hexec hb dX6_cellReason_11 rfl (lv_at hl 1 rfl) ?_
    obtain ⟨r12, hc, hf⟩ := bd1_e hf
    refine kVp (pc := 12) (S := ⟨hexec, hb, hml, hown, hts⟩) hP hD hG hA hS [1, 3] [0, 2, 4, 5] [0, 4, 1, 5, 2, 3] (w2 := (w_X6_cellReason g a0 a1 a2 a3 a4 a5 u0_2 u0_3 u0_4 u1_0 u1_1 u1_2 u1_5 u2_1 u2_3 u2_4 u2_5 x2_count y3_land y4_riverOf y5_home)) rfl rfl rfl rfl rfl rfl (by decide) (c_X1_isLand l g a1 a3 _ u1_0 u1_1 u1_2 (.ref a4) u1_5 y3_land p1 r12 hc) gX6_cellReason_X1_isLand rfl hv_X1_isLand ⟨nle rfl, nle rfl⟩ 1 0 rfl rfl rfl (rest := []) rfl rfl hl.1 (nle rfl) dX6_cellReason_12 (fun H locs hP hD hS => ?_)
    refine kb_ne (pc := 15) hexec hb dX6_cellReason_15 (tgt := 20) rfl hf (fun hc hf => ?_) (fun hc hf => ?_)
    · refine lv_aload_n (pc := 20) hexec hb dX6_cellReason_20 rfl (lv_at hl 0 rfl) ?_
      refine kg_get (pc := 21) hexec hb (own := RX6) hWX6 hown hG hP 0 rfl rfl 0 (nle rfl) (hts _ (List.mem_cons_of_mem _ (List.mem_append_left _ (List.mem_append_left _ (List.mem_append_left _ (List.mem_of_getElem? (i := 0) rfl)))))) rfl rfl dX6_cellReason_21 ?_
      refine lv_iload_n (pc := 24) hexec hb dX6_cellReason_24 rfl (lv_at hl 1 rfl) ?_
      obtain ⟨r25, hc, hf⟩ := bd1_e hf
      refine kVp (pc := 25) (S := ⟨hexec, hb, hml, hown, hts⟩) hP hD hG hA hS [1, 4] [0, 2, 3, 5] [0, 4, 1, 2, 5, 3] (w2 := (w_X6_cellReason g a0 a1 a2 a3 a4 a5 u0_2 u0_3 u0_4 u1_0 u1_1 u1_2 u1_5 u2_1 u2_3 u2_4 u2_5 x2_count y3_land y4_riverOf y5_home)) rfl rfl rfl rfl rfl rfl (by decide) (c_X1_isRiver l g a1 a4 _ u1_0 u1_1 u1_2 (.ref a3) u1_5 y4_riverOf p1 r25 hc) gX6_cellReason_X1_isRiver rfl hv_X1_isRiver ⟨nle rfl, nle rfl⟩ 1 0 rfl rfl rfl (rest := []) rfl rfl hl.1 (nle rfl) dX6_cellReason_25 (fun H locs hP hD hS => ?_)
      refine kb_eq (pc := 28) hexec hb dX6_cellReason_28 (tgt := 33) rfl hf (fun hc hf => ?_) (fun hc hf => ?_)
      · refine lv_aload_n (pc := 33) hexec hb dX6_cellReason_33 rfl (lv_at hl 0 rfl) ?_
        refine kg_get (pc := 34) hexec hb (own := RX6) hWX6 hown hG hP 0 rfl rfl 1 (nle rfl) (hts _ (List.mem_cons_of_mem _ (List.mem_append_left _ (List.mem_append_left _ (List.mem_append_left _ (List.mem_of_getElem? (i := 1) rfl)))))) rfl rfl dX6_cellReason_34 ?_
        refine lv_iload_n (pc := 37) hexec hb dX6_cellReason_37 rfl (lv_at hl 1 rfl) ?_
        obtain ⟨r38, hc, hf⟩ := bd1_e hf
        refine kVp (pc := 38) (S := ⟨hexec, hb, hml, hown, hts⟩) hP hD hG hA hS [2, 5] [0, 1, 3, 4] [0, 1, 4, 2, 3, 5] (w2 := (w_X6_cellReason g a0 a1 a2 a3 a4 a5 u0_2 u0_3 u0_4 u1_0 u1_1 u1_2 u1_5 u2_1 u2_3 u2_4 u2_5 x2_count y3_land y4_riverOf y5_home)) rfl rfl rfl rfl rfl rfl (by decide) (c_X2_inCell l g a2 a5 _ u2_1 u2_3 u2_4 u2_5 x2_count y5_home p1 r38 hc) gX6_cellReason_X2_inCell rfl hv_X2_inCell ⟨nle rfl, nle rfl⟩ 2 0 rfl rfl rfl (rest := []) rfl rfl hl.1 (nle rfl) dX6_cellReason_38 (fun H locs hP hD hS => ?_)
        refine lv_istore_n (pc := 41) hexec hb dX6_cellReason_41 rfl hl (nle rfl) rfl (fun ls (hl : lv_has ls 4 [(3, .int r38), (0, .ref a0), (1, .int p1), (2, .int p2)]) => ?_)
        refine lv_iload_n (pc := 42) hexec hb dX6_cellReason_42 rfl (lv_at hl 0 rfl) ?_
        refine lv_iconst (pc := 43) hexec hb dX6_cellReason_43 ki_m1 ?_
        obtain ⟨j56, ej56, hf⟩ := bvf1 hf
        have hj56 : ∀ (u : Unit) (H : Heap) (locs : List Loc) (ls : Array Slot), j56 u = some r → va_P g.1 vwCl (w_X6_cellReason g a0 a1 a2 a3 a4 a5 u0_2 u0_3 u0_4 u1_0 u1_1 u1_2 u1_5 u2_1 u2_3 u2_4 u2_5 x2_count y3_land y4_riverOf y5_home) H → va_D A (w_X6_cellReason g a0 a1 a2 a3 a4 a5 u0_2 u0_3 u0_4 u1_0 u1_1 u1_2 u1_5 u2_1 u2_3 u2_4 u2_5 x2_count y3_land y4_riverOf y5_home) → va_S A s.heap H locs → lv_has ls 4 [] → W p l e (RM 2 46) s m args below meth c H locs 0 0 Q (F0 m 56 ls []) := by
          intro u H locs ls hf hP hD hS hl
          have hf := (ej56 u).symm.trans hf
          refine lv_iconst (pc := 56) hexec hb dX6_cellReason_56 ki_0 ?_
          cases hf
          exact ke_i hQ hexec hb hr hP hD hS dX6_cellReason_57 hlocks
        refine ki_eq (pc := 44) hexec hb dX6_cellReason_44 (tgt := 56) rfl hf (fun hc hf => ?_) (fun hc hf => ?_)
        · exact hj56 _ _ _ _ hf hP hD hS (lv_sub hl [] rfl)
        · refine lv_iload_n (pc := 47) hexec hb dX6_cellReason_47 rfl (lv_at hl 0 rfl) ?_
          refine lv_iload_n (pc := 48) hexec hb dX6_cellReason_48 rfl (lv_at hl 3 rfl) ?_
          refine ki_eq (pc := 49) hexec hb dX6_cellReason_49 (tgt := 56) rfl hf (fun hc hf => ?_) (fun hc hf => ?_)
          · exact hj56 _ _ _ _ hf hP hD hS (lv_sub hl [] rfl)
          · refine lv_iconst (pc := 52) hexec hb dX6_cellReason_52 ki_5 ?_
            refine lv_goto (pc := 53) hexec hb dX6_cellReason_53 (tgt := 57) rfl ?_
            cases hf
            exact ke_i hQ hexec hb hr hP hD hS dX6_cellReason_57 hlocks
      · refine lv_iconst (pc := 31) hexec hb dX6_cellReason_31 ki_4 ?_
        cases hf
        exact ke_i hQ hexec hb hr hP hD hS dX6_cellReason_32 hlocks
    · refine lv_iconst (pc := 18) hexec hb dX6_cellReason_18 ki_3 ?_
      cases hf
      exact ke_i hQ hexec hb hr hP hD hS dX6_cellReason_19 hlocks
  · refine lv_iconst (pc := 5) hexec hb dX6_cellReason_5 ki_2 ?_
    cases hf
    exact ke_i hQ hexec hb hr hP hD hS dX6_cellReason_6 hlocks
abbrev w_X6_groundReason (g : GE) (a0 a1 a2 a3 a4 a5 a6 : Nat) (u0_2 u0_3 u0_4 u1_2 u1_5 u2_1 u2_3 u2_5 : Value) (x1_rows : Int32) (x1_columns : Int32) (x2_count : Int32) (y3_land : Nat → Int32) (y4_riverOf : Nat → Int32) (y5_home : Nat → Int32) (y6_length : Nat → Int32) : va_W := [(a0, .inr (6, [.ref a1, .ref a2, u0_2, u0_3, u0_4])), (a1, .inr (1, [.int x1_rows, .int x1_columns, u1_2, .ref a3, .ref a4, u1_5])), (a2, .inr (2, [.int x2_count, u2_1, .ref a5, u2_3, .ref a6, u2_5])), (a3, .inl (g.2.1 1, 144, .inl y3_land)), (a4, .inl (g.2.1 0, 144, .inl y4_riverOf)), (a5, .inl (g.2.1 0, 8, .inl y5_home)), (a6, .inl (g.2.1 0, 8, .inl y6_length))]
set_option maxRecDepth 20000 in
theorem c_X6_groundReason (l : Launch) (g : GE) (a0 a1 a2 a3 a4 a5 a6 : Nat) (sz : Nat) (u0_2 u0_3 u0_4 u1_2 u1_5 u2_1 u2_3 u2_5 : Value) (x1_rows : Int32) (x1_columns : Int32) (x2_count : Int32) (y3_land : Nat → Int32) (y4_riverOf : Nat → Int32) (y5_home : Nat → Int32) (y6_length : Nat → Int32) (p1 : Int32) (p2 : Int32) (p3 : Int32)  (r : Int32) (hf : f_X6_groundReason x1_rows x1_columns x2_count y3_land y4_riverOf y5_home y6_length p1 p2 p3 = some r) : MI l g yX6_groundReason wsX6_groundReason 3 69 [.ref a0, .int p1, .int p2, .int p3] (w_X6_groundReason g a0 a1 a2 a3 a4 a5 a6 u0_2 u0_3 u0_4 u1_2 u1_5 u2_1 u2_3 u2_5 x1_rows x1_columns x2_count y3_land y4_riverOf y5_home y6_length) sz (some (.int r)) (w_X6_groundReason g a0 a1 a2 a3 a4 a5 a6 u0_2 u0_3 u0_4 u1_2 u1_5 u2_1 u2_3 u2_5 x1_rows x1_columns x2_count y3_land y4_riverOf y5_home y6_length) := by
  refine MI.start (cc := cX6_groundReason) (maxL := 8) (ret := (some .int)) rfl rfl (nle rfl) ?_
  intro p e s m args below meth c A ls Q hQ hexec hb hr hts hown hlocks hml hA hP hD hG hS hl
  unfold f_X6_groundReason at hf
  have hWX1 : ∀ w ∈ wsX10, w.before args s = true := fun w h => hts w (List.mem_cons_of_mem _ (List.mem_append_right _ h))
  have hWX2 : ∀ w ∈ wsX20, w.before args s = true := fun w h => hts w (List.mem_cons_of_mem _ (List.mem_append_left _ (List.mem_append_right _ h)))
  have hWX6 : ∀ w ∈ wsX60, w.before args s = true := fun w h => hts w (List.mem_cons_of_mem _ (List.mem_append_left _ (List.mem_append_left _ (List.mem_append_right _ h))))
  have hS : va_S A s.heap s.heap [] := hS
  refine lv_aload_n (pc := 0) hexec hb dX6_groundReason_0 rfl (lv_at hl 0 rfl) ?_
  refine kg_get (pc := 1) hexec hb (own := RX6) hWX6 hown hG hP 0 rfl rfl 1 (nle rfl) (hts _ (List.mem_cons_of_mem _ (List.mem_append_left _ (List.mem_append_left _ (List.mem_append_left _ (List.mem_append_left _ (List.mem_of_getElem? (i := 0) rfl))))))) rfl rfl dX6_groundReason_1 ?_
  refine lv_iload_n (pc := 4) hexec hb dX6_groundReason_4 rfl (lv_at hl 1 rfl) ?_
  obtain ⟨r5, hc, hf⟩ := bd1_e hf
  refine kVp (pc := 5) (S := ⟨hexec, hb, hml, hown, hts⟩) hP hD hG hA hS [2, 5] [0, 1, 3, 4, 6] [0, 1, 5, 2, 3, 6, 4] (w2 := (w_X6_groundReason g a0 a1 a2 a3 a4 a5 a6 u0_2 u0_3 u0_4 u1_2 u1_5 u2_1 u2_3 u2_5 x1_rows x1_columns x2_count y3_land y4_riverOf y5_home y6_length)) rfl rfl rfl rfl rfl rfl (by decide) (c_X2_homeOf l g a2 a5 _ u2_1 u2_3 (.ref a6) u2_5 x2_count y5_home p1 r5 hc) gX6_groundReason_X2_homeOf rfl hv_X2_homeOf ⟨nle rfl, nle rfl⟩ 2 0 rfl rfl rfl (rest := []) rfl rfl hl.1 (nle rfl) dX6_groundReason_5 (fun H locs hP hD hS => ?_)
  refine lv_istore (pc := 8) hexec hb dX6_groundReason_8 hl (nle rfl) rfl (fun ls (hl : lv_has ls 8 [(4, .int r5), (0, .ref a0), (1, .int p1), (2, .int p2), (3, .int p3)]) => ?_)
  refine lv_aload_n (pc := 10) hexec hb dX6_groundReason_10 rfl (lv_at hl 1 rfl) ?_
  refine kg_get (pc := 11) hexec hb (own := RX6) hWX6 hown hG hP 0 rfl rfl 0 (nle rfl) (hts _ (List.mem_cons_of_mem _ (List.mem_append_left _ (List.mem_append_left _ (List.mem_append_left _ (List.mem_append_left _ (List.mem_of_getElem? (i := 1) rfl))))))) rfl rfl dX6_groundReason_11 ?_
  refine lv_aload_n (pc := 14) hexec hb dX6_groundReason_14 rfl (lv_at hl 1 rfl) ?_
  refine kg_get (pc := 15) hexec hb (own := RX6) hWX6 hown hG hP 0 rfl rfl 0 (nle rfl) (hts _ (List.mem_cons_of_mem _ (List.mem_append_left _ (List.mem_append_left _ (List.mem_append_left _ (List.mem_append_left _ (List.mem_of_getElem? (i := 1) rfl))))))) rfl rfl dX6_groundReason_15 ?_
  refine lv_iload (pc := 18) hexec hb dX6_groundReason_18 (lv_at hl 0 rfl) ?_
  refine lv_iload_n (pc := 20) hexec hb dX6_groundReason_20 rfl (lv_at hl 3 rfl) ?_
  refine lv_iconst (pc := 21) hexec hb dX6_groundReason_21 ki_2 ?_
  refine lv_iadd (pc := 22) hexec hb dX6_groundReason_22 ?_
  refine lv_iconst (pc := 23) hexec hb dX6_groundReason_23 ki_4 ?_
  refine lv_irem (pc := 24) hexec hb dX6_groundReason_24 (by decide) ?_
  refine lv_iconst (pc := 25) hexec hb dX6_groundReason_25 ki_1 ?_
  obtain ⟨r26, hc, hf⟩ := bd1_e hf
  refine kVp (pc := 26) (S := ⟨hexec, hb, hml, hown, hts⟩) hP hD hG hA hS [1] [0, 2, 3, 4, 5, 6] [0, 6, 1, 2, 3, 4, 5] (w2 := (w_X6_groundReason g a0 a1 a2 a3 a4 a5 a6 u0_2 u0_3 u0_4 u1_2 u1_5 u2_1 u2_3 u2_5 x1_rows x1_columns x2_count y3_land y4_riverOf y5_home y6_length)) rfl rfl rfl rfl rfl rfl (by decide) (c_X1_ahead l g a1 _ u1_2 (.ref a3) (.ref a4) u1_5 x1_rows x1_columns r5 ((p2 + 2) - (p2 + 2) / 4 * 4) 1 r26 hc) gX6_groundReason_X1_ahead rfl hv_X1_ahead ⟨nle rfl, nle rfl⟩ 1 0 rfl rfl rfl (rest := [.ref a1]) rfl rfl hl.1 (nle rfl) dX6_groundReason_26 (fun H locs hP hD hS => ?_)
  obtain ⟨r29, hc, hf⟩ := bd1_e hf
  refine kVp (pc := 29) (S := ⟨hexec, hb, hml, hown, hts⟩) hP hD hG hA hS [1, 3] [0, 2, 4, 5, 6] [0, 5, 1, 6, 2, 3, 4] (w2 := (w_X6_groundReason g a0 a1 a2 a3 a4 a5 a6 u0_2 u0_3 u0_4 u1_2 u1_5 u2_1 u2_3 u2_5 x1_rows x1_columns x2_count y3_land y4_riverOf y5_home y6_length)) rfl rfl rfl rfl rfl rfl (by decide) (c_X1_isLand l g a1 a3 _ (.int x1_rows) (.int x1_columns) u1_2 (.ref a4) u1_5 y3_land r26 r29 hc) gX6_groundReason_X1_isLand rfl hv_X1_isLand ⟨nle rfl, nle rfl⟩ 1 0 rfl rfl rfl (rest := []) rfl rfl hl.1 (nle rfl) dX6_groundReason_29 (fun H locs hP hD hS => ?_)
  refine kb_eq (pc := 32) hexec hb dX6_groundReason_32 (tgt := 37) rfl hf (fun hc hf => ?_) (fun hc hf => ?_)
  · refine lv_iconst (pc := 37) hexec hb dX6_groundReason_37 ki_0 ?_
    refine lv_istore (pc := 38) hexec hb dX6_groundReason_38 hl (nle rfl) rfl (fun ls (hl : lv_has ls 8 [(5, .int 0), (4, .int r5), (0, .ref a0), (1, .int p1), (2, .int p2), (3, .int p3)]) => ?_)
    refine lv_iconst (pc := 40) hexec hb dX6_groundReason_40 ki_0 ?_
    refine lv_istore (pc := 41) hexec hb dX6_groundReason_41 hl (nle rfl) rfl (fun ls (hl : lv_has ls 8 [(6, .int 0), (5, .int 0), (4, .int r5), (0, .ref a0), (1, .int p1), (2, .int p2), (3, .int p3)]) => ?_)
    obtain ⟨l43, el43, hf⟩ := bvf2 hf
    obtain ⟨v5_1, hz, hf⟩ := bd1_e hf
    have hE43 : ∀ (H : Heap) (locs : List Loc) (ls : Array Slot), va_P g.1 vwCl (w_X6_groundReason g a0 a1 a2 a3 a4 a5 a6 u0_2 u0_3 u0_4 u1_2 u1_5 u2_1 u2_3 u2_5 x1_rows x1_columns x2_count y3_land y4_riverOf y5_home y6_length) H → va_D A (w_X6_groundReason g a0 a1 a2 a3 a4 a5 a6 u0_2 u0_3 u0_4 u1_2 u1_5 u2_1 u2_3 u2_5 x1_rows x1_columns x2_count y3_land y4_riverOf y5_home y6_length) → va_S A s.heap H locs → lv_has ls 8 [(5, .int v5_1)] → W p l e (RM 3 69) s m args below meth c H locs 0 0 Q (F0 m 104 ls []) := by
      intro H locs ls hP hD hS hl
      refine lv_iload (pc := 104) hexec hb dX6_groundReason_104 (lv_at hl 0 rfl) ?_
      cases hf
      exact ke_i hQ hexec hb hr hP hD hS dX6_groundReason_106 hlocks
    obtain ⟨n, hz⟩ := lq2_e hz
    have hL43 : ∀ (n : Nat) (v5 : Int32) (v6 : Int32) (H : Heap) (locs : List Loc) (ls : Array Slot), it2 l43 n v5 v6 = some v5_1 → va_P g.1 vwCl (w_X6_groundReason g a0 a1 a2 a3 a4 a5 a6 u0_2 u0_3 u0_4 u1_2 u1_5 u2_1 u2_3 u2_5 x1_rows x1_columns x2_count y3_land y4_riverOf y5_home y6_length) H → va_D A (w_X6_groundReason g a0 a1 a2 a3 a4 a5 a6 u0_2 u0_3 u0_4 u1_2 u1_5 u2_1 u2_3 u2_5 x1_rows x1_columns x2_count y3_land y4_riverOf y5_home y6_length) → va_S A s.heap H locs → lv_has ls 8 [(0, .ref a0), (1, .int p1), (2, .int p2), (3, .int p3), (4, .int r5), (5, .int v5), (6, .int v6)] → W p l e (RM 3 69) s m args below meth c H locs 0 0 Q (F0 m 43 ls []) := by
      intro n
      induction n with
      | zero =>
        intro v5 v6 H locs ls hf hP hD hS hl
        exact it2_0 hf
      | succ n43 ih43 =>
        intro v5 v6 H locs ls hf hP hD hS hl
        obtain ⟨q43, hf, hk43⟩ := it2_e hf
        have hf := (el43 v5 v6).symm.trans hf
        refine lv_iload (pc := 43) hexec hb dX6_groundReason_43 (lv_at hl 6 rfl) ?_
        refine lv_aload_n (pc := 45) hexec hb dX6_groundReason_45 rfl (lv_at hl 0 rfl) ?_
        refine kg_get (pc := 46) hexec hb (own := RX6) hWX6 hown hG hP 0 rfl rfl 1 (nle rfl) (hts _ (List.mem_cons_of_mem _ (List.mem_append_left _ (List.mem_append_left _ (List.mem_append_left _ (List.mem_append_left _ (List.mem_of_getElem? (i := 0) rfl))))))) rfl rfl dX6_groundReason_46 ?_
        refine lv_iload_n (pc := 49) hexec hb dX6_groundReason_49 rfl (lv_at hl 1 rfl) ?_
        obtain ⟨r50, hc, hf⟩ := bd1_e hf
        refine kVp (pc := 50) (S := ⟨hexec, hb, hml, hown, hts⟩) hP hD hG hA hS [2, 6] [0, 1, 3, 4, 5] [0, 1, 5, 2, 3, 4, 6] (w2 := (w_X6_groundReason g a0 a1 a2 a3 a4 a5 a6 u0_2 u0_3 u0_4 u1_2 u1_5 u2_1 u2_3 u2_5 x1_rows x1_columns x2_count y3_land y4_riverOf y5_home y6_length)) rfl rfl rfl rfl rfl rfl (by decide) (c_X2_lengthOf l g a2 a6 _ u2_1 (.ref a5) u2_3 u2_5 x2_count y6_length p1 r50 hc) gX6_groundReason_X2_lengthOf rfl hv_X2_lengthOf ⟨nle rfl, nle rfl⟩ 2 0 rfl rfl rfl (rest := [.int v6]) rfl rfl hl.1 (nle rfl) dX6_groundReason_50 (fun H locs hP hD hS => ?_)
        refine ki_ge (pc := 53) hexec hb dX6_groundReason_53 (tgt := 104) rfl hf (fun hc hf => ?_) (fun hc hf => ?_)
        · cases sr2 hf hk43
          exact hE43 _ _ _ hP hD hS (lv_sub hl [5] rfl)
        · refine lv_aload_n (pc := 56) hexec hb dX6_groundReason_56 rfl (lv_at hl 0 rfl) ?_
          refine lv_aload_n (pc := 57) hexec hb dX6_groundReason_57 rfl (lv_at hl 0 rfl) ?_
          refine kg_get (pc := 58) hexec hb (own := RX6) hWX6 hown hG hP 0 rfl rfl 0 (nle rfl) (hts _ (List.mem_cons_of_mem _ (List.mem_append_left _ (List.mem_append_left _ (List.mem_append_left _ (List.mem_append_left _ (List.mem_of_getElem? (i := 1) rfl))))))) rfl rfl dX6_groundReason_58 ?_
          refine lv_iload (pc := 61) hexec hb dX6_groundReason_61 (lv_at hl 4 rfl) ?_
          refine lv_iload_n (pc := 63) hexec hb dX6_groundReason_63 rfl (lv_at hl 2 rfl) ?_
          refine lv_iload (pc := 64) hexec hb dX6_groundReason_64 (lv_at hl 6 rfl) ?_
          refine lv_iconst (pc := 66) hexec hb dX6_groundReason_66 ki_1 ?_
          refine lv_iadd (pc := 67) hexec hb dX6_groundReason_67 ?_
          obtain ⟨r68, hc, hf⟩ := bd1_e hf
          refine kVp (pc := 68) (S := ⟨hexec, hb, hml, hown, hts⟩) hP hD hG hA hS [1] [0, 2, 3, 4, 5, 6] [0, 6, 1, 2, 3, 4, 5] (w2 := (w_X6_groundReason g a0 a1 a2 a3 a4 a5 a6 u0_2 u0_3 u0_4 u1_2 u1_5 u2_1 u2_3 u2_5 x1_rows x1_columns x2_count y3_land y4_riverOf y5_home y6_length)) rfl rfl rfl rfl rfl rfl (by decide) (c_X1_ahead l g a1 _ u1_2 (.ref a3) (.ref a4) u1_5 x1_rows x1_columns r5 p2 (v6 + 1) r68 hc) gX6_groundReason_X1_ahead rfl hv_X1_ahead ⟨nle rfl, nle rfl⟩ 1 0 rfl rfl rfl (rest := [.ref a0]) rfl rfl hl.1 (nle rfl) dX6_groundReason_68 (fun H locs hP hD hS => ?_)
          refine lv_iload_n (pc := 71) hexec hb dX6_groundReason_71 rfl (lv_at hl 3 rfl) ?_
          obtain ⟨r72, hc, hf⟩ := bd1_e hf
          refine kVp (pc := 72) (S := ⟨hexec, hb, hml, hown, hts⟩) hP hD hG hA hS [0, 1, 2, 3, 4, 5] [6] [1, 2, 3, 4, 5, 6, 0] (w2 := (w_X6_groundReason g a0 a1 a2 a3 a4 a5 a6 u0_2 u0_3 u0_4 u1_2 u1_5 u2_1 u2_3 u2_5 x1_rows x1_columns x2_count y3_land y4_riverOf y5_home y6_length)) rfl rfl rfl rfl rfl rfl (by decide) (c_X6_cellReason l g a0 a1 a2 a3 a4 a5 _ u0_2 u0_3 u0_4 (.int x1_rows) (.int x1_columns) u1_2 u1_5 u2_1 u2_3 (.ref a6) u2_5 x2_count y3_land y4_riverOf y5_home r68 p3 r72 hc) gX6_groundReason_X6_cellReason rfl hv_X6_cellReason ⟨nle rfl, nle rfl⟩ 6 0 rfl rfl rfl (rest := []) rfl rfl hl.1 (nle rfl) dX6_groundReason_72 (fun H locs hP hD hS => ?_)
          refine lv_istore (pc := 75) hexec hb dX6_groundReason_75 hl (nle rfl) rfl (fun ls (hl : lv_has ls 8 [(7, .int r72), (0, .ref a0), (1, .int p1), (2, .int p2), (3, .int p3), (4, .int r5), (5, .int v5), (6, .int v6)]) => ?_)
          refine lv_iload (pc := 77) hexec hb dX6_groundReason_77 (lv_at hl 0 rfl) ?_
          obtain ⟨j98, ej98, hf⟩ := bvf1 hf
          have hj98 : ∀ (v5_2 : Int32) (H : Heap) (locs : List Loc) (ls : Array Slot), j98 v5_2 = some q43 → va_P g.1 vwCl (w_X6_groundReason g a0 a1 a2 a3 a4 a5 a6 u0_2 u0_3 u0_4 u1_2 u1_5 u2_1 u2_3 u2_5 x1_rows x1_columns x2_count y3_land y4_riverOf y5_home y6_length) H → va_D A (w_X6_groundReason g a0 a1 a2 a3 a4 a5 a6 u0_2 u0_3 u0_4 u1_2 u1_5 u2_1 u2_3 u2_5 x1_rows x1_columns x2_count y3_land y4_riverOf y5_home y6_length) → va_S A s.heap H locs → lv_has ls 8 [(0, .ref a0), (1, .int p1), (2, .int p2), (3, .int p3), (4, .int r5), (5, .int v5_2), (6, .int v6)] → W p l e (RM 3 69) s m args below meth c H locs 0 0 Q (F0 m 98 ls []) := by
            intro v5_2 H locs ls hf hP hD hS hl
            have hf := (ej98 v5_2).symm.trans hf
            obtain ⟨v6_1, ev6_1, hf⟩ := bv_e hf
            refine k_iinc (pc := 98) hexec hb dX6_groundReason_98 kq_1 hl (k := 6) rfl ev6_1 (nle rfl) rfl (fun ls (hl : lv_has ls 8 [(6, .int v6_1), (0, .ref a0), (1, .int p1), (2, .int p2), (3, .int p3), (4, .int r5), (5, .int v5_2)]) => ?_)
            refine lv_goto (pc := 101) hexec hb dX6_groundReason_101 (tgt := 43) rfl ?_
            exact ih43 _ _ _ _ _ (sl2 hf hk43) hP hD hS (lv_sub hl [1, 2, 3, 4, 5, 6, 0] rfl)
          refine kb_eq (pc := 79) hexec hb dX6_groundReason_79 (tgt := 98) rfl hf (fun hc hf => ?_) (fun hc hf => ?_)
          · exact hj98 _ _ _ _ hf hP hD hS (lv_sub hl [1, 2, 3, 4, 5, 6, 7] rfl)
          · refine lv_iload (pc := 82) hexec hb dX6_groundReason_82 (lv_at hl 6 rfl) ?_
            obtain ⟨j94, ej94, hf⟩ := bvf1 hf
            have hj94 : ∀ (u : Unit) (H : Heap) (locs : List Loc) (ls : Array Slot), j94 u = some q43 → va_P g.1 vwCl (w_X6_groundReason g a0 a1 a2 a3 a4 a5 a6 u0_2 u0_3 u0_4 u1_2 u1_5 u2_1 u2_3 u2_5 x1_rows x1_columns x2_count y3_land y4_riverOf y5_home y6_length) H → va_D A (w_X6_groundReason g a0 a1 a2 a3 a4 a5 a6 u0_2 u0_3 u0_4 u1_2 u1_5 u2_1 u2_3 u2_5 x1_rows x1_columns x2_count y3_land y4_riverOf y5_home y6_length) → va_S A s.heap H locs → lv_has ls 8 [(0, .ref a0), (1, .int p1), (2, .int p2), (3, .int p3), (4, .int r5), (6, .int v6), (7, .int r72)] → W p l e (RM 3 69) s m args below meth c H locs 0 0 Q (F0 m 94 ls []) := by
              intro u H locs ls hf hP hD hS hl
              have hf := (ej94 u).symm.trans hf
              refine lv_iload (pc := 94) hexec hb dX6_groundReason_94 (lv_at hl 6 rfl) ?_
              refine lv_istore (pc := 96) hexec hb dX6_groundReason_96 hl (nle rfl) rfl (fun ls (hl : lv_has ls 8 [(5, .int r72), (0, .ref a0), (1, .int p1), (2, .int p2), (3, .int p3), (4, .int r5), (6, .int v6), (7, .int r72)]) => ?_)
              exact hj98 _ _ _ _ hf hP hD hS (lv_sub hl [1, 2, 3, 4, 5, 0, 6] rfl)
            refine kb_eq (pc := 84) hexec hb dX6_groundReason_84 (tgt := 94) rfl hf (fun hc hf => ?_) (fun hc hf => ?_)
            · exact hj94 _ _ _ _ hf hP hD hS (lv_sub hl [1, 2, 3, 4, 5, 7, 0] rfl)
            · refine lv_iload (pc := 87) hexec hb dX6_groundReason_87 (lv_at hl 0 rfl) ?_
              refine lv_iload (pc := 89) hexec hb dX6_groundReason_89 (lv_at hl 6 rfl) ?_
              refine ki_ge (pc := 91) hexec hb dX6_groundReason_91 (tgt := 98) rfl hf (fun hc hf => ?_) (fun hc hf => ?_)
              · exact hj98 _ _ _ _ hf hP hD hS (lv_sub hl [1, 2, 3, 4, 5, 6, 7] rfl)
              · exact hj94 _ _ _ _ hf hP hD hS (lv_sub hl [1, 2, 3, 4, 5, 7, 0] rfl)
    exact hL43 n _ _ _ _ _ hz hP hD hS (lv_sub hl [3, 4, 5, 6, 2, 1, 0] rfl)
  · refine lv_iconst (pc := 35) hexec hb dX6_groundReason_35 ki_1 ?_
    cases hf
    exact ke_i hQ hexec hb hr hP hD hS dX6_groundReason_36 hlocks
abbrev w_X6_meetsOthers (g : GE) (a0 a1 a2 a3 a4 a5 a6 a7 : Nat) (u0_2 u1_2 u1_3 u1_4 u1_5 u2_3 : Value) (x1_rows : Int32) (x1_columns : Int32) (x2_count : Int32) (x2_reds : Int32) (y3_letterOn : Nat → Int32) (y4_namesOn : Nat → Int32) (y5_home : Nat → Int32) (y6_length : Nat → Int32) (y7_letters : Nat → Int32) : va_W := [(a0, .inr (6, [.ref a1, .ref a2, u0_2, .ref a4, .ref a3])), (a1, .inr (1, [.int x1_rows, .int x1_columns, u1_2, u1_3, u1_4, u1_5])), (a2, .inr (2, [.int x2_count, .int x2_reds, .ref a5, u2_3, .ref a6, .ref a7])), (a3, .inl (g.2.1 0, 144, .inl y3_letterOn)), (a4, .inl (g.2.1 0, 144, .inl y4_namesOn)), (a5, .inl (g.2.1 0, 8, .inl y5_home)), (a6, .inl (g.2.1 0, 8, .inl y6_length)), (a7, .inl (g.2.1 0, 64, .inl y7_letters))]
set_option maxRecDepth 20000 in
theorem c_X6_meetsOthers (l : Launch) (g : GE) (a0 a1 a2 a3 a4 a5 a6 a7 : Nat) (sz : Nat) (u0_2 u1_2 u1_3 u1_4 u1_5 u2_3 : Value) (x1_rows : Int32) (x1_columns : Int32) (x2_count : Int32) (x2_reds : Int32) (y3_letterOn : Nat → Int32) (y4_namesOn : Nat → Int32) (y5_home : Nat → Int32) (y6_length : Nat → Int32) (y7_letters : Nat → Int32) (p1 : Int32) (p2 : Int32)  (r : Int32) (hf : f_X6_meetsOthers x1_rows x1_columns x2_count x2_reds y3_letterOn y4_namesOn y5_home y6_length y7_letters p1 p2 = some r) : MI l g yX6_meetsOthers wsX6_meetsOthers 3 68 [.ref a0, .int p1, .int p2] (w_X6_meetsOthers g a0 a1 a2 a3 a4 a5 a6 a7 u0_2 u1_2 u1_3 u1_4 u1_5 u2_3 x1_rows x1_columns x2_count x2_reds y3_letterOn y4_namesOn y5_home y6_length y7_letters) sz (some (.int r)) (w_X6_meetsOthers g a0 a1 a2 a3 a4 a5 a6 a7 u0_2 u1_2 u1_3 u1_4 u1_5 u2_3 x1_rows x1_columns x2_count x2_reds y3_letterOn y4_namesOn y5_home y6_length y7_letters) := by
  refine MI.start (cc := cX6_meetsOthers) (maxL := 9) (ret := (some .boolean)) rfl rfl (nle rfl) ?_
  intro p e s m args below meth c A ls Q hQ hexec hb hr hts hown hlocks hml hA hP hD hG hS hl
  unfold f_X6_meetsOthers at hf
  have hWX1 : ∀ w ∈ wsX10, w.before args s = true := fun w h => hts w (List.mem_cons_of_mem _ (List.mem_append_right _ h))
  have hWX2 : ∀ w ∈ wsX20, w.before args s = true := fun w h => hts w (List.mem_cons_of_mem _ (List.mem_append_left _ (List.mem_append_right _ h)))
  have hWX6 : ∀ w ∈ wsX60, w.before args s = true := fun w h => hts w (List.mem_cons_of_mem _ (List.mem_append_left _ (List.mem_append_left _ (List.mem_append_right _ h))))
  have hS : va_S A s.heap s.heap [] := hS
  refine lv_iconst (pc := 0) hexec hb dX6_meetsOthers_0 ki_1 ?_
  refine lv_iload_n (pc := 1) hexec hb dX6_meetsOthers_1 rfl (lv_at hl 1 rfl) ?_
  refine lv_ishl (pc := 2) hexec hb dX6_meetsOthers_2 ?_
  obtain ⟨v3, ev3, hf⟩ := bv_e hf
  refine kn_i ev3 ?_
  refine lv_istore_n (pc := 3) hexec hb dX6_meetsOthers_3 rfl hl (nle rfl) rfl (fun ls (hl : lv_has ls 9 [(3, .int v3), (0, .ref a0), (1, .int p1), (2, .int p2)]) => ?_)
  refine lv_aload_n (pc := 4) hexec hb dX6_meetsOthers_4 rfl (lv_at hl 1 rfl) ?_
  refine kg_get (pc := 5) hexec hb (own := RX6) hWX6 hown hG hP 0 rfl rfl 1 (nle rfl) (hts _ (List.mem_cons_of_mem _ (List.mem_append_left _ (List.mem_append_left _ (List.mem_append_left _ (List.mem_append_left _ (List.mem_of_getElem? (i := 0) rfl))))))) rfl rfl dX6_meetsOthers_5 ?_
  refine lv_iload_n (pc := 8) hexec hb dX6_meetsOthers_8 rfl (lv_at hl 2 rfl) ?_
  obtain ⟨r9, hc, hf⟩ := bd1_e hf
  refine kVp (pc := 9) (S := ⟨hexec, hb, hml, hown, hts⟩) hP hD hG hA hS [2, 5] [0, 1, 3, 4, 6, 7] [0, 1, 6, 2, 3, 7, 4, 5] (w2 := (w_X6_meetsOthers g a0 a1 a2 a3 a4 a5 a6 a7 u0_2 u1_2 u1_3 u1_4 u1_5 u2_3 x1_rows x1_columns x2_count x2_reds y3_letterOn y4_namesOn y5_home y6_length y7_letters)) rfl rfl rfl rfl rfl rfl (by decide) (c_X2_homeOf l g a2 a5 _ (.int x2_reds) u2_3 (.ref a6) (.ref a7) x2_count y5_home p1 r9 hc) gX6_meetsOthers_X2_homeOf rfl hv_X2_homeOf ⟨nle rfl, nle rfl⟩ 2 0 rfl rfl rfl (rest := []) rfl rfl hl.1 (nle rfl) dX6_meetsOthers_9 (fun H locs hP hD hS => ?_)
  refine lv_istore (pc := 12) hexec hb dX6_meetsOthers_12 hl (nle rfl) rfl (fun ls (hl : lv_has ls 9 [(4, .int r9), (3, .int v3), (0, .ref a0), (1, .int p1), (2, .int p2)]) => ?_)
  refine lv_iconst (pc := 14) hexec hb dX6_meetsOthers_14 ki_0 ?_
  refine lv_istore (pc := 15) hexec hb dX6_meetsOthers_15 hl (nle rfl) rfl (fun ls (hl : lv_has ls 9 [(5, .int 0), (4, .int r9), (3, .int v3), (0, .ref a0), (1, .int p1), (2, .int p2)]) => ?_)
  obtain ⟨l17, el17, hf⟩ := bvf1 hf
  obtain ⟨n, hz⟩ := lq1_e hf
  have hL17 : ∀ (n : Nat) (v5 : Int32) (H : Heap) (locs : List Loc) (ls : Array Slot), it1 l17 n v5 = some r → va_P g.1 vwCl (w_X6_meetsOthers g a0 a1 a2 a3 a4 a5 a6 a7 u0_2 u1_2 u1_3 u1_4 u1_5 u2_3 x1_rows x1_columns x2_count x2_reds y3_letterOn y4_namesOn y5_home y6_length y7_letters) H → va_D A (w_X6_meetsOthers g a0 a1 a2 a3 a4 a5 a6 a7 u0_2 u1_2 u1_3 u1_4 u1_5 u2_3 x1_rows x1_columns x2_count x2_reds y3_letterOn y4_namesOn y5_home y6_length y7_letters) → va_S A s.heap H locs → lv_has ls 9 [(0, .ref a0), (1, .int p1), (2, .int p2), (3, .int v3), (4, .int r9), (5, .int v5)] → W p l e (RM 3 68) s m args below meth c H locs 0 0 Q (F0 m 17 ls []) := by
    intro n
    induction n with
    | zero =>
      intro v5 H locs ls hf hP hD hS hl
      exact it1_0 hf
    | succ n17 ih17 =>
      intro v5 H locs ls hf hP hD hS hl
      obtain ⟨q17, hf, hk17⟩ := it1_e hf
      have hf := (el17 v5).symm.trans hf
      refine lv_iload (pc := 17) hexec hb dX6_meetsOthers_17 (lv_at hl 5 rfl) ?_
      refine lv_aload_n (pc := 19) hexec hb dX6_meetsOthers_19 rfl (lv_at hl 0 rfl) ?_
      refine kg_get (pc := 20) hexec hb (own := RX6) hWX6 hown hG hP 0 rfl rfl 1 (nle rfl) (hts _ (List.mem_cons_of_mem _ (List.mem_append_left _ (List.mem_append_left _ (List.mem_append_left _ (List.mem_append_left _ (List.mem_of_getElem? (i := 0) rfl))))))) rfl rfl dX6_meetsOthers_20 ?_
      refine lv_iload_n (pc := 23) hexec hb dX6_meetsOthers_23 rfl (lv_at hl 1 rfl) ?_
      obtain ⟨r24, hc, hf⟩ := bd1_e hf
      refine kVp (pc := 24) (S := ⟨hexec, hb, hml, hown, hts⟩) hP hD hG hA hS [2, 6] [0, 1, 3, 4, 5, 7] [0, 1, 6, 2, 3, 4, 7, 5] (w2 := (w_X6_meetsOthers g a0 a1 a2 a3 a4 a5 a6 a7 u0_2 u1_2 u1_3 u1_4 u1_5 u2_3 x1_rows x1_columns x2_count x2_reds y3_letterOn y4_namesOn y5_home y6_length y7_letters)) rfl rfl rfl rfl rfl rfl (by decide) (c_X2_lengthOf l g a2 a6 _ (.int x2_reds) (.ref a5) u2_3 (.ref a7) x2_count y6_length p1 r24 hc) gX6_meetsOthers_X2_lengthOf rfl hv_X2_lengthOf ⟨nle rfl, nle rfl⟩ 2 0 rfl rfl rfl (rest := [.int v5]) rfl rfl hl.1 (nle rfl) dX6_meetsOthers_24 (fun H locs hP hD hS => ?_)
      refine ki_ge (pc := 27) hexec hb dX6_meetsOthers_27 (tgt := 117) rfl hf (fun hc hf => ?_) (fun hc hf => ?_)
      · have hf := mk1 hf hk17
        refine lv_iconst (pc := 117) hexec hb dX6_meetsOthers_117 ki_0 ?_
        cases hf
        exact ke_z hQ hexec hb hr (.inl rfl) hP hD hS dX6_meetsOthers_118 hlocks
      · refine lv_aload_n (pc := 30) hexec hb dX6_meetsOthers_30 rfl (lv_at hl 0 rfl) ?_
        refine kg_get (pc := 31) hexec hb (own := RX6) hWX6 hown hG hP 0 rfl rfl 0 (nle rfl) (hts _ (List.mem_cons_of_mem _ (List.mem_append_left _ (List.mem_append_left _ (List.mem_append_left _ (List.mem_append_left _ (List.mem_of_getElem? (i := 1) rfl))))))) rfl rfl dX6_meetsOthers_31 ?_
        refine lv_iload (pc := 34) hexec hb dX6_meetsOthers_34 (lv_at hl 4 rfl) ?_
        refine lv_iload_n (pc := 36) hexec hb dX6_meetsOthers_36 rfl (lv_at hl 2 rfl) ?_
        refine lv_iload (pc := 37) hexec hb dX6_meetsOthers_37 (lv_at hl 5 rfl) ?_
        refine lv_iconst (pc := 39) hexec hb dX6_meetsOthers_39 ki_1 ?_
        refine lv_iadd (pc := 40) hexec hb dX6_meetsOthers_40 ?_
        obtain ⟨r41, hc, hf⟩ := bd1_e hf
        refine kVp (pc := 41) (S := ⟨hexec, hb, hml, hown, hts⟩) hP hD hG hA hS [1] [0, 2, 3, 4, 5, 6, 7] [0, 7, 1, 2, 3, 4, 5, 6] (w2 := (w_X6_meetsOthers g a0 a1 a2 a3 a4 a5 a6 a7 u0_2 u1_2 u1_3 u1_4 u1_5 u2_3 x1_rows x1_columns x2_count x2_reds y3_letterOn y4_namesOn y5_home y6_length y7_letters)) rfl rfl rfl rfl rfl rfl (by decide) (c_X1_ahead l g a1 _ u1_2 u1_3 u1_4 u1_5 x1_rows x1_columns r9 p2 (v5 + 1) r41 hc) gX6_meetsOthers_X1_ahead rfl hv_X1_ahead ⟨nle rfl, nle rfl⟩ 1 0 rfl rfl rfl (rest := []) rfl rfl hl.1 (nle rfl) dX6_meetsOthers_41 (fun H locs hP hD hS => ?_)
        refine lv_istore (pc := 44) hexec hb dX6_meetsOthers_44 hl (nle rfl) rfl (fun ls (hl : lv_has ls 9 [(6, .int r41), (0, .ref a0), (1, .int p1), (2, .int p2), (3, .int v3), (4, .int r9), (5, .int v5)]) => ?_)
        refine lv_aload_n (pc := 46) hexec hb dX6_meetsOthers_46 rfl (lv_at hl 1 rfl) ?_
        refine lv_iload (pc := 47) hexec hb dX6_meetsOthers_47 (lv_at hl 0 rfl) ?_
        obtain ⟨r49, hc, hf⟩ := bd1_e hf
        refine kVp (pc := 49) (S := ⟨hexec, hb, hml, hown, hts⟩) hP hD hG hA hS [0, 4] [1, 2, 3, 5, 6, 7] [6, 0, 1, 2, 7, 3, 4, 5] (w2 := (w_X6_meetsOthers g a0 a1 a2 a3 a4 a5 a6 a7 u0_2 u1_2 u1_3 u1_4 u1_5 u2_3 x1_rows x1_columns x2_count x2_reds y3_letterOn y4_namesOn y5_home y6_length y7_letters)) rfl rfl rfl rfl rfl rfl (by decide) (c_X6_namesIn l g a0 a4 _ (.ref a1) (.ref a2) u0_2 (.ref a3) y4_namesOn r41 r49 hc) gX6_meetsOthers_X6_namesIn rfl hv_X6_namesIn ⟨nle rfl, nle rfl⟩ 6 0 rfl rfl rfl (rest := []) rfl rfl hl.1 (nle rfl) dX6_meetsOthers_49 (fun H locs hP hD hS => ?_)
        refine lv_iload_n (pc := 52) hexec hb dX6_meetsOthers_52 rfl (lv_at hl 4 rfl) ?_
        refine lv_iconst (pc := 53) hexec hb dX6_meetsOthers_53 ki_m1 ?_
        refine lv_ixor (pc := 54) hexec hb dX6_meetsOthers_54 ?_
        refine lv_iand (pc := 55) hexec hb dX6_meetsOthers_55 ?_
        obtain ⟨v7, ev7, hf⟩ := bv_e hf
        refine kn_i ev7 ?_
        refine lv_istore (pc := 56) hexec hb dX6_meetsOthers_56 hl (nle rfl) rfl (fun ls (hl : lv_has ls 9 [(7, .int v7), (6, .int r41), (0, .ref a0), (1, .int p1), (2, .int p2), (3, .int v3), (4, .int r9), (5, .int v5)]) => ?_)
        refine lv_iload (pc := 58) hexec hb dX6_meetsOthers_58 (lv_at hl 0 rfl) ?_
        refine lv_iload_n (pc := 60) hexec hb dX6_meetsOthers_60 rfl (lv_at hl 5 rfl) ?_
        refine lv_ior (pc := 61) hexec hb dX6_meetsOthers_61 ?_
        refine lv_aload_n (pc := 62) hexec hb dX6_meetsOthers_62 rfl (lv_at hl 2 rfl) ?_
        refine kg_get (pc := 63) hexec hb (own := RX6) hWX6 hown hG hP 0 rfl rfl 1 (nle rfl) (hts _ (List.mem_cons_of_mem _ (List.mem_append_left _ (List.mem_append_left _ (List.mem_append_left _ (List.mem_append_left _ (List.mem_of_getElem? (i := 0) rfl))))))) rfl rfl dX6_meetsOthers_63 ?_
        refine kg_getN (pc := 66) hexec hb (own := RX6) hWX2 hown hG hP 2 rfl rfl 1 (nle rfl) 11 rfl rfl rfl dX6_meetsOthers_66 ?_
        refine lv_iand (pc := 69) hexec hb dX6_meetsOthers_69 ?_
        obtain ⟨j78, ej78, hf⟩ := bvf1 hf
        have hj78 : ∀ (t78 : Int32) (H : Heap) (locs : List Loc) (ls : Array Slot), j78 t78 = some q17 → va_P g.1 vwCl (w_X6_meetsOthers g a0 a1 a2 a3 a4 a5 a6 a7 u0_2 u1_2 u1_3 u1_4 u1_5 u2_3 x1_rows x1_columns x2_count x2_reds y3_letterOn y4_namesOn y5_home y6_length y7_letters) H → va_D A (w_X6_meetsOthers g a0 a1 a2 a3 a4 a5 a6 a7 u0_2 u1_2 u1_3 u1_4 u1_5 u2_3 x1_rows x1_columns x2_count x2_reds y3_letterOn y4_namesOn y5_home y6_length y7_letters) → va_S A s.heap H locs → lv_has ls 9 [(0, .ref a0), (1, .int p1), (2, .int p2), (3, .int v3), (4, .int r9), (5, .int v5), (6, .int r41), (7, .int v7)] → W p l e (RM 3 68) s m args below meth c H locs 0 0 Q (F0 m 78 ls [.int t78]) := by
          intro t78 H locs ls hf hP hD hS hl
          have hf := (ej78 t78).symm.trans hf
          refine lv_istore (pc := 78) hexec hb dX6_meetsOthers_78 hl (nle rfl) rfl (fun ls (hl : lv_has ls 9 [(8, .int t78), (0, .ref a0), (1, .int p1), (2, .int p2), (3, .int v3), (4, .int r9), (5, .int v5), (6, .int r41), (7, .int v7)]) => ?_)
          refine lv_iload (pc := 80) hexec hb dX6_meetsOthers_80 (lv_at hl 8 rfl) ?_
          obtain ⟨j111, ej111, hf⟩ := bvf1 hf
          have hj111 : ∀ (u : Unit) (H : Heap) (locs : List Loc) (ls : Array Slot), j111 u = some q17 → va_P g.1 vwCl (w_X6_meetsOthers g a0 a1 a2 a3 a4 a5 a6 a7 u0_2 u1_2 u1_3 u1_4 u1_5 u2_3 x1_rows x1_columns x2_count x2_reds y3_letterOn y4_namesOn y5_home y6_length y7_letters) H → va_D A (w_X6_meetsOthers g a0 a1 a2 a3 a4 a5 a6 a7 u0_2 u1_2 u1_3 u1_4 u1_5 u2_3 x1_rows x1_columns x2_count x2_reds y3_letterOn y4_namesOn y5_home y6_length y7_letters) → va_S A s.heap H locs → lv_has ls 9 [(0, .ref a0), (1, .int p1), (2, .int p2), (3, .int v3), (4, .int r9), (5, .int v5)] → W p l e (RM 3 68) s m args below meth c H locs 0 0 Q (F0 m 111 ls []) := by
            intro u H locs ls hf hP hD hS hl
            have hf := (ej111 u).symm.trans hf
            obtain ⟨v5_1, ev5_1, hf⟩ := bv_e hf
            refine k_iinc (pc := 111) hexec hb dX6_meetsOthers_111 kq_1 hl (k := 5) rfl ev5_1 (nle rfl) rfl (fun ls (hl : lv_has ls 9 [(5, .int v5_1), (0, .ref a0), (1, .int p1), (2, .int p2), (3, .int v3), (4, .int r9)]) => ?_)
            refine lv_goto (pc := 114) hexec hb dX6_meetsOthers_114 (tgt := 17) rfl ?_
            exact ih17 _ _ _ _ (sl1 hf hk17) hP hD hS (lv_sub hl [1, 2, 3, 4, 5, 0] rfl)
          refine kb_eq (pc := 82) hexec hb dX6_meetsOthers_82 (tgt := 111) rfl hf (fun hc hf => ?_) (fun hc hf => ?_)
          · exact hj111 _ _ _ _ hf hP hD hS (lv_sub hl [1, 2, 3, 4, 5, 6] rfl)
          · refine lv_iload (pc := 85) hexec hb dX6_meetsOthers_85 (lv_at hl 0 rfl) ?_
            refine kb_ne (pc := 87) hexec hb dX6_meetsOthers_87 (tgt := 109) rfl hf (fun hc hf => ?_) (fun hc hf => ?_)
            · have hf := mk1 hf hk17
              refine lv_iconst (pc := 109) hexec hb dX6_meetsOthers_109 ki_1 ?_
              cases hf
              exact ke_z hQ hexec hb hr (.inr rfl) hP hD hS dX6_meetsOthers_110 hlocks
            · refine lv_aload_n (pc := 90) hexec hb dX6_meetsOthers_90 rfl (lv_at hl 1 rfl) ?_
              refine lv_iload (pc := 91) hexec hb dX6_meetsOthers_91 (lv_at hl 7 rfl) ?_
              obtain ⟨r93, hc, hf⟩ := bd1_e hf
              refine kVp (pc := 93) (S := ⟨hexec, hb, hml, hown, hts⟩) hP hD hG hA hS [0, 3, 4] [1, 2, 5, 6, 7] [5, 0, 1, 6, 7, 2, 3, 4] (w2 := (w_X6_meetsOthers g a0 a1 a2 a3 a4 a5 a6 a7 u0_2 u1_2 u1_3 u1_4 u1_5 u2_3 x1_rows x1_columns x2_count x2_reds y3_letterOn y4_namesOn y5_home y6_length y7_letters)) rfl rfl rfl rfl rfl rfl (by decide) (c_X6_letterIn l g a0 a3 a4 _ (.ref a1) (.ref a2) u0_2 y3_letterOn y4_namesOn r41 r93 hc) gX6_meetsOthers_X6_letterIn rfl hv_X6_letterIn ⟨nle rfl, nle rfl⟩ 6 0 rfl rfl rfl (rest := []) rfl rfl hl.1 (nle rfl) dX6_meetsOthers_93 (fun H locs hP hD hS => ?_)
              refine lv_aload_n (pc := 96) hexec hb dX6_meetsOthers_96 rfl (lv_at hl 1 rfl) ?_
              refine kg_get (pc := 97) hexec hb (own := RX6) hWX6 hown hG hP 0 rfl rfl 1 (nle rfl) (hts _ (List.mem_cons_of_mem _ (List.mem_append_left _ (List.mem_append_left _ (List.mem_append_left _ (List.mem_append_left _ (List.mem_of_getElem? (i := 0) rfl))))))) rfl rfl dX6_meetsOthers_97 ?_
              refine lv_iload_n (pc := 100) hexec hb dX6_meetsOthers_100 rfl (lv_at hl 2 rfl) ?_
              refine lv_iload (pc := 101) hexec hb dX6_meetsOthers_101 (lv_at hl 6 rfl) ?_
              obtain ⟨r103, hc, hf⟩ := bd1_e hf
              refine kVp (pc := 103) (S := ⟨hexec, hb, hml, hown, hts⟩) hP hD hG hA hS [2, 6, 7] [0, 1, 3, 4, 5] [0, 1, 5, 2, 3, 4, 6, 7] (w2 := (w_X6_meetsOthers g a0 a1 a2 a3 a4 a5 a6 a7 u0_2 u1_2 u1_3 u1_4 u1_5 u2_3 x1_rows x1_columns x2_count x2_reds y3_letterOn y4_namesOn y5_home y6_length y7_letters)) rfl rfl rfl rfl rfl rfl (by decide) (c_X2_letterOf l g a2 a6 a7 _ (.int x2_reds) (.ref a5) u2_3 x2_count y6_length y7_letters p1 v5 r103 hc) gX6_meetsOthers_X2_letterOf rfl hv_X2_letterOf ⟨nle rfl, nle rfl⟩ 2 0 rfl rfl rfl (rest := [.int r93]) rfl rfl hl.1 (nle rfl) dX6_meetsOthers_103 (fun H locs hP hD hS => ?_)
              refine ki_eq (pc := 106) hexec hb dX6_meetsOthers_106 (tgt := 111) rfl hf (fun hc hf => ?_) (fun hc hf => ?_)
              · exact hj111 _ _ _ _ hf hP hD hS (lv_sub hl [1, 2, 3, 4, 5, 6] rfl)
              · have hf := mk1 hf hk17
                refine lv_iconst (pc := 109) hexec hb dX6_meetsOthers_109 ki_1 ?_
                cases hf
                exact ke_z hQ hexec hb hr (.inr rfl) hP hD hS dX6_meetsOthers_110 hlocks
        refine kb_eq (pc := 70) hexec hb dX6_meetsOthers_70 (tgt := 77) rfl hf (fun hc hf => ?_) (fun hc hf => ?_)
        · refine lv_iconst (pc := 77) hexec hb dX6_meetsOthers_77 ki_0 ?_
          exact hj78 _ _ _ _ hf hP hD hS (lv_sub hl [2, 3, 4, 5, 6, 7, 1, 0] rfl)
        · refine lv_iconst (pc := 73) hexec hb dX6_meetsOthers_73 ki_1 ?_
          refine lv_goto (pc := 74) hexec hb dX6_meetsOthers_74 (tgt := 78) rfl ?_
          exact hj78 _ _ _ _ hf hP hD hS (lv_sub hl [2, 3, 4, 5, 6, 7, 1, 0] rfl)
  exact hL17 n _ _ _ _ hz hP hD hS (lv_sub hl [3, 4, 5, 2, 1, 0] rfl)
abbrev w_X6_reasonAgainst (g : GE) (a0 a1 a2 a3 a4 a5 a6 a7 a8 a9 : Nat) (u0_2 u1_2 u1_5 u2_3 : Value) (x1_rows : Int32) (x1_columns : Int32) (x2_count : Int32) (x2_reds : Int32) (y3_letterOn : Nat → Int32) (y4_namesOn : Nat → Int32) (y5_land : Nat → Int32) (y6_riverOf : Nat → Int32) (y7_home : Nat → Int32) (y8_length : Nat → Int32) (y9_letters : Nat → Int32) : va_W := [(a0, .inr (6, [.ref a1, .ref a2, u0_2, .ref a4, .ref a3])), (a1, .inr (1, [.int x1_rows, .int x1_columns, u1_2, .ref a5, .ref a6, u1_5])), (a2, .inr (2, [.int x2_count, .int x2_reds, .ref a7, u2_3, .ref a8, .ref a9])), (a3, .inl (g.2.1 0, 144, .inl y3_letterOn)), (a4, .inl (g.2.1 0, 144, .inl y4_namesOn)), (a5, .inl (g.2.1 1, 144, .inl y5_land)), (a6, .inl (g.2.1 0, 144, .inl y6_riverOf)), (a7, .inl (g.2.1 0, 8, .inl y7_home)), (a8, .inl (g.2.1 0, 8, .inl y8_length)), (a9, .inl (g.2.1 0, 64, .inl y9_letters))]
set_option maxRecDepth 20000 in
theorem c_X6_reasonAgainst (l : Launch) (g : GE) (a0 a1 a2 a3 a4 a5 a6 a7 a8 a9 : Nat) (sz : Nat) (u0_2 u1_2 u1_5 u2_3 : Value) (x1_rows : Int32) (x1_columns : Int32) (x2_count : Int32) (x2_reds : Int32) (y3_letterOn : Nat → Int32) (y4_namesOn : Nat → Int32) (y5_land : Nat → Int32) (y6_riverOf : Nat → Int32) (y7_home : Nat → Int32) (y8_length : Nat → Int32) (y9_letters : Nat → Int32) (p1 : Int32) (p2 : Int32)  (r : Int32) (hf : f_X6_reasonAgainst x1_rows x1_columns x2_count x2_reds y3_letterOn y4_namesOn y5_land y6_riverOf y7_home y8_length y9_letters p1 p2 = some r) : MI l g yX6_reasonAgainst wsX6_reasonAgainst 4 96 [.ref a0, .int p1, .int p2] (w_X6_reasonAgainst g a0 a1 a2 a3 a4 a5 a6 a7 a8 a9 u0_2 u1_2 u1_5 u2_3 x1_rows x1_columns x2_count x2_reds y3_letterOn y4_namesOn y5_land y6_riverOf y7_home y8_length y9_letters) sz (some (.int r)) (w_X6_reasonAgainst g a0 a1 a2 a3 a4 a5 a6 a7 a8 a9 u0_2 u1_2 u1_5 u2_3 x1_rows x1_columns x2_count x2_reds y3_letterOn y4_namesOn y5_land y6_riverOf y7_home y8_length y9_letters) := by
  refine MI.start (cc := cX6_reasonAgainst) (maxL := 4) (ret := (some .int)) rfl rfl (nle rfl) ?_
  intro p e s m args below meth c A ls Q hQ hexec hb hr hts hown hlocks hml hA hP hD hG hS hl
  unfold f_X6_reasonAgainst at hf
  have hWX1 : ∀ w ∈ wsX10, w.before args s = true := fun w h => hts w (List.mem_cons_of_mem _ (List.mem_append_right _ h))
  have hWX2 : ∀ w ∈ wsX20, w.before args s = true := fun w h => hts w (List.mem_cons_of_mem _ (List.mem_append_left _ (List.mem_append_right _ h)))
  have hWX6 : ∀ w ∈ wsX60, w.before args s = true := fun w h => hts w (List.mem_cons_of_mem _ (List.mem_append_left _ (List.mem_append_left _ (List.mem_append_right _ h))))
  have hS : va_S A s.heap s.heap [] := hS
  refine lv_aload_n (pc := 0) hexec hb dX6_reasonAgainst_0 rfl (lv_at hl 0 rfl) ?_
  refine lv_iload_n (pc := 1) hexec hb dX6_reasonAgainst_1 rfl (lv_at hl 1 rfl) ?_
  refine lv_iload_n (pc := 2) hexec hb dX6_reasonAgainst_2 rfl (lv_at hl 2 rfl) ?_
  refine lv_iconst (pc := 3) hexec hb dX6_reasonAgainst_3 ki_m1 ?_
  obtain ⟨r4, hc, hf⟩ := bd1_e hf
  refine kVp (pc := 4) (S := ⟨hexec, hb, hml, hown, hts⟩) hP hD hG hA hS [0, 1, 2, 5, 6, 7, 8] [3, 4, 9] [3, 4, 5, 0, 1, 6, 7, 8, 9, 2] (w2 := (w_X6_reasonAgainst g a0 a1 a2 a3 a4 a5 a6 a7 a8 a9 u0_2 u1_2 u1_5 u2_3 x1_rows x1_columns x2_count x2_reds y3_letterOn y4_namesOn y5_land y6_riverOf y7_home y8_length y9_letters)) rfl rfl rfl rfl rfl rfl (by decide) (c_X6_groundReason l g a0 a1 a2 a5 a6 a7 a8 _ u0_2 (.ref a4) (.ref a3) u1_2 u1_5 (.int x2_reds) u2_3 (.ref a9) x1_rows x1_columns x2_count y5_land y6_riverOf y7_home y8_length p1 p2 (-1) r4 hc) gX6_reasonAgainst_X6_groundReason rfl hv_X6_groundReason ⟨nle rfl, nle rfl⟩ 6 0 rfl rfl rfl (rest := []) rfl rfl hl.1 (nle rfl) dX6_reasonAgainst_4 (fun H locs hP hD hS => ?_)
  refine lv_istore_n (pc := 7) hexec hb dX6_reasonAgainst_7 rfl hl (nle rfl) rfl (fun ls (hl : lv_has ls 4 [(3, .int r4), (0, .ref a0), (1, .int p1), (2, .int p2)]) => ?_)
  refine lv_iload_n (pc := 8) hexec hb dX6_reasonAgainst_8 rfl (lv_at hl 0 rfl) ?_
  refine kb_eq (pc := 9) hexec hb dX6_reasonAgainst_9 (tgt := 14) rfl hf (fun hc hf => ?_) (fun hc hf => ?_)
  · refine lv_aload_n (pc := 14) hexec hb dX6_reasonAgainst_14 rfl (lv_at hl 1 rfl) ?_
    refine lv_iload_n (pc := 15) hexec hb dX6_reasonAgainst_15 rfl (lv_at hl 2 rfl) ?_
    refine lv_iload_n (pc := 16) hexec hb dX6_reasonAgainst_16 rfl (lv_at hl 3 rfl) ?_
    obtain ⟨r17, hc, hf⟩ := bd1_e hf
    refine kVp (pc := 17) (S := ⟨hexec, hb, hml, hown, hts⟩) hP hD hG hA hS [0, 1, 2, 3, 4, 7, 8, 9] [5, 6] [2, 3, 4, 5, 6, 0, 1, 7, 8, 9] (w2 := (w_X6_reasonAgainst g a0 a1 a2 a3 a4 a5 a6 a7 a8 a9 u0_2 u1_2 u1_5 u2_3 x1_rows x1_columns x2_count x2_reds y3_letterOn y4_namesOn y5_land y6_riverOf y7_home y8_length y9_letters)) rfl rfl rfl rfl rfl rfl (by decide) (c_X6_meetsOthers l g a0 a1 a2 a3 a4 a7 a8 a9 _ u0_2 u1_2 (.ref a5) (.ref a6) u1_5 u2_3 x1_rows x1_columns x2_count x2_reds y3_letterOn y4_namesOn y7_home y8_length y9_letters p1 p2 r17 hc) gX6_reasonAgainst_X6_meetsOthers rfl hv_X6_meetsOthers ⟨nle rfl, nle rfl⟩ 6 0 rfl rfl rfl (rest := []) rfl rfl hl.1 (nle rfl) dX6_reasonAgainst_17 (fun H locs hP hD hS => ?_)
    refine kb_eq (pc := 20) hexec hb dX6_reasonAgainst_20 (tgt := 28) rfl hf (fun hc hf => ?_) (fun hc hf => ?_)
    · refine lv_iconst (pc := 28) hexec hb dX6_reasonAgainst_28 ki_0 ?_
      cases hf
      exact ke_i hQ hexec hb hr hP hD hS dX6_reasonAgainst_29 hlocks
    · refine lv_bipush (pc := 23) hexec hb dX6_reasonAgainst_23 kb_6 ?_
      refine lv_goto (pc := 25) hexec hb dX6_reasonAgainst_25 (tgt := 29) rfl ?_
      cases hf
      exact ke_i hQ hexec hb hr hP hD hS dX6_reasonAgainst_29 hlocks
  · refine lv_iload_n (pc := 12) hexec hb dX6_reasonAgainst_12 rfl (lv_at hl 0 rfl) ?_
    cases hf
    exact ke_i hQ hexec hb hr hP hD hS dX6_reasonAgainst_13 hlocks
abbrev w_X6_takeName (g : GE) (a0 a1 a2 a3 a4 a5 a6 : Nat) (u0_2 u0_4 u1_2 u1_3 u1_4 u1_5 u2_1 u2_5 : Value) (x1_rows : Int32) (x1_columns : Int32) (x2_count : Int32) (y3_namesOn : Nat → Int32) (y4_direction : Nat → Int32) (y5_home : Nat → Int32) (y6_length : Nat → Int32) : va_W := [(a0, .inr (6, [.ref a1, .ref a2, u0_2, .ref a3, u0_4])), (a1, .inr (1, [.int x1_rows, .int x1_columns, u1_2, u1_3, u1_4, u1_5])), (a2, .inr (2, [.int x2_count, u2_1, .ref a5, .ref a4, .ref a6, u2_5])), (a3, .inl (g.2.1 0, 144, .inl y3_namesOn)), (a4, .inl (g.2.1 0, 8, .inl y4_direction)), (a5, .inl (g.2.1 0, 8, .inl y5_home)), (a6, .inl (g.2.1 0, 8, .inl y6_length))]
set_option maxRecDepth 20000 in
theorem c_X6_takeName (l : Launch) (g : GE) (a0 a1 a2 a3 a4 a5 a6 : Nat) (sz : Nat) (u0_2 u0_4 u1_2 u1_3 u1_4 u1_5 u2_1 u2_5 : Value) (x1_rows : Int32) (x1_columns : Int32) (x2_count : Int32) (y3_namesOn : Nat → Int32) (y4_direction : Nat → Int32) (y5_home : Nat → Int32) (y6_length : Nat → Int32) (p1 : Int32)  (o_y3_namesOn : Nat → Int32) (o_y4_direction : Nat → Int32) (hf : f_X6_takeName x1_rows x1_columns x2_count y3_namesOn y4_direction y5_home y6_length p1 = some (o_y3_namesOn, o_y4_direction)) : MI l g yX6_takeName wsX6_takeName 2 50 [.ref a0, .int p1] (w_X6_takeName g a0 a1 a2 a3 a4 a5 a6 u0_2 u0_4 u1_2 u1_3 u1_4 u1_5 u2_1 u2_5 x1_rows x1_columns x2_count y3_namesOn y4_direction y5_home y6_length) sz none (w_X6_takeName g a0 a1 a2 a3 a4 a5 a6 u0_2 u0_4 u1_2 u1_3 u1_4 u1_5 u2_1 u2_5 x1_rows x1_columns x2_count o_y3_namesOn o_y4_direction y5_home y6_length) := by
  refine MI.start (cc := cX6_takeName) (maxL := 6) (ret := none) rfl rfl (nle rfl) ?_
  intro p e s m args below meth c A ls Q hQ hexec hb hr hts hown hlocks hml hA hP hD hG hS hl
  unfold f_X6_takeName at hf
  have hWX1 : ∀ w ∈ wsX10, w.before args s = true := fun w h => hts w (List.mem_cons_of_mem _ (List.mem_append_right _ h))
  have hWX2 : ∀ w ∈ wsX20, w.before args s = true := fun w h => hts w (List.mem_cons_of_mem _ (List.mem_append_left _ (List.mem_append_right _ h)))
  have hWX6 : ∀ w ∈ wsX60, w.before args s = true := fun w h => hts w (List.mem_cons_of_mem _ (List.mem_append_left _ (List.mem_append_left _ (List.mem_append_right _ h))))
  have hS : va_S A s.heap s.heap [] := hS
  refine lv_aload_n (pc := 0) hexec hb dX6_takeName_0 rfl (lv_at hl 0 rfl) ?_
  refine kg_get (pc := 1) hexec hb (own := RX6) hWX6 hown hG hP 0 rfl rfl 1 (nle rfl) (hts _ (List.mem_cons_of_mem _ (List.mem_append_left _ (List.mem_append_left _ (List.mem_append_left _ (List.mem_append_left _ (List.mem_of_getElem? (i := 0) rfl))))))) rfl rfl dX6_takeName_1 ?_
  refine lv_iload_n (pc := 4) hexec hb dX6_takeName_4 rfl (lv_at hl 1 rfl) ?_
  obtain ⟨r5, hc, hf⟩ := bd1_e hf
  refine kVp (pc := 5) (S := ⟨hexec, hb, hml, hown, hts⟩) hP hD hG hA hS [2, 5] [0, 1, 3, 4, 6] [0, 1, 5, 2, 3, 6, 4] (w2 := (w_X6_takeName g a0 a1 a2 a3 a4 a5 a6 u0_2 u0_4 u1_2 u1_3 u1_4 u1_5 u2_1 u2_5 x1_rows x1_columns x2_count y3_namesOn y4_direction y5_home y6_length)) rfl rfl rfl rfl rfl rfl (by decide) (c_X2_homeOf l g a2 a5 _ u2_1 (.ref a4) (.ref a6) u2_5 x2_count y5_home p1 r5 hc) gX6_takeName_X2_homeOf rfl hv_X2_homeOf ⟨nle rfl, nle rfl⟩ 2 0 rfl rfl rfl (rest := []) rfl rfl hl.1 (nle rfl) dX6_takeName_5 (fun H locs hP hD hS => ?_)
  refine lv_istore_n (pc := 8) hexec hb dX6_takeName_8 rfl hl (nle rfl) rfl (fun ls (hl : lv_has ls 6 [(2, .int r5), (0, .ref a0), (1, .int p1)]) => ?_)
  refine lv_aload_n (pc := 9) hexec hb dX6_takeName_9 rfl (lv_at hl 1 rfl) ?_
  refine kg_get (pc := 10) hexec hb (own := RX6) hWX6 hown hG hP 0 rfl rfl 1 (nle rfl) (hts _ (List.mem_cons_of_mem _ (List.mem_append_left _ (List.mem_append_left _ (List.mem_append_left _ (List.mem_append_left _ (List.mem_of_getElem? (i := 0) rfl))))))) rfl rfl dX6_takeName_10 ?_
  refine lv_iload_n (pc := 13) hexec hb dX6_takeName_13 rfl (lv_at hl 2 rfl) ?_
  obtain ⟨r14, hc, hf⟩ := bd1_e hf
  refine kVp (pc := 14) (S := ⟨hexec, hb, hml, hown, hts⟩) hP hD hG hA hS [2, 4] [0, 1, 3, 5, 6] [0, 1, 5, 2, 6, 3, 4] (w2 := (w_X6_takeName g a0 a1 a2 a3 a4 a5 a6 u0_2 u0_4 u1_2 u1_3 u1_4 u1_5 u2_1 u2_5 x1_rows x1_columns x2_count y3_namesOn y4_direction y5_home y6_length)) rfl rfl rfl rfl rfl rfl (by decide) (c_X2_directionOf l g a2 a4 _ u2_1 (.ref a5) (.ref a6) u2_5 x2_count y4_direction p1 r14 hc) gX6_takeName_X2_directionOf rfl hv_X2_directionOf ⟨nle rfl, nle rfl⟩ 2 0 rfl rfl rfl (rest := []) rfl rfl hl.1 (nle rfl) dX6_takeName_14 (fun H locs hP hD hS => ?_)
  refine lv_istore_n (pc := 17) hexec hb dX6_takeName_17 rfl hl (nle rfl) rfl (fun ls (hl : lv_has ls 6 [(3, .int r14), (2, .int r5), (0, .ref a0), (1, .int p1)]) => ?_)
  refine lv_iconst (pc := 18) hexec hb dX6_takeName_18 ki_0 ?_
  refine lv_istore (pc := 19) hexec hb dX6_takeName_19 hl (nle rfl) rfl (fun ls (hl : lv_has ls 6 [(4, .int 0), (3, .int r14), (2, .int r5), (0, .ref a0), (1, .int p1)]) => ?_)
  obtain ⟨l21, el21, hf⟩ := bvf2 hf
  obtain ⟨y3_namesOn_2, hz, hf⟩ := bd1_e hf
  have hE21 : ∀ (H : Heap) (locs : List Loc) (ls : Array Slot), va_P g.1 vwCl (w_X6_takeName g a0 a1 a2 a3 a4 a5 a6 u0_2 u0_4 u1_2 u1_3 u1_4 u1_5 u2_1 u2_5 x1_rows x1_columns x2_count y3_namesOn_2 y4_direction y5_home y6_length) H → va_D A (w_X6_takeName g a0 a1 a2 a3 a4 a5 a6 u0_2 u0_4 u1_2 u1_3 u1_4 u1_5 u2_1 u2_5 x1_rows x1_columns x2_count y3_namesOn_2 y4_direction y5_home y6_length) → va_S A s.heap H locs → lv_has ls 6 [(0, .ref a0), (1, .int p1)] → W p l e (RM 2 50) s m args below meth c H locs 0 0 Q (F0 m 88 ls []) := by
    intro H locs ls hP hD hS hl
    refine lv_aload_n (pc := 88) hexec hb dX6_takeName_88 rfl (lv_at hl 0 rfl) ?_
    refine kg_get (pc := 89) hexec hb (own := RX6) hWX6 hown hG hP 0 rfl rfl 1 (nle rfl) (hts _ (List.mem_cons_of_mem _ (List.mem_append_left _ (List.mem_append_left _ (List.mem_append_left _ (List.mem_append_left _ (List.mem_of_getElem? (i := 0) rfl))))))) rfl rfl dX6_takeName_89 ?_
    refine lv_iload_n (pc := 92) hexec hb dX6_takeName_92 rfl (lv_at hl 1 rfl) ?_
    refine lv_iconst (pc := 93) hexec hb dX6_takeName_93 ki_m1 ?_
    obtain ⟨y4_direction_1, hc, hf⟩ := bd1_e hf
    refine kVp (pc := 94) (S := ⟨hexec, hb, hml, hown, hts⟩) hP hD hG hA hS [2, 4] [0, 1, 3, 5, 6] [0, 1, 5, 2, 6, 3, 4] (w2 := (w_X6_takeName g a0 a1 a2 a3 a4 a5 a6 u0_2 u0_4 u1_2 u1_3 u1_4 u1_5 u2_1 u2_5 x1_rows x1_columns x2_count y3_namesOn_2 y4_direction_1 y5_home y6_length)) rfl rfl rfl rfl rfl rfl (by decide) (c_X2_setDirection l g a2 a4 _ u2_1 (.ref a5) (.ref a6) u2_5 x2_count y4_direction p1 (-1) y4_direction_1 hc) gX6_takeName_X2_setDirection rfl hv_X2_setDirection ⟨nle rfl, nle rfl⟩ 2 0 rfl rfl rfl (rest := []) rfl rfl hl.1 (nle rfl) dX6_takeName_94 (fun H locs hP hD hS => ?_)
    cases hf
    exact ke_v hQ hexec hb hr hP hD hS dX6_takeName_97 hlocks
  obtain ⟨n, hz⟩ := lq2_e hz
  have hL21 : ∀ (n : Nat) (v4 : Int32) (y3_namesOn_1 : Nat → Int32) (H : Heap) (locs : List Loc) (ls : Array Slot), it2 l21 n v4 y3_namesOn_1 = some y3_namesOn_2 → va_P g.1 vwCl (w_X6_takeName g a0 a1 a2 a3 a4 a5 a6 u0_2 u0_4 u1_2 u1_3 u1_4 u1_5 u2_1 u2_5 x1_rows x1_columns x2_count y3_namesOn_1 y4_direction y5_home y6_length) H → va_D A (w_X6_takeName g a0 a1 a2 a3 a4 a5 a6 u0_2 u0_4 u1_2 u1_3 u1_4 u1_5 u2_1 u2_5 x1_rows x1_columns x2_count y3_namesOn_1 y4_direction y5_home y6_length) → va_S A s.heap H locs → lv_has ls 6 [(0, .ref a0), (1, .int p1), (2, .int r5), (3, .int r14), (4, .int v4)] → W p l e (RM 2 50) s m args below meth c H locs 0 0 Q (F0 m 21 ls []) := by
    intro n
    induction n with
    | zero =>
      intro v4 y3_namesOn_1 H locs ls hf hP hD hS hl
      exact it2_0 hf
    | succ n21 ih21 =>
      intro v4 y3_namesOn_1 H locs ls hf hP hD hS hl
      obtain ⟨q21, hf, hk21⟩ := it2_e hf
      have hf := (el21 v4 y3_namesOn_1).symm.trans hf
      refine lv_iload (pc := 21) hexec hb dX6_takeName_21 (lv_at hl 4 rfl) ?_
      refine lv_aload_n (pc := 23) hexec hb dX6_takeName_23 rfl (lv_at hl 0 rfl) ?_
      refine kg_get (pc := 24) hexec hb (own := RX6) hWX6 hown hG hP 0 rfl rfl 1 (nle rfl) (hts _ (List.mem_cons_of_mem _ (List.mem_append_left _ (List.mem_append_left _ (List.mem_append_left _ (List.mem_append_left _ (List.mem_of_getElem? (i := 0) rfl))))))) rfl rfl dX6_takeName_24 ?_
      refine lv_iload_n (pc := 27) hexec hb dX6_takeName_27 rfl (lv_at hl 1 rfl) ?_
      obtain ⟨r28, hc, hf⟩ := bd1_e hf
      refine kVp (pc := 28) (S := ⟨hexec, hb, hml, hown, hts⟩) hP hD hG hA hS [2, 6] [0, 1, 3, 4, 5] [0, 1, 5, 2, 3, 4, 6] (w2 := (w_X6_takeName g a0 a1 a2 a3 a4 a5 a6 u0_2 u0_4 u1_2 u1_3 u1_4 u1_5 u2_1 u2_5 x1_rows x1_columns x2_count y3_namesOn_1 y4_direction y5_home y6_length)) rfl rfl rfl rfl rfl rfl (by decide) (c_X2_lengthOf l g a2 a6 _ u2_1 (.ref a5) (.ref a4) u2_5 x2_count y6_length p1 r28 hc) gX6_takeName_X2_lengthOf rfl hv_X2_lengthOf ⟨nle rfl, nle rfl⟩ 2 0 rfl rfl rfl (rest := [.int v4]) rfl rfl hl.1 (nle rfl) dX6_takeName_28 (fun H locs hP hD hS => ?_)
      refine ki_ge (pc := 31) hexec hb dX6_takeName_31 (tgt := 88) rfl hf (fun hc hf => ?_) (fun hc hf => ?_)
      · cases sr2 hf hk21
        exact hE21 _ _ _ hP hD hS (lv_sub hl [0, 1] rfl)
      · refine lv_iload_n (pc := 34) hexec hb dX6_takeName_34 rfl (lv_at hl 3 rfl) ?_
        refine lv_iconst (pc := 35) hexec hb dX6_takeName_35 ki_m1 ?_
        refine ki_eq (pc := 36) hexec hb dX6_takeName_36 (tgt := 88) rfl hf (fun hc hf => ?_) (fun hc hf => ?_)
        · cases sr2 hf hk21
          exact hE21 _ _ _ hP hD hS (lv_sub hl [0, 1] rfl)
        · refine lv_aload_n (pc := 39) hexec hb dX6_takeName_39 rfl (lv_at hl 0 rfl) ?_
          refine kg_get (pc := 40) hexec hb (own := RX6) hWX6 hown hG hP 0 rfl rfl 0 (nle rfl) (hts _ (List.mem_cons_of_mem _ (List.mem_append_left _ (List.mem_append_left _ (List.mem_append_left _ (List.mem_append_left _ (List.mem_of_getElem? (i := 1) rfl))))))) rfl rfl dX6_takeName_40 ?_
          refine lv_iload_n (pc := 43) hexec hb dX6_takeName_43 rfl (lv_at hl 2 rfl) ?_
          refine lv_iload_n (pc := 44) hexec hb dX6_takeName_44 rfl (lv_at hl 3 rfl) ?_
          refine lv_iload (pc := 45) hexec hb dX6_takeName_45 (lv_at hl 4 rfl) ?_
          refine lv_iconst (pc := 47) hexec hb dX6_takeName_47 ki_1 ?_
          refine lv_iadd (pc := 48) hexec hb dX6_takeName_48 ?_
          obtain ⟨r49, hc, hf⟩ := bd1_e hf
          refine kVp (pc := 49) (S := ⟨hexec, hb, hml, hown, hts⟩) hP hD hG hA hS [1] [0, 2, 3, 4, 5, 6] [0, 6, 1, 2, 3, 4, 5] (w2 := (w_X6_takeName g a0 a1 a2 a3 a4 a5 a6 u0_2 u0_4 u1_2 u1_3 u1_4 u1_5 u2_1 u2_5 x1_rows x1_columns x2_count y3_namesOn_1 y4_direction y5_home y6_length)) rfl rfl rfl rfl rfl rfl (by decide) (c_X1_ahead l g a1 _ u1_2 u1_3 u1_4 u1_5 x1_rows x1_columns r5 r14 (v4 + 1) r49 hc) gX6_takeName_X1_ahead rfl hv_X1_ahead ⟨nle rfl, nle rfl⟩ 1 0 rfl rfl rfl (rest := []) rfl rfl hl.1 (nle rfl) dX6_takeName_49 (fun H locs hP hD hS => ?_)
          refine lv_istore (pc := 52) hexec hb dX6_takeName_52 hl (nle rfl) rfl (fun ls (hl : lv_has ls 6 [(5, .int r49), (0, .ref a0), (1, .int p1), (2, .int r5), (3, .int r14), (4, .int v4)]) => ?_)
          refine lv_iload (pc := 54) hexec hb dX6_takeName_54 (lv_at hl 0 rfl) ?_
          obtain ⟨j82, ej82, hf⟩ := bvf1 hf
          have hj82 : ∀ (y3_namesOn_3 : Nat → Int32) (H : Heap) (locs : List Loc) (ls : Array Slot), j82 y3_namesOn_3 = some q21 → va_P g.1 vwCl (w_X6_takeName g a0 a1 a2 a3 a4 a5 a6 u0_2 u0_4 u1_2 u1_3 u1_4 u1_5 u2_1 u2_5 x1_rows x1_columns x2_count y3_namesOn_3 y4_direction y5_home y6_length) H → va_D A (w_X6_takeName g a0 a1 a2 a3 a4 a5 a6 u0_2 u0_4 u1_2 u1_3 u1_4 u1_5 u2_1 u2_5 x1_rows x1_columns x2_count y3_namesOn_3 y4_direction y5_home y6_length) → va_S A s.heap H locs → lv_has ls 6 [(0, .ref a0), (1, .int p1), (2, .int r5), (3, .int r14), (4, .int v4)] → W p l e (RM 2 50) s m args below meth c H locs 0 0 Q (F0 m 82 ls []) := by
            intro y3_namesOn_3 H locs ls hf hP hD hS hl
            have hf := (ej82 y3_namesOn_3).symm.trans hf
            obtain ⟨v4_1, ev4_1, hf⟩ := bv_e hf
            refine k_iinc (pc := 82) hexec hb dX6_takeName_82 kq_1 hl (k := 4) rfl ev4_1 (nle rfl) rfl (fun ls (hl : lv_has ls 6 [(4, .int v4_1), (0, .ref a0), (1, .int p1), (2, .int r5), (3, .int r14)]) => ?_)
            refine lv_goto (pc := 85) hexec hb dX6_takeName_85 (tgt := 21) rfl ?_
            exact ih21 _ _ _ _ _ (sl2 hf hk21) hP hD hS (lv_sub hl [1, 2, 3, 4, 0] rfl)
          refine kb_lt (pc := 56) hexec hb dX6_takeName_56 (tgt := 82) rfl hf (fun hc hf => ?_) (fun hc hf => ?_)
          · exact hj82 _ _ _ _ hf hP hD hS (lv_sub hl [1, 2, 3, 4, 5] rfl)
          · refine lv_iload (pc := 59) hexec hb dX6_takeName_59 (lv_at hl 0 rfl) ?_
            refine lv_sipush (pc := 61) hexec hb dX6_takeName_61 ks_144 ?_
            refine ki_ge (pc := 64) hexec hb dX6_takeName_64 (tgt := 82) rfl hf (fun hc hf => ?_) (fun hc hf => ?_)
            · exact hj82 _ _ _ _ hf hP hD hS (lv_sub hl [1, 2, 3, 4, 5] rfl)
            · refine lv_aload_n (pc := 67) hexec hb dX6_takeName_67 rfl (lv_at hl 1 rfl) ?_
              refine kg_get (pc := 68) hexec hb (own := RX6) hWX6 hown hG hP 0 rfl rfl 3 (nle rfl) (hts _ (List.mem_cons_of_mem _ (List.mem_append_left _ (List.mem_append_left _ (List.mem_append_left _ (List.mem_append_left _ (List.mem_of_getElem? (i := 2) rfl))))))) rfl rfl dX6_takeName_68 ?_
              refine lv_iload (pc := 71) hexec hb dX6_takeName_71 (lv_at hl 0 rfl) ?_
              refine lv_dup2_11 (pc := 73) hexec hb dX6_takeName_73 rfl rfl ?_
              refine kr_iald (pc := 74) hexec hb hG hP 3 rfl hf dX6_takeName_74 (fun hf => ?_)
              refine lv_iconst (pc := 75) hexec hb dX6_takeName_75 ki_1 ?_
              refine lv_iload_n (pc := 76) hexec hb dX6_takeName_76 rfl (lv_at hl 2 rfl) ?_
              refine lv_ishl (pc := 77) hexec hb dX6_takeName_77 ?_
              refine lv_iconst (pc := 78) hexec hb dX6_takeName_78 ki_m1 ?_
              refine lv_ixor (pc := 79) hexec hb dX6_takeName_79 ?_
              refine lv_iand (pc := 80) hexec hb dX6_takeName_80 ?_
              refine kw_iast (pc := 81) hexec hb hG hP hD hS 3 rfl hf dX6_takeName_81 (fun y3_namesOn_4 H locs hf (hP : va_P g.1 vwCl (w_X6_takeName g a0 a1 a2 a3 a4 a5 a6 u0_2 u0_4 u1_2 u1_3 u1_4 u1_5 u2_1 u2_5 x1_rows x1_columns x2_count y3_namesOn_4 y4_direction y5_home y6_length) H) (hD : va_D A (w_X6_takeName g a0 a1 a2 a3 a4 a5 a6 u0_2 u0_4 u1_2 u1_3 u1_4 u1_5 u2_1 u2_5 x1_rows x1_columns x2_count y3_namesOn_4 y4_direction y5_home y6_length)) hS => ?_)
              exact hj82 _ _ _ _ hf hP hD hS (lv_sub hl [1, 2, 3, 4, 5] rfl)
  exact hL21 n _ _ _ _ _ hz hP hD hS (lv_sub hl [3, 4, 2, 1, 0] rfl)
abbrev w_X6_putName (g : GE) (a0 a1 a2 a3 a4 a5 a6 a7 a8 : Nat) (u0_2 u1_2 u1_3 u1_4 u1_5 u2_1 : Value) (x1_rows : Int32) (x1_columns : Int32) (x2_count : Int32) (y3_letterOn : Nat → Int32) (y4_namesOn : Nat → Int32) (y5_direction : Nat → Int32) (y6_home : Nat → Int32) (y7_length : Nat → Int32) (y8_letters : Nat → Int32) : va_W := [(a0, .inr (6, [.ref a1, .ref a2, u0_2, .ref a4, .ref a3])), (a1, .inr (1, [.int x1_rows, .int x1_columns, u1_2, u1_3, u1_4, u1_5])), (a2, .inr (2, [.int x2_count, u2_1, .ref a6, .ref a5, .ref a7, .ref a8])), (a3, .inl (g.2.1 0, 144, .inl y3_letterOn)), (a4, .inl (g.2.1 0, 144, .inl y4_namesOn)), (a5, .inl (g.2.1 0, 8, .inl y5_direction)), (a6, .inl (g.2.1 0, 8, .inl y6_home)), (a7, .inl (g.2.1 0, 8, .inl y7_length)), (a8, .inl (g.2.1 0, 64, .inl y8_letters))]
set_option maxRecDepth 20000 in
theorem c_X6_putName (l : Launch) (g : GE) (a0 a1 a2 a3 a4 a5 a6 a7 a8 : Nat) (sz : Nat) (u0_2 u1_2 u1_3 u1_4 u1_5 u2_1 : Value) (x1_rows : Int32) (x1_columns : Int32) (x2_count : Int32) (y3_letterOn : Nat → Int32) (y4_namesOn : Nat → Int32) (y5_direction : Nat → Int32) (y6_home : Nat → Int32) (y7_length : Nat → Int32) (y8_letters : Nat → Int32) (p1 : Int32) (p2 : Int32)  (o_y3_letterOn : Nat → Int32) (o_y4_namesOn : Nat → Int32) (o_y5_direction : Nat → Int32) (hf : f_X6_putName x1_rows x1_columns x2_count y3_letterOn y4_namesOn y5_direction y6_home y7_length y8_letters p1 p2 = some (o_y3_letterOn, o_y4_namesOn, o_y5_direction)) : MI l g yX6_putName wsX6_putName 3 75 [.ref a0, .int p1, .int p2] (w_X6_putName g a0 a1 a2 a3 a4 a5 a6 a7 a8 u0_2 u1_2 u1_3 u1_4 u1_5 u2_1 x1_rows x1_columns x2_count y3_letterOn y4_namesOn y5_direction y6_home y7_length y8_letters) sz none (w_X6_putName g a0 a1 a2 a3 a4 a5 a6 a7 a8 u0_2 u1_2 u1_3 u1_4 u1_5 u2_1 x1_rows x1_columns x2_count o_y3_letterOn o_y4_namesOn o_y5_direction y6_home y7_length y8_letters) := by
  refine MI.start (cc := cX6_putName) (maxL := 6) (ret := none) rfl rfl (nle rfl) ?_
  intro p e s m args below meth c A ls Q hQ hexec hb hr hts hown hlocks hml hA hP hD hG hS hl
  unfold f_X6_putName at hf
  have hWX1 : ∀ w ∈ wsX10, w.before args s = true := fun w h => hts w (List.mem_cons_of_mem _ (List.mem_append_right _ h))
  have hWX2 : ∀ w ∈ wsX20, w.before args s = true := fun w h => hts w (List.mem_cons_of_mem _ (List.mem_append_left _ (List.mem_append_right _ h)))
  have hWX6 : ∀ w ∈ wsX60, w.before args s = true := fun w h => hts w (List.mem_cons_of_mem _ (List.mem_append_left _ (List.mem_append_left _ (List.mem_append_right _ h))))
  have hS : va_S A s.heap s.heap [] := hS
  refine lv_aload_n (pc := 0) hexec hb dX6_putName_0 rfl (lv_at hl 0 rfl) ?_
  refine lv_iload_n (pc := 1) hexec hb dX6_putName_1 rfl (lv_at hl 1 rfl) ?_
  obtain ⟨y4_namesOn_1, y5_direction_1, hc, hf⟩ := bd2_e hf
  refine kVp (pc := 2) (S := ⟨hexec, hb, hml, hown, hts⟩) hP hD hG hA hS [0, 1, 2, 4, 5, 6, 7] [3, 8] [2, 3, 4, 0, 5, 6, 7, 8, 1] (w2 := (w_X6_putName g a0 a1 a2 a3 a4 a5 a6 a7 a8 u0_2 u1_2 u1_3 u1_4 u1_5 u2_1 x1_rows x1_columns x2_count y3_letterOn y4_namesOn_1 y5_direction_1 y6_home y7_length y8_letters)) rfl rfl rfl rfl rfl rfl (by decide) (c_X6_takeName l g a0 a1 a2 a4 a5 a6 a7 _ u0_2 (.ref a3) u1_2 u1_3 u1_4 u1_5 u2_1 (.ref a8) x1_rows x1_columns x2_count y4_namesOn y5_direction y6_home y7_length p1 y4_namesOn_1 y5_direction_1 hc) gX6_putName_X6_takeName rfl hv_X6_takeName ⟨nle rfl, nle rfl⟩ 6 0 rfl rfl rfl (rest := []) rfl rfl hl.1 (nle rfl) dX6_putName_2 (fun H locs hP hD hS => ?_)
  refine lv_aload_n (pc := 5) hexec hb dX6_putName_5 rfl (lv_at hl 0 rfl) ?_
  refine kg_get (pc := 6) hexec hb (own := RX6) hWX6 hown hG hP 0 rfl rfl 1 (nle rfl) (hts _ (List.mem_cons_of_mem _ (List.mem_append_left _ (List.mem_append_left _ (List.mem_append_left _ (List.mem_append_left _ (List.mem_of_getElem? (i := 0) rfl))))))) rfl rfl dX6_putName_6 ?_
  refine lv_iload_n (pc := 9) hexec hb dX6_putName_9 rfl (lv_at hl 1 rfl) ?_
  obtain ⟨r10, hc, hf⟩ := bd1_e hf
  refine kVp (pc := 10) (S := ⟨hexec, hb, hml, hown, hts⟩) hP hD hG hA hS [2, 6] [0, 1, 3, 4, 5, 7, 8] [0, 1, 7, 2, 3, 4, 8, 5, 6] (w2 := (w_X6_putName g a0 a1 a2 a3 a4 a5 a6 a7 a8 u0_2 u1_2 u1_3 u1_4 u1_5 u2_1 x1_rows x1_columns x2_count y3_letterOn y4_namesOn_1 y5_direction_1 y6_home y7_length y8_letters)) rfl rfl rfl rfl rfl rfl (by decide) (c_X2_homeOf l g a2 a6 _ u2_1 (.ref a5) (.ref a7) (.ref a8) x2_count y6_home p1 r10 hc) gX6_putName_X2_homeOf rfl hv_X2_homeOf ⟨nle rfl, nle rfl⟩ 2 0 rfl rfl rfl (rest := []) rfl rfl hl.1 (nle rfl) dX6_putName_10 (fun H locs hP hD hS => ?_)
  refine lv_istore_n (pc := 13) hexec hb dX6_putName_13 rfl hl (nle rfl) rfl (fun ls (hl : lv_has ls 6 [(3, .int r10), (0, .ref a0), (1, .int p1), (2, .int p2)]) => ?_)
  refine lv_iconst (pc := 14) hexec hb dX6_putName_14 ki_0 ?_
  refine lv_istore (pc := 15) hexec hb dX6_putName_15 hl (nle rfl) rfl (fun ls (hl : lv_has ls 6 [(4, .int 0), (3, .int r10), (0, .ref a0), (1, .int p1), (2, .int p2)]) => ?_)
  obtain ⟨l17, el17, hf⟩ := bvf3 hf
  obtain ⟨y3_letterOn_2, y4_namesOn_3, hz, hf⟩ := bd2_e hf
  have hE17 : ∀ (H : Heap) (locs : List Loc) (ls : Array Slot), va_P g.1 vwCl (w_X6_putName g a0 a1 a2 a3 a4 a5 a6 a7 a8 u0_2 u1_2 u1_3 u1_4 u1_5 u2_1 x1_rows x1_columns x2_count y3_letterOn_2 y4_namesOn_3 y5_direction_1 y6_home y7_length y8_letters) H → va_D A (w_X6_putName g a0 a1 a2 a3 a4 a5 a6 a7 a8 u0_2 u1_2 u1_3 u1_4 u1_5 u2_1 x1_rows x1_columns x2_count y3_letterOn_2 y4_namesOn_3 y5_direction_1 y6_home y7_length y8_letters) → va_S A s.heap H locs → lv_has ls 6 [(0, .ref a0), (1, .int p1), (2, .int p2)] → W p l e (RM 3 75) s m args below meth c H locs 0 0 Q (F0 m 94 ls []) := by
    intro H locs ls hP hD hS hl
    refine lv_aload_n (pc := 94) hexec hb dX6_putName_94 rfl (lv_at hl 0 rfl) ?_
    refine kg_get (pc := 95) hexec hb (own := RX6) hWX6 hown hG hP 0 rfl rfl 1 (nle rfl) (hts _ (List.mem_cons_of_mem _ (List.mem_append_left _ (List.mem_append_left _ (List.mem_append_left _ (List.mem_append_left _ (List.mem_of_getElem? (i := 0) rfl))))))) rfl rfl dX6_putName_95 ?_
    refine lv_iload_n (pc := 98) hexec hb dX6_putName_98 rfl (lv_at hl 1 rfl) ?_
    refine lv_iload_n (pc := 99) hexec hb dX6_putName_99 rfl (lv_at hl 2 rfl) ?_
    obtain ⟨y5_direction_2, hc, hf⟩ := bd1_e hf
    refine kVp (pc := 100) (S := ⟨hexec, hb, hml, hown, hts⟩) hP hD hG hA hS [2, 5] [0, 1, 3, 4, 6, 7, 8] [0, 1, 7, 2, 3, 8, 4, 5, 6] (w2 := (w_X6_putName g a0 a1 a2 a3 a4 a5 a6 a7 a8 u0_2 u1_2 u1_3 u1_4 u1_5 u2_1 x1_rows x1_columns x2_count y3_letterOn_2 y4_namesOn_3 y5_direction_2 y6_home y7_length y8_letters)) rfl rfl rfl rfl rfl rfl (by decide) (c_X2_setDirection l g a2 a5 _ u2_1 (.ref a6) (.ref a7) (.ref a8) x2_count y5_direction_1 p1 p2 y5_direction_2 hc) gX6_putName_X2_setDirection rfl hv_X2_setDirection ⟨nle rfl, nle rfl⟩ 2 0 rfl rfl rfl (rest := []) rfl rfl hl.1 (nle rfl) dX6_putName_100 (fun H locs hP hD hS => ?_)
    cases hf
    exact ke_v hQ hexec hb hr hP hD hS dX6_putName_103 hlocks
  obtain ⟨n, hz⟩ := lq3_e hz
  have hL17 : ∀ (n : Nat) (v4 : Int32) (y3_letterOn_1 : Nat → Int32) (y4_namesOn_2 : Nat → Int32) (H : Heap) (locs : List Loc) (ls : Array Slot), it3 l17 n v4 y3_letterOn_1 y4_namesOn_2 = some (y3_letterOn_2, y4_namesOn_3) → va_P g.1 vwCl (w_X6_putName g a0 a1 a2 a3 a4 a5 a6 a7 a8 u0_2 u1_2 u1_3 u1_4 u1_5 u2_1 x1_rows x1_columns x2_count y3_letterOn_1 y4_namesOn_2 y5_direction_1 y6_home y7_length y8_letters) H → va_D A (w_X6_putName g a0 a1 a2 a3 a4 a5 a6 a7 a8 u0_2 u1_2 u1_3 u1_4 u1_5 u2_1 x1_rows x1_columns x2_count y3_letterOn_1 y4_namesOn_2 y5_direction_1 y6_home y7_length y8_letters) → va_S A s.heap H locs → lv_has ls 6 [(0, .ref a0), (1, .int p1), (2, .int p2), (3, .int r10), (4, .int v4)] → W p l e (RM 3 75) s m args below meth c H locs 0 0 Q (F0 m 17 ls []) := by
    intro n
    induction n with
    | zero =>
      intro v4 y3_letterOn_1 y4_namesOn_2 H locs ls hf hP hD hS hl
      exact it3_0 hf
    | succ n17 ih17 =>
      intro v4 y3_letterOn_1 y4_namesOn_2 H locs ls hf hP hD hS hl
      obtain ⟨q17, hf, hk17⟩ := it3_e hf
      have hf := (el17 v4 y3_letterOn_1 y4_namesOn_2).symm.trans hf
      refine lv_iload (pc := 17) hexec hb dX6_putName_17 (lv_at hl 4 rfl) ?_
      refine lv_aload_n (pc := 19) hexec hb dX6_putName_19 rfl (lv_at hl 0 rfl) ?_
      refine kg_get (pc := 20) hexec hb (own := RX6) hWX6 hown hG hP 0 rfl rfl 1 (nle rfl) (hts _ (List.mem_cons_of_mem _ (List.mem_append_left _ (List.mem_append_left _ (List.mem_append_left _ (List.mem_append_left _ (List.mem_of_getElem? (i := 0) rfl))))))) rfl rfl dX6_putName_20 ?_
      refine lv_iload_n (pc := 23) hexec hb dX6_putName_23 rfl (lv_at hl 1 rfl) ?_
      obtain ⟨r24, hc, hf⟩ := bd1_e hf
      refine kVp (pc := 24) (S := ⟨hexec, hb, hml, hown, hts⟩) hP hD hG hA hS [2, 7] [0, 1, 3, 4, 5, 6, 8] [0, 1, 7, 2, 3, 4, 5, 8, 6] (w2 := (w_X6_putName g a0 a1 a2 a3 a4 a5 a6 a7 a8 u0_2 u1_2 u1_3 u1_4 u1_5 u2_1 x1_rows x1_columns x2_count y3_letterOn_1 y4_namesOn_2 y5_direction_1 y6_home y7_length y8_letters)) rfl rfl rfl rfl rfl rfl (by decide) (c_X2_lengthOf l g a2 a7 _ u2_1 (.ref a6) (.ref a5) (.ref a8) x2_count y7_length p1 r24 hc) gX6_putName_X2_lengthOf rfl hv_X2_lengthOf ⟨nle rfl, nle rfl⟩ 2 0 rfl rfl rfl (rest := [.int v4]) rfl rfl hl.1 (nle rfl) dX6_putName_24 (fun H locs hP hD hS => ?_)
      refine ki_ge (pc := 27) hexec hb dX6_putName_27 (tgt := 94) rfl hf (fun hc hf => ?_) (fun hc hf => ?_)
      · cases sr3 hf hk17
        exact hE17 _ _ _ hP hD hS (lv_sub hl [0, 1, 2] rfl)
      · refine lv_aload_n (pc := 30) hexec hb dX6_putName_30 rfl (lv_at hl 0 rfl) ?_
        refine kg_get (pc := 31) hexec hb (own := RX6) hWX6 hown hG hP 0 rfl rfl 0 (nle rfl) (hts _ (List.mem_cons_of_mem _ (List.mem_append_left _ (List.mem_append_left _ (List.mem_append_left _ (List.mem_append_left _ (List.mem_of_getElem? (i := 1) rfl))))))) rfl rfl dX6_putName_31 ?_
        refine lv_iload_n (pc := 34) hexec hb dX6_putName_34 rfl (lv_at hl 3 rfl) ?_
        refine lv_iload_n (pc := 35) hexec hb dX6_putName_35 rfl (lv_at hl 2 rfl) ?_
        refine lv_iload (pc := 36) hexec hb dX6_putName_36 (lv_at hl 4 rfl) ?_
        refine lv_iconst (pc := 38) hexec hb dX6_putName_38 ki_1 ?_
        refine lv_iadd (pc := 39) hexec hb dX6_putName_39 ?_
        obtain ⟨r40, hc, hf⟩ := bd1_e hf
        refine kVp (pc := 40) (S := ⟨hexec, hb, hml, hown, hts⟩) hP hD hG hA hS [1] [0, 2, 3, 4, 5, 6, 7, 8] [0, 8, 1, 2, 3, 4, 5, 6, 7] (w2 := (w_X6_putName g a0 a1 a2 a3 a4 a5 a6 a7 a8 u0_2 u1_2 u1_3 u1_4 u1_5 u2_1 x1_rows x1_columns x2_count y3_letterOn_1 y4_namesOn_2 y5_direction_1 y6_home y7_length y8_letters)) rfl rfl rfl rfl rfl rfl (by decide) (c_X1_ahead l g a1 _ u1_2 u1_3 u1_4 u1_5 x1_rows x1_columns r10 p2 (v4 + 1) r40 hc) gX6_putName_X1_ahead rfl hv_X1_ahead ⟨nle rfl, nle rfl⟩ 1 0 rfl rfl rfl (rest := []) rfl rfl hl.1 (nle rfl) dX6_putName_40 (fun H locs hP hD hS => ?_)
        refine lv_istore (pc := 43) hexec hb dX6_putName_43 hl (nle rfl) rfl (fun ls (hl : lv_has ls 6 [(5, .int r40), (0, .ref a0), (1, .int p1), (2, .int p2), (3, .int r10), (4, .int v4)]) => ?_)
        refine lv_iload (pc := 45) hexec hb dX6_putName_45 (lv_at hl 0 rfl) ?_
        obtain ⟨j88, ej88, hf⟩ := bvf2 hf
        have hj88 : ∀ (y3_letterOn_3 : Nat → Int32) (y4_namesOn_4 : Nat → Int32) (H : Heap) (locs : List Loc) (ls : Array Slot), j88 y3_letterOn_3 y4_namesOn_4 = some q17 → va_P g.1 vwCl (w_X6_putName g a0 a1 a2 a3 a4 a5 a6 a7 a8 u0_2 u1_2 u1_3 u1_4 u1_5 u2_1 x1_rows x1_columns x2_count y3_letterOn_3 y4_namesOn_4 y5_direction_1 y6_home y7_length y8_letters) H → va_D A (w_X6_putName g a0 a1 a2 a3 a4 a5 a6 a7 a8 u0_2 u1_2 u1_3 u1_4 u1_5 u2_1 x1_rows x1_columns x2_count y3_letterOn_3 y4_namesOn_4 y5_direction_1 y6_home y7_length y8_letters) → va_S A s.heap H locs → lv_has ls 6 [(0, .ref a0), (1, .int p1), (2, .int p2), (3, .int r10), (4, .int v4)] → W p l e (RM 3 75) s m args below meth c H locs 0 0 Q (F0 m 88 ls []) := by
          intro y3_letterOn_3 y4_namesOn_4 H locs ls hf hP hD hS hl
          have hf := (ej88 y3_letterOn_3 y4_namesOn_4).symm.trans hf
          obtain ⟨v4_1, ev4_1, hf⟩ := bv_e hf
          refine k_iinc (pc := 88) hexec hb dX6_putName_88 kq_1 hl (k := 4) rfl ev4_1 (nle rfl) rfl (fun ls (hl : lv_has ls 6 [(4, .int v4_1), (0, .ref a0), (1, .int p1), (2, .int p2), (3, .int r10)]) => ?_)
          refine lv_goto (pc := 91) hexec hb dX6_putName_91 (tgt := 17) rfl ?_
          exact ih17 _ _ _ _ _ _ (sl3 hf hk17) hP hD hS (lv_sub hl [1, 2, 3, 4, 0] rfl)
        refine kb_lt (pc := 47) hexec hb dX6_putName_47 (tgt := 88) rfl hf (fun hc hf => ?_) (fun hc hf => ?_)
        · exact hj88 _ _ _ _ _ hf hP hD hS (lv_sub hl [1, 2, 3, 4, 5] rfl)
        · refine lv_iload (pc := 50) hexec hb dX6_putName_50 (lv_at hl 0 rfl) ?_
          refine lv_sipush (pc := 52) hexec hb dX6_putName_52 ks_144 ?_
          refine ki_ge (pc := 55) hexec hb dX6_putName_55 (tgt := 88) rfl hf (fun hc hf => ?_) (fun hc hf => ?_)
          · exact hj88 _ _ _ _ _ hf hP hD hS (lv_sub hl [1, 2, 3, 4, 5] rfl)
          · refine lv_aload_n (pc := 58) hexec hb dX6_putName_58 rfl (lv_at hl 1 rfl) ?_
            refine kg_get (pc := 59) hexec hb (own := RX6) hWX6 hown hG hP 0 rfl rfl 3 (nle rfl) (hts _ (List.mem_cons_of_mem _ (List.mem_append_left _ (List.mem_append_left _ (List.mem_append_left _ (List.mem_append_left _ (List.mem_of_getElem? (i := 2) rfl))))))) rfl rfl dX6_putName_59 ?_
            refine lv_iload (pc := 62) hexec hb dX6_putName_62 (lv_at hl 0 rfl) ?_
            refine lv_dup2_11 (pc := 64) hexec hb dX6_putName_64 rfl rfl ?_
            refine kr_iald (pc := 65) hexec hb hG hP 4 rfl hf dX6_putName_65 (fun hf => ?_)
            refine lv_iconst (pc := 66) hexec hb dX6_putName_66 ki_1 ?_
            refine lv_iload_n (pc := 67) hexec hb dX6_putName_67 rfl (lv_at hl 2 rfl) ?_
            refine lv_ishl (pc := 68) hexec hb dX6_putName_68 ?_
            refine lv_ior (pc := 69) hexec hb dX6_putName_69 ?_
            refine kw_iast (pc := 70) hexec hb hG hP hD hS 4 rfl hf dX6_putName_70 (fun y4_namesOn_5 H locs hf (hP : va_P g.1 vwCl (w_X6_putName g a0 a1 a2 a3 a4 a5 a6 a7 a8 u0_2 u1_2 u1_3 u1_4 u1_5 u2_1 x1_rows x1_columns x2_count y3_letterOn_1 y4_namesOn_5 y5_direction_1 y6_home y7_length y8_letters) H) (hD : va_D A (w_X6_putName g a0 a1 a2 a3 a4 a5 a6 a7 a8 u0_2 u1_2 u1_3 u1_4 u1_5 u2_1 x1_rows x1_columns x2_count y3_letterOn_1 y4_namesOn_5 y5_direction_1 y6_home y7_length y8_letters)) hS => ?_)
            refine lv_aload_n (pc := 71) hexec hb dX6_putName_71 rfl (lv_at hl 1 rfl) ?_
            refine kg_get (pc := 72) hexec hb (own := RX6) hWX6 hown hG hP 0 rfl rfl 4 (nle rfl) (hts _ (List.mem_cons_of_mem _ (List.mem_append_left _ (List.mem_append_left _ (List.mem_append_left _ (List.mem_append_left _ (List.mem_of_getElem? (i := 3) rfl))))))) rfl rfl dX6_putName_72 ?_
            refine lv_iload (pc := 75) hexec hb dX6_putName_75 (lv_at hl 0 rfl) ?_
            refine lv_aload_n (pc := 77) hexec hb dX6_putName_77 rfl (lv_at hl 1 rfl) ?_
            refine kg_get (pc := 78) hexec hb (own := RX6) hWX6 hown hG hP 0 rfl rfl 1 (nle rfl) (hts _ (List.mem_cons_of_mem _ (List.mem_append_left _ (List.mem_append_left _ (List.mem_append_left _ (List.mem_append_left _ (List.mem_of_getElem? (i := 0) rfl))))))) rfl rfl dX6_putName_78 ?_
            refine lv_iload_n (pc := 81) hexec hb dX6_putName_81 rfl (lv_at hl 2 rfl) ?_
            refine lv_iload (pc := 82) hexec hb dX6_putName_82 (lv_at hl 5 rfl) ?_
            obtain ⟨r84, hc, hf⟩ := bd1_e hf
            refine kVp (pc := 84) (S := ⟨hexec, hb, hml, hown, hts⟩) hP hD hG hA hS [2, 7, 8] [0, 1, 3, 4, 5, 6] [0, 1, 6, 2, 3, 4, 5, 7, 8] (w2 := (w_X6_putName g a0 a1 a2 a3 a4 a5 a6 a7 a8 u0_2 u1_2 u1_3 u1_4 u1_5 u2_1 x1_rows x1_columns x2_count y3_letterOn_1 y4_namesOn_5 y5_direction_1 y6_home y7_length y8_letters)) rfl rfl rfl rfl rfl rfl (by decide) (c_X2_letterOf l g a2 a7 a8 _ u2_1 (.ref a6) (.ref a5) x2_count y7_length y8_letters p1 v4 r84 hc) gX6_putName_X2_letterOf rfl hv_X2_letterOf ⟨nle rfl, nle rfl⟩ 2 0 rfl rfl rfl (rest := [.int r40, .ref a3]) rfl rfl hl.1 (nle rfl) dX6_putName_84 (fun H locs hP hD hS => ?_)
            refine kw_iast (pc := 87) hexec hb hG hP hD hS 3 rfl hf dX6_putName_87 (fun y3_letterOn_4 H locs hf (hP : va_P g.1 vwCl (w_X6_putName g a0 a1 a2 a3 a4 a5 a6 a7 a8 u0_2 u1_2 u1_3 u1_4 u1_5 u2_1 x1_rows x1_columns x2_count y3_letterOn_4 y4_namesOn_5 y5_direction_1 y6_home y7_length y8_letters) H) (hD : va_D A (w_X6_putName g a0 a1 a2 a3 a4 a5 a6 a7 a8 u0_2 u1_2 u1_3 u1_4 u1_5 u2_1 x1_rows x1_columns x2_count y3_letterOn_4 y4_namesOn_5 y5_direction_1 y6_home y7_length y8_letters)) hS => ?_)
            exact hj88 _ _ _ _ _ hf hP hD hS (lv_sub hl [1, 2, 3, 4, 5] rfl)
  exact hL17 n _ _ _ _ _ _ hz hP hD hS (lv_sub hl [2, 3, 4, 1, 0] rfl)
abbrev w_X6_takeNames (g : GE) (a0 a1 a2 a3 a4 a5 a6 : Nat) (u0_2 u0_4 u1_2 u1_3 u1_4 u1_5 u2_1 u2_5 : Value) (x1_rows : Int32) (x1_columns : Int32) (x2_count : Int32) (y3_namesOn : Nat → Int32) (y4_direction : Nat → Int32) (y5_home : Nat → Int32) (y6_length : Nat → Int32) : va_W := [(a0, .inr (6, [.ref a1, .ref a2, u0_2, .ref a3, u0_4])), (a1, .inr (1, [.int x1_rows, .int x1_columns, u1_2, u1_3, u1_4, u1_5])), (a2, .inr (2, [.int x2_count, u2_1, .ref a5, .ref a4, .ref a6, u2_5])), (a3, .inl (g.2.1 0, 144, .inl y3_namesOn)), (a4, .inl (g.2.1 0, 8, .inl y4_direction)), (a5, .inl (g.2.1 0, 8, .inl y5_home)), (a6, .inl (g.2.1 0, 8, .inl y6_length))]
set_option maxRecDepth 20000 in
theorem c_X6_takeNames (l : Launch) (g : GE) (a0 a1 a2 a3 a4 a5 a6 : Nat) (sz : Nat) (u0_2 u0_4 u1_2 u1_3 u1_4 u1_5 u2_1 u2_5 : Value) (x1_rows : Int32) (x1_columns : Int32) (x2_count : Int32) (y3_namesOn : Nat → Int32) (y4_direction : Nat → Int32) (y5_home : Nat → Int32) (y6_length : Nat → Int32) (p1 : Int32)  (o_y3_namesOn : Nat → Int32) (o_y4_direction : Nat → Int32) (hf : f_X6_takeNames x1_rows x1_columns x2_count y3_namesOn y4_direction y5_home y6_length p1 = some (o_y3_namesOn, o_y4_direction)) : MI l g yX6_takeNames wsX6_takeNames 3 75 [.ref a0, .int p1] (w_X6_takeNames g a0 a1 a2 a3 a4 a5 a6 u0_2 u0_4 u1_2 u1_3 u1_4 u1_5 u2_1 u2_5 x1_rows x1_columns x2_count y3_namesOn y4_direction y5_home y6_length) sz none (w_X6_takeNames g a0 a1 a2 a3 a4 a5 a6 u0_2 u0_4 u1_2 u1_3 u1_4 u1_5 u2_1 u2_5 x1_rows x1_columns x2_count o_y3_namesOn o_y4_direction y5_home y6_length) := by
  refine MI.start (cc := cX6_takeNames) (maxL := 3) (ret := none) rfl rfl (nle rfl) ?_
  intro p e s m args below meth c A ls Q hQ hexec hb hr hts hown hlocks hml hA hP hD hG hS hl
  unfold f_X6_takeNames at hf
  have hWX1 : ∀ w ∈ wsX10, w.before args s = true := fun w h => hts w (List.mem_cons_of_mem _ (List.mem_append_right _ h))
  have hWX2 : ∀ w ∈ wsX20, w.before args s = true := fun w h => hts w (List.mem_cons_of_mem _ (List.mem_append_left _ (List.mem_append_right _ h)))
  have hWX6 : ∀ w ∈ wsX60, w.before args s = true := fun w h => hts w (List.mem_cons_of_mem _ (List.mem_append_left _ (List.mem_append_left _ (List.mem_append_right _ h))))
  have hS : va_S A s.heap s.heap [] := hS
  refine lv_iconst (pc := 0) hexec hb dX6_takeNames_0 ki_0 ?_
  refine lv_istore_n (pc := 1) hexec hb dX6_takeNames_1 rfl hl (nle rfl) rfl (fun ls (hl : lv_has ls 3 [(2, .int 0), (0, .ref a0), (1, .int p1)]) => ?_)
  obtain ⟨l2, el2, hf⟩ := bvf3 hf
  obtain ⟨y3_namesOn_2, y4_direction_2, hz, hf⟩ := bd2_e hf
  have hE2 : ∀ (H : Heap) (locs : List Loc) (ls : Array Slot), va_P g.1 vwCl (w_X6_takeNames g a0 a1 a2 a3 a4 a5 a6 u0_2 u0_4 u1_2 u1_3 u1_4 u1_5 u2_1 u2_5 x1_rows x1_columns x2_count y3_namesOn_2 y4_direction_2 y5_home y6_length) H → va_D A (w_X6_takeNames g a0 a1 a2 a3 a4 a5 a6 u0_2 u0_4 u1_2 u1_3 u1_4 u1_5 u2_1 u2_5 x1_rows x1_columns x2_count y3_namesOn_2 y4_direction_2 y5_home y6_length) → va_S A s.heap H locs → lv_has ls 3 [] → W p l e (RM 3 75) s m args below meth c H locs 0 0 Q (F0 m 33 ls []) := by
    intro H locs ls hP hD hS hl
    cases hf
    exact ke_v hQ hexec hb hr hP hD hS dX6_takeNames_33 hlocks
  obtain ⟨n, hz⟩ := lq3_e hz
  have hL2 : ∀ (n : Nat) (v2 : Int32) (y3_namesOn_1 : Nat → Int32) (y4_direction_1 : Nat → Int32) (H : Heap) (locs : List Loc) (ls : Array Slot), it3 l2 n v2 y3_namesOn_1 y4_direction_1 = some (y3_namesOn_2, y4_direction_2) → va_P g.1 vwCl (w_X6_takeNames g a0 a1 a2 a3 a4 a5 a6 u0_2 u0_4 u1_2 u1_3 u1_4 u1_5 u2_1 u2_5 x1_rows x1_columns x2_count y3_namesOn_1 y4_direction_1 y5_home y6_length) H → va_D A (w_X6_takeNames g a0 a1 a2 a3 a4 a5 a6 u0_2 u0_4 u1_2 u1_3 u1_4 u1_5 u2_1 u2_5 x1_rows x1_columns x2_count y3_namesOn_1 y4_direction_1 y5_home y6_length) → va_S A s.heap H locs → lv_has ls 3 [(0, .ref a0), (1, .int p1), (2, .int v2)] → W p l e (RM 3 75) s m args below meth c H locs 0 0 Q (F0 m 2 ls []) := by
    intro n
    induction n with
    | zero =>
      intro v2 y3_namesOn_1 y4_direction_1 H locs ls hf hP hD hS hl
      exact it3_0 hf
    | succ n2 ih2 =>
      intro v2 y3_namesOn_1 y4_direction_1 H locs ls hf hP hD hS hl
      obtain ⟨q2, hf, hk2⟩ := it3_e hf
      have hf := (el2 v2 y3_namesOn_1 y4_direction_1).symm.trans hf
      refine lv_iload_n (pc := 2) hexec hb dX6_takeNames_2 rfl (lv_at hl 2 rfl) ?_
      refine lv_aload_n (pc := 3) hexec hb dX6_takeNames_3 rfl (lv_at hl 0 rfl) ?_
      refine kg_get (pc := 4) hexec hb (own := RX6) hWX6 hown hG hP 0 rfl rfl 1 (nle rfl) (hts _ (List.mem_cons_of_mem _ (List.mem_append_left _ (List.mem_append_left _ (List.mem_append_left _ (List.mem_append_left _ (List.mem_of_getElem? (i := 0) rfl))))))) rfl rfl dX6_takeNames_4 ?_
      refine kg_getN (pc := 7) hexec hb (own := RX6) hWX2 hown hG hP 2 rfl rfl 0 (nle rfl) 8 rfl rfl rfl dX6_takeNames_7 ?_
      refine ki_ge (pc := 10) hexec hb dX6_takeNames_10 (tgt := 33) rfl hf (fun hc hf => ?_) (fun hc hf => ?_)
      · cases sr3 hf hk2
        exact hE2 _ _ _ hP hD hS (lv_sub hl [] rfl)
      · refine lv_iload_n (pc := 13) hexec hb dX6_takeNames_13 rfl (lv_at hl 1 rfl) ?_
        refine lv_iload_n (pc := 14) hexec hb dX6_takeNames_14 rfl (lv_at hl 2 rfl) ?_
        refine lv_ishr (pc := 15) hexec hb dX6_takeNames_15 ?_
        refine lv_iconst (pc := 16) hexec hb dX6_takeNames_16 ki_1 ?_
        refine lv_iand (pc := 17) hexec hb dX6_takeNames_17 ?_
        refine lv_iconst (pc := 18) hexec hb dX6_takeNames_18 ki_1 ?_
        obtain ⟨j27, ej27, hf⟩ := bvf2 hf
        have hj27 : ∀ (y3_namesOn_3 : Nat → Int32) (y4_direction_3 : Nat → Int32) (H : Heap) (locs : List Loc) (ls : Array Slot), j27 y3_namesOn_3 y4_direction_3 = some q2 → va_P g.1 vwCl (w_X6_takeNames g a0 a1 a2 a3 a4 a5 a6 u0_2 u0_4 u1_2 u1_3 u1_4 u1_5 u2_1 u2_5 x1_rows x1_columns x2_count y3_namesOn_3 y4_direction_3 y5_home y6_length) H → va_D A (w_X6_takeNames g a0 a1 a2 a3 a4 a5 a6 u0_2 u0_4 u1_2 u1_3 u1_4 u1_5 u2_1 u2_5 x1_rows x1_columns x2_count y3_namesOn_3 y4_direction_3 y5_home y6_length) → va_S A s.heap H locs → lv_has ls 3 [(0, .ref a0), (1, .int p1), (2, .int v2)] → W p l e (RM 3 75) s m args below meth c H locs 0 0 Q (F0 m 27 ls []) := by
          intro y3_namesOn_3 y4_direction_3 H locs ls hf hP hD hS hl
          have hf := (ej27 y3_namesOn_3 y4_direction_3).symm.trans hf
          obtain ⟨v2_1, ev2_1, hf⟩ := bv_e hf
          refine k_iinc (pc := 27) hexec hb dX6_takeNames_27 kq_1 hl (k := 2) rfl ev2_1 (nle rfl) rfl (fun ls (hl : lv_has ls 3 [(2, .int v2_1), (0, .ref a0), (1, .int p1)]) => ?_)
          refine lv_goto (pc := 30) hexec hb dX6_takeNames_30 (tgt := 2) rfl ?_
          exact ih2 _ _ _ _ _ _ (sl3 hf hk2) hP hD hS (lv_sub hl [1, 2, 0] rfl)
        refine ki_ne (pc := 19) hexec hb dX6_takeNames_19 (tgt := 27) rfl hf (fun hc hf => ?_) (fun hc hf => ?_)
        · exact hj27 _ _ _ _ _ hf hP hD hS (lv_sub hl [0, 1, 2] rfl)
        · refine lv_aload_n (pc := 22) hexec hb dX6_takeNames_22 rfl (lv_at hl 0 rfl) ?_
          refine lv_iload_n (pc := 23) hexec hb dX6_takeNames_23 rfl (lv_at hl 2 rfl) ?_
          obtain ⟨y3_namesOn_4, y4_direction_4, hc, hf⟩ := bd2_e hf
          refine kVp (pc := 24) (S := ⟨hexec, hb, hml, hown, hts⟩) hP hD hG hA hS [0, 1, 2, 3, 4, 5, 6] [] [0, 1, 2, 3, 4, 5, 6] (w2 := (w_X6_takeNames g a0 a1 a2 a3 a4 a5 a6 u0_2 u0_4 u1_2 u1_3 u1_4 u1_5 u2_1 u2_5 x1_rows x1_columns x2_count y3_namesOn_4 y4_direction_4 y5_home y6_length)) rfl rfl rfl rfl rfl rfl (by decide) (c_X6_takeName l g a0 a1 a2 a3 a4 a5 a6 _ u0_2 u0_4 u1_2 u1_3 u1_4 u1_5 u2_1 u2_5 x1_rows x1_columns x2_count y3_namesOn_1 y4_direction_1 y5_home y6_length v2 y3_namesOn_4 y4_direction_4 hc) gX6_takeNames_X6_takeName rfl hv_X6_takeName ⟨nle rfl, nle rfl⟩ 6 0 rfl rfl rfl (rest := []) rfl rfl hl.1 (nle rfl) dX6_takeNames_24 (fun H locs hP hD hS => ?_)
          exact hj27 _ _ _ _ _ hf hP hD hS (lv_sub hl [0, 1, 2] rfl)
  exact hL2 n _ _ _ _ _ _ hz hP hD hS (lv_sub hl [1, 2, 0] rfl)
