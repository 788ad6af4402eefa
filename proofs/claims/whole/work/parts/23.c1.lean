abbrev w_X1_beginSea (g : GE) (a0 a1 a2 a3 : Nat) (x0_rows : Int32) (x0_columns : Int32) (x0_rivers : Int32) (y1_land : Nat → Int32) (y2_riverOf : Nat → Int32) (y3_riverPlace : Nat → Int32) : va_W := [(a0, .inr (1, [.int x0_rows, .int x0_columns, .int x0_rivers, .ref a1, .ref a2, .ref a3])), (a1, .inl (g.2.1 1, 144, .inl y1_land)), (a2, .inl (g.2.1 0, 144, .inl y2_riverOf)), (a3, .inl (g.2.1 0, 144, .inl y3_riverPlace))]
set_option maxRecDepth 20000 in
theorem c_X1_beginSea (l : Launch) (g : GE) (a0 a1 a2 a3 : Nat) (sz : Nat) (x0_rows : Int32) (x0_columns : Int32) (x0_rivers : Int32) (y1_land : Nat → Int32) (y2_riverOf : Nat → Int32) (y3_riverPlace : Nat → Int32) (p1 : Int32) (p2 : Int32)  (o_x0_rows : Int32) (o_x0_columns : Int32) (o_x0_rivers : Int32) (o_y1_land : Nat → Int32) (o_y2_riverOf : Nat → Int32) (o_y3_riverPlace : Nat → Int32) (hf : f_X1_beginSea x0_rows x0_columns x0_rivers y1_land y2_riverOf y3_riverPlace p1 p2 = some (o_x0_rows, o_x0_columns, o_x0_rivers, o_y1_land, o_y2_riverOf, o_y3_riverPlace)) : MI l g yX1_beginSea wsX1_beginSea 1 24 [.ref a0, .int p1, .int p2] (w_X1_beginSea g a0 a1 a2 a3 x0_rows x0_columns x0_rivers y1_land y2_riverOf y3_riverPlace) sz none (w_X1_beginSea g a0 a1 a2 a3 o_x0_rows o_x0_columns o_x0_rivers o_y1_land o_y2_riverOf o_y3_riverPlace) := by
  refine MI.start (cc := cX1_beginSea) (maxL := 4) (ret := none) rfl rfl (nle rfl) ?_
  intro p e s m args below meth c A ls Q hQ hexec hb hr hts hown hlocks hml hA hP hD hG hS hl
  unfold f_X1_beginSea at hf
  have hWX1 : ∀ w ∈ wsX10, w.before args s = true := fun w h => hts w (List.mem_cons_of_mem _ (List.mem_append_right _ h))
  have hS : va_S A s.heap s.heap [] := hS
  refine lv_aload_n (pc := 0) hexec hb dX1_beginSea_0 rfl (lv_at hl 0 rfl) ?_
  refine lv_iload_n (pc := 1) hexec hb dX1_beginSea_1 rfl (lv_at hl 1 rfl) ?_
  refine kp_put (pc := 2) hexec hb (own := RX1) hWX1 tyX1 tyX1_ok nmX1 hown hG hP hD hS 0 rfl rfl 0 (nle rfl) (hts _ (List.mem_cons_of_mem _ (List.mem_append_left _ (List.mem_of_getElem? (i := 0) rfl)))) rfl rfl rfl rfl (nle rfl) dX1_beginSea_2 (fun H locs (hP : va_P g.1 vwCl (w_X1_beginSea g a0 a1 a2 a3 p1 x0_columns x0_rivers y1_land y2_riverOf y3_riverPlace) H) (hD : va_D A (w_X1_beginSea g a0 a1 a2 a3 p1 x0_columns x0_rivers y1_land y2_riverOf y3_riverPlace)) hS => ?_)
  refine lv_aload_n (pc := 5) hexec hb dX1_beginSea_5 rfl (lv_at hl 0 rfl) ?_
  refine lv_iload_n (pc := 6) hexec hb dX1_beginSea_6 rfl (lv_at hl 2 rfl) ?_
  refine kp_put (pc := 7) hexec hb (own := RX1) hWX1 tyX1 tyX1_ok nmX1 hown hG hP hD hS 0 rfl rfl 1 (nle rfl) (hts _ (List.mem_cons_of_mem _ (List.mem_append_left _ (List.mem_of_getElem? (i := 1) rfl)))) rfl rfl rfl rfl (nle rfl) dX1_beginSea_7 (fun H locs (hP : va_P g.1 vwCl (w_X1_beginSea g a0 a1 a2 a3 p1 p2 x0_rivers y1_land y2_riverOf y3_riverPlace) H) (hD : va_D A (w_X1_beginSea g a0 a1 a2 a3 p1 p2 x0_rivers y1_land y2_riverOf y3_riverPlace)) hS => ?_)
  refine lv_aload_n (pc := 10) hexec hb dX1_beginSea_10 rfl (lv_at hl 0 rfl) ?_
  refine lv_iconst (pc := 11) hexec hb dX1_beginSea_11 ki_0 ?_
  refine kp_put (pc := 12) hexec hb (own := RX1) hWX1 tyX1 tyX1_ok nmX1 hown hG hP hD hS 0 rfl rfl 2 (nle rfl) (hts _ (List.mem_cons_of_mem _ (List.mem_append_left _ (List.mem_of_getElem? (i := 2) rfl)))) rfl rfl rfl rfl (nle rfl) dX1_beginSea_12 (fun H locs (hP : va_P g.1 vwCl (w_X1_beginSea g a0 a1 a2 a3 p1 p2 0 y1_land y2_riverOf y3_riverPlace) H) (hD : va_D A (w_X1_beginSea g a0 a1 a2 a3 p1 p2 0 y1_land y2_riverOf y3_riverPlace)) hS => ?_)
  refine lv_iconst (pc := 15) hexec hb dX1_beginSea_15 ki_0 ?_
  refine lv_istore_n (pc := 16) hexec hb dX1_beginSea_16 rfl hl (nle rfl) rfl (fun ls (hl : lv_has ls 4 [(3, .int 0), (0, .ref a0), (1, .int p1), (2, .int p2)]) => ?_)
  obtain ⟨l17, el17, hf⟩ := bvf4 hf
  obtain ⟨y1_land_2, y2_riverOf_2, y3_riverPlace_2, hz, hf⟩ := bd3_e hf
  have hE17 : ∀ (H : Heap) (locs : List Loc) (ls : Array Slot), va_P g.1 vwCl (w_X1_beginSea g a0 a1 a2 a3 p1 p2 0 y1_land_2 y2_riverOf_2 y3_riverPlace_2) H → va_D A (w_X1_beginSea g a0 a1 a2 a3 p1 p2 0 y1_land_2 y2_riverOf_2 y3_riverPlace_2) → va_S A s.heap H locs → lv_has ls 4 [] → W p l e (RM 1 24) s m args below meth c H locs 0 0 Q (F0 m 51 ls []) := by
    intro H locs ls hP hD hS hl
    cases hf
    exact ke_v hQ hexec hb hr hP hD hS dX1_beginSea_51 hlocks
  obtain ⟨n, hz⟩ := lq4_e hz
  have hL17 : ∀ (n : Nat) (v3 : Int32) (y1_land_1 : Nat → Int32) (y2_riverOf_1 : Nat → Int32) (y3_riverPlace_1 : Nat → Int32) (H : Heap) (locs : List Loc) (ls : Array Slot), it4 l17 n v3 y1_land_1 y2_riverOf_1 y3_riverPlace_1 = some (y1_land_2, y2_riverOf_2, y3_riverPlace_2) → va_P g.1 vwCl (w_X1_beginSea g a0 a1 a2 a3 p1 p2 0 y1_land_1 y2_riverOf_1 y3_riverPlace_1) H → va_D A (w_X1_beginSea g a0 a1 a2 a3 p1 p2 0 y1_land_1 y2_riverOf_1 y3_riverPlace_1) → va_S A s.heap H locs → lv_has ls 4 [(0, .ref a0), (3, .int v3)] → W p l e (RM 1 24) s m args below meth c H locs 0 0 Q (F0 m 17 ls []) := by
    intro n
    induction n with
    | zero =>
      intro v3 y1_land_1 y2_riverOf_1 y3_riverPlace_1 H locs ls hf hP hD hS hl
      exact it4_0 hf
    | succ n17 ih17 =>
      intro v3 y1_land_1 y2_riverOf_1 y3_riverPlace_1 H locs ls hf hP hD hS hl
      obtain ⟨q17, hf, hk17⟩ := it4_e hf
      have hf := (el17 v3 y1_land_1 y2_riverOf_1 y3_riverPlace_1).symm.trans hf
      refine lv_iload_n (pc := 17) hexec hb dX1_beginSea_17 rfl (lv_at hl 1 rfl) ?_
      refine lv_sipush (pc := 18) hexec hb dX1_beginSea_18 ks_144 ?_
      refine ki_ge (pc := 21) hexec hb dX1_beginSea_21 (tgt := 51) rfl hf (fun hc hf => ?_) (fun hc hf => ?_)
      · cases sr4 hf hk17
        exact hE17 _ _ _ hP hD hS (lv_sub hl [] rfl)
      · refine lv_aload_n (pc := 24) hexec hb dX1_beginSea_24 rfl (lv_at hl 0 rfl) ?_
        refine kg_get (pc := 25) hexec hb (own := RX1) hWX1 hown hG hP 0 rfl rfl 3 (nle rfl) (hts _ (List.mem_cons_of_mem _ (List.mem_append_left _ (List.mem_of_getElem? (i := 3) rfl)))) rfl rfl dX1_beginSea_25 ?_
        refine lv_iload_n (pc := 28) hexec hb dX1_beginSea_28 rfl (lv_at hl 1 rfl) ?_
        refine lv_iconst (pc := 29) hexec hb dX1_beginSea_29 ki_0 ?_
        refine kw_zast (pc := 30) hexec hb hG hP hD hS 1 rfl hf dX1_beginSea_30 (fun y1_land_3 H locs hf (hP : va_P g.1 vwCl (w_X1_beginSea g a0 a1 a2 a3 p1 p2 0 y1_land_3 y2_riverOf_1 y3_riverPlace_1) H) (hD : va_D A (w_X1_beginSea g a0 a1 a2 a3 p1 p2 0 y1_land_3 y2_riverOf_1 y3_riverPlace_1)) hS => ?_)
        refine lv_aload_n (pc := 31) hexec hb dX1_beginSea_31 rfl (lv_at hl 0 rfl) ?_
        refine kg_get (pc := 32) hexec hb (own := RX1) hWX1 hown hG hP 0 rfl rfl 4 (nle rfl) (hts _ (List.mem_cons_of_mem _ (List.mem_append_left _ (List.mem_of_getElem? (i := 4) rfl)))) rfl rfl dX1_beginSea_32 ?_
        refine lv_iload_n (pc := 35) hexec hb dX1_beginSea_35 rfl (lv_at hl 1 rfl) ?_
        refine lv_iconst (pc := 36) hexec hb dX1_beginSea_36 ki_m1 ?_
        refine kw_iast (pc := 37) hexec hb hG hP hD hS 2 rfl hf dX1_beginSea_37 (fun y2_riverOf_3 H locs hf (hP : va_P g.1 vwCl (w_X1_beginSea g a0 a1 a2 a3 p1 p2 0 y1_land_3 y2_riverOf_3 y3_riverPlace_1) H) (hD : va_D A (w_X1_beginSea g a0 a1 a2 a3 p1 p2 0 y1_land_3 y2_riverOf_3 y3_riverPlace_1)) hS => ?_)
        refine lv_aload_n (pc := 38) hexec hb dX1_beginSea_38 rfl (lv_at hl 0 rfl) ?_
        refine kg_get (pc := 39) hexec hb (own := RX1) hWX1 hown hG hP 0 rfl rfl 5 (nle rfl) (hts _ (List.mem_cons_of_mem _ (List.mem_append_left _ (List.mem_of_getElem? (i := 5) rfl)))) rfl rfl dX1_beginSea_39 ?_
        refine lv_iload_n (pc := 42) hexec hb dX1_beginSea_42 rfl (lv_at hl 1 rfl) ?_
        refine lv_iconst (pc := 43) hexec hb dX1_beginSea_43 ki_m1 ?_
        refine kw_iast (pc := 44) hexec hb hG hP hD hS 3 rfl hf dX1_beginSea_44 (fun y3_riverPlace_3 H locs hf (hP : va_P g.1 vwCl (w_X1_beginSea g a0 a1 a2 a3 p1 p2 0 y1_land_3 y2_riverOf_3 y3_riverPlace_3) H) (hD : va_D A (w_X1_beginSea g a0 a1 a2 a3 p1 p2 0 y1_land_3 y2_riverOf_3 y3_riverPlace_3)) hS => ?_)
        obtain ⟨v3_1, ev3_1, hf⟩ := bv_e hf
        refine k_iinc (pc := 45) hexec hb dX1_beginSea_45 kq_1 hl (k := 1) rfl ev3_1 (nle rfl) rfl (fun ls (hl : lv_has ls 4 [(3, .int v3_1), (0, .ref a0)]) => ?_)
        refine lv_goto (pc := 48) hexec hb dX1_beginSea_48 (tgt := 17) rfl ?_
        exact ih17 _ _ _ _ _ _ _ (sl4 hf hk17) hP hD hS (lv_sub hl [1, 0] rfl)
  exact hL17 n _ _ _ _ _ _ _ hz hP hD hS (lv_sub hl [1, 0] rfl)
abbrev w_X1_copyFrom (g : GE) (a0 a1 a2 a3 a4 a5 a6 a7 : Nat) (x0_rows : Int32) (x0_columns : Int32) (x0_rivers : Int32) (y1_land : Nat → Int32) (y2_riverOf : Nat → Int32) (y3_riverPlace : Nat → Int32) (x4_rows : Int32) (x4_columns : Int32) (x4_rivers : Int32) (y5_land : Nat → Int32) (y6_riverOf : Nat → Int32) (y7_riverPlace : Nat → Int32) : va_W := [(a0, .inr (1, [.int x0_rows, .int x0_columns, .int x0_rivers, .ref a1, .ref a2, .ref a3])), (a1, .inl (g.2.1 1, 144, .inl y1_land)), (a2, .inl (g.2.1 0, 144, .inl y2_riverOf)), (a3, .inl (g.2.1 0, 144, .inl y3_riverPlace)), (a4, .inr (1, [.int x4_rows, .int x4_columns, .int x4_rivers, .ref a5, .ref a6, .ref a7])), (a5, .inl (g.2.1 1, 144, .inl y5_land)), (a6, .inl (g.2.1 0, 144, .inl y6_riverOf)), (a7, .inl (g.2.1 0, 144, .inl y7_riverPlace))]
set_option maxRecDepth 20000 in
theorem c_X1_copyFrom (l : Launch) (g : GE) (a0 a1 a2 a3 a4 a5 a6 a7 : Nat) (sz : Nat) (x0_rows : Int32) (x0_columns : Int32) (x0_rivers : Int32) (y1_land : Nat → Int32) (y2_riverOf : Nat → Int32) (y3_riverPlace : Nat → Int32) (x4_rows : Int32) (x4_columns : Int32) (x4_rivers : Int32) (y5_land : Nat → Int32) (y6_riverOf : Nat → Int32) (y7_riverPlace : Nat → Int32)   (o_x0_rows : Int32) (o_x0_columns : Int32) (o_x0_rivers : Int32) (o_y1_land : Nat → Int32) (o_y2_riverOf : Nat → Int32) (o_y3_riverPlace : Nat → Int32) (hf : f_X1_copyFrom x0_rows x0_columns x0_rivers y1_land y2_riverOf y3_riverPlace x4_rows x4_columns x4_rivers y5_land y6_riverOf y7_riverPlace = some (o_x0_rows, o_x0_columns, o_x0_rivers, o_y1_land, o_y2_riverOf, o_y3_riverPlace)) : MI l g yX1_copyFrom wsX1_copyFrom 1 24 [.ref a0, .ref a4] (w_X1_copyFrom g a0 a1 a2 a3 a4 a5 a6 a7 x0_rows x0_columns x0_rivers y1_land y2_riverOf y3_riverPlace x4_rows x4_columns x4_rivers y5_land y6_riverOf y7_riverPlace) sz none (w_X1_copyFrom g a0 a1 a2 a3 a4 a5 a6 a7 o_x0_rows o_x0_columns o_x0_rivers o_y1_land o_y2_riverOf o_y3_riverPlace x4_rows x4_columns x4_rivers y5_land y6_riverOf y7_riverPlace) := by
  refine MI.start (cc := cX1_copyFrom) (maxL := 3) (ret := none) rfl rfl (nle rfl) ?_
  intro p e s m args below meth c A ls Q hQ hexec hb hr hts hown hlocks hml hA hP hD hG hS hl
  unfold f_X1_copyFrom at hf
  have hWX1 : ∀ w ∈ wsX10, w.before args s = true := fun w h => hts w (List.mem_cons_of_mem _ (List.mem_append_right _ h))
  have hS : va_S A s.heap s.heap [] := hS
  refine lv_aload_n (pc := 0) hexec hb dX1_copyFrom_0 rfl (lv_at hl 0 rfl) ?_
  refine lv_aload_n (pc := 1) hexec hb dX1_copyFrom_1 rfl (lv_at hl 1 rfl) ?_
  refine kg_get (pc := 2) hexec hb (own := RX1) hWX1 hown hG hP 4 rfl rfl 0 (nle rfl) (hts _ (List.mem_cons_of_mem _ (List.mem_append_left _ (List.mem_of_getElem? (i := 0) rfl)))) rfl rfl dX1_copyFrom_2 ?_
  refine kp_put (pc := 5) hexec hb (own := RX1) hWX1 tyX1 tyX1_ok nmX1 hown hG hP hD hS 0 rfl rfl 0 (nle rfl) (hts _ (List.mem_cons_of_mem _ (List.mem_append_left _ (List.mem_of_getElem? (i := 0) rfl)))) rfl rfl rfl rfl (nle rfl) dX1_copyFrom_5 (fun H locs (hP : va_P g.1 vwCl (w_X1_copyFrom g a0 a1 a2 a3 a4 a5 a6 a7 x4_rows x0_columns x0_rivers y1_land y2_riverOf y3_riverPlace x4_rows x4_columns x4_rivers y5_land y6_riverOf y7_riverPlace) H) (hD : va_D A (w_X1_copyFrom g a0 a1 a2 a3 a4 a5 a6 a7 x4_rows x0_columns x0_rivers y1_land y2_riverOf y3_riverPlace x4_rows x4_columns x4_rivers y5_land y6_riverOf y7_riverPlace)) hS => ?_)
  refine lv_aload_n (pc := 8) hexec hb dX1_copyFrom_8 rfl (lv_at hl 0 rfl) ?_
  refine lv_aload_n (pc := 9) hexec hb dX1_copyFrom_9 rfl (lv_at hl 1 rfl) ?_
  refine kg_get (pc := 10) hexec hb (own := RX1) hWX1 hown hG hP 4 rfl rfl 1 (nle rfl) (hts _ (List.mem_cons_of_mem _ (List.mem_append_left _ (List.mem_of_getElem? (i := 1) rfl)))) rfl rfl dX1_copyFrom_10 ?_
  refine kp_put (pc := 13) hexec hb (own := RX1) hWX1 tyX1 tyX1_ok nmX1 hown hG hP hD hS 0 rfl rfl 1 (nle rfl) (hts _ (List.mem_cons_of_mem _ (List.mem_append_left _ (List.mem_of_getElem? (i := 1) rfl)))) rfl rfl rfl rfl (nle rfl) dX1_copyFrom_13 (fun H locs (hP : va_P g.1 vwCl (w_X1_copyFrom g a0 a1 a2 a3 a4 a5 a6 a7 x4_rows x4_columns x0_rivers y1_land y2_riverOf y3_riverPlace x4_rows x4_columns x4_rivers y5_land y6_riverOf y7_riverPlace) H) (hD : va_D A (w_X1_copyFrom g a0 a1 a2 a3 a4 a5 a6 a7 x4_rows x4_columns x0_rivers y1_land y2_riverOf y3_riverPlace x4_rows x4_columns x4_rivers y5_land y6_riverOf y7_riverPlace)) hS => ?_)
  refine lv_aload_n (pc := 16) hexec hb dX1_copyFrom_16 rfl (lv_at hl 0 rfl) ?_
  refine lv_aload_n (pc := 17) hexec hb dX1_copyFrom_17 rfl (lv_at hl 1 rfl) ?_
  refine kg_get (pc := 18) hexec hb (own := RX1) hWX1 hown hG hP 4 rfl rfl 2 (nle rfl) (hts _ (List.mem_cons_of_mem _ (List.mem_append_left _ (List.mem_of_getElem? (i := 2) rfl)))) rfl rfl dX1_copyFrom_18 ?_
  refine kp_put (pc := 21) hexec hb (own := RX1) hWX1 tyX1 tyX1_ok nmX1 hown hG hP hD hS 0 rfl rfl 2 (nle rfl) (hts _ (List.mem_cons_of_mem _ (List.mem_append_left _ (List.mem_of_getElem? (i := 2) rfl)))) rfl rfl rfl rfl (nle rfl) dX1_copyFrom_21 (fun H locs (hP : va_P g.1 vwCl (w_X1_copyFrom g a0 a1 a2 a3 a4 a5 a6 a7 x4_rows x4_columns x4_rivers y1_land y2_riverOf y3_riverPlace x4_rows x4_columns x4_rivers y5_land y6_riverOf y7_riverPlace) H) (hD : va_D A (w_X1_copyFrom g a0 a1 a2 a3 a4 a5 a6 a7 x4_rows x4_columns x4_rivers y1_land y2_riverOf y3_riverPlace x4_rows x4_columns x4_rivers y5_land y6_riverOf y7_riverPlace)) hS => ?_)
  refine lv_iconst (pc := 24) hexec hb dX1_copyFrom_24 ki_0 ?_
  refine lv_istore_n (pc := 25) hexec hb dX1_copyFrom_25 rfl hl (nle rfl) rfl (fun ls (hl : lv_has ls 3 [(2, .int 0), (0, .ref a0), (1, .ref a4)]) => ?_)
  obtain ⟨l26, el26, hf⟩ := bvf4 hf
  obtain ⟨y1_land_2, y2_riverOf_2, y3_riverPlace_2, hz, hf⟩ := bd3_e hf
  have hE26 : ∀ (H : Heap) (locs : List Loc) (ls : Array Slot), va_P g.1 vwCl (w_X1_copyFrom g a0 a1 a2 a3 a4 a5 a6 a7 x4_rows x4_columns x4_rivers y1_land_2 y2_riverOf_2 y3_riverPlace_2 x4_rows x4_columns x4_rivers y5_land y6_riverOf y7_riverPlace) H → va_D A (w_X1_copyFrom g a0 a1 a2 a3 a4 a5 a6 a7 x4_rows x4_columns x4_rivers y1_land_2 y2_riverOf_2 y3_riverPlace_2 x4_rows x4_columns x4_rivers y5_land y6_riverOf y7_riverPlace) → va_S A s.heap H locs → lv_has ls 3 [] → W p l e (RM 1 24) s m args below meth c H locs 0 0 Q (F0 m 75 ls []) := by
    intro H locs ls hP hD hS hl
    cases hf
    exact ke_v hQ hexec hb hr hP hD hS dX1_copyFrom_75 hlocks
  obtain ⟨n, hz⟩ := lq4_e hz
  have hL26 : ∀ (n : Nat) (v2 : Int32) (y1_land_1 : Nat → Int32) (y2_riverOf_1 : Nat → Int32) (y3_riverPlace_1 : Nat → Int32) (H : Heap) (locs : List Loc) (ls : Array Slot), it4 l26 n v2 y1_land_1 y2_riverOf_1 y3_riverPlace_1 = some (y1_land_2, y2_riverOf_2, y3_riverPlace_2) → va_P g.1 vwCl (w_X1_copyFrom g a0 a1 a2 a3 a4 a5 a6 a7 x4_rows x4_columns x4_rivers y1_land_1 y2_riverOf_1 y3_riverPlace_1 x4_rows x4_columns x4_rivers y5_land y6_riverOf y7_riverPlace) H → va_D A (w_X1_copyFrom g a0 a1 a2 a3 a4 a5 a6 a7 x4_rows x4_columns x4_rivers y1_land_1 y2_riverOf_1 y3_riverPlace_1 x4_rows x4_columns x4_rivers y5_land y6_riverOf y7_riverPlace) → va_S A s.heap H locs → lv_has ls 3 [(0, .ref a0), (1, .ref a4), (2, .int v2)] → W p l e (RM 1 24) s m args below meth c H locs 0 0 Q (F0 m 26 ls []) := by
    intro n
    induction n with
    | zero =>
      intro v2 y1_land_1 y2_riverOf_1 y3_riverPlace_1 H locs ls hf hP hD hS hl
      exact it4_0 hf
    | succ n26 ih26 =>
      intro v2 y1_land_1 y2_riverOf_1 y3_riverPlace_1 H locs ls hf hP hD hS hl
      obtain ⟨q26, hf, hk26⟩ := it4_e hf
      have hf := (el26 v2 y1_land_1 y2_riverOf_1 y3_riverPlace_1).symm.trans hf
      refine lv_iload_n (pc := 26) hexec hb dX1_copyFrom_26 rfl (lv_at hl 2 rfl) ?_
      refine lv_sipush (pc := 27) hexec hb dX1_copyFrom_27 ks_144 ?_
      refine ki_ge (pc := 30) hexec hb dX1_copyFrom_30 (tgt := 75) rfl hf (fun hc hf => ?_) (fun hc hf => ?_)
      · cases sr4 hf hk26
        exact hE26 _ _ _ hP hD hS (lv_sub hl [] rfl)
      · refine lv_aload_n (pc := 33) hexec hb dX1_copyFrom_33 rfl (lv_at hl 0 rfl) ?_
        refine kg_get (pc := 34) hexec hb (own := RX1) hWX1 hown hG hP 0 rfl rfl 3 (nle rfl) (hts _ (List.mem_cons_of_mem _ (List.mem_append_left _ (List.mem_of_getElem? (i := 3) rfl)))) rfl rfl dX1_copyFrom_34 ?_
        refine lv_iload_n (pc := 37) hexec hb dX1_copyFrom_37 rfl (lv_at hl 2 rfl) ?_
        refine lv_aload_n (pc := 38) hexec hb dX1_copyFrom_38 rfl (lv_at hl 1 rfl) ?_
        refine kg_get (pc := 39) hexec hb (own := RX1) hWX1 hown hG hP 4 rfl rfl 3 (nle rfl) (hts _ (List.mem_cons_of_mem _ (List.mem_append_left _ (List.mem_of_getElem? (i := 3) rfl)))) rfl rfl dX1_copyFrom_39 ?_
        refine lv_iload_n (pc := 42) hexec hb dX1_copyFrom_42 rfl (lv_at hl 2 rfl) ?_
        refine kr_zald (pc := 43) hexec hb hG hP 5 rfl hf dX1_copyFrom_43 (fun hf => ?_)
        refine kw_zast (pc := 44) hexec hb hG hP hD hS 1 rfl hf dX1_copyFrom_44 (fun y1_land_3 H locs hf (hP : va_P g.1 vwCl (w_X1_copyFrom g a0 a1 a2 a3 a4 a5 a6 a7 x4_rows x4_columns x4_rivers y1_land_3 y2_riverOf_1 y3_riverPlace_1 x4_rows x4_columns x4_rivers y5_land y6_riverOf y7_riverPlace) H) (hD : va_D A (w_X1_copyFrom g a0 a1 a2 a3 a4 a5 a6 a7 x4_rows x4_columns x4_rivers y1_land_3 y2_riverOf_1 y3_riverPlace_1 x4_rows x4_columns x4_rivers y5_land y6_riverOf y7_riverPlace)) hS => ?_)
        refine lv_aload_n (pc := 45) hexec hb dX1_copyFrom_45 rfl (lv_at hl 0 rfl) ?_
        refine kg_get (pc := 46) hexec hb (own := RX1) hWX1 hown hG hP 0 rfl rfl 4 (nle rfl) (hts _ (List.mem_cons_of_mem _ (List.mem_append_left _ (List.mem_of_getElem? (i := 4) rfl)))) rfl rfl dX1_copyFrom_46 ?_
        refine lv_iload_n (pc := 49) hexec hb dX1_copyFrom_49 rfl (lv_at hl 2 rfl) ?_
        refine lv_aload_n (pc := 50) hexec hb dX1_copyFrom_50 rfl (lv_at hl 1 rfl) ?_
        refine kg_get (pc := 51) hexec hb (own := RX1) hWX1 hown hG hP 4 rfl rfl 4 (nle rfl) (hts _ (List.mem_cons_of_mem _ (List.mem_append_left _ (List.mem_of_getElem? (i := 4) rfl)))) rfl rfl dX1_copyFrom_51 ?_
        refine lv_iload_n (pc := 54) hexec hb dX1_copyFrom_54 rfl (lv_at hl 2 rfl) ?_
        refine kr_iald (pc := 55) hexec hb hG hP 6 rfl hf dX1_copyFrom_55 (fun hf => ?_)
        refine kw_iast (pc := 56) hexec hb hG hP hD hS 2 rfl hf dX1_copyFrom_56 (fun y2_riverOf_3 H locs hf (hP : va_P g.1 vwCl (w_X1_copyFrom g a0 a1 a2 a3 a4 a5 a6 a7 x4_rows x4_columns x4_rivers y1_land_3 y2_riverOf_3 y3_riverPlace_1 x4_rows x4_columns x4_rivers y5_land y6_riverOf y7_riverPlace) H) (hD : va_D A (w_X1_copyFrom g a0 a1 a2 a3 a4 a5 a6 a7 x4_rows x4_columns x4_rivers y1_land_3 y2_riverOf_3 y3_riverPlace_1 x4_rows x4_columns x4_rivers y5_land y6_riverOf y7_riverPlace)) hS => ?_)
        refine lv_aload_n (pc := 57) hexec hb dX1_copyFrom_57 rfl (lv_at hl 0 rfl) ?_
        refine kg_get (pc := 58) hexec hb (own := RX1) hWX1 hown hG hP 0 rfl rfl 5 (nle rfl) (hts _ (List.mem_cons_of_mem _ (List.mem_append_left _ (List.mem_of_getElem? (i := 5) rfl)))) rfl rfl dX1_copyFrom_58 ?_
        refine lv_iload_n (pc := 61) hexec hb dX1_copyFrom_61 rfl (lv_at hl 2 rfl) ?_
        refine lv_aload_n (pc := 62) hexec hb dX1_copyFrom_62 rfl (lv_at hl 1 rfl) ?_
        refine kg_get (pc := 63) hexec hb (own := RX1) hWX1 hown hG hP 4 rfl rfl 5 (nle rfl) (hts _ (List.mem_cons_of_mem _ (List.mem_append_left _ (List.mem_of_getElem? (i := 5) rfl)))) rfl rfl dX1_copyFrom_63 ?_
        refine lv_iload_n (pc := 66) hexec hb dX1_copyFrom_66 rfl (lv_at hl 2 rfl) ?_
        refine kr_iald (pc := 67) hexec hb hG hP 7 rfl hf dX1_copyFrom_67 (fun hf => ?_)
        refine kw_iast (pc := 68) hexec hb hG hP hD hS 3 rfl hf dX1_copyFrom_68 (fun y3_riverPlace_3 H locs hf (hP : va_P g.1 vwCl (w_X1_copyFrom g a0 a1 a2 a3 a4 a5 a6 a7 x4_rows x4_columns x4_rivers y1_land_3 y2_riverOf_3 y3_riverPlace_3 x4_rows x4_columns x4_rivers y5_land y6_riverOf y7_riverPlace) H) (hD : va_D A (w_X1_copyFrom g a0 a1 a2 a3 a4 a5 a6 a7 x4_rows x4_columns x4_rivers y1_land_3 y2_riverOf_3 y3_riverPlace_3 x4_rows x4_columns x4_rivers y5_land y6_riverOf y7_riverPlace)) hS => ?_)
        obtain ⟨v2_1, ev2_1, hf⟩ := bv_e hf
        refine k_iinc (pc := 69) hexec hb dX1_copyFrom_69 kq_1 hl (k := 2) rfl ev2_1 (nle rfl) rfl (fun ls (hl : lv_has ls 3 [(2, .int v2_1), (0, .ref a0), (1, .ref a4)]) => ?_)
        refine lv_goto (pc := 72) hexec hb dX1_copyFrom_72 (tgt := 26) rfl ?_
        exact ih26 _ _ _ _ _ _ _ (sl4 hf hk26) hP hD hS (lv_sub hl [1, 2, 0] rfl)
  exact hL26 n _ _ _ _ _ _ _ hz hP hD hS (lv_sub hl [1, 2, 0] rfl)
abbrev w_X1_cells (g : GE) (a0 : Nat) (u0_2 u0_3 u0_4 u0_5 : Value) (x0_rows : Int32) (x0_columns : Int32) : va_W := [(a0, .inr (1, [.int x0_rows, .int x0_columns, u0_2, u0_3, u0_4, u0_5]))]
set_option maxRecDepth 20000 in
theorem c_X1_cells (l : Launch) (g : GE) (a0 : Nat) (sz : Nat) (u0_2 u0_3 u0_4 u0_5 : Value) (x0_rows : Int32) (x0_columns : Int32)   (r : Int32) (hf : f_X1_cells x0_rows x0_columns = some r) : MI l g yX1_cells wsX1_cells 1 24 [.ref a0] (w_X1_cells g a0 u0_2 u0_3 u0_4 u0_5 x0_rows x0_columns) sz (some (.int r)) (w_X1_cells g a0 u0_2 u0_3 u0_4 u0_5 x0_rows x0_columns) := by
  refine MI.start (cc := cX1_cells) (maxL := 1) (ret := (some .int)) rfl rfl (nle rfl) ?_
  intro p e s m args below meth c A ls Q hQ hexec hb hr hts hown hlocks hml hA hP hD hG hS hl
  unfold f_X1_cells at hf
  have hWX1 : ∀ w ∈ wsX10, w.before args s = true := fun w h => hts w (List.mem_cons_of_mem _ (List.mem_append_right _ h))
  have hS : va_S A s.heap s.heap [] := hS
  refine lv_aload_n (pc := 0) hexec hb dX1_cells_0 rfl (lv_at hl 0 rfl) ?_
  refine kg_get (pc := 1) hexec hb (own := RX1) hWX1 hown hG hP 0 rfl rfl 0 (nle rfl) (hts _ (List.mem_cons_of_mem _ (List.mem_append_left _ (List.mem_of_getElem? (i := 0) rfl)))) rfl rfl dX1_cells_1 ?_
  refine lv_aload_n (pc := 4) hexec hb dX1_cells_4 rfl (lv_at hl 0 rfl) ?_
  refine kg_get (pc := 5) hexec hb (own := RX1) hWX1 hown hG hP 0 rfl rfl 1 (nle rfl) (hts _ (List.mem_cons_of_mem _ (List.mem_append_left _ (List.mem_of_getElem? (i := 1) rfl)))) rfl rfl dX1_cells_5 ?_
  refine lv_imul (pc := 8) hexec hb dX1_cells_8 ?_
  cases hf
  exact ke_i hQ hexec hb hr hP hD hS dX1_cells_9 hlocks
abbrev w_X1_ahead (g : GE) (a0 : Nat) (u0_2 u0_3 u0_4 u0_5 : Value) (x0_rows : Int32) (x0_columns : Int32) : va_W := [(a0, .inr (1, [.int x0_rows, .int x0_columns, u0_2, u0_3, u0_4, u0_5]))]
set_option maxRecDepth 20000 in
theorem c_X1_ahead (l : Launch) (g : GE) (a0 : Nat) (sz : Nat) (u0_2 u0_3 u0_4 u0_5 : Value) (x0_rows : Int32) (x0_columns : Int32) (p1 : Int32) (p2 : Int32) (p3 : Int32)  (r : Int32) (hf : f_X1_ahead x0_rows x0_columns p1 p2 p3 = some r) : MI l g yX1_ahead wsX1_ahead 1 24 [.ref a0, .int p1, .int p2, .int p3] (w_X1_ahead g a0 u0_2 u0_3 u0_4 u0_5 x0_rows x0_columns) sz (some (.int r)) (w_X1_ahead g a0 u0_2 u0_3 u0_4 u0_5 x0_rows x0_columns) := by
  refine MI.start (cc := cX1_ahead) (maxL := 7) (ret := (some .int)) rfl rfl (nle rfl) ?_
  intro p e s m args below meth c A ls Q hQ hexec hb hr hts hown hlocks hml hA hP hD hG hS hl
  unfold f_X1_ahead at hf
  have hWX1 : ∀ w ∈ wsX10, w.before args s = true := fun w h => hts w (List.mem_cons_of_mem _ (List.mem_append_right _ h))
  have hS : va_S A s.heap s.heap [] := hS
  refine lv_iload_n (pc := 0) hexec hb dX1_ahead_0 rfl (lv_at hl 1 rfl) ?_
  refine kb_lt (pc := 1) hexec hb dX1_ahead_1 (tgt := 33) rfl hf (fun hc hf => ?_) (fun hc hf => ?_)
  · refine lv_iconst (pc := 33) hexec hb dX1_ahead_33 ki_m1 ?_
    cases hf
    exact ke_i hQ hexec hb hr hP hD hS dX1_ahead_34 hlocks
  · refine lv_iload_n (pc := 4) hexec hb dX1_ahead_4 rfl (lv_at hl 1 rfl) ?_
    refine lv_aload_n (pc := 5) hexec hb dX1_ahead_5 rfl (lv_at hl 0 rfl) ?_
    refine kg_get (pc := 6) hexec hb (own := RX1) hWX1 hown hG hP 0 rfl rfl 0 (nle rfl) (hts _ (List.mem_cons_of_mem _ (List.mem_append_left _ (List.mem_of_getElem? (i := 0) rfl)))) rfl rfl dX1_ahead_6 ?_
    refine lv_aload_n (pc := 9) hexec hb dX1_ahead_9 rfl (lv_at hl 0 rfl) ?_
    refine kg_get (pc := 10) hexec hb (own := RX1) hWX1 hown hG hP 0 rfl rfl 1 (nle rfl) (hts _ (List.mem_cons_of_mem _ (List.mem_append_left _ (List.mem_of_getElem? (i := 1) rfl)))) rfl rfl dX1_ahead_10 ?_
    refine lv_imul (pc := 13) hexec hb dX1_ahead_13 ?_
    refine ki_ge (pc := 14) hexec hb dX1_ahead_14 (tgt := 33) rfl hf (fun hc hf => ?_) (fun hc hf => ?_)
    · refine lv_iconst (pc := 33) hexec hb dX1_ahead_33 ki_m1 ?_
      cases hf
      exact ke_i hQ hexec hb hr hP hD hS dX1_ahead_34 hlocks
    · refine lv_iload_n (pc := 17) hexec hb dX1_ahead_17 rfl (lv_at hl 2 rfl) ?_
      refine kb_lt (pc := 18) hexec hb dX1_ahead_18 (tgt := 33) rfl hf (fun hc hf => ?_) (fun hc hf => ?_)
      · refine lv_iconst (pc := 33) hexec hb dX1_ahead_33 ki_m1 ?_
        cases hf
        exact ke_i hQ hexec hb hr hP hD hS dX1_ahead_34 hlocks
      · refine lv_iload_n (pc := 21) hexec hb dX1_ahead_21 rfl (lv_at hl 2 rfl) ?_
        refine lv_iconst (pc := 22) hexec hb dX1_ahead_22 ki_4 ?_
        refine ki_ge (pc := 23) hexec hb dX1_ahead_23 (tgt := 33) rfl hf (fun hc hf => ?_) (fun hc hf => ?_)
        · refine lv_iconst (pc := 33) hexec hb dX1_ahead_33 ki_m1 ?_
          cases hf
          exact ke_i hQ hexec hb hr hP hD hS dX1_ahead_34 hlocks
        · refine lv_aload_n (pc := 26) hexec hb dX1_ahead_26 rfl (lv_at hl 0 rfl) ?_
          refine kg_get (pc := 27) hexec hb (own := RX1) hWX1 hown hG hP 0 rfl rfl 1 (nle rfl) (hts _ (List.mem_cons_of_mem _ (List.mem_append_left _ (List.mem_of_getElem? (i := 1) rfl)))) rfl rfl dX1_ahead_27 ?_
          refine kb_gt (pc := 30) hexec hb dX1_ahead_30 (tgt := 35) rfl hf (fun hc hf => ?_) (fun hc hf => ?_)
          · refine lv_iload_n (pc := 35) hexec hb dX1_ahead_35 rfl (lv_at hl 1 rfl) ?_
            refine lv_aload_n (pc := 36) hexec hb dX1_ahead_36 rfl (lv_at hl 0 rfl) ?_
            refine kg_get (pc := 37) hexec hb (own := RX1) hWX1 hown hG hP 0 rfl rfl 1 (nle rfl) (hts _ (List.mem_cons_of_mem _ (List.mem_append_left _ (List.mem_of_getElem? (i := 1) rfl)))) rfl rfl dX1_ahead_37 ?_
            refine kd_idiv (pc := 40) hexec hb dX1_ahead_40 hf (fun hf => ?_)
            refine kt_getR (pc := 41) hexec hb (own := RX1) hG hS hown 42 rfl dX1_ahead_41 ?_
            refine lv_iload_n (pc := 44) hexec hb dX1_ahead_44 rfl (lv_at hl 2 rfl) ?_
            refine kt_ldR (pc := 45) hexec hb hG hS hf dX1_ahead_45 (fun hf => ?_)
            refine lv_iload_n (pc := 46) hexec hb dX1_ahead_46 rfl (lv_at hl 3 rfl) ?_
            refine lv_imul (pc := 47) hexec hb dX1_ahead_47 ?_
            refine lv_iadd (pc := 48) hexec hb dX1_ahead_48 ?_
            obtain ⟨v4, ev4, hf⟩ := bv_e hf
            refine kn_i ev4 ?_
            refine lv_istore (pc := 49) hexec hb dX1_ahead_49 hl (nle rfl) rfl (fun ls (hl : lv_has ls 7 [(4, .int v4), (0, .ref a0), (1, .int p1), (2, .int p2), (3, .int p3)]) => ?_)
            refine lv_iload_n (pc := 51) hexec hb dX1_ahead_51 rfl (lv_at hl 2 rfl) ?_
            refine lv_aload_n (pc := 52) hexec hb dX1_ahead_52 rfl (lv_at hl 1 rfl) ?_
            refine kg_get (pc := 53) hexec hb (own := RX1) hWX1 hown hG hP 0 rfl rfl 1 (nle rfl) (hts _ (List.mem_cons_of_mem _ (List.mem_append_left _ (List.mem_of_getElem? (i := 1) rfl)))) rfl rfl dX1_ahead_53 ?_
            refine kd_irem (pc := 56) hexec hb dX1_ahead_56 hf (fun hf => ?_)
            refine kt_getC (pc := 57) hexec hb (own := RX1) hG hS hown 43 rfl dX1_ahead_57 ?_
            refine lv_iload_n (pc := 60) hexec hb dX1_ahead_60 rfl (lv_at hl 3 rfl) ?_
            refine kt_ldC (pc := 61) hexec hb hG hS hf dX1_ahead_61 (fun hf => ?_)
            refine lv_iload_n (pc := 62) hexec hb dX1_ahead_62 rfl (lv_at hl 4 rfl) ?_
            refine lv_imul (pc := 63) hexec hb dX1_ahead_63 ?_
            refine lv_iadd (pc := 64) hexec hb dX1_ahead_64 ?_
            obtain ⟨v5, ev5, hf⟩ := bv_e hf
            refine kn_i ev5 ?_
            refine lv_istore (pc := 65) hexec hb dX1_ahead_65 hl (nle rfl) rfl (fun ls (hl : lv_has ls 7 [(5, .int v5), (4, .int v4), (0, .ref a0), (1, .int p1), (2, .int p2), (3, .int p3)]) => ?_)
            refine lv_iload (pc := 67) hexec hb dX1_ahead_67 (lv_at hl 1 rfl) ?_
            obtain ⟨j100, ej100, hf⟩ := bvf1 hf
            have hj100 : ∀ (t100 : Int32) (H : Heap) (locs : List Loc) (ls : Array Slot), j100 t100 = some r → va_P g.1 vwCl (w_X1_ahead g a0 u0_2 u0_3 u0_4 u0_5 x0_rows x0_columns) H → va_D A (w_X1_ahead g a0 u0_2 u0_3 u0_4 u0_5 x0_rows x0_columns) → va_S A s.heap H locs → lv_has ls 7 [(0, .ref a0), (4, .int v4), (5, .int v5)] → W p l e (RM 1 24) s m args below meth c H locs 0 0 Q (F0 m 100 ls [.int t100]) := by
              intro t100 H locs ls hf hP hD hS hl
              have hf := (ej100 t100).symm.trans hf
              refine lv_istore (pc := 100) hexec hb dX1_ahead_100 hl (nle rfl) rfl (fun ls (hl : lv_has ls 7 [(6, .int t100), (0, .ref a0), (4, .int v4), (5, .int v5)]) => ?_)
              refine lv_iload (pc := 102) hexec hb dX1_ahead_102 (lv_at hl 0 rfl) ?_
              refine kb_eq (pc := 104) hexec hb dX1_ahead_104 (tgt := 120) rfl hf (fun hc hf => ?_) (fun hc hf => ?_)
              · refine lv_iconst (pc := 120) hexec hb dX1_ahead_120 ki_m1 ?_
                cases hf
                exact ke_i hQ hexec hb hr hP hD hS dX1_ahead_121 hlocks
              · refine lv_iload (pc := 107) hexec hb dX1_ahead_107 (lv_at hl 2 rfl) ?_
                refine lv_aload_n (pc := 109) hexec hb dX1_ahead_109 rfl (lv_at hl 1 rfl) ?_
                refine kg_get (pc := 110) hexec hb (own := RX1) hWX1 hown hG hP 0 rfl rfl 1 (nle rfl) (hts _ (List.mem_cons_of_mem _ (List.mem_append_left _ (List.mem_of_getElem? (i := 1) rfl)))) rfl rfl dX1_ahead_110 ?_
                refine lv_imul (pc := 113) hexec hb dX1_ahead_113 ?_
                refine lv_iload (pc := 114) hexec hb dX1_ahead_114 (lv_at hl 3 rfl) ?_
                refine lv_iadd (pc := 116) hexec hb dX1_ahead_116 ?_
                refine lv_goto (pc := 117) hexec hb dX1_ahead_117 (tgt := 121) rfl ?_
                cases hf
                exact ke_i hQ hexec hb hr hP hD hS dX1_ahead_121 hlocks
            obtain ⟨j99, ej99, hf⟩ := bvf1 hf
            have hj99 : ∀ (u : Unit) (H : Heap) (locs : List Loc) (ls : Array Slot), j99 u = some r → va_P g.1 vwCl (w_X1_ahead g a0 u0_2 u0_3 u0_4 u0_5 x0_rows x0_columns) H → va_D A (w_X1_ahead g a0 u0_2 u0_3 u0_4 u0_5 x0_rows x0_columns) → va_S A s.heap H locs → lv_has ls 7 [(0, .ref a0), (4, .int v4), (5, .int v5)] → W p l e (RM 1 24) s m args below meth c H locs 0 0 Q (F0 m 99 ls []) := by
              intro u H locs ls hf hP hD hS hl
              have hf := (ej99 u).symm.trans hf
              refine lv_iconst (pc := 99) hexec hb dX1_ahead_99 ki_0 ?_
              exact hj100 _ _ _ _ hf hP hD hS (lv_sub hl [0, 1, 2] rfl)
            refine kb_lt (pc := 69) hexec hb dX1_ahead_69 (tgt := 99) rfl hf (fun hc hf => ?_) (fun hc hf => ?_)
            · exact hj99 _ _ _ _ hf hP hD hS (lv_sub hl [2, 1, 0] rfl)
            · refine lv_iload (pc := 72) hexec hb dX1_ahead_72 (lv_at hl 1 rfl) ?_
              refine lv_aload_n (pc := 74) hexec hb dX1_ahead_74 rfl (lv_at hl 2 rfl) ?_
              refine kg_get (pc := 75) hexec hb (own := RX1) hWX1 hown hG hP 0 rfl rfl 0 (nle rfl) (hts _ (List.mem_cons_of_mem _ (List.mem_append_left _ (List.mem_of_getElem? (i := 0) rfl)))) rfl rfl dX1_ahead_75 ?_
              refine ki_ge (pc := 78) hexec hb dX1_ahead_78 (tgt := 99) rfl hf (fun hc hf => ?_) (fun hc hf => ?_)
              · exact hj99 _ _ _ _ hf hP hD hS (lv_sub hl [2, 1, 0] rfl)
              · refine lv_iload (pc := 81) hexec hb dX1_ahead_81 (lv_at hl 0 rfl) ?_
                refine kb_lt (pc := 83) hexec hb dX1_ahead_83 (tgt := 99) rfl hf (fun hc hf => ?_) (fun hc hf => ?_)
                · exact hj99 _ _ _ _ hf hP hD hS (lv_sub hl [2, 1, 0] rfl)
                · refine lv_iload (pc := 86) hexec hb dX1_ahead_86 (lv_at hl 0 rfl) ?_
                  refine lv_aload_n (pc := 88) hexec hb dX1_ahead_88 rfl (lv_at hl 2 rfl) ?_
                  refine kg_get (pc := 89) hexec hb (own := RX1) hWX1 hown hG hP 0 rfl rfl 1 (nle rfl) (hts _ (List.mem_cons_of_mem _ (List.mem_append_left _ (List.mem_of_getElem? (i := 1) rfl)))) rfl rfl dX1_ahead_89 ?_
                  refine ki_ge (pc := 92) hexec hb dX1_ahead_92 (tgt := 99) rfl hf (fun hc hf => ?_) (fun hc hf => ?_)
                  · exact hj99 _ _ _ _ hf hP hD hS (lv_sub hl [2, 1, 0] rfl)
                  · refine lv_iconst (pc := 95) hexec hb dX1_ahead_95 ki_1 ?_
                    refine lv_goto (pc := 96) hexec hb dX1_ahead_96 (tgt := 100) rfl ?_
                    exact hj100 _ _ _ _ hf hP hD hS (lv_sub hl [2, 1, 0] rfl)
          · refine lv_iconst (pc := 33) hexec hb dX1_ahead_33 ki_m1 ?_
            cases hf
            exact ke_i hQ hexec hb hr hP hD hS dX1_ahead_34 hlocks
abbrev w_X1_stepsTo (g : GE) (a0 : Nat) (u0_0 u0_2 u0_3 u0_4 u0_5 : Value) (x0_columns : Int32) : va_W := [(a0, .inr (1, [u0_0, .int x0_columns, u0_2, u0_3, u0_4, u0_5]))]
set_option maxRecDepth 20000 in
theorem c_X1_stepsTo (l : Launch) (g : GE) (a0 : Nat) (sz : Nat) (u0_0 u0_2 u0_3 u0_4 u0_5 : Value) (x0_columns : Int32) (p1 : Int32) (p2 : Int32) (p3 : Int32)  (r : Int32) (hf : f_X1_stepsTo x0_columns p1 p2 p3 = some r) : MI l g yX1_stepsTo wsX1_stepsTo 1 24 [.ref a0, .int p1, .int p2, .int p3] (w_X1_stepsTo g a0 u0_0 u0_2 u0_3 u0_4 u0_5 x0_columns) sz (some (.int r)) (w_X1_stepsTo g a0 u0_0 u0_2 u0_3 u0_4 u0_5 x0_columns) := by
  refine MI.start (cc := cX1_stepsTo) (maxL := 8) (ret := (some .int)) rfl rfl (nle rfl) ?_
  intro p e s m args below meth c A ls Q hQ hexec hb hr hts hown hlocks hml hA hP hD hG hS hl
  unfold f_X1_stepsTo at hf
  have hWX1 : ∀ w ∈ wsX10, w.before args s = true := fun w h => hts w (List.mem_cons_of_mem _ (List.mem_append_right _ h))
  have hS : va_S A s.heap s.heap [] := hS
  refine lv_iload_n (pc := 0) hexec hb dX1_stepsTo_0 rfl (lv_at hl 2 rfl) ?_
  refine kb_lt (pc := 1) hexec hb dX1_stepsTo_1 (tgt := 16) rfl hf (fun hc hf => ?_) (fun hc hf => ?_)
  · refine lv_iconst (pc := 16) hexec hb dX1_stepsTo_16 ki_m1 ?_
    cases hf
    exact ke_i hQ hexec hb hr hP hD hS dX1_stepsTo_17 hlocks
  · refine lv_iload_n (pc := 4) hexec hb dX1_stepsTo_4 rfl (lv_at hl 2 rfl) ?_
    refine lv_iconst (pc := 5) hexec hb dX1_stepsTo_5 ki_4 ?_
    refine ki_ge (pc := 6) hexec hb dX1_stepsTo_6 (tgt := 16) rfl hf (fun hc hf => ?_) (fun hc hf => ?_)
    · refine lv_iconst (pc := 16) hexec hb dX1_stepsTo_16 ki_m1 ?_
      cases hf
      exact ke_i hQ hexec hb hr hP hD hS dX1_stepsTo_17 hlocks
    · refine lv_aload_n (pc := 9) hexec hb dX1_stepsTo_9 rfl (lv_at hl 0 rfl) ?_
      refine kg_get (pc := 10) hexec hb (own := RX1) hWX1 hown hG hP 0 rfl rfl 1 (nle rfl) (hts _ (List.mem_cons_of_mem _ (List.mem_append_left _ (List.mem_of_getElem? (i := 0) rfl)))) rfl rfl dX1_stepsTo_10 ?_
      refine kb_gt (pc := 13) hexec hb dX1_stepsTo_13 (tgt := 18) rfl hf (fun hc hf => ?_) (fun hc hf => ?_)
      · refine lv_iload_n (pc := 18) hexec hb dX1_stepsTo_18 rfl (lv_at hl 3 rfl) ?_
        refine lv_aload_n (pc := 19) hexec hb dX1_stepsTo_19 rfl (lv_at hl 0 rfl) ?_
        refine kg_get (pc := 20) hexec hb (own := RX1) hWX1 hown hG hP 0 rfl rfl 1 (nle rfl) (hts _ (List.mem_cons_of_mem _ (List.mem_append_left _ (List.mem_of_getElem? (i := 0) rfl)))) rfl rfl dX1_stepsTo_20 ?_
        refine kd_idiv (pc := 23) hexec hb dX1_stepsTo_23 hf (fun hf => ?_)
        refine lv_iload_n (pc := 24) hexec hb dX1_stepsTo_24 rfl (lv_at hl 1 rfl) ?_
        refine lv_aload_n (pc := 25) hexec hb dX1_stepsTo_25 rfl (lv_at hl 0 rfl) ?_
        refine kg_get (pc := 26) hexec hb (own := RX1) hWX1 hown hG hP 0 rfl rfl 1 (nle rfl) (hts _ (List.mem_cons_of_mem _ (List.mem_append_left _ (List.mem_of_getElem? (i := 0) rfl)))) rfl rfl dX1_stepsTo_26 ?_
        refine kd_idiv (pc := 29) hexec hb dX1_stepsTo_29 hf (fun hf => ?_)
        refine lv_isub (pc := 30) hexec hb dX1_stepsTo_30 ?_
        obtain ⟨v4, ev4, hf⟩ := bv_e hf
        refine kn_i ev4 ?_
        refine lv_istore (pc := 31) hexec hb dX1_stepsTo_31 hl (nle rfl) rfl (fun ls (hl : lv_has ls 8 [(4, .int v4), (0, .ref a0), (1, .int p1), (2, .int p2), (3, .int p3)]) => ?_)
        refine lv_iload_n (pc := 33) hexec hb dX1_stepsTo_33 rfl (lv_at hl 4 rfl) ?_
        refine lv_aload_n (pc := 34) hexec hb dX1_stepsTo_34 rfl (lv_at hl 1 rfl) ?_
        refine kg_get (pc := 35) hexec hb (own := RX1) hWX1 hown hG hP 0 rfl rfl 1 (nle rfl) (hts _ (List.mem_cons_of_mem _ (List.mem_append_left _ (List.mem_of_getElem? (i := 0) rfl)))) rfl rfl dX1_stepsTo_35 ?_
        refine kd_irem (pc := 38) hexec hb dX1_stepsTo_38 hf (fun hf => ?_)
        refine lv_iload_n (pc := 39) hexec hb dX1_stepsTo_39 rfl (lv_at hl 2 rfl) ?_
        refine lv_aload_n (pc := 40) hexec hb dX1_stepsTo_40 rfl (lv_at hl 1 rfl) ?_
        refine kg_get (pc := 41) hexec hb (own := RX1) hWX1 hown hG hP 0 rfl rfl 1 (nle rfl) (hts _ (List.mem_cons_of_mem _ (List.mem_append_left _ (List.mem_of_getElem? (i := 0) rfl)))) rfl rfl dX1_stepsTo_41 ?_
        refine kd_irem (pc := 44) hexec hb dX1_stepsTo_44 hf (fun hf => ?_)
        refine lv_isub (pc := 45) hexec hb dX1_stepsTo_45 ?_
        obtain ⟨v5, ev5, hf⟩ := bv_e hf
        refine kn_i ev5 ?_
        refine lv_istore (pc := 46) hexec hb dX1_stepsTo_46 hl (nle rfl) rfl (fun ls (hl : lv_has ls 8 [(5, .int v5), (4, .int v4), (0, .ref a0), (1, .int p1), (2, .int p2), (3, .int p3)]) => ?_)
        refine lv_iload (pc := 48) hexec hb dX1_stepsTo_48 (lv_at hl 1 rfl) ?_
        refine kt_getC (pc := 50) hexec hb (own := RX1) hG hS hown 43 rfl dX1_stepsTo_50 ?_
        refine lv_iload_n (pc := 53) hexec hb dX1_stepsTo_53 rfl (lv_at hl 4 rfl) ?_
        refine kt_ldC (pc := 54) hexec hb hG hS hf dX1_stepsTo_54 (fun hf => ?_)
        refine lv_imul (pc := 55) hexec hb dX1_stepsTo_55 ?_
        refine lv_iload (pc := 56) hexec hb dX1_stepsTo_56 (lv_at hl 0 rfl) ?_
        refine kt_getR (pc := 58) hexec hb (own := RX1) hG hS hown 42 rfl dX1_stepsTo_58 ?_
        refine lv_iload_n (pc := 61) hexec hb dX1_stepsTo_61 rfl (lv_at hl 4 rfl) ?_
        refine kt_ldR (pc := 62) hexec hb hG hS hf dX1_stepsTo_62 (fun hf => ?_)
        refine lv_imul (pc := 63) hexec hb dX1_stepsTo_63 ?_
        refine lv_iadd (pc := 64) hexec hb dX1_stepsTo_64 ?_
        obtain ⟨v6, ev6, hf⟩ := bv_e hf
        refine kn_i ev6 ?_
        refine lv_istore (pc := 65) hexec hb dX1_stepsTo_65 hl (nle rfl) rfl (fun ls (hl : lv_has ls 8 [(6, .int v6), (5, .int v5), (4, .int v4), (0, .ref a0), (1, .int p1), (2, .int p2), (3, .int p3)]) => ?_)
        refine lv_iload (pc := 67) hexec hb dX1_stepsTo_67 (lv_at hl 2 rfl) ?_
        refine kt_getR (pc := 69) hexec hb (own := RX1) hG hS hown 42 rfl dX1_stepsTo_69 ?_
        refine lv_iload_n (pc := 72) hexec hb dX1_stepsTo_72 rfl (lv_at hl 5 rfl) ?_
        refine kt_ldR (pc := 73) hexec hb hG hS hf dX1_stepsTo_73 (fun hf => ?_)
        refine lv_imul (pc := 74) hexec hb dX1_stepsTo_74 ?_
        refine lv_iload (pc := 75) hexec hb dX1_stepsTo_75 (lv_at hl 1 rfl) ?_
        refine kt_getC (pc := 77) hexec hb (own := RX1) hG hS hown 43 rfl dX1_stepsTo_77 ?_
        refine lv_iload_n (pc := 80) hexec hb dX1_stepsTo_80 rfl (lv_at hl 5 rfl) ?_
        refine kt_ldC (pc := 81) hexec hb hG hS hf dX1_stepsTo_81 (fun hf => ?_)
        refine lv_imul (pc := 82) hexec hb dX1_stepsTo_82 ?_
        refine lv_iadd (pc := 83) hexec hb dX1_stepsTo_83 ?_
        obtain ⟨v7, ev7, hf⟩ := bv_e hf
        refine kn_i ev7 ?_
        refine lv_istore (pc := 84) hexec hb dX1_stepsTo_84 hl (nle rfl) rfl (fun ls (hl : lv_has ls 8 [(7, .int v7), (6, .int v6), (5, .int v5), (4, .int v4), (0, .ref a0), (1, .int p1), (2, .int p2), (3, .int p3)]) => ?_)
        refine lv_iload (pc := 86) hexec hb dX1_stepsTo_86 (lv_at hl 1 rfl) ?_
        obtain ⟨j101, ej101, hf⟩ := bvf1 hf
        have hj101 : ∀ (u : Unit) (H : Heap) (locs : List Loc) (ls : Array Slot), j101 u = some r → va_P g.1 vwCl (w_X1_stepsTo g a0 u0_0 u0_2 u0_3 u0_4 u0_5 x0_columns) H → va_D A (w_X1_stepsTo g a0 u0_0 u0_2 u0_3 u0_4 u0_5 x0_columns) → va_S A s.heap H locs → lv_has ls 8 [] → W p l e (RM 1 24) s m args below meth c H locs 0 0 Q (F0 m 101 ls []) := by
          intro u H locs ls hf hP hD hS hl
          have hf := (ej101 u).symm.trans hf
          refine lv_iconst (pc := 101) hexec hb dX1_stepsTo_101 ki_m1 ?_
          cases hf
          exact ke_i hQ hexec hb hr hP hD hS dX1_stepsTo_102 hlocks
        refine kb_ne (pc := 88) hexec hb dX1_stepsTo_88 (tgt := 101) rfl hf (fun hc hf => ?_) (fun hc hf => ?_)
        · exact hj101 _ _ _ _ hf hP hD hS (lv_sub hl [] rfl)
        · refine lv_iload (pc := 91) hexec hb dX1_stepsTo_91 (lv_at hl 0 rfl) ?_
          refine kb_le (pc := 93) hexec hb dX1_stepsTo_93 (tgt := 101) rfl hf (fun hc hf => ?_) (fun hc hf => ?_)
          · exact hj101 _ _ _ _ hf hP hD hS (lv_sub hl [] rfl)
          · refine lv_iload (pc := 96) hexec hb dX1_stepsTo_96 (lv_at hl 0 rfl) ?_
            refine lv_goto (pc := 98) hexec hb dX1_stepsTo_98 (tgt := 102) rfl ?_
            cases hf
            exact ke_i hQ hexec hb hr hP hD hS dX1_stepsTo_102 hlocks
      · refine lv_iconst (pc := 16) hexec hb dX1_stepsTo_16 ki_m1 ?_
        cases hf
        exact ke_i hQ hexec hb hr hP hD hS dX1_stepsTo_17 hlocks
abbrev w_X1_isLand (g : GE) (a0 a1 : Nat) (u0_0 u0_1 u0_2 u0_4 u0_5 : Value) (y1_land : Nat → Int32) : va_W := [(a0, .inr (1, [u0_0, u0_1, u0_2, .ref a1, u0_4, u0_5])), (a1, .inl (g.2.1 1, 144, .inl y1_land))]
set_option maxRecDepth 20000 in
theorem c_X1_isLand (l : Launch) (g : GE) (a0 a1 : Nat) (sz : Nat) (u0_0 u0_1 u0_2 u0_4 u0_5 : Value) (y1_land : Nat → Int32) (p1 : Int32)  (r : Int32) (hf : f_X1_isLand y1_land p1 = some r) : MI l g yX1_isLand wsX1_isLand 1 24 [.ref a0, .int p1] (w_X1_isLand g a0 a1 u0_0 u0_1 u0_2 u0_4 u0_5 y1_land) sz (some (.int r)) (w_X1_isLand g a0 a1 u0_0 u0_1 u0_2 u0_4 u0_5 y1_land) := by
  refine MI.start (cc := cX1_isLand) (maxL := 2) (ret := (some .boolean)) rfl rfl (nle rfl) ?_
  intro p e s m args below meth c A ls Q hQ hexec hb hr hts hown hlocks hml hA hP hD hG hS hl
  unfold f_X1_isLand at hf
  have hWX1 : ∀ w ∈ wsX10, w.before args s = true := fun w h => hts w (List.mem_cons_of_mem _ (List.mem_append_right _ h))
  have hS : va_S A s.heap s.heap [] := hS
  refine lv_iload_n (pc := 0) hexec hb dX1_isLand_0 rfl (lv_at hl 1 rfl) ?_
  obtain ⟨j24, ej24, hf⟩ := bvf1 hf
  have hj24 : ∀ (u : Unit) (H : Heap) (locs : List Loc) (ls : Array Slot), j24 u = some r → va_P g.1 vwCl (w_X1_isLand g a0 a1 u0_0 u0_1 u0_2 u0_4 u0_5 y1_land) H → va_D A (w_X1_isLand g a0 a1 u0_0 u0_1 u0_2 u0_4 u0_5 y1_land) → va_S A s.heap H locs → lv_has ls 2 [] → W p l e (RM 1 24) s m args below meth c H locs 0 0 Q (F0 m 24 ls []) := by
    intro u H locs ls hf hP hD hS hl
    have hf := (ej24 u).symm.trans hf
    refine lv_iconst (pc := 24) hexec hb dX1_isLand_24 ki_0 ?_
    cases hf
    exact ke_z hQ hexec hb hr (.inl rfl) hP hD hS dX1_isLand_25 hlocks
  refine kb_lt (pc := 1) hexec hb dX1_isLand_1 (tgt := 24) rfl hf (fun hc hf => ?_) (fun hc hf => ?_)
  · exact hj24 _ _ _ _ hf hP hD hS (lv_sub hl [] rfl)
  · refine lv_iload_n (pc := 4) hexec hb dX1_isLand_4 rfl (lv_at hl 1 rfl) ?_
    refine lv_sipush (pc := 5) hexec hb dX1_isLand_5 ks_144 ?_
    refine ki_ge (pc := 8) hexec hb dX1_isLand_8 (tgt := 24) rfl hf (fun hc hf => ?_) (fun hc hf => ?_)
    · exact hj24 _ _ _ _ hf hP hD hS (lv_sub hl [] rfl)
    · refine lv_aload_n (pc := 11) hexec hb dX1_isLand_11 rfl (lv_at hl 0 rfl) ?_
      refine kg_get (pc := 12) hexec hb (own := RX1) hWX1 hown hG hP 0 rfl rfl 3 (nle rfl) (hts _ (List.mem_cons_of_mem _ (List.mem_append_left _ (List.mem_of_getElem? (i := 0) rfl)))) rfl rfl dX1_isLand_12 ?_
      refine lv_iload_n (pc := 15) hexec hb dX1_isLand_15 rfl (lv_at hl 1 rfl) ?_
      refine kr_zald (pc := 16) hexec hb hG hP 1 rfl hf dX1_isLand_16 (fun hf => ?_)
      refine kb_eq (pc := 17) hexec hb dX1_isLand_17 (tgt := 24) rfl hf (fun hc hf => ?_) (fun hc hf => ?_)
      · exact hj24 _ _ _ _ hf hP hD hS (lv_sub hl [] rfl)
      · refine lv_iconst (pc := 20) hexec hb dX1_isLand_20 ki_1 ?_
        refine lv_goto (pc := 21) hexec hb dX1_isLand_21 (tgt := 25) rfl ?_
        cases hf
        exact ke_z hQ hexec hb hr (.inr rfl) hP hD hS dX1_isLand_25 hlocks
abbrev w_X1_riverIn (g : GE) (a0 a1 : Nat) (u0_0 u0_1 u0_2 u0_3 u0_5 : Value) (y1_riverOf : Nat → Int32) : va_W := [(a0, .inr (1, [u0_0, u0_1, u0_2, u0_3, .ref a1, u0_5])), (a1, .inl (g.2.1 0, 144, .inl y1_riverOf))]
set_option maxRecDepth 20000 in
theorem c_X1_riverIn (l : Launch) (g : GE) (a0 a1 : Nat) (sz : Nat) (u0_0 u0_1 u0_2 u0_3 u0_5 : Value) (y1_riverOf : Nat → Int32) (p1 : Int32)  (r : Int32) (hf : f_X1_riverIn y1_riverOf p1 = some r) : MI l g yX1_riverIn wsX1_riverIn 1 24 [.ref a0, .int p1] (w_X1_riverIn g a0 a1 u0_0 u0_1 u0_2 u0_3 u0_5 y1_riverOf) sz (some (.int r)) (w_X1_riverIn g a0 a1 u0_0 u0_1 u0_2 u0_3 u0_5 y1_riverOf) := by
  refine MI.start (cc := cX1_riverIn) (maxL := 2) (ret := (some .int)) rfl rfl (nle rfl) ?_
  intro p e s m args below meth c A ls Q hQ hexec hb hr hts hown hlocks hml hA hP hD hG hS hl
  unfold f_X1_riverIn at hf
  have hWX1 : ∀ w ∈ wsX10, w.before args s = true := fun w h => hts w (List.mem_cons_of_mem _ (List.mem_append_right _ h))
  have hS : va_S A s.heap s.heap [] := hS
  refine lv_iload_n (pc := 0) hexec hb dX1_riverIn_0 rfl (lv_at hl 1 rfl) ?_
  obtain ⟨j20, ej20, hf⟩ := bvf1 hf
  have hj20 : ∀ (u : Unit) (H : Heap) (locs : List Loc) (ls : Array Slot), j20 u = some r → va_P g.1 vwCl (w_X1_riverIn g a0 a1 u0_0 u0_1 u0_2 u0_3 u0_5 y1_riverOf) H → va_D A (w_X1_riverIn g a0 a1 u0_0 u0_1 u0_2 u0_3 u0_5 y1_riverOf) → va_S A s.heap H locs → lv_has ls 2 [] → W p l e (RM 1 24) s m args below meth c H locs 0 0 Q (F0 m 20 ls []) := by
    intro u H locs ls hf hP hD hS hl
    have hf := (ej20 u).symm.trans hf
    refine lv_iconst (pc := 20) hexec hb dX1_riverIn_20 ki_m1 ?_
    cases hf
    exact ke_i hQ hexec hb hr hP hD hS dX1_riverIn_21 hlocks
  refine kb_lt (pc := 1) hexec hb dX1_riverIn_1 (tgt := 20) rfl hf (fun hc hf => ?_) (fun hc hf => ?_)
  · exact hj20 _ _ _ _ hf hP hD hS (lv_sub hl [] rfl)
  · refine lv_iload_n (pc := 4) hexec hb dX1_riverIn_4 rfl (lv_at hl 1 rfl) ?_
    refine lv_sipush (pc := 5) hexec hb dX1_riverIn_5 ks_144 ?_
    refine ki_ge (pc := 8) hexec hb dX1_riverIn_8 (tgt := 20) rfl hf (fun hc hf => ?_) (fun hc hf => ?_)
    · exact hj20 _ _ _ _ hf hP hD hS (lv_sub hl [] rfl)
    · refine lv_aload_n (pc := 11) hexec hb dX1_riverIn_11 rfl (lv_at hl 0 rfl) ?_
      refine kg_get (pc := 12) hexec hb (own := RX1) hWX1 hown hG hP 0 rfl rfl 4 (nle rfl) (hts _ (List.mem_cons_of_mem _ (List.mem_append_left _ (List.mem_of_getElem? (i := 0) rfl)))) rfl rfl dX1_riverIn_12 ?_
      refine lv_iload_n (pc := 15) hexec hb dX1_riverIn_15 rfl (lv_at hl 1 rfl) ?_
      refine kr_iald (pc := 16) hexec hb hG hP 1 rfl hf dX1_riverIn_16 (fun hf => ?_)
      refine lv_goto (pc := 17) hexec hb dX1_riverIn_17 (tgt := 21) rfl ?_
      cases hf
      exact ke_i hQ hexec hb hr hP hD hS dX1_riverIn_21 hlocks
abbrev w_X1_isRiver (g : GE) (a0 a1 : Nat) (u0_0 u0_1 u0_2 u0_3 u0_5 : Value) (y1_riverOf : Nat → Int32) : va_W := [(a0, .inr (1, [u0_0, u0_1, u0_2, u0_3, .ref a1, u0_5])), (a1, .inl (g.2.1 0, 144, .inl y1_riverOf))]
set_option maxRecDepth 20000 in
theorem c_X1_isRiver (l : Launch) (g : GE) (a0 a1 : Nat) (sz : Nat) (u0_0 u0_1 u0_2 u0_3 u0_5 : Value) (y1_riverOf : Nat → Int32) (p1 : Int32)  (r : Int32) (hf : f_X1_isRiver y1_riverOf p1 = some r) : MI l g yX1_isRiver wsX1_isRiver 1 24 [.ref a0, .int p1] (w_X1_isRiver g a0 a1 u0_0 u0_1 u0_2 u0_3 u0_5 y1_riverOf) sz (some (.int r)) (w_X1_isRiver g a0 a1 u0_0 u0_1 u0_2 u0_3 u0_5 y1_riverOf) := by
  refine MI.start (cc := cX1_isRiver) (maxL := 2) (ret := (some .boolean)) rfl rfl (nle rfl) ?_
  intro p e s m args below meth c A ls Q hQ hexec hb hr hts hown hlocks hml hA hP hD hG hS hl
  unfold f_X1_isRiver at hf
  have hWX1 : ∀ w ∈ wsX10, w.before args s = true := fun w h => hts w (List.mem_cons_of_mem _ (List.mem_append_right _ h))
  have hS : va_S A s.heap s.heap [] := hS
  refine lv_iload_n (pc := 0) hexec hb dX1_isRiver_0 rfl (lv_at hl 1 rfl) ?_
  obtain ⟨j25, ej25, hf⟩ := bvf1 hf
  have hj25 : ∀ (u : Unit) (H : Heap) (locs : List Loc) (ls : Array Slot), j25 u = some r → va_P g.1 vwCl (w_X1_isRiver g a0 a1 u0_0 u0_1 u0_2 u0_3 u0_5 y1_riverOf) H → va_D A (w_X1_isRiver g a0 a1 u0_0 u0_1 u0_2 u0_3 u0_5 y1_riverOf) → va_S A s.heap H locs → lv_has ls 2 [] → W p l e (RM 1 24) s m args below meth c H locs 0 0 Q (F0 m 25 ls []) := by
    intro u H locs ls hf hP hD hS hl
    have hf := (ej25 u).symm.trans hf
    refine lv_iconst (pc := 25) hexec hb dX1_isRiver_25 ki_0 ?_
    cases hf
    exact ke_z hQ hexec hb hr (.inl rfl) hP hD hS dX1_isRiver_26 hlocks
  refine kb_lt (pc := 1) hexec hb dX1_isRiver_1 (tgt := 25) rfl hf (fun hc hf => ?_) (fun hc hf => ?_)
  · exact hj25 _ _ _ _ hf hP hD hS (lv_sub hl [] rfl)
  · refine lv_iload_n (pc := 4) hexec hb dX1_isRiver_4 rfl (lv_at hl 1 rfl) ?_
    refine lv_sipush (pc := 5) hexec hb dX1_isRiver_5 ks_144 ?_
    refine ki_ge (pc := 8) hexec hb dX1_isRiver_8 (tgt := 25) rfl hf (fun hc hf => ?_) (fun hc hf => ?_)
    · exact hj25 _ _ _ _ hf hP hD hS (lv_sub hl [] rfl)
    · refine lv_aload_n (pc := 11) hexec hb dX1_isRiver_11 rfl (lv_at hl 0 rfl) ?_
      refine kg_get (pc := 12) hexec hb (own := RX1) hWX1 hown hG hP 0 rfl rfl 4 (nle rfl) (hts _ (List.mem_cons_of_mem _ (List.mem_append_left _ (List.mem_of_getElem? (i := 0) rfl)))) rfl rfl dX1_isRiver_12 ?_
      refine lv_iload_n (pc := 15) hexec hb dX1_isRiver_15 rfl (lv_at hl 1 rfl) ?_
      refine kr_iald (pc := 16) hexec hb hG hP 1 rfl hf dX1_isRiver_16 (fun hf => ?_)
      refine lv_iconst (pc := 17) hexec hb dX1_isRiver_17 ki_m1 ?_
      refine ki_eq (pc := 18) hexec hb dX1_isRiver_18 (tgt := 25) rfl hf (fun hc hf => ?_) (fun hc hf => ?_)
      · exact hj25 _ _ _ _ hf hP hD hS (lv_sub hl [] rfl)
      · refine lv_iconst (pc := 21) hexec hb dX1_isRiver_21 ki_1 ?_
        refine lv_goto (pc := 22) hexec hb dX1_isRiver_22 (tgt := 26) rfl ?_
        cases hf
        exact ke_z hQ hexec hb hr (.inr rfl) hP hD hS dX1_isRiver_26 hlocks
abbrev w_X1_setLand (g : GE) (a0 a1 : Nat) (u0_0 u0_1 u0_2 u0_4 u0_5 : Value) (y1_land : Nat → Int32) : va_W := [(a0, .inr (1, [u0_0, u0_1, u0_2, .ref a1, u0_4, u0_5])), (a1, .inl (g.2.1 1, 144, .inl y1_land))]
set_option maxRecDepth 20000 in
theorem c_X1_setLand (l : Launch) (g : GE) (a0 a1 : Nat) (sz : Nat) (u0_0 u0_1 u0_2 u0_4 u0_5 : Value) (y1_land : Nat → Int32) (p1 : Int32) (p2 : Int32)  (o_y1_land : Nat → Int32) (hf : f_X1_setLand y1_land p1 p2 = some o_y1_land) : MI l g yX1_setLand wsX1_setLand 1 24 [.ref a0, .int p1, .int p2] (w_X1_setLand g a0 a1 u0_0 u0_1 u0_2 u0_4 u0_5 y1_land) sz none (w_X1_setLand g a0 a1 u0_0 u0_1 u0_2 u0_4 u0_5 o_y1_land) := by
  refine MI.start (cc := cX1_setLand) (maxL := 3) (ret := none) rfl rfl (nle rfl) ?_
  intro p e s m args below meth c A ls Q hQ hexec hb hr hts hown hlocks hml hA hP hD hG hS hl
  unfold f_X1_setLand at hf
  have hWX1 : ∀ w ∈ wsX10, w.before args s = true := fun w h => hts w (List.mem_cons_of_mem _ (List.mem_append_right _ h))
  have hS : va_S A s.heap s.heap [] := hS
  refine lv_iload_n (pc := 0) hexec hb dX1_setLand_0 rfl (lv_at hl 1 rfl) ?_
  refine kb_lt (pc := 1) hexec hb dX1_setLand_1 (tgt := 18) rfl hf (fun hc hf => ?_) (fun hc hf => ?_)
  · cases hf
    exact ke_v hQ hexec hb hr hP hD hS dX1_setLand_18 hlocks
  · refine lv_iload_n (pc := 4) hexec hb dX1_setLand_4 rfl (lv_at hl 1 rfl) ?_
    refine lv_sipush (pc := 5) hexec hb dX1_setLand_5 ks_144 ?_
    refine ki_ge (pc := 8) hexec hb dX1_setLand_8 (tgt := 18) rfl hf (fun hc hf => ?_) (fun hc hf => ?_)
    · cases hf
      exact ke_v hQ hexec hb hr hP hD hS dX1_setLand_18 hlocks
    · refine lv_aload_n (pc := 11) hexec hb dX1_setLand_11 rfl (lv_at hl 0 rfl) ?_
      refine kg_get (pc := 12) hexec hb (own := RX1) hWX1 hown hG hP 0 rfl rfl 3 (nle rfl) (hts _ (List.mem_cons_of_mem _ (List.mem_append_left _ (List.mem_of_getElem? (i := 0) rfl)))) rfl rfl dX1_setLand_12 ?_
      refine lv_iload_n (pc := 15) hexec hb dX1_setLand_15 rfl (lv_at hl 1 rfl) ?_
      refine lv_iload_n (pc := 16) hexec hb dX1_setLand_16 rfl (lv_at hl 2 rfl) ?_
      refine kw_zast (pc := 17) hexec hb hG hP hD hS 1 rfl hf dX1_setLand_17 (fun y1_land_1 H locs hf (hP : va_P g.1 vwCl (w_X1_setLand g a0 a1 u0_0 u0_1 u0_2 u0_4 u0_5 y1_land_1) H) (hD : va_D A (w_X1_setLand g a0 a1 u0_0 u0_1 u0_2 u0_4 u0_5 y1_land_1)) hS => ?_)
      cases hf
      exact ke_v hQ hexec hb hr hP hD hS dX1_setLand_18 hlocks
abbrev w_X1_landCells (g : GE) (a0 a1 : Nat) (u0_0 u0_1 u0_2 u0_4 u0_5 : Value) (y1_land : Nat → Int32) : va_W := [(a0, .inr (1, [u0_0, u0_1, u0_2, .ref a1, u0_4, u0_5])), (a1, .inl (g.2.1 1, 144, .inl y1_land))]
set_option maxRecDepth 20000 in
theorem c_X1_landCells (l : Launch) (g : GE) (a0 a1 : Nat) (sz : Nat) (u0_0 u0_1 u0_2 u0_4 u0_5 : Value) (y1_land : Nat → Int32)   (r : Int32) (hf : f_X1_landCells y1_land = some r) : MI l g yX1_landCells wsX1_landCells 1 24 [.ref a0] (w_X1_landCells g a0 a1 u0_0 u0_1 u0_2 u0_4 u0_5 y1_land) sz (some (.int r)) (w_X1_landCells g a0 a1 u0_0 u0_1 u0_2 u0_4 u0_5 y1_land) := by
  refine MI.start (cc := cX1_landCells) (maxL := 3) (ret := (some .int)) rfl rfl (nle rfl) ?_
  intro p e s m args below meth c A ls Q hQ hexec hb hr hts hown hlocks hml hA hP hD hG hS hl
  unfold f_X1_landCells at hf
  have hWX1 : ∀ w ∈ wsX10, w.before args s = true := fun w h => hts w (List.mem_cons_of_mem _ (List.mem_append_right _ h))
  have hS : va_S A s.heap s.heap [] := hS
  refine lv_iconst (pc := 0) hexec hb dX1_landCells_0 ki_0 ?_
  refine lv_istore_n (pc := 1) hexec hb dX1_landCells_1 rfl hl (nle rfl) rfl (fun ls (hl : lv_has ls 3 [(1, .int 0), (0, .ref a0)]) => ?_)
  refine lv_iconst (pc := 2) hexec hb dX1_landCells_2 ki_0 ?_
  refine lv_istore_n (pc := 3) hexec hb dX1_landCells_3 rfl hl (nle rfl) rfl (fun ls (hl : lv_has ls 3 [(2, .int 0), (1, .int 0), (0, .ref a0)]) => ?_)
  obtain ⟨l4, el4, hf⟩ := bvf2 hf
  obtain ⟨v1_1, hz, hf⟩ := bd1_e hf
  have hE4 : ∀ (H : Heap) (locs : List Loc) (ls : Array Slot), va_P g.1 vwCl (w_X1_landCells g a0 a1 u0_0 u0_1 u0_2 u0_4 u0_5 y1_land) H → va_D A (w_X1_landCells g a0 a1 u0_0 u0_1 u0_2 u0_4 u0_5 y1_land) → va_S A s.heap H locs → lv_has ls 3 [(1, .int v1_1)] → W p l e (RM 1 24) s m args below meth c H locs 0 0 Q (F0 m 29 ls []) := by
    intro H locs ls hP hD hS hl
    refine lv_iload_n (pc := 29) hexec hb dX1_landCells_29 rfl (lv_at hl 0 rfl) ?_
    cases hf
    exact ke_i hQ hexec hb hr hP hD hS dX1_landCells_30 hlocks
  obtain ⟨n, hz⟩ := lq2_e hz
  have hL4 : ∀ (n : Nat) (v1 : Int32) (v2 : Int32) (H : Heap) (locs : List Loc) (ls : Array Slot), it2 l4 n v1 v2 = some v1_1 → va_P g.1 vwCl (w_X1_landCells g a0 a1 u0_0 u0_1 u0_2 u0_4 u0_5 y1_land) H → va_D A (w_X1_landCells g a0 a1 u0_0 u0_1 u0_2 u0_4 u0_5 y1_land) → va_S A s.heap H locs → lv_has ls 3 [(0, .ref a0), (1, .int v1), (2, .int v2)] → W p l e (RM 1 24) s m args below meth c H locs 0 0 Q (F0 m 4 ls []) := by
    intro n
    induction n with
    | zero =>
      intro v1 v2 H locs ls hf hP hD hS hl
      exact it2_0 hf
    | succ n4 ih4 =>
      intro v1 v2 H locs ls hf hP hD hS hl
      obtain ⟨q4, hf, hk4⟩ := it2_e hf
      have hf := (el4 v1 v2).symm.trans hf
      refine lv_iload_n (pc := 4) hexec hb dX1_landCells_4 rfl (lv_at hl 2 rfl) ?_
      refine lv_sipush (pc := 5) hexec hb dX1_landCells_5 ks_144 ?_
      refine ki_ge (pc := 8) hexec hb dX1_landCells_8 (tgt := 29) rfl hf (fun hc hf => ?_) (fun hc hf => ?_)
      · cases sr2 hf hk4
        exact hE4 _ _ _ hP hD hS (lv_sub hl [1] rfl)
      · refine lv_aload_n (pc := 11) hexec hb dX1_landCells_11 rfl (lv_at hl 0 rfl) ?_
        refine kg_get (pc := 12) hexec hb (own := RX1) hWX1 hown hG hP 0 rfl rfl 3 (nle rfl) (hts _ (List.mem_cons_of_mem _ (List.mem_append_left _ (List.mem_of_getElem? (i := 0) rfl)))) rfl rfl dX1_landCells_12 ?_
        refine lv_iload_n (pc := 15) hexec hb dX1_landCells_15 rfl (lv_at hl 2 rfl) ?_
        refine kr_zald (pc := 16) hexec hb hG hP 1 rfl hf dX1_landCells_16 (fun hf => ?_)
        obtain ⟨j23, ej23, hf⟩ := bvf1 hf
        have hj23 : ∀ (v1_2 : Int32) (H : Heap) (locs : List Loc) (ls : Array Slot), j23 v1_2 = some q4 → va_P g.1 vwCl (w_X1_landCells g a0 a1 u0_0 u0_1 u0_2 u0_4 u0_5 y1_land) H → va_D A (w_X1_landCells g a0 a1 u0_0 u0_1 u0_2 u0_4 u0_5 y1_land) → va_S A s.heap H locs → lv_has ls 3 [(0, .ref a0), (1, .int v1_2), (2, .int v2)] → W p l e (RM 1 24) s m args below meth c H locs 0 0 Q (F0 m 23 ls []) := by
          intro v1_2 H locs ls hf hP hD hS hl
          have hf := (ej23 v1_2).symm.trans hf
          obtain ⟨v2_1, ev2_1, hf⟩ := bv_e hf
          refine k_iinc (pc := 23) hexec hb dX1_landCells_23 kq_1 hl (k := 2) rfl ev2_1 (nle rfl) rfl (fun ls (hl : lv_has ls 3 [(2, .int v2_1), (0, .ref a0), (1, .int v1_2)]) => ?_)
          refine lv_goto (pc := 26) hexec hb dX1_landCells_26 (tgt := 4) rfl ?_
          exact ih4 _ _ _ _ _ (sl2 hf hk4) hP hD hS (lv_sub hl [1, 2, 0] rfl)
        refine kb_eq (pc := 17) hexec hb dX1_landCells_17 (tgt := 23) rfl hf (fun hc hf => ?_) (fun hc hf => ?_)
        · exact hj23 _ _ _ _ hf hP hD hS (lv_sub hl [0, 1, 2] rfl)
        · obtain ⟨v1_3, ev1_3, hf⟩ := bv_e hf
          refine k_iinc (pc := 20) hexec hb dX1_landCells_20 kq_1 hl (k := 1) rfl ev1_3 (nle rfl) rfl (fun ls (hl : lv_has ls 3 [(1, .int v1_3), (0, .ref a0), (2, .int v2)]) => ?_)
          exact hj23 _ _ _ _ hf hP hD hS (lv_sub hl [1, 0, 2] rfl)
  exact hL4 n _ _ _ _ _ hz hP hD hS (lv_sub hl [2, 1, 0] rfl)
abbrev w_X1_hasSeaBeside (g : GE) (a0 a1 : Nat) (u0_2 u0_4 u0_5 : Value) (x0_rows : Int32) (x0_columns : Int32) (y1_land : Nat → Int32) : va_W := [(a0, .inr (1, [.int x0_rows, .int x0_columns, u0_2, .ref a1, u0_4, u0_5])), (a1, .inl (g.2.1 1, 144, .inl y1_land))]
set_option maxRecDepth 20000 in
theorem c_X1_hasSeaBeside (l : Launch) (g : GE) (a0 a1 : Nat) (sz : Nat) (u0_2 u0_4 u0_5 : Value) (x0_rows : Int32) (x0_columns : Int32) (y1_land : Nat → Int32) (p1 : Int32) (p2 : Int32)  (r : Int32) (hf : f_X1_hasSeaBeside x0_rows x0_columns y1_land p1 p2 = some r) : MI l g yX1_hasSeaBeside wsX1_hasSeaBeside 2 50 [.ref a0, .int p1, .int p2] (w_X1_hasSeaBeside g a0 a1 u0_2 u0_4 u0_5 x0_rows x0_columns y1_land) sz (some (.int r)) (w_X1_hasSeaBeside g a0 a1 u0_2 u0_4 u0_5 x0_rows x0_columns y1_land) := by
  refine MI.start (cc := cX1_hasSeaBeside) (maxL := 5) (ret := (some .boolean)) rfl rfl (nle rfl) ?_
  intro p e s m args below meth c A ls Q hQ hexec hb hr hts hown hlocks hml hA hP hD hG hS hl
  unfold f_X1_hasSeaBeside at hf
  have hWX1 : ∀ w ∈ wsX10, w.before args s = true := fun w h => hts w (List.mem_cons_of_mem _ (List.mem_append_right _ h))
  have hS : va_S A s.heap s.heap [] := hS
  refine lv_iconst (pc := 0) hexec hb dX1_hasSeaBeside_0 ki_0 ?_
  refine lv_istore_n (pc := 1) hexec hb dX1_hasSeaBeside_1 rfl hl (nle rfl) rfl (fun ls (hl : lv_has ls 5 [(3, .int 0), (0, .ref a0), (1, .int p1), (2, .int p2)]) => ?_)
  obtain ⟨l2, el2, hf⟩ := bvf1 hf
  obtain ⟨n, hz⟩ := lq1_e hf
  have hL2 : ∀ (n : Nat) (v3 : Int32) (H : Heap) (locs : List Loc) (ls : Array Slot), it1 l2 n v3 = some r → va_P g.1 vwCl (w_X1_hasSeaBeside g a0 a1 u0_2 u0_4 u0_5 x0_rows x0_columns y1_land) H → va_D A (w_X1_hasSeaBeside g a0 a1 u0_2 u0_4 u0_5 x0_rows x0_columns y1_land) → va_S A s.heap H locs → lv_has ls 5 [(0, .ref a0), (1, .int p1), (2, .int p2), (3, .int v3)] → W p l e (RM 2 50) s m args below meth c H locs 0 0 Q (F0 m 2 ls []) := by
    intro n
    induction n with
    | zero =>
      intro v3 H locs ls hf hP hD hS hl
      exact it1_0 hf
    | succ n2 ih2 =>
      intro v3 H locs ls hf hP hD hS hl
      obtain ⟨q2, hf, hk2⟩ := it1_e hf
      have hf := (el2 v3).symm.trans hf
      refine lv_iload_n (pc := 2) hexec hb dX1_hasSeaBeside_2 rfl (lv_at hl 3 rfl) ?_
      refine lv_iconst (pc := 3) hexec hb dX1_hasSeaBeside_3 ki_4 ?_
      refine ki_ge (pc := 4) hexec hb dX1_hasSeaBeside_4 (tgt := 45) rfl hf (fun hc hf => ?_) (fun hc hf => ?_)
      · have hf := mk1 hf hk2
        refine lv_iconst (pc := 45) hexec hb dX1_hasSeaBeside_45 ki_0 ?_
        cases hf
        exact ke_z hQ hexec hb hr (.inl rfl) hP hD hS dX1_hasSeaBeside_46 hlocks
      · refine lv_aload_n (pc := 7) hexec hb dX1_hasSeaBeside_7 rfl (lv_at hl 0 rfl) ?_
        refine lv_iload_n (pc := 8) hexec hb dX1_hasSeaBeside_8 rfl (lv_at hl 1 rfl) ?_
        refine lv_iload_n (pc := 9) hexec hb dX1_hasSeaBeside_9 rfl (lv_at hl 3 rfl) ?_
        refine lv_iconst (pc := 10) hexec hb dX1_hasSeaBeside_10 ki_1 ?_
        obtain ⟨r11, hc, hf⟩ := bd1_e hf
        refine kVp (pc := 11) (S := ⟨hexec, hb, hml, hown, hts⟩) hP hD hG hA hS [0] [1] [1, 0] (w2 := (w_X1_hasSeaBeside g a0 a1 u0_2 u0_4 u0_5 x0_rows x0_columns y1_land)) rfl rfl rfl rfl rfl rfl (by decide) (c_X1_ahead l g a0 _ u0_2 (.ref a1) u0_4 u0_5 x0_rows x0_columns p1 v3 1 r11 hc) gX1_hasSeaBeside_X1_ahead rfl hv_X1_ahead ⟨nle rfl, nle rfl⟩ 1 0 rfl rfl rfl (rest := []) rfl rfl hl.1 (nle rfl) dX1_hasSeaBeside_11 (fun H locs hP hD hS => ?_)
        refine lv_istore (pc := 14) hexec hb dX1_hasSeaBeside_14 hl (nle rfl) rfl (fun ls (hl : lv_has ls 5 [(4, .int r11), (0, .ref a0), (1, .int p1), (2, .int p2), (3, .int v3)]) => ?_)
        refine lv_iload (pc := 16) hexec hb dX1_hasSeaBeside_16 (lv_at hl 0 rfl) ?_
        refine lv_iconst (pc := 18) hexec hb dX1_hasSeaBeside_18 ki_m1 ?_
        refine ki_eq (pc := 19) hexec hb dX1_hasSeaBeside_19 (tgt := 37) rfl hf (fun hc hf => ?_) (fun hc hf => ?_)
        · have hf := mk1 hf hk2
          refine lv_iconst (pc := 37) hexec hb dX1_hasSeaBeside_37 ki_1 ?_
          cases hf
          exact ke_z hQ hexec hb hr (.inr rfl) hP hD hS dX1_hasSeaBeside_38 hlocks
        · refine lv_iload (pc := 22) hexec hb dX1_hasSeaBeside_22 (lv_at hl 0 rfl) ?_
          refine lv_iload_n (pc := 24) hexec hb dX1_hasSeaBeside_24 rfl (lv_at hl 3 rfl) ?_
          obtain ⟨j39, ej39, hf⟩ := bvf1 hf
          have hj39 : ∀ (u : Unit) (H : Heap) (locs : List Loc) (ls : Array Slot), j39 u = some q2 → va_P g.1 vwCl (w_X1_hasSeaBeside g a0 a1 u0_2 u0_4 u0_5 x0_rows x0_columns y1_land) H → va_D A (w_X1_hasSeaBeside g a0 a1 u0_2 u0_4 u0_5 x0_rows x0_columns y1_land) → va_S A s.heap H locs → lv_has ls 5 [(0, .ref a0), (1, .int p1), (2, .int p2), (3, .int v3)] → W p l e (RM 2 50) s m args below meth c H locs 0 0 Q (F0 m 39 ls []) := by
            intro u H locs ls hf hP hD hS hl
            have hf := (ej39 u).symm.trans hf
            obtain ⟨v3_1, ev3_1, hf⟩ := bv_e hf
            refine k_iinc (pc := 39) hexec hb dX1_hasSeaBeside_39 kq_1 hl (k := 3) rfl ev3_1 (nle rfl) rfl (fun ls (hl : lv_has ls 5 [(3, .int v3_1), (0, .ref a0), (1, .int p1), (2, .int p2)]) => ?_)
            refine lv_goto (pc := 42) hexec hb dX1_hasSeaBeside_42 (tgt := 2) rfl ?_
            exact ih2 _ _ _ _ (sl1 hf hk2) hP hD hS (lv_sub hl [1, 2, 3, 0] rfl)
          refine ki_eq (pc := 25) hexec hb dX1_hasSeaBeside_25 (tgt := 39) rfl hf (fun hc hf => ?_) (fun hc hf => ?_)
          · exact hj39 _ _ _ _ hf hP hD hS (lv_sub hl [1, 2, 3, 4] rfl)
          · refine lv_aload_n (pc := 28) hexec hb dX1_hasSeaBeside_28 rfl (lv_at hl 1 rfl) ?_
            refine lv_iload (pc := 29) hexec hb dX1_hasSeaBeside_29 (lv_at hl 0 rfl) ?_
            obtain ⟨r31, hc, hf⟩ := bd1_e hf
            refine kVp (pc := 31) (S := ⟨hexec, hb, hml, hown, hts⟩) hP hD hG hA hS [0, 1] [] [0, 1] (w2 := (w_X1_hasSeaBeside g a0 a1 u0_2 u0_4 u0_5 x0_rows x0_columns y1_land)) rfl rfl rfl rfl rfl rfl (by decide) (c_X1_isLand l g a0 a1 _ (.int x0_rows) (.int x0_columns) u0_2 u0_4 u0_5 y1_land r11 r31 hc) gX1_hasSeaBeside_X1_isLand rfl hv_X1_isLand ⟨nle rfl, nle rfl⟩ 1 0 rfl rfl rfl (rest := []) rfl rfl hl.1 (nle rfl) dX1_hasSeaBeside_31 (fun H locs hP hD hS => ?_)
            refine kb_ne (pc := 34) hexec hb dX1_hasSeaBeside_34 (tgt := 39) rfl hf (fun hc hf => ?_) (fun hc hf => ?_)
            · exact hj39 _ _ _ _ hf hP hD hS (lv_sub hl [1, 2, 3, 4] rfl)
            · have hf := mk1 hf hk2
              refine lv_iconst (pc := 37) hexec hb dX1_hasSeaBeside_37 ki_1 ?_
              cases hf
              exact ke_z hQ hexec hb hr (.inr rfl) hP hD hS dX1_hasSeaBeside_38 hlocks
  exact hL2 n _ _ _ _ hz hP hD hS (lv_sub hl [1, 2, 3, 0] rfl)
abbrev w_X1_endsRiver (g : GE) (a0 a1 a2 : Nat) (u0_2 u0_5 : Value) (x0_rows : Int32) (x0_columns : Int32) (y1_land : Nat → Int32) (y2_riverOf : Nat → Int32) : va_W := [(a0, .inr (1, [.int x0_rows, .int x0_columns, u0_2, .ref a1, .ref a2, u0_5])), (a1, .inl (g.2.1 1, 144, .inl y1_land)), (a2, .inl (g.2.1 0, 144, .inl y2_riverOf))]
set_option maxRecDepth 20000 in
theorem c_X1_endsRiver (l : Launch) (g : GE) (a0 a1 a2 : Nat) (sz : Nat) (u0_2 u0_5 : Value) (x0_rows : Int32) (x0_columns : Int32) (y1_land : Nat → Int32) (y2_riverOf : Nat → Int32) (p1 : Int32)  (r : Int32) (hf : f_X1_endsRiver x0_rows x0_columns y1_land y2_riverOf p1 = some r) : MI l g yX1_endsRiver wsX1_endsRiver 2 50 [.ref a0, .int p1] (w_X1_endsRiver g a0 a1 a2 u0_2 u0_5 x0_rows x0_columns y1_land y2_riverOf) sz (some (.int r)) (w_X1_endsRiver g a0 a1 a2 u0_2 u0_5 x0_rows x0_columns y1_land y2_riverOf) := by
  refine MI.start (cc := cX1_endsRiver) (maxL := 4) (ret := (some .boolean)) rfl rfl (nle rfl) ?_
  intro p e s m args below meth c A ls Q hQ hexec hb hr hts hown hlocks hml hA hP hD hG hS hl
  unfold f_X1_endsRiver at hf
  have hWX1 : ∀ w ∈ wsX10, w.before args s = true := fun w h => hts w (List.mem_cons_of_mem _ (List.mem_append_right _ h))
  have hS : va_S A s.heap s.heap [] := hS
  refine lv_iconst (pc := 0) hexec hb dX1_endsRiver_0 ki_0 ?_
  refine lv_istore_n (pc := 1) hexec hb dX1_endsRiver_1 rfl hl (nle rfl) rfl (fun ls (hl : lv_has ls 4 [(2, .int 0), (0, .ref a0), (1, .int p1)]) => ?_)
  obtain ⟨l2, el2, hf⟩ := bvf1 hf
  obtain ⟨n, hz⟩ := lq1_e hf
  have hL2 : ∀ (n : Nat) (v2 : Int32) (H : Heap) (locs : List Loc) (ls : Array Slot), it1 l2 n v2 = some r → va_P g.1 vwCl (w_X1_endsRiver g a0 a1 a2 u0_2 u0_5 x0_rows x0_columns y1_land y2_riverOf) H → va_D A (w_X1_endsRiver g a0 a1 a2 u0_2 u0_5 x0_rows x0_columns y1_land y2_riverOf) → va_S A s.heap H locs → lv_has ls 4 [(0, .ref a0), (1, .int p1), (2, .int v2)] → W p l e (RM 2 50) s m args below meth c H locs 0 0 Q (F0 m 2 ls []) := by
    intro n
    induction n with
    | zero =>
      intro v2 H locs ls hf hP hD hS hl
      exact it1_0 hf
    | succ n2 ih2 =>
      intro v2 H locs ls hf hP hD hS hl
      obtain ⟨q2, hf, hk2⟩ := it1_e hf
      have hf := (el2 v2).symm.trans hf
      refine lv_iload_n (pc := 2) hexec hb dX1_endsRiver_2 rfl (lv_at hl 2 rfl) ?_
      refine lv_iconst (pc := 3) hexec hb dX1_endsRiver_3 ki_4 ?_
      refine ki_ge (pc := 4) hexec hb dX1_endsRiver_4 (tgt := 39) rfl hf (fun hc hf => ?_) (fun hc hf => ?_)
      · have hf := mk1 hf hk2
        refine lv_iconst (pc := 39) hexec hb dX1_endsRiver_39 ki_0 ?_
        cases hf
        exact ke_z hQ hexec hb hr (.inl rfl) hP hD hS dX1_endsRiver_40 hlocks
      · refine lv_aload_n (pc := 7) hexec hb dX1_endsRiver_7 rfl (lv_at hl 0 rfl) ?_
        refine lv_iload_n (pc := 8) hexec hb dX1_endsRiver_8 rfl (lv_at hl 1 rfl) ?_
        refine lv_iload_n (pc := 9) hexec hb dX1_endsRiver_9 rfl (lv_at hl 2 rfl) ?_
        refine lv_iconst (pc := 10) hexec hb dX1_endsRiver_10 ki_1 ?_
        obtain ⟨r11, hc, hf⟩ := bd1_e hf
        refine kVp (pc := 11) (S := ⟨hexec, hb, hml, hown, hts⟩) hP hD hG hA hS [0] [1, 2] [2, 0, 1] (w2 := (w_X1_endsRiver g a0 a1 a2 u0_2 u0_5 x0_rows x0_columns y1_land y2_riverOf)) rfl rfl rfl rfl rfl rfl (by decide) (c_X1_ahead l g a0 _ u0_2 (.ref a1) (.ref a2) u0_5 x0_rows x0_columns p1 v2 1 r11 hc) gX1_endsRiver_X1_ahead rfl hv_X1_ahead ⟨nle rfl, nle rfl⟩ 1 0 rfl rfl rfl (rest := []) rfl rfl hl.1 (nle rfl) dX1_endsRiver_11 (fun H locs hP hD hS => ?_)
        refine lv_istore_n (pc := 14) hexec hb dX1_endsRiver_14 rfl hl (nle rfl) rfl (fun ls (hl : lv_has ls 4 [(3, .int r11), (0, .ref a0), (1, .int p1), (2, .int v2)]) => ?_)
        refine lv_aload_n (pc := 15) hexec hb dX1_endsRiver_15 rfl (lv_at hl 1 rfl) ?_
        refine lv_iload_n (pc := 16) hexec hb dX1_endsRiver_16 rfl (lv_at hl 0 rfl) ?_
        obtain ⟨r17, hc, hf⟩ := bd1_e hf
        refine kVp (pc := 17) (S := ⟨hexec, hb, hml, hown, hts⟩) hP hD hG hA hS [0, 1] [2] [1, 2, 0] (w2 := (w_X1_endsRiver g a0 a1 a2 u0_2 u0_5 x0_rows x0_columns y1_land y2_riverOf)) rfl rfl rfl rfl rfl rfl (by decide) (c_X1_isLand l g a0 a1 _ (.int x0_rows) (.int x0_columns) u0_2 (.ref a2) u0_5 y1_land r11 r17 hc) gX1_endsRiver_X1_isLand rfl hv_X1_isLand ⟨nle rfl, nle rfl⟩ 1 0 rfl rfl rfl (rest := []) rfl rfl hl.1 (nle rfl) dX1_endsRiver_17 (fun H locs hP hD hS => ?_)
        refine kb_eq (pc := 20) hexec hb dX1_endsRiver_20 (tgt := 31) rfl hf (fun hc hf => ?_) (fun hc hf => ?_)
        · have hf := mk1 hf hk2
          refine lv_iconst (pc := 31) hexec hb dX1_endsRiver_31 ki_1 ?_
          cases hf
          exact ke_z hQ hexec hb hr (.inr rfl) hP hD hS dX1_endsRiver_32 hlocks
        · refine lv_aload_n (pc := 23) hexec hb dX1_endsRiver_23 rfl (lv_at hl 1 rfl) ?_
          refine lv_iload_n (pc := 24) hexec hb dX1_endsRiver_24 rfl (lv_at hl 0 rfl) ?_
          obtain ⟨r25, hc, hf⟩ := bd1_e hf
          refine kVp (pc := 25) (S := ⟨hexec, hb, hml, hown, hts⟩) hP hD hG hA hS [0, 2] [1] [1, 0, 2] (w2 := (w_X1_endsRiver g a0 a1 a2 u0_2 u0_5 x0_rows x0_columns y1_land y2_riverOf)) rfl rfl rfl rfl rfl rfl (by decide) (c_X1_isRiver l g a0 a2 _ (.int x0_rows) (.int x0_columns) u0_2 (.ref a1) u0_5 y2_riverOf r11 r25 hc) gX1_endsRiver_X1_isRiver rfl hv_X1_isRiver ⟨nle rfl, nle rfl⟩ 1 0 rfl rfl rfl (rest := []) rfl rfl hl.1 (nle rfl) dX1_endsRiver_25 (fun H locs hP hD hS => ?_)
          refine kb_eq (pc := 28) hexec hb dX1_endsRiver_28 (tgt := 33) rfl hf (fun hc hf => ?_) (fun hc hf => ?_)
          · obtain ⟨v2_1, ev2_1, hf⟩ := bv_e hf
            refine k_iinc (pc := 33) hexec hb dX1_endsRiver_33 kq_1 hl (k := 3) rfl ev2_1 (nle rfl) rfl (fun ls (hl : lv_has ls 4 [(2, .int v2_1), (3, .int r11), (0, .ref a0), (1, .int p1)]) => ?_)
            refine lv_goto (pc := 36) hexec hb dX1_endsRiver_36 (tgt := 2) rfl ?_
            exact ih2 _ _ _ _ (sl1 hf hk2) hP hD hS (lv_sub hl [2, 3, 0] rfl)
          · have hf := mk1 hf hk2
            refine lv_iconst (pc := 31) hexec hb dX1_endsRiver_31 ki_1 ?_
            cases hf
            exact ke_z hQ hexec hb hr (.inr rfl) hP hD hS dX1_endsRiver_32 hlocks
  exact hL2 n _ _ _ _ hz hP hD hS (lv_sub hl [1, 2, 0] rfl)
abbrev w_X1_depthOf (g : GE) (a0 a1 : Nat) (u0_2 u0_4 u0_5 : Value) (x0_rows : Int32) (x0_columns : Int32) (y1_land : Nat → Int32) : va_W := [(a0, .inr (1, [.int x0_rows, .int x0_columns, u0_2, .ref a1, u0_4, u0_5])), (a1, .inl (g.2.1 1, 144, .inl y1_land))]
set_option maxRecDepth 20000 in
theorem c_X1_depthOf (l : Launch) (g : GE) (a0 a1 : Nat) (sz : Nat) (u0_2 u0_4 u0_5 : Value) (x0_rows : Int32) (x0_columns : Int32) (y1_land : Nat → Int32) (p1 : Int32)  (r : Int32) (hf : f_X1_depthOf x0_rows x0_columns y1_land p1 = some r) : MI l g yX1_depthOf wsX1_depthOf 2 45 [.ref a0, .int p1] (w_X1_depthOf g a0 a1 u0_2 u0_4 u0_5 x0_rows x0_columns y1_land) sz (some (.int r)) (w_X1_depthOf g a0 a1 u0_2 u0_4 u0_5 x0_rows x0_columns y1_land) := by
  refine MI.start (cc := cX1_depthOf) (maxL := 9) (ret := (some .int)) rfl rfl (nle rfl) ?_
  intro p e s m args below meth c A ls Q hQ hexec hb hr hts hown hlocks hml hA hP hD hG hS hl
  unfold f_X1_depthOf at hf
  have hWX1 : ∀ w ∈ wsX10, w.before args s = true := fun w h => hts w (List.mem_cons_of_mem _ (List.mem_append_right _ h))
  have hS : va_S A s.heap s.heap [] := hS
  refine lv_aload_n (pc := 0) hexec hb dX1_depthOf_0 rfl (lv_at hl 0 rfl) ?_
  refine lv_iload_n (pc := 1) hexec hb dX1_depthOf_1 rfl (lv_at hl 1 rfl) ?_
  obtain ⟨r2, hc, hf⟩ := bd1_e hf
  refine kVp (pc := 2) (S := ⟨hexec, hb, hml, hown, hts⟩) hP hD hG hA hS [0, 1] [] [0, 1] (w2 := (w_X1_depthOf g a0 a1 u0_2 u0_4 u0_5 x0_rows x0_columns y1_land)) rfl rfl rfl rfl rfl rfl (by decide) (c_X1_isLand l g a0 a1 _ (.int x0_rows) (.int x0_columns) u0_2 u0_4 u0_5 y1_land p1 r2 hc) gX1_depthOf_X1_isLand rfl hv_X1_isLand ⟨nle rfl, nle rfl⟩ 1 0 rfl rfl rfl (rest := []) rfl rfl hl.1 (nle rfl) dX1_depthOf_2 (fun H locs hP hD hS => ?_)
  refine kb_eq (pc := 5) hexec hb dX1_depthOf_5 (tgt := 15) rfl hf (fun hc hf => ?_) (fun hc hf => ?_)
  · refine lv_iconst (pc := 15) hexec hb dX1_depthOf_15 ki_0 ?_
    cases hf
    exact ke_i hQ hexec hb hr hP hD hS dX1_depthOf_16 hlocks
  · refine lv_aload_n (pc := 8) hexec hb dX1_depthOf_8 rfl (lv_at hl 0 rfl) ?_
    refine kg_get (pc := 9) hexec hb (own := RX1) hWX1 hown hG hP 0 rfl rfl 1 (nle rfl) (hts _ (List.mem_cons_of_mem _ (List.mem_append_left _ (List.mem_of_getElem? (i := 0) rfl)))) rfl rfl dX1_depthOf_9 ?_
    refine kb_gt (pc := 12) hexec hb dX1_depthOf_12 (tgt := 17) rfl hf (fun hc hf => ?_) (fun hc hf => ?_)
    · refine lv_iload_n (pc := 17) hexec hb dX1_depthOf_17 rfl (lv_at hl 1 rfl) ?_
      refine lv_aload_n (pc := 18) hexec hb dX1_depthOf_18 rfl (lv_at hl 0 rfl) ?_
      refine kg_get (pc := 19) hexec hb (own := RX1) hWX1 hown hG hP 0 rfl rfl 1 (nle rfl) (hts _ (List.mem_cons_of_mem _ (List.mem_append_left _ (List.mem_of_getElem? (i := 0) rfl)))) rfl rfl dX1_depthOf_19 ?_
      refine kd_idiv (pc := 22) hexec hb dX1_depthOf_22 hf (fun hf => ?_)
      obtain ⟨v2, ev2, hf⟩ := bv_e hf
      refine kn_i ev2 ?_
      refine lv_istore_n (pc := 23) hexec hb dX1_depthOf_23 rfl hl (nle rfl) rfl (fun ls (hl : lv_has ls 9 [(2, .int v2), (0, .ref a0), (1, .int p1)]) => ?_)
      refine lv_iload_n (pc := 24) hexec hb dX1_depthOf_24 rfl (lv_at hl 2 rfl) ?_
      refine lv_aload_n (pc := 25) hexec hb dX1_depthOf_25 rfl (lv_at hl 1 rfl) ?_
      refine kg_get (pc := 26) hexec hb (own := RX1) hWX1 hown hG hP 0 rfl rfl 1 (nle rfl) (hts _ (List.mem_cons_of_mem _ (List.mem_append_left _ (List.mem_of_getElem? (i := 0) rfl)))) rfl rfl dX1_depthOf_26 ?_
      refine kd_irem (pc := 29) hexec hb dX1_depthOf_29 hf (fun hf => ?_)
      obtain ⟨v3, ev3, hf⟩ := bv_e hf
      refine kn_i ev3 ?_
      refine lv_istore_n (pc := 30) hexec hb dX1_depthOf_30 rfl hl (nle rfl) rfl (fun ls (hl : lv_has ls 9 [(3, .int v3), (2, .int v2), (0, .ref a0), (1, .int p1)]) => ?_)
      refine lv_iload_n (pc := 31) hexec hb dX1_depthOf_31 rfl (lv_at hl 1 rfl) ?_
      refine lv_iconst (pc := 32) hexec hb dX1_depthOf_32 ki_1 ?_
      refine lv_iadd (pc := 33) hexec hb dX1_depthOf_33 ?_
      refine lv_aload_n (pc := 34) hexec hb dX1_depthOf_34 rfl (lv_at hl 2 rfl) ?_
      refine kg_get (pc := 35) hexec hb (own := RX1) hWX1 hown hG hP 0 rfl rfl 0 (nle rfl) (hts _ (List.mem_cons_of_mem _ (List.mem_append_left _ (List.mem_of_getElem? (i := 1) rfl)))) rfl rfl dX1_depthOf_35 ?_
      refine lv_iload_n (pc := 38) hexec hb dX1_depthOf_38 rfl (lv_at hl 1 rfl) ?_
      refine lv_isub (pc := 39) hexec hb dX1_depthOf_39 ?_
      refine va_mmin (pc := 40) hexec hb (hml.trans hl.1.symm) (own := RX1) hown (hts _ (List.mem_cons_of_mem _ (List.mem_append_left _ (List.mem_of_getElem? (i := 2) rfl)))) (hts _ (List.mem_cons_of_mem _ (List.mem_append_left _ (List.mem_of_getElem? (i := 3) rfl)))) (hts _ (List.mem_cons_of_mem _ (List.mem_append_left _ (List.mem_of_getElem? (i := 4) rfl)))) (hts _ (List.mem_cons_of_mem _ (List.mem_append_left _ (List.mem_of_getElem? (i := 5) rfl)))) (nle rfl) (nle rfl) (nle rfl) (nle rfl) dX1_depthOf_40 ?_
      obtain ⟨v4, ev4, hf⟩ := bv_e hf
      refine kn_i ev4 ?_
      refine lv_istore (pc := 43) hexec hb dX1_depthOf_43 hl (nle rfl) rfl (fun ls (hl : lv_has ls 9 [(4, .int v4), (3, .int v3), (2, .int v2), (0, .ref a0), (1, .int p1)]) => ?_)
      refine lv_iload_n (pc := 45) hexec hb dX1_depthOf_45 rfl (lv_at hl 1 rfl) ?_
      refine lv_iconst (pc := 46) hexec hb dX1_depthOf_46 ki_1 ?_
      refine lv_iadd (pc := 47) hexec hb dX1_depthOf_47 ?_
      refine lv_aload_n (pc := 48) hexec hb dX1_depthOf_48 rfl (lv_at hl 3 rfl) ?_
      refine kg_get (pc := 49) hexec hb (own := RX1) hWX1 hown hG hP 0 rfl rfl 1 (nle rfl) (hts _ (List.mem_cons_of_mem _ (List.mem_append_left _ (List.mem_of_getElem? (i := 0) rfl)))) rfl rfl dX1_depthOf_49 ?_
      refine lv_iload_n (pc := 52) hexec hb dX1_depthOf_52 rfl (lv_at hl 1 rfl) ?_
      refine lv_isub (pc := 53) hexec hb dX1_depthOf_53 ?_
      refine va_mmin (pc := 54) hexec hb (hml.trans hl.1.symm) (own := RX1) hown (hts _ (List.mem_cons_of_mem _ (List.mem_append_left _ (List.mem_of_getElem? (i := 2) rfl)))) (hts _ (List.mem_cons_of_mem _ (List.mem_append_left _ (List.mem_of_getElem? (i := 3) rfl)))) (hts _ (List.mem_cons_of_mem _ (List.mem_append_left _ (List.mem_of_getElem? (i := 4) rfl)))) (hts _ (List.mem_cons_of_mem _ (List.mem_append_left _ (List.mem_of_getElem? (i := 5) rfl)))) (nle rfl) (nle rfl) (nle rfl) (nle rfl) dX1_depthOf_54 ?_
      obtain ⟨v5, ev5, hf⟩ := bv_e hf
      refine kn_i ev5 ?_
      refine lv_istore (pc := 57) hexec hb dX1_depthOf_57 hl (nle rfl) rfl (fun ls (hl : lv_has ls 9 [(5, .int v5), (4, .int v4), (3, .int v3), (2, .int v2), (0, .ref a0), (1, .int p1)]) => ?_)
      refine lv_iload (pc := 59) hexec hb dX1_depthOf_59 (lv_at hl 1 rfl) ?_
      refine lv_iload (pc := 61) hexec hb dX1_depthOf_61 (lv_at hl 0 rfl) ?_
      refine va_mmin (pc := 63) hexec hb (hml.trans hl.1.symm) (own := RX1) hown (hts _ (List.mem_cons_of_mem _ (List.mem_append_left _ (List.mem_of_getElem? (i := 2) rfl)))) (hts _ (List.mem_cons_of_mem _ (List.mem_append_left _ (List.mem_of_getElem? (i := 3) rfl)))) (hts _ (List.mem_cons_of_mem _ (List.mem_append_left _ (List.mem_of_getElem? (i := 4) rfl)))) (hts _ (List.mem_cons_of_mem _ (List.mem_append_left _ (List.mem_of_getElem? (i := 5) rfl)))) (nle rfl) (nle rfl) (nle rfl) (nle rfl) dX1_depthOf_63 ?_
      obtain ⟨v6, ev6, hf⟩ := bv_e hf
      refine kn_i ev6 ?_
      refine lv_istore (pc := 66) hexec hb dX1_depthOf_66 hl (nle rfl) rfl (fun ls (hl : lv_has ls 9 [(6, .int v6), (5, .int v5), (4, .int v4), (3, .int v3), (2, .int v2), (0, .ref a0), (1, .int p1)]) => ?_)
      refine lv_iconst (pc := 68) hexec hb dX1_depthOf_68 ki_0 ?_
      refine lv_istore (pc := 69) hexec hb dX1_depthOf_69 hl (nle rfl) rfl (fun ls (hl : lv_has ls 9 [(7, .int 0), (6, .int v6), (5, .int v5), (4, .int v4), (3, .int v3), (2, .int v2), (0, .ref a0), (1, .int p1)]) => ?_)
      obtain ⟨l71, el71, hf⟩ := bvf2 hf
      obtain ⟨v6_2, hz, hf⟩ := bd1_e hf
      have hE71 : ∀ (H : Heap) (locs : List Loc) (ls : Array Slot), va_P g.1 vwCl (w_X1_depthOf g a0 a1 u0_2 u0_4 u0_5 x0_rows x0_columns y1_land) H → va_D A (w_X1_depthOf g a0 a1 u0_2 u0_4 u0_5 x0_rows x0_columns y1_land) → va_S A s.heap H locs → lv_has ls 9 [(6, .int v6_2)] → W p l e (RM 2 45) s m args below meth c H locs 0 0 Q (F0 m 131 ls []) := by
        intro H locs ls hP hD hS hl
        refine lv_iload (pc := 131) hexec hb dX1_depthOf_131 (lv_at hl 0 rfl) ?_
        cases hf
        exact ke_i hQ hexec hb hr hP hD hS dX1_depthOf_133 hlocks
      obtain ⟨n, hz⟩ := lq2_e hz
      have hL71 : ∀ (n : Nat) (v6_1 : Int32) (v7 : Int32) (H : Heap) (locs : List Loc) (ls : Array Slot), it2 l71 n v6_1 v7 = some v6_2 → va_P g.1 vwCl (w_X1_depthOf g a0 a1 u0_2 u0_4 u0_5 x0_rows x0_columns y1_land) H → va_D A (w_X1_depthOf g a0 a1 u0_2 u0_4 u0_5 x0_rows x0_columns y1_land) → va_S A s.heap H locs → lv_has ls 9 [(0, .ref a0), (2, .int v2), (3, .int v3), (6, .int v6_1), (7, .int v7)] → W p l e (RM 2 45) s m args below meth c H locs 0 0 Q (F0 m 71 ls []) := by
        intro n
        induction n with
        | zero =>
          intro v6_1 v7 H locs ls hf hP hD hS hl
          exact it2_0 hf
        | succ n71 ih71 =>
          intro v6_1 v7 H locs ls hf hP hD hS hl
          obtain ⟨q71, hf, hk71⟩ := it2_e hf
          have hf := (el71 v6_1 v7).symm.trans hf
          refine lv_iload (pc := 71) hexec hb dX1_depthOf_71 (lv_at hl 4 rfl) ?_
          refine lv_aload_n (pc := 73) hexec hb dX1_depthOf_73 rfl (lv_at hl 0 rfl) ?_
          obtain ⟨r74, hc, hf⟩ := bd1_e hf
          refine kVp (pc := 74) (S := ⟨hexec, hb, hml, hown, hts⟩) hP hD hG hA hS [0] [1] [1, 0] (w2 := (w_X1_depthOf g a0 a1 u0_2 u0_4 u0_5 x0_rows x0_columns y1_land)) rfl rfl rfl rfl rfl rfl (by decide) (c_X1_cells l g a0 _ u0_2 (.ref a1) u0_4 u0_5 x0_rows x0_columns r74 hc) gX1_depthOf_X1_cells rfl hv_X1_cells ⟨nle rfl, nle rfl⟩ 1 0 rfl rfl rfl (rest := [.int v7]) rfl rfl hl.1 (nle rfl) dX1_depthOf_74 (fun H locs hP hD hS => ?_)
          refine ki_ge (pc := 77) hexec hb dX1_depthOf_77 (tgt := 131) rfl hf (fun hc hf => ?_) (fun hc hf => ?_)
          · cases sr2 hf hk71
            exact hE71 _ _ _ hP hD hS (lv_sub hl [3] rfl)
          · refine lv_aload_n (pc := 80) hexec hb dX1_depthOf_80 rfl (lv_at hl 0 rfl) ?_
            refine lv_iload (pc := 81) hexec hb dX1_depthOf_81 (lv_at hl 4 rfl) ?_
            obtain ⟨r83, hc, hf⟩ := bd1_e hf
            refine kVp (pc := 83) (S := ⟨hexec, hb, hml, hown, hts⟩) hP hD hG hA hS [0, 1] [] [0, 1] (w2 := (w_X1_depthOf g a0 a1 u0_2 u0_4 u0_5 x0_rows x0_columns y1_land)) rfl rfl rfl rfl rfl rfl (by decide) (c_X1_isLand l g a0 a1 _ (.int x0_rows) (.int x0_columns) u0_2 u0_4 u0_5 y1_land v7 r83 hc) gX1_depthOf_X1_isLand rfl hv_X1_isLand ⟨nle rfl, nle rfl⟩ 1 0 rfl rfl rfl (rest := []) rfl rfl hl.1 (nle rfl) dX1_depthOf_83 (fun H locs hP hD hS => ?_)
            obtain ⟨j125, ej125, hf⟩ := bvf1 hf
            have hj125 : ∀ (v6_3 : Int32) (H : Heap) (locs : List Loc) (ls : Array Slot), j125 v6_3 = some q71 → va_P g.1 vwCl (w_X1_depthOf g a0 a1 u0_2 u0_4 u0_5 x0_rows x0_columns y1_land) H → va_D A (w_X1_depthOf g a0 a1 u0_2 u0_4 u0_5 x0_rows x0_columns y1_land) → va_S A s.heap H locs → lv_has ls 9 [(0, .ref a0), (2, .int v2), (3, .int v3), (6, .int v6_3), (7, .int v7)] → W p l e (RM 2 45) s m args below meth c H locs 0 0 Q (F0 m 125 ls []) := by
              intro v6_3 H locs ls hf hP hD hS hl
              have hf := (ej125 v6_3).symm.trans hf
              obtain ⟨v7_1, ev7_1, hf⟩ := bv_e hf
              refine k_iinc (pc := 125) hexec hb dX1_depthOf_125 kq_1 hl (k := 4) rfl ev7_1 (nle rfl) rfl (fun ls (hl : lv_has ls 9 [(7, .int v7_1), (0, .ref a0), (2, .int v2), (3, .int v3), (6, .int v6_3)]) => ?_)
              refine lv_goto (pc := 128) hexec hb dX1_depthOf_128 (tgt := 71) rfl ?_
              exact ih71 _ _ _ _ _ (sl2 hf hk71) hP hD hS (lv_sub hl [1, 2, 3, 4, 0] rfl)
            refine kb_ne (pc := 86) hexec hb dX1_depthOf_86 (tgt := 125) rfl hf (fun hc hf => ?_) (fun hc hf => ?_)
            · exact hj125 _ _ _ _ hf hP hD hS (lv_sub hl [0, 1, 2, 3, 4] rfl)
            · refine lv_iload (pc := 89) hexec hb dX1_depthOf_89 (lv_at hl 4 rfl) ?_
              refine lv_aload_n (pc := 91) hexec hb dX1_depthOf_91 rfl (lv_at hl 0 rfl) ?_
              refine kg_get (pc := 92) hexec hb (own := RX1) hWX1 hown hG hP 0 rfl rfl 1 (nle rfl) (hts _ (List.mem_cons_of_mem _ (List.mem_append_left _ (List.mem_of_getElem? (i := 0) rfl)))) rfl rfl dX1_depthOf_92 ?_
              refine kd_idiv (pc := 95) hexec hb dX1_depthOf_95 hf (fun hf => ?_)
              refine lv_iload_n (pc := 96) hexec hb dX1_depthOf_96 rfl (lv_at hl 1 rfl) ?_
              refine lv_isub (pc := 97) hexec hb dX1_depthOf_97 ?_
              refine va_mabs (pc := 98) hexec hb (hml.trans hl.1.symm) (own := RX1) hown (hts _ (List.mem_cons_of_mem _ (List.mem_append_left _ (List.mem_of_getElem? (i := 6) rfl)))) (hts _ (List.mem_cons_of_mem _ (List.mem_append_left _ (List.mem_of_getElem? (i := 7) rfl)))) (hts _ (List.mem_cons_of_mem _ (List.mem_append_left _ (List.mem_of_getElem? (i := 4) rfl)))) (hts _ (List.mem_cons_of_mem _ (List.mem_append_left _ (List.mem_of_getElem? (i := 8) rfl)))) (nle rfl) (nle rfl) (nle rfl) (nle rfl) dX1_depthOf_98 ?_
              refine lv_iload (pc := 101) hexec hb dX1_depthOf_101 (lv_at hl 4 rfl) ?_
              refine lv_aload_n (pc := 103) hexec hb dX1_depthOf_103 rfl (lv_at hl 0 rfl) ?_
              refine kg_get (pc := 104) hexec hb (own := RX1) hWX1 hown hG hP 0 rfl rfl 1 (nle rfl) (hts _ (List.mem_cons_of_mem _ (List.mem_append_left _ (List.mem_of_getElem? (i := 0) rfl)))) rfl rfl dX1_depthOf_104 ?_
              refine kd_irem (pc := 107) hexec hb dX1_depthOf_107 hf (fun hf => ?_)
              refine lv_iload_n (pc := 108) hexec hb dX1_depthOf_108 rfl (lv_at hl 2 rfl) ?_
              refine lv_isub (pc := 109) hexec hb dX1_depthOf_109 ?_
              refine va_mabs (pc := 110) hexec hb (hml.trans hl.1.symm) (own := RX1) hown (hts _ (List.mem_cons_of_mem _ (List.mem_append_left _ (List.mem_of_getElem? (i := 6) rfl)))) (hts _ (List.mem_cons_of_mem _ (List.mem_append_left _ (List.mem_of_getElem? (i := 7) rfl)))) (hts _ (List.mem_cons_of_mem _ (List.mem_append_left _ (List.mem_of_getElem? (i := 4) rfl)))) (hts _ (List.mem_cons_of_mem _ (List.mem_append_left _ (List.mem_of_getElem? (i := 8) rfl)))) (nle rfl) (nle rfl) (nle rfl) (nle rfl) dX1_depthOf_110 ?_
              refine lv_iadd (pc := 113) hexec hb dX1_depthOf_113 ?_
              obtain ⟨v8, ev8, hf⟩ := bv_e hf
              refine kn_i ev8 ?_
              refine lv_istore (pc := 114) hexec hb dX1_depthOf_114 hl (nle rfl) rfl (fun ls (hl : lv_has ls 9 [(8, .int v8), (0, .ref a0), (2, .int v2), (3, .int v3), (6, .int v6_1), (7, .int v7)]) => ?_)
              refine lv_iload (pc := 116) hexec hb dX1_depthOf_116 (lv_at hl 4 rfl) ?_
              refine lv_iload (pc := 118) hexec hb dX1_depthOf_118 (lv_at hl 0 rfl) ?_
              refine va_mmin (pc := 120) hexec hb (hml.trans hl.1.symm) (own := RX1) hown (hts _ (List.mem_cons_of_mem _ (List.mem_append_left _ (List.mem_of_getElem? (i := 2) rfl)))) (hts _ (List.mem_cons_of_mem _ (List.mem_append_left _ (List.mem_of_getElem? (i := 3) rfl)))) (hts _ (List.mem_cons_of_mem _ (List.mem_append_left _ (List.mem_of_getElem? (i := 4) rfl)))) (hts _ (List.mem_cons_of_mem _ (List.mem_append_left _ (List.mem_of_getElem? (i := 5) rfl)))) (nle rfl) (nle rfl) (nle rfl) (nle rfl) dX1_depthOf_120 ?_
              obtain ⟨v6_4, ev6_4, hf⟩ := bv_e hf
              refine kn_i ev6_4 ?_
              refine lv_istore (pc := 123) hexec hb dX1_depthOf_123 hl (nle rfl) rfl (fun ls (hl : lv_has ls 9 [(6, .int v6_4), (8, .int v8), (0, .ref a0), (2, .int v2), (3, .int v3), (7, .int v7)]) => ?_)
              exact hj125 _ _ _ _ hf hP hD hS (lv_sub hl [2, 3, 4, 0, 5] rfl)
      exact hL71 n _ _ _ _ _ hz hP hD hS (lv_sub hl [6, 5, 4, 1, 0] rfl)
    · refine lv_iconst (pc := 15) hexec hb dX1_depthOf_15 ki_0 ?_
      cases hf
      exact ke_i hQ hexec hb hr hP hD hS dX1_depthOf_16 hlocks
abbrev w_X1_riverCell (g : GE) (a0 a1 a2 : Nat) (u0_0 u0_1 u0_2 u0_3 : Value) (y1_riverOf : Nat → Int32) (y2_riverPlace : Nat → Int32) : va_W := [(a0, .inr (1, [u0_0, u0_1, u0_2, u0_3, .ref a1, .ref a2])), (a1, .inl (g.2.1 0, 144, .inl y1_riverOf)), (a2, .inl (g.2.1 0, 144, .inl y2_riverPlace))]
set_option maxRecDepth 20000 in
theorem c_X1_riverCell (l : Launch) (g : GE) (a0 a1 a2 : Nat) (sz : Nat) (u0_0 u0_1 u0_2 u0_3 : Value) (y1_riverOf : Nat → Int32) (y2_riverPlace : Nat → Int32) (p1 : Int32) (p2 : Int32)  (r : Int32) (hf : f_X1_riverCell y1_riverOf y2_riverPlace p1 p2 = some r) : MI l g yX1_riverCell wsX1_riverCell 1 24 [.ref a0, .int p1, .int p2] (w_X1_riverCell g a0 a1 a2 u0_0 u0_1 u0_2 u0_3 y1_riverOf y2_riverPlace) sz (some (.int r)) (w_X1_riverCell g a0 a1 a2 u0_0 u0_1 u0_2 u0_3 y1_riverOf y2_riverPlace) := by
  refine MI.start (cc := cX1_riverCell) (maxL := 4) (ret := (some .int)) rfl rfl (nle rfl) ?_
  intro p e s m args below meth c A ls Q hQ hexec hb hr hts hown hlocks hml hA hP hD hG hS hl
  unfold f_X1_riverCell at hf
  have hWX1 : ∀ w ∈ wsX10, w.before args s = true := fun w h => hts w (List.mem_cons_of_mem _ (List.mem_append_right _ h))
  have hS : va_S A s.heap s.heap [] := hS
  refine lv_iconst (pc := 0) hexec hb dX1_riverCell_0 ki_0 ?_
  refine lv_istore_n (pc := 1) hexec hb dX1_riverCell_1 rfl hl (nle rfl) rfl (fun ls (hl : lv_has ls 4 [(3, .int 0), (0, .ref a0), (1, .int p1), (2, .int p2)]) => ?_)
  obtain ⟨l2, el2, hf⟩ := bvf1 hf
  obtain ⟨n, hz⟩ := lq1_e hf
  have hL2 : ∀ (n : Nat) (v3 : Int32) (H : Heap) (locs : List Loc) (ls : Array Slot), it1 l2 n v3 = some r → va_P g.1 vwCl (w_X1_riverCell g a0 a1 a2 u0_0 u0_1 u0_2 u0_3 y1_riverOf y2_riverPlace) H → va_D A (w_X1_riverCell g a0 a1 a2 u0_0 u0_1 u0_2 u0_3 y1_riverOf y2_riverPlace) → va_S A s.heap H locs → lv_has ls 4 [(0, .ref a0), (1, .int p1), (2, .int p2), (3, .int v3)] → W p l e (RM 1 24) s m args below meth c H locs 0 0 Q (F0 m 2 ls []) := by
    intro n
    induction n with
    | zero =>
      intro v3 H locs ls hf hP hD hS hl
      exact it1_0 hf
    | succ n2 ih2 =>
      intro v3 H locs ls hf hP hD hS hl
      obtain ⟨q2, hf, hk2⟩ := it1_e hf
      have hf := (el2 v3).symm.trans hf
      refine lv_iload_n (pc := 2) hexec hb dX1_riverCell_2 rfl (lv_at hl 3 rfl) ?_
      refine lv_sipush (pc := 3) hexec hb dX1_riverCell_3 ks_144 ?_
      refine ki_ge (pc := 6) hexec hb dX1_riverCell_6 (tgt := 41) rfl hf (fun hc hf => ?_) (fun hc hf => ?_)
      · have hf := mk1 hf hk2
        refine lv_iconst (pc := 41) hexec hb dX1_riverCell_41 ki_m1 ?_
        cases hf
        exact ke_i hQ hexec hb hr hP hD hS dX1_riverCell_42 hlocks
      · refine lv_iload_n (pc := 9) hexec hb dX1_riverCell_9 rfl (lv_at hl 2 rfl) ?_
        obtain ⟨j35, ej35, hf⟩ := bvf1 hf
        have hj35 : ∀ (u : Unit) (H : Heap) (locs : List Loc) (ls : Array Slot), j35 u = some q2 → va_P g.1 vwCl (w_X1_riverCell g a0 a1 a2 u0_0 u0_1 u0_2 u0_3 y1_riverOf y2_riverPlace) H → va_D A (w_X1_riverCell g a0 a1 a2 u0_0 u0_1 u0_2 u0_3 y1_riverOf y2_riverPlace) → va_S A s.heap H locs → lv_has ls 4 [(0, .ref a0), (1, .int p1), (2, .int p2), (3, .int v3)] → W p l e (RM 1 24) s m args below meth c H locs 0 0 Q (F0 m 35 ls []) := by
          intro u H locs ls hf hP hD hS hl
          have hf := (ej35 u).symm.trans hf
          obtain ⟨v3_1, ev3_1, hf⟩ := bv_e hf
          refine k_iinc (pc := 35) hexec hb dX1_riverCell_35 kq_1 hl (k := 3) rfl ev3_1 (nle rfl) rfl (fun ls (hl : lv_has ls 4 [(3, .int v3_1), (0, .ref a0), (1, .int p1), (2, .int p2)]) => ?_)
          refine lv_goto (pc := 38) hexec hb dX1_riverCell_38 (tgt := 2) rfl ?_
          exact ih2 _ _ _ _ (sl1 hf hk2) hP hD hS (lv_sub hl [1, 2, 3, 0] rfl)
        refine kb_lt (pc := 10) hexec hb dX1_riverCell_10 (tgt := 35) rfl hf (fun hc hf => ?_) (fun hc hf => ?_)
        · exact hj35 _ _ _ _ hf hP hD hS (lv_sub hl [0, 1, 2, 3] rfl)
        · refine lv_aload_n (pc := 13) hexec hb dX1_riverCell_13 rfl (lv_at hl 0 rfl) ?_
          refine kg_get (pc := 14) hexec hb (own := RX1) hWX1 hown hG hP 0 rfl rfl 4 (nle rfl) (hts _ (List.mem_cons_of_mem _ (List.mem_append_left _ (List.mem_of_getElem? (i := 0) rfl)))) rfl rfl dX1_riverCell_14 ?_
          refine lv_iload_n (pc := 17) hexec hb dX1_riverCell_17 rfl (lv_at hl 3 rfl) ?_
          refine kr_iald (pc := 18) hexec hb hG hP 1 rfl hf dX1_riverCell_18 (fun hf => ?_)
          refine lv_iload_n (pc := 19) hexec hb dX1_riverCell_19 rfl (lv_at hl 1 rfl) ?_
          refine ki_ne (pc := 20) hexec hb dX1_riverCell_20 (tgt := 35) rfl hf (fun hc hf => ?_) (fun hc hf => ?_)
          · exact hj35 _ _ _ _ hf hP hD hS (lv_sub hl [0, 1, 2, 3] rfl)
          · refine lv_aload_n (pc := 23) hexec hb dX1_riverCell_23 rfl (lv_at hl 0 rfl) ?_
            refine kg_get (pc := 24) hexec hb (own := RX1) hWX1 hown hG hP 0 rfl rfl 5 (nle rfl) (hts _ (List.mem_cons_of_mem _ (List.mem_append_left _ (List.mem_of_getElem? (i := 1) rfl)))) rfl rfl dX1_riverCell_24 ?_
            refine lv_iload_n (pc := 27) hexec hb dX1_riverCell_27 rfl (lv_at hl 3 rfl) ?_
            refine kr_iald (pc := 28) hexec hb hG hP 2 rfl hf dX1_riverCell_28 (fun hf => ?_)
            refine lv_iload_n (pc := 29) hexec hb dX1_riverCell_29 rfl (lv_at hl 2 rfl) ?_
            refine ki_ne (pc := 30) hexec hb dX1_riverCell_30 (tgt := 35) rfl hf (fun hc hf => ?_) (fun hc hf => ?_)
            · exact hj35 _ _ _ _ hf hP hD hS (lv_sub hl [0, 1, 2, 3] rfl)
            · have hf := mk1 hf hk2
              refine lv_iload_n (pc := 33) hexec hb dX1_riverCell_33 rfl (lv_at hl 3 rfl) ?_
              cases hf
              exact ke_i hQ hexec hb hr hP hD hS dX1_riverCell_34 hlocks
  exact hL2 n _ _ _ _ hz hP hD hS (lv_sub hl [1, 2, 3, 0] rfl)
abbrev w_X1_layRiver (g : GE) (a0 a1 a2 a3 : Nat) (u0_0 u0_1 u0_3 : Value) (x0_rivers : Int32) (y1_riverOf : Nat → Int32) (y2_riverPlace : Nat → Int32) (y3_p : Nat → Int32) : va_W := [(a0, .inr (1, [u0_0, u0_1, .int x0_rivers, u0_3, .ref a1, .ref a2])), (a1, .inl (g.2.1 0, 144, .inl y1_riverOf)), (a2, .inl (g.2.1 0, 144, .inl y2_riverPlace)), (a3, .inl (g.2.1 0, 144, .inl y3_p))]
set_option maxRecDepth 20000 in
theorem c_X1_layRiver (l : Launch) (g : GE) (a0 a1 a2 a3 : Nat) (sz : Nat) (u0_0 u0_1 u0_3 : Value) (x0_rivers : Int32) (y1_riverOf : Nat → Int32) (y2_riverPlace : Nat → Int32) (y3_p : Nat → Int32) (p2 : Int32)  (o_x0_rivers : Int32) (o_y1_riverOf : Nat → Int32) (o_y2_riverPlace : Nat → Int32) (hf : f_X1_layRiver x0_rivers y1_riverOf y2_riverPlace y3_p p2 = some (o_x0_rivers, o_y1_riverOf, o_y2_riverPlace)) : MI l g yX1_layRiver wsX1_layRiver 1 24 [.ref a0, .ref a3, .int p2] (w_X1_layRiver g a0 a1 a2 a3 u0_0 u0_1 u0_3 x0_rivers y1_riverOf y2_riverPlace y3_p) sz none (w_X1_layRiver g a0 a1 a2 a3 u0_0 u0_1 u0_3 o_x0_rivers o_y1_riverOf o_y2_riverPlace y3_p) := by
  refine MI.start (cc := cX1_layRiver) (maxL := 5) (ret := none) rfl rfl (nle rfl) ?_
  intro p e s m args below meth c A ls Q hQ hexec hb hr hts hown hlocks hml hA hP hD hG hS hl
  unfold f_X1_layRiver at hf
  have hWX1 : ∀ w ∈ wsX10, w.before args s = true := fun w h => hts w (List.mem_cons_of_mem _ (List.mem_append_right _ h))
  have hS : va_S A s.heap s.heap [] := hS
  refine lv_iconst (pc := 0) hexec hb dX1_layRiver_0 ki_0 ?_
  refine lv_istore_n (pc := 1) hexec hb dX1_layRiver_1 rfl hl (nle rfl) rfl (fun ls (hl : lv_has ls 5 [(3, .int 0), (0, .ref a0), (1, .ref a3), (2, .int p2)]) => ?_)
  obtain ⟨l2, el2, hf⟩ := bvf3 hf
  obtain ⟨y1_riverOf_2, y2_riverPlace_2, hz, hf⟩ := bd2_e hf
  have hE2 : ∀ (H : Heap) (locs : List Loc) (ls : Array Slot), va_P g.1 vwCl (w_X1_layRiver g a0 a1 a2 a3 u0_0 u0_1 u0_3 x0_rivers y1_riverOf_2 y2_riverPlace_2 y3_p) H → va_D A (w_X1_layRiver g a0 a1 a2 a3 u0_0 u0_1 u0_3 x0_rivers y1_riverOf_2 y2_riverPlace_2 y3_p) → va_S A s.heap H locs → lv_has ls 5 [(0, .ref a0)] → W p l e (RM 1 24) s m args below meth c H locs 0 0 Q (F0 m 56 ls []) := by
    intro H locs ls hP hD hS hl
    refine lv_aload_n (pc := 56) hexec hb dX1_layRiver_56 rfl (lv_at hl 0 rfl) ?_
    refine lv_dup (pc := 57) hexec hb dX1_layRiver_57 rfl ?_
    refine kg_get (pc := 58) hexec hb (own := RX1) hWX1 hown hG hP 0 rfl rfl 2 (nle rfl) (hts _ (List.mem_cons_of_mem _ (List.mem_append_left _ (List.mem_of_getElem? (i := 1) rfl)))) rfl rfl dX1_layRiver_58 ?_
    refine lv_iconst (pc := 61) hexec hb dX1_layRiver_61 ki_1 ?_
    refine lv_iadd (pc := 62) hexec hb dX1_layRiver_62 ?_
    obtain ⟨x0_rivers_1, ex0_rivers_1, hf⟩ := bv_e hf
    refine kn_i ex0_rivers_1 ?_
    refine kp_put (pc := 63) hexec hb (own := RX1) hWX1 tyX1 tyX1_ok nmX1 hown hG hP hD hS 0 rfl rfl 2 (nle rfl) (hts _ (List.mem_cons_of_mem _ (List.mem_append_left _ (List.mem_of_getElem? (i := 1) rfl)))) rfl rfl rfl rfl (nle rfl) dX1_layRiver_63 (fun H locs (hP : va_P g.1 vwCl (w_X1_layRiver g a0 a1 a2 a3 u0_0 u0_1 u0_3 x0_rivers_1 y1_riverOf_2 y2_riverPlace_2 y3_p) H) (hD : va_D A (w_X1_layRiver g a0 a1 a2 a3 u0_0 u0_1 u0_3 x0_rivers_1 y1_riverOf_2 y2_riverPlace_2 y3_p)) hS => ?_)
    cases hf
    exact ke_v hQ hexec hb hr hP hD hS dX1_layRiver_66 hlocks
  obtain ⟨n, hz⟩ := lq3_e hz
  have hL2 : ∀ (n : Nat) (v3 : Int32) (y1_riverOf_1 : Nat → Int32) (y2_riverPlace_1 : Nat → Int32) (H : Heap) (locs : List Loc) (ls : Array Slot), it3 l2 n v3 y1_riverOf_1 y2_riverPlace_1 = some (y1_riverOf_2, y2_riverPlace_2) → va_P g.1 vwCl (w_X1_layRiver g a0 a1 a2 a3 u0_0 u0_1 u0_3 x0_rivers y1_riverOf_1 y2_riverPlace_1 y3_p) H → va_D A (w_X1_layRiver g a0 a1 a2 a3 u0_0 u0_1 u0_3 x0_rivers y1_riverOf_1 y2_riverPlace_1 y3_p) → va_S A s.heap H locs → lv_has ls 5 [(0, .ref a0), (1, .ref a3), (2, .int p2), (3, .int v3)] → W p l e (RM 1 24) s m args below meth c H locs 0 0 Q (F0 m 2 ls []) := by
    intro n
    induction n with
    | zero =>
      intro v3 y1_riverOf_1 y2_riverPlace_1 H locs ls hf hP hD hS hl
      exact it3_0 hf
    | succ n2 ih2 =>
      intro v3 y1_riverOf_1 y2_riverPlace_1 H locs ls hf hP hD hS hl
      obtain ⟨q2, hf, hk2⟩ := it3_e hf
      have hf := (el2 v3 y1_riverOf_1 y2_riverPlace_1).symm.trans hf
      refine lv_iload_n (pc := 2) hexec hb dX1_layRiver_2 rfl (lv_at hl 3 rfl) ?_
      refine lv_iload_n (pc := 3) hexec hb dX1_layRiver_3 rfl (lv_at hl 2 rfl) ?_
      refine ki_ge (pc := 4) hexec hb dX1_layRiver_4 (tgt := 56) rfl hf (fun hc hf => ?_) (fun hc hf => ?_)
      · cases sr3 hf hk2
        exact hE2 _ _ _ hP hD hS (lv_sub hl [0] rfl)
      · refine lv_iload_n (pc := 7) hexec hb dX1_layRiver_7 rfl (lv_at hl 3 rfl) ?_
        refine lv_aload_n (pc := 8) hexec hb dX1_layRiver_8 rfl (lv_at hl 1 rfl) ?_
        refine kr_alen (pc := 9) hexec hb hG hP 3 0 rfl rfl (v := 144) rfl dX1_layRiver_9 ?_
        refine ki_ge (pc := 10) hexec hb dX1_layRiver_10 (tgt := 56) rfl hf (fun hc hf => ?_) (fun hc hf => ?_)
        · cases sr3 hf hk2
          exact hE2 _ _ _ hP hD hS (lv_sub hl [0] rfl)
        · refine lv_aload_n (pc := 13) hexec hb dX1_layRiver_13 rfl (lv_at hl 1 rfl) ?_
          refine lv_iload_n (pc := 14) hexec hb dX1_layRiver_14 rfl (lv_at hl 3 rfl) ?_
          refine kr_iald (pc := 15) hexec hb hG hP 3 rfl hf dX1_layRiver_15 (fun hf => ?_)
          obtain ⟨v4, ev4, hf⟩ := bv_e hf
          refine kn_i ev4 ?_
          refine lv_istore (pc := 16) hexec hb dX1_layRiver_16 hl (nle rfl) rfl (fun ls (hl : lv_has ls 5 [(4, .int v4), (0, .ref a0), (1, .ref a3), (2, .int p2), (3, .int v3)]) => ?_)
          refine lv_iload (pc := 18) hexec hb dX1_layRiver_18 (lv_at hl 0 rfl) ?_
          obtain ⟨j50, ej50, hf⟩ := bvf2 hf
          have hj50 : ∀ (y1_riverOf_3 : Nat → Int32) (y2_riverPlace_3 : Nat → Int32) (H : Heap) (locs : List Loc) (ls : Array Slot), j50 y1_riverOf_3 y2_riverPlace_3 = some q2 → va_P g.1 vwCl (w_X1_layRiver g a0 a1 a2 a3 u0_0 u0_1 u0_3 x0_rivers y1_riverOf_3 y2_riverPlace_3 y3_p) H → va_D A (w_X1_layRiver g a0 a1 a2 a3 u0_0 u0_1 u0_3 x0_rivers y1_riverOf_3 y2_riverPlace_3 y3_p) → va_S A s.heap H locs → lv_has ls 5 [(0, .ref a0), (1, .ref a3), (2, .int p2), (3, .int v3)] → W p l e (RM 1 24) s m args below meth c H locs 0 0 Q (F0 m 50 ls []) := by
            intro y1_riverOf_3 y2_riverPlace_3 H locs ls hf hP hD hS hl
            have hf := (ej50 y1_riverOf_3 y2_riverPlace_3).symm.trans hf
            obtain ⟨v3_1, ev3_1, hf⟩ := bv_e hf
            refine k_iinc (pc := 50) hexec hb dX1_layRiver_50 kq_1 hl (k := 3) rfl ev3_1 (nle rfl) rfl (fun ls (hl : lv_has ls 5 [(3, .int v3_1), (0, .ref a0), (1, .ref a3), (2, .int p2)]) => ?_)
            refine lv_goto (pc := 53) hexec hb dX1_layRiver_53 (tgt := 2) rfl ?_
            exact ih2 _ _ _ _ _ _ (sl3 hf hk2) hP hD hS (lv_sub hl [1, 2, 3, 0] rfl)
          refine kb_lt (pc := 20) hexec hb dX1_layRiver_20 (tgt := 50) rfl hf (fun hc hf => ?_) (fun hc hf => ?_)
          · exact hj50 _ _ _ _ _ hf hP hD hS (lv_sub hl [1, 2, 3, 4] rfl)
          · refine lv_iload (pc := 23) hexec hb dX1_layRiver_23 (lv_at hl 0 rfl) ?_
            refine lv_sipush (pc := 25) hexec hb dX1_layRiver_25 ks_144 ?_
            refine ki_ge (pc := 28) hexec hb dX1_layRiver_28 (tgt := 50) rfl hf (fun hc hf => ?_) (fun hc hf => ?_)
            · exact hj50 _ _ _ _ _ hf hP hD hS (lv_sub hl [1, 2, 3, 4] rfl)
            · refine lv_aload_n (pc := 31) hexec hb dX1_layRiver_31 rfl (lv_at hl 1 rfl) ?_
              refine kg_get (pc := 32) hexec hb (own := RX1) hWX1 hown hG hP 0 rfl rfl 4 (nle rfl) (hts _ (List.mem_cons_of_mem _ (List.mem_append_left _ (List.mem_of_getElem? (i := 0) rfl)))) rfl rfl dX1_layRiver_32 ?_
              refine lv_iload (pc := 35) hexec hb dX1_layRiver_35 (lv_at hl 0 rfl) ?_
              refine lv_aload_n (pc := 37) hexec hb dX1_layRiver_37 rfl (lv_at hl 1 rfl) ?_
              refine kg_get (pc := 38) hexec hb (own := RX1) hWX1 hown hG hP 0 rfl rfl 2 (nle rfl) (hts _ (List.mem_cons_of_mem _ (List.mem_append_left _ (List.mem_of_getElem? (i := 1) rfl)))) rfl rfl dX1_layRiver_38 ?_
              refine kw_iast (pc := 41) hexec hb hG hP hD hS 1 rfl hf dX1_layRiver_41 (fun y1_riverOf_4 H locs hf (hP : va_P g.1 vwCl (w_X1_layRiver g a0 a1 a2 a3 u0_0 u0_1 u0_3 x0_rivers y1_riverOf_4 y2_riverPlace_1 y3_p) H) (hD : va_D A (w_X1_layRiver g a0 a1 a2 a3 u0_0 u0_1 u0_3 x0_rivers y1_riverOf_4 y2_riverPlace_1 y3_p)) hS => ?_)
              refine lv_aload_n (pc := 42) hexec hb dX1_layRiver_42 rfl (lv_at hl 1 rfl) ?_
              refine kg_get (pc := 43) hexec hb (own := RX1) hWX1 hown hG hP 0 rfl rfl 5 (nle rfl) (hts _ (List.mem_cons_of_mem _ (List.mem_append_left _ (List.mem_of_getElem? (i := 2) rfl)))) rfl rfl dX1_layRiver_43 ?_
              refine lv_iload (pc := 46) hexec hb dX1_layRiver_46 (lv_at hl 0 rfl) ?_
              refine lv_iload_n (pc := 48) hexec hb dX1_layRiver_48 rfl (lv_at hl 4 rfl) ?_
              refine kw_iast (pc := 49) hexec hb hG hP hD hS 2 rfl hf dX1_layRiver_49 (fun y2_riverPlace_4 H locs hf (hP : va_P g.1 vwCl (w_X1_layRiver g a0 a1 a2 a3 u0_0 u0_1 u0_3 x0_rivers y1_riverOf_4 y2_riverPlace_4 y3_p) H) (hD : va_D A (w_X1_layRiver g a0 a1 a2 a3 u0_0 u0_1 u0_3 x0_rivers y1_riverOf_4 y2_riverPlace_4 y3_p)) hS => ?_)
              exact hj50 _ _ _ _ _ hf hP hD hS (lv_sub hl [1, 2, 3, 4] rfl)
  exact hL2 n _ _ _ _ _ _ hz hP hD hS (lv_sub hl [1, 2, 3, 0] rfl)
abbrev w_X1_dryRiver (g : GE) (a0 a1 a2 : Nat) (u0_0 u0_1 u0_3 : Value) (x0_rivers : Int32) (y1_riverOf : Nat → Int32) (y2_riverPlace : Nat → Int32) : va_W := [(a0, .inr (1, [u0_0, u0_1, .int x0_rivers, u0_3, .ref a1, .ref a2])), (a1, .inl (g.2.1 0, 144, .inl y1_riverOf)), (a2, .inl (g.2.1 0, 144, .inl y2_riverPlace))]
set_option maxRecDepth 20000 in
theorem c_X1_dryRiver (l : Launch) (g : GE) (a0 a1 a2 : Nat) (sz : Nat) (u0_0 u0_1 u0_3 : Value) (x0_rivers : Int32) (y1_riverOf : Nat → Int32) (y2_riverPlace : Nat → Int32) (p1 : Int32)  (r : Int32) (o_x0_rivers : Int32) (o_y1_riverOf : Nat → Int32) (o_y2_riverPlace : Nat → Int32) (hf : f_X1_dryRiver x0_rivers y1_riverOf y2_riverPlace p1 = some (r, o_x0_rivers, o_y1_riverOf, o_y2_riverPlace)) : MI l g yX1_dryRiver wsX1_dryRiver 1 24 [.ref a0, .int p1] (w_X1_dryRiver g a0 a1 a2 u0_0 u0_1 u0_3 x0_rivers y1_riverOf y2_riverPlace) sz (some (.int r)) (w_X1_dryRiver g a0 a1 a2 u0_0 u0_1 u0_3 o_x0_rivers o_y1_riverOf o_y2_riverPlace) := by
  refine MI.start (cc := cX1_dryRiver) (maxL := 4) (ret := (some .int)) rfl rfl (nle rfl) ?_
  intro p e s m args below meth c A ls Q hQ hexec hb hr hts hown hlocks hml hA hP hD hG hS hl
  unfold f_X1_dryRiver at hf
  have hWX1 : ∀ w ∈ wsX10, w.before args s = true := fun w h => hts w (List.mem_cons_of_mem _ (List.mem_append_right _ h))
  have hS : va_S A s.heap s.heap [] := hS
  refine lv_iconst (pc := 0) hexec hb dX1_dryRiver_0 ki_0 ?_
  refine lv_istore_n (pc := 1) hexec hb dX1_dryRiver_1 rfl hl (nle rfl) rfl (fun ls (hl : lv_has ls 4 [(2, .int 0), (0, .ref a0), (1, .int p1)]) => ?_)
  refine lv_iconst (pc := 2) hexec hb dX1_dryRiver_2 ki_0 ?_
  refine lv_istore_n (pc := 3) hexec hb dX1_dryRiver_3 rfl hl (nle rfl) rfl (fun ls (hl : lv_has ls 4 [(3, .int 0), (2, .int 0), (0, .ref a0), (1, .int p1)]) => ?_)
  obtain ⟨l4, el4, hf⟩ := bvf4 hf
  obtain ⟨v2_1, y1_riverOf_2, y2_riverPlace_2, hz, hf⟩ := bd3_e hf
  have hE4 : ∀ (H : Heap) (locs : List Loc) (ls : Array Slot), va_P g.1 vwCl (w_X1_dryRiver g a0 a1 a2 u0_0 u0_1 u0_3 x0_rivers y1_riverOf_2 y2_riverPlace_2) H → va_D A (w_X1_dryRiver g a0 a1 a2 u0_0 u0_1 u0_3 x0_rivers y1_riverOf_2 y2_riverPlace_2) → va_S A s.heap H locs → lv_has ls 4 [(0, .ref a0), (2, .int v2_1)] → W p l e (RM 1 24) s m args below meth c H locs 0 0 Q (F0 m 67 ls []) := by
    intro H locs ls hP hD hS hl
    refine lv_aload_n (pc := 67) hexec hb dX1_dryRiver_67 rfl (lv_at hl 0 rfl) ?_
    refine lv_dup (pc := 68) hexec hb dX1_dryRiver_68 rfl ?_
    refine kg_get (pc := 69) hexec hb (own := RX1) hWX1 hown hG hP 0 rfl rfl 2 (nle rfl) (hts _ (List.mem_cons_of_mem _ (List.mem_append_left _ (List.mem_of_getElem? (i := 2) rfl)))) rfl rfl dX1_dryRiver_69 ?_
    refine lv_iconst (pc := 72) hexec hb dX1_dryRiver_72 ki_1 ?_
    refine lv_isub (pc := 73) hexec hb dX1_dryRiver_73 ?_
    obtain ⟨x0_rivers_1, ex0_rivers_1, hf⟩ := bv_e hf
    refine kn_i ex0_rivers_1 ?_
    refine kp_put (pc := 74) hexec hb (own := RX1) hWX1 tyX1 tyX1_ok nmX1 hown hG hP hD hS 0 rfl rfl 2 (nle rfl) (hts _ (List.mem_cons_of_mem _ (List.mem_append_left _ (List.mem_of_getElem? (i := 2) rfl)))) rfl rfl rfl rfl (nle rfl) dX1_dryRiver_74 (fun H locs (hP : va_P g.1 vwCl (w_X1_dryRiver g a0 a1 a2 u0_0 u0_1 u0_3 x0_rivers_1 y1_riverOf_2 y2_riverPlace_2) H) (hD : va_D A (w_X1_dryRiver g a0 a1 a2 u0_0 u0_1 u0_3 x0_rivers_1 y1_riverOf_2 y2_riverPlace_2)) hS => ?_)
    refine lv_iload_n (pc := 77) hexec hb dX1_dryRiver_77 rfl (lv_at hl 1 rfl) ?_
    cases hf
    exact ke_i hQ hexec hb hr hP hD hS dX1_dryRiver_78 hlocks
  obtain ⟨n, hz⟩ := lq4_e hz
  have hL4 : ∀ (n : Nat) (v2 : Int32) (v3 : Int32) (y1_riverOf_1 : Nat → Int32) (y2_riverPlace_1 : Nat → Int32) (H : Heap) (locs : List Loc) (ls : Array Slot), it4 l4 n v2 v3 y1_riverOf_1 y2_riverPlace_1 = some (v2_1, y1_riverOf_2, y2_riverPlace_2) → va_P g.1 vwCl (w_X1_dryRiver g a0 a1 a2 u0_0 u0_1 u0_3 x0_rivers y1_riverOf_1 y2_riverPlace_1) H → va_D A (w_X1_dryRiver g a0 a1 a2 u0_0 u0_1 u0_3 x0_rivers y1_riverOf_1 y2_riverPlace_1) → va_S A s.heap H locs → lv_has ls 4 [(0, .ref a0), (1, .int p1), (2, .int v2), (3, .int v3)] → W p l e (RM 1 24) s m args below meth c H locs 0 0 Q (F0 m 4 ls []) := by
    intro n
    induction n with
    | zero =>
      intro v2 v3 y1_riverOf_1 y2_riverPlace_1 H locs ls hf hP hD hS hl
      exact it4_0 hf
    | succ n4 ih4 =>
      intro v2 v3 y1_riverOf_1 y2_riverPlace_1 H locs ls hf hP hD hS hl
      obtain ⟨q4, hf, hk4⟩ := it4_e hf
      have hf := (el4 v2 v3 y1_riverOf_1 y2_riverPlace_1).symm.trans hf
      refine lv_iload_n (pc := 4) hexec hb dX1_dryRiver_4 rfl (lv_at hl 3 rfl) ?_
      refine lv_sipush (pc := 5) hexec hb dX1_dryRiver_5 ks_144 ?_
      refine ki_ge (pc := 8) hexec hb dX1_dryRiver_8 (tgt := 67) rfl hf (fun hc hf => ?_) (fun hc hf => ?_)
      · cases sr4 hf hk4
        exact hE4 _ _ _ hP hD hS (lv_sub hl [0, 2] rfl)
      · refine lv_aload_n (pc := 11) hexec hb dX1_dryRiver_11 rfl (lv_at hl 0 rfl) ?_
        refine kg_get (pc := 12) hexec hb (own := RX1) hWX1 hown hG hP 0 rfl rfl 4 (nle rfl) (hts _ (List.mem_cons_of_mem _ (List.mem_append_left _ (List.mem_of_getElem? (i := 0) rfl)))) rfl rfl dX1_dryRiver_12 ?_
        refine lv_iload_n (pc := 15) hexec hb dX1_dryRiver_15 rfl (lv_at hl 3 rfl) ?_
        refine kr_iald (pc := 16) hexec hb hG hP 1 rfl hf dX1_dryRiver_16 (fun hf => ?_)
        refine lv_iload_n (pc := 17) hexec hb dX1_dryRiver_17 rfl (lv_at hl 1 rfl) ?_
        obtain ⟨j61, ej61, hf⟩ := bvf3 hf
        have hj61 : ∀ (v2_2 : Int32) (y1_riverOf_3 : Nat → Int32) (y2_riverPlace_3 : Nat → Int32) (H : Heap) (locs : List Loc) (ls : Array Slot), j61 v2_2 y1_riverOf_3 y2_riverPlace_3 = some q4 → va_P g.1 vwCl (w_X1_dryRiver g a0 a1 a2 u0_0 u0_1 u0_3 x0_rivers y1_riverOf_3 y2_riverPlace_3) H → va_D A (w_X1_dryRiver g a0 a1 a2 u0_0 u0_1 u0_3 x0_rivers y1_riverOf_3 y2_riverPlace_3) → va_S A s.heap H locs → lv_has ls 4 [(0, .ref a0), (1, .int p1), (2, .int v2_2), (3, .int v3)] → W p l e (RM 1 24) s m args below meth c H locs 0 0 Q (F0 m 61 ls []) := by
          intro v2_2 y1_riverOf_3 y2_riverPlace_3 H locs ls hf hP hD hS hl
          have hf := (ej61 v2_2 y1_riverOf_3 y2_riverPlace_3).symm.trans hf
          obtain ⟨v3_1, ev3_1, hf⟩ := bv_e hf
          refine k_iinc (pc := 61) hexec hb dX1_dryRiver_61 kq_1 hl (k := 3) rfl ev3_1 (nle rfl) rfl (fun ls (hl : lv_has ls 4 [(3, .int v3_1), (0, .ref a0), (1, .int p1), (2, .int v2_2)]) => ?_)
          refine lv_goto (pc := 64) hexec hb dX1_dryRiver_64 (tgt := 4) rfl ?_
          exact ih4 _ _ _ _ _ _ _ (sl4 hf hk4) hP hD hS (lv_sub hl [1, 2, 3, 0] rfl)
        refine ki_ne (pc := 18) hexec hb dX1_dryRiver_18 (tgt := 41) rfl hf (fun hc hf => ?_) (fun hc hf => ?_)
        · refine lv_aload_n (pc := 41) hexec hb dX1_dryRiver_41 rfl (lv_at hl 0 rfl) ?_
          refine kg_get (pc := 42) hexec hb (own := RX1) hWX1 hown hG hP 0 rfl rfl 4 (nle rfl) (hts _ (List.mem_cons_of_mem _ (List.mem_append_left _ (List.mem_of_getElem? (i := 0) rfl)))) rfl rfl dX1_dryRiver_42 ?_
          refine lv_iload_n (pc := 45) hexec hb dX1_dryRiver_45 rfl (lv_at hl 3 rfl) ?_
          refine kr_iald (pc := 46) hexec hb hG hP 1 rfl hf dX1_dryRiver_46 (fun hf => ?_)
          refine lv_iload_n (pc := 47) hexec hb dX1_dryRiver_47 rfl (lv_at hl 1 rfl) ?_
          refine ki_le (pc := 48) hexec hb dX1_dryRiver_48 (tgt := 61) rfl hf (fun hc hf => ?_) (fun hc hf => ?_)
          · exact hj61 _ _ _ _ _ _ hf hP hD hS (lv_sub hl [0, 1, 2, 3] rfl)
          · refine lv_aload_n (pc := 51) hexec hb dX1_dryRiver_51 rfl (lv_at hl 0 rfl) ?_
            refine kg_get (pc := 52) hexec hb (own := RX1) hWX1 hown hG hP 0 rfl rfl 4 (nle rfl) (hts _ (List.mem_cons_of_mem _ (List.mem_append_left _ (List.mem_of_getElem? (i := 0) rfl)))) rfl rfl dX1_dryRiver_52 ?_
            refine lv_iload_n (pc := 55) hexec hb dX1_dryRiver_55 rfl (lv_at hl 3 rfl) ?_
            refine lv_dup2_11 (pc := 56) hexec hb dX1_dryRiver_56 rfl rfl ?_
            refine kr_iald (pc := 57) hexec hb hG hP 1 rfl hf dX1_dryRiver_57 (fun hf => ?_)
            refine lv_iconst (pc := 58) hexec hb dX1_dryRiver_58 ki_1 ?_
            refine lv_isub (pc := 59) hexec hb dX1_dryRiver_59 ?_
            refine kw_iast (pc := 60) hexec hb hG hP hD hS 1 rfl hf dX1_dryRiver_60 (fun y1_riverOf_4 H locs hf (hP : va_P g.1 vwCl (w_X1_dryRiver g a0 a1 a2 u0_0 u0_1 u0_3 x0_rivers y1_riverOf_4 y2_riverPlace_1) H) (hD : va_D A (w_X1_dryRiver g a0 a1 a2 u0_0 u0_1 u0_3 x0_rivers y1_riverOf_4 y2_riverPlace_1)) hS => ?_)
            exact hj61 _ _ _ _ _ _ hf hP hD hS (lv_sub hl [0, 1, 2, 3] rfl)
        · refine lv_aload_n (pc := 21) hexec hb dX1_dryRiver_21 rfl (lv_at hl 0 rfl) ?_
          refine kg_get (pc := 22) hexec hb (own := RX1) hWX1 hown hG hP 0 rfl rfl 4 (nle rfl) (hts _ (List.mem_cons_of_mem _ (List.mem_append_left _ (List.mem_of_getElem? (i := 0) rfl)))) rfl rfl dX1_dryRiver_22 ?_
          refine lv_iload_n (pc := 25) hexec hb dX1_dryRiver_25 rfl (lv_at hl 3 rfl) ?_
          refine lv_iconst (pc := 26) hexec hb dX1_dryRiver_26 ki_m1 ?_
          refine kw_iast (pc := 27) hexec hb hG hP hD hS 1 rfl hf dX1_dryRiver_27 (fun y1_riverOf_5 H locs hf (hP : va_P g.1 vwCl (w_X1_dryRiver g a0 a1 a2 u0_0 u0_1 u0_3 x0_rivers y1_riverOf_5 y2_riverPlace_1) H) (hD : va_D A (w_X1_dryRiver g a0 a1 a2 u0_0 u0_1 u0_3 x0_rivers y1_riverOf_5 y2_riverPlace_1)) hS => ?_)
          refine lv_aload_n (pc := 28) hexec hb dX1_dryRiver_28 rfl (lv_at hl 0 rfl) ?_
          refine kg_get (pc := 29) hexec hb (own := RX1) hWX1 hown hG hP 0 rfl rfl 5 (nle rfl) (hts _ (List.mem_cons_of_mem _ (List.mem_append_left _ (List.mem_of_getElem? (i := 1) rfl)))) rfl rfl dX1_dryRiver_29 ?_
          refine lv_iload_n (pc := 32) hexec hb dX1_dryRiver_32 rfl (lv_at hl 3 rfl) ?_
          refine lv_iconst (pc := 33) hexec hb dX1_dryRiver_33 ki_m1 ?_
          refine kw_iast (pc := 34) hexec hb hG hP hD hS 2 rfl hf dX1_dryRiver_34 (fun y2_riverPlace_4 H locs hf (hP : va_P g.1 vwCl (w_X1_dryRiver g a0 a1 a2 u0_0 u0_1 u0_3 x0_rivers y1_riverOf_5 y2_riverPlace_4) H) (hD : va_D A (w_X1_dryRiver g a0 a1 a2 u0_0 u0_1 u0_3 x0_rivers y1_riverOf_5 y2_riverPlace_4)) hS => ?_)
          obtain ⟨v2_3, ev2_3, hf⟩ := bv_e hf
          refine k_iinc (pc := 35) hexec hb dX1_dryRiver_35 kq_1 hl (k := 2) rfl ev2_3 (nle rfl) rfl (fun ls (hl : lv_has ls 4 [(2, .int v2_3), (0, .ref a0), (1, .int p1), (3, .int v3)]) => ?_)
          refine lv_goto (pc := 38) hexec hb dX1_dryRiver_38 (tgt := 61) rfl ?_
          exact hj61 _ _ _ _ _ _ hf hP hD hS (lv_sub hl [1, 2, 0, 3] rfl)
  exact hL4 n _ _ _ _ _ _ _ hz hP hD hS (lv_sub hl [2, 3, 1, 0] rfl)
